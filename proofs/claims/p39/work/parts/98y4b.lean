/-! ===== printed by riv.py: the RIVER of the class ===== -/
noncomputable def wl_s_readPort : List (Nat × Nat) := [(3, 0), (4, 9999), (5, 9999), (114, 0), (115, 4), (118, 2), (118, 3), (118, 4), (118, 5), (118, 6), (118, 7), (118, 8), (118, 9), (118, 10), (118, 11), (131, 9999)]
noncomputable def Q_s_readPort (gi : Nat → Nat → Int32) (gl : Nat → Nat → Int64) (gr : Nat → Nat → Value) (ar0 : Nat) : Int32 → (Nat → Nat → Int32) → (Nat → Nat → Int64) → (Nat → Nat → Value) → Prop := fun (v : Int32) (gi2 : Nat → Nat → Int32) (gl2 : Nat → Nat → Int64) (gr2 : Nat → Nat → Value) => (∀ (b : Nat → Int32) (n q : Nat) (D : s_D), t_CN b n q D gi gl gr ar0 → (v.toInt = 1 ∧ ∃ q2 D2, s_port b n q D = s_ok q2 D2 ∧ t_CN b n q2 D2 gi2 gl2 gr2 ar0) ∨ (v.toInt = 0 ∧ ∃ p x D2, x ≠ 0 ∧ s_port b n q D = s_bad b n p x D2 ∧ t_FL gi2 (ar0 + 1) (s_fk b n p x) (s_F b n p))) ∧ t_lq ar0 gi gl gr gi2 gl2 gr2
theorem c_s_readPort {X : x_Ext} {d : Nat} {sh : List (Nat ⊕ (Nat × Nat))} {gi : Nat → Nat → Int32} {gl : Nat → Nat → Int64} {gr : Nat → Nat → Value} (hI : t_I sh gi gr) (ar0 : Nat) (p_a0 : t_RQ sh gr ar0) : x_Me X (d + 4) n_X6_readPort [.ref ar0] (sh, gi, gl, gr) (t_PI wl_s_readPort sh gi gl gr 0 1 (Q_s_readPort gi gl gr ar0)) := by
  have hX : t_X wl_s_readPort sh gi gl gr gi gl gr := t_X.rf
  refine me_i f_X6_readPort p_a0.1 rfl rfl rfl ?_
  refine ev_loc f_X6_readPort (nx := 1) rfl rfl rfl rfl ?_
  have e1 := p_a0.2.2.2.2.2.1
  have p1 := p_a0.2.2.2.2.2.2
  refine ev_getR f_X6_readPort (nx := 4) rfl p_a0.1 rfl rfl e1 rfl rfl ?_
  refine ev_getI f_X6_readPort (nx := 7) rfl p1.1 rfl rfl rfl ?_
  obtain ⟨l2, u2⟩ := hI.b p1.1 (t_bdK rfl : t_bd 4 0 = some (0, 6))
  refine ev_loc f_X6_readPort (nx := 8) (lo' := [(1, .int (gi (ar0 + 2) 0)), (0, .ref ar0)]) rfl rfl rfl rfl ?_
  refine ev_loc f_X6_readPort (nx := 9) rfl rfl rfl rfl ?_
  refine ev_bp f_X6_readPort (nx := 11) (v := 6) rfl (by decide) rfl ?_
  refine ev_if f_X6_readPort (t1 := 24) (t2 := 14) rfl rfl rfl (fun h3 => ?_) (fun h3 => ?_)
  · have u4 : (gi (ar0 + 2) 0).toInt ≤ 5 := t_ltu h3 (by decide : (6:Int32).toInt ≤ (6:Int)) rfl
    refine ev_loc f_X6_readPort (nx := 25) rfl rfl rfl rfl ?_
    have e5 := p_a0.2.2.2.2.1.1
    have p5 := p_a0.2.2.2.2.1.2
    refine ev_getR f_X6_readPort (nx := 28) rfl p_a0.1 rfl rfl e5 rfl rfl ?_
    refine ev_qN f_X6_readPort (nx := 31) (r := []) rfl rfl rfl rfl rfl rfl rfl (c_s_step hI ((ar0 + 1)) p5) rfl hX rfl (fun gi6 gl6 gr6 hI hX hC6 q6 => ?_)
    have q6 : (∀ (b : Nat → Int32) (n q : Nat), t_Sp b n q gi (ar0 + 1) → t_TC b n q gi6 gl6 gr6 (ar0 + 1)) ∧ t_nf gi gi6 (ar0 + 1) ∧ t_on (ar0 + 1) gi gl gr gi6 gl6 gr6 := q6
    replace p_a0 := p_a0.ext hC6.2
    replace p1 := p1.ext hC6.2
    replace p5 := p5.ext hC6.2
    refine ev_loc f_X6_readPort (nx := 32) rfl rfl rfl rfl ?_
    have e7 := p_a0.2.2.1.1
    have p7 := p_a0.2.2.1.2
    refine ev_getR f_X6_readPort (nx := 35) rfl p_a0.1 rfl rfl e7 rfl rfl ?_
    refine ev_loc f_X6_readPort (nx := 36) rfl rfl rfl rfl ?_
    refine ev_loc f_X6_readPort (nx := 37) rfl rfl rfl rfl ?_
    refine ev_getR f_X6_readPort (nx := 40) (v := .ref (ar0 + 1)) rfl p_a0.1 rfl rfl ((hC6.1 ar0 0 (t_ninO hI.wf p_a0.1 (t_outO hI.wf p_a0.1 rfl) rfl)).2.2.trans e5) rfl rfl ?_
    refine ev_getL f_X6_readPort (nx := 43) rfl p5.1 rfl rfl rfl ?_
    refine ev_lastT f_X6_readPort (nx := 44) rfl p7 l2 (by decide) u4 (by decide) rfl (hX.upL (t_inOA hI.wf p7 (Or.inr (by have := p_a0.2.1; omega)) rfl)) (fun g8 e8 hX => ?_)
    refine ev_loc f_X6_readPort (nx := 45) rfl rfl rfl rfl ?_
    refine ev_qI f_X6_readPort (nx := 48) (r := []) rfl rfl rfl rfl rfl rfl rfl (c_s_takeNewName hI (ar0) p_a0) rfl hX rfl (fun w9 gi9 gl9 gr9 l9 u9 hI hX hC9 q9 => ?_)
    have q9 : (∀ (b : Nat → Int32) (n q : Nat) (D : s_D) (m : Int) (P : Int → Prop), t_CS b n q D m P gi6 g8 gr6 ar0 → m < 18 → (w9.toInt = 1 ∧ s_isN b n q ∧ ¬ P (s_L b n q).toInt ∧ t_CS b n (s_E b n q) D (m + 1) (fun x => P x ∨ x = (s_L b n q).toInt) gi9 gl9 gr9 ar0) ∨ (w9.toInt = 0 ∧ ¬ s_isN b n q ∧ t_FL gi9 (ar0 + 1) (s_fk b n q 2) (s_F b n q)) ∨ (w9.toInt = 0 ∧ s_isN b n q ∧ P (s_L b n q).toInt ∧ t_FL gi9 (ar0 + 1) (s_fk b n q 3) (s_F b n q))) ∧ t_xc [ar0, ar0 + 1, ar0 + 19] gi6 g8 gr6 gi9 gl9 gr9 := q9
    replace p_a0 := p_a0.ext hC9.2
    replace p1 := p1.ext hC9.2
    replace p5 := p5.ext hC9.2
    refine ev_if f_X6_readPort (t1 := 64) (t2 := 51) rfl rfl rfl (fun h10 => ?_) (fun h10 => ?_)
    · have u11 : w9.toInt ≤ 0 := t_equ h10 (by decide : (0:Int32).toInt ≤ (0:Int))
      refine ev_ic f_X6_readPort (nx := 65) (v := 0) rfl (by decide) rfl ?_
      exact ev_ret f_X6_readPort rfl rfl rfl ⟨_, _, _, rfl, hI, hX, ⟨_, rfl, (by decide : (0:Int) ≤ (0:Int32).toInt), (Int.le_trans (by decide : (0:Int32).toInt ≤ (0:Int)) (by decide : (0:Int) ≤ 1)), (show (∀ (b : Nat → Int32) (n q : Nat) (D : s_D), t_CN b n q D gi gl gr ar0 → ((0 : Int) = 1 ∧ ∃ q2 D2, s_port b n q D = s_ok q2 D2 ∧ t_CN b n q2 D2 gi9 gl9 gr9 ar0) ∨ ((0 : Int) = 0 ∧ ∃ p x D2, x ≠ 0 ∧ s_port b n q D = s_bad b n p x D2 ∧ t_FL gi9 (ar0 + 1) (s_fk b n p x) (s_F b n p))) ∧ t_lq ar0 gi gl gr gi9 gl9 gr9 from ⟨(by
                                                            intro b n q D h
                                                            have h102 := p_a0.2.1
                                                            have h : t_CS b n q D (D 0 + D 1 + D 2) (s_used D) gi gl gr ar0 := h
                                                            obtain ⟨⟨hb1, hb2⟩, ⟨hb3, hb4⟩, hb5, hb6⟩ := h.2.1.1
                                                            have hp : (gi (ar0 + 2) 0).toInt = D 0 := h.2.1.2.2.1.1
                                                            have h1 := h.on (q6.1 b n _ h.1.S) q6.2.1 q6.2.2
                                                            have h2 := h1.mk (S := [ar0 + 18]) (t_xc.L t_xc.rf (by simp) e8) (by intro x hx; simp only [List.mem_cons, List.not_mem_nil, or_false] at hx; omega) (h1.2.1.pn (p := (gi (ar0 + 2) 0)) hp e8)
                                                            rcases q9.1 b n _ D _ _ h2 (by omega) with hh | hh | hh
                                                            · exact absurd hh.1 (by omega)
                                                            · exact Or.inr ⟨rfl, _, 2, D, by decide, by simp only [s_port, s_name, s_kw, s_ifF (show ¬ D 0 = 6 by omega), s_ifF hh.2.1], hh.2.2⟩
                                                            · exact Or.inr ⟨rfl, _, 3, D, by decide, by simp only [s_port, s_name, s_kw, s_ifF (show ¬ D 0 = 6 by omega), s_ifT hh.2.1, s_ifT hh.2.2.1], hh.2.2.2⟩), (t_lq.ex (t_lq.L (t_lq.on t_lq.rf q6.2.2 (by omega)) (by omega) e8) q9.2 (by intro x hx; simp only [List.mem_cons, List.not_mem_nil, or_false] at hx; omega))⟩)⟩⟩
    · have r12 : w9.toInt ≠ 0 := fun e => h10 (Int32.toInt_inj.mp (e.trans (by decide : (0:Int) = (0 : Int32).toInt)))
      have l13 : 1 ≤ w9.toInt := t_nel h10 l9 rfl rfl
      refine ev_loc f_X6_readPort (nx := 52) rfl rfl rfl rfl ?_
      refine ev_getR f_X6_readPort (nx := 55) (v := .ref (ar0 + 1)) rfl p_a0.1 rfl rfl ((hC9.1 ar0 0 (t_ninO hI.wf p_a0.1 (t_outO hI.wf p_a0.1 rfl) rfl)).2.2.trans ((hC6.1 ar0 0 (t_ninO hI.wf p_a0.1 (t_outO hI.wf p_a0.1 rfl) rfl)).2.2.trans e5)) rfl rfl ?_
      refine ev_heap f_X6_readPort (nx := 58) rfl rfl rfl rfl ?_
      refine ev_qI f_X6_readPort (nx := 61) (r := []) rfl rfl rfl rfl rfl rfl rfl (c_s_takeCalls hI ((ar0 + 1)) p5) rfl hX rfl (fun w14 gi14 gl14 gr14 l14 u14 hI hX hC14 q14 => ?_)
      have q14 : (∀ (b : Nat → Int32) (n q : Nat), t_TC b n q gi9 gl9 gr9 (ar0 + 1) → (w14.toInt = 1 ∧ s_W b n q = some 1 ∧ t_TC b n (s_E b n q) gi14 gl14 gr14 (ar0 + 1) ∧ t_nf gi9 gi14 (ar0 + 1)) ∨ (w14.toInt = 0 ∧ s_W b n q ≠ some 1 ∧ t_FL gi14 (ar0 + 1) (s_fk b n q 2) (s_F b n q))) ∧ t_on (ar0 + 1) gi9 gl9 gr9 gi14 gl14 gr14 := q14
      replace p_a0 := p_a0.ext hC14.2
      replace p1 := p1.ext hC14.2
      replace p5 := p5.ext hC14.2
      refine ev_if f_X6_readPort (t1 := 64) (t2 := 66) rfl rfl rfl (fun h15 => ?_) (fun h15 => ?_)
      · have u16 : w14.toInt ≤ 0 := t_equ h15 (by decide : (0:Int32).toInt ≤ (0:Int))
        refine ev_ic f_X6_readPort (nx := 65) (v := 0) rfl (by decide) rfl ?_
        exact ev_ret f_X6_readPort rfl rfl rfl ⟨_, _, _, rfl, hI, hX, ⟨_, rfl, (by decide : (0:Int) ≤ (0:Int32).toInt), (Int.le_trans (by decide : (0:Int32).toInt ≤ (0:Int)) (by decide : (0:Int) ≤ 1)), (show (∀ (b : Nat → Int32) (n q : Nat) (D : s_D), t_CN b n q D gi gl gr ar0 → ((0 : Int) = 1 ∧ ∃ q2 D2, s_port b n q D = s_ok q2 D2 ∧ t_CN b n q2 D2 gi14 gl14 gr14 ar0) ∨ ((0 : Int) = 0 ∧ ∃ p x D2, x ≠ 0 ∧ s_port b n q D = s_bad b n p x D2 ∧ t_FL gi14 (ar0 + 1) (s_fk b n p x) (s_F b n p))) ∧ t_lq ar0 gi gl gr gi14 gl14 gr14 from ⟨(by
                                                            intro b n q D h
                                                            have h102 := p_a0.2.1
                                                            have h : t_CS b n q D (D 0 + D 1 + D 2) (s_used D) gi gl gr ar0 := h
                                                            obtain ⟨⟨hb1, hb2⟩, ⟨hb3, hb4⟩, hb5, hb6⟩ := h.2.1.1
                                                            have hp : (gi (ar0 + 2) 0).toInt = D 0 := h.2.1.2.2.1.1
                                                            have h1 := h.on (q6.1 b n _ h.1.S) q6.2.1 q6.2.2
                                                            have h2 := h1.mk (S := [ar0 + 18]) (t_xc.L t_xc.rf (by simp) e8) (by intro x hx; simp only [List.mem_cons, List.not_mem_nil, or_false] at hx; omega) (h1.2.1.pn (p := (gi (ar0 + 2) 0)) hp e8)
                                                            obtain ⟨hv9, hN, hU, h3⟩ := (q9.1 b n _ D _ _ h2 (by omega)).resolve_right (fun hh => by rcases hh with hh | hh <;> exact absurd hh.1 (by omega))
                                                            rcases q14.1 b n _ h3.1 with hh | hh
                                                            · exact absurd hh.1 (by omega)
                                                            · exact Or.inr ⟨rfl, _, 2, D, by decide, by simp only [s_port, s_name, s_kw, s_ifF (show ¬ D 0 = 6 by omega), s_ifT hN, s_ifF hU, s_ifF hh.2.1], hh.2.2⟩), (t_lq.on (t_lq.ex (t_lq.L (t_lq.on t_lq.rf q6.2.2 (by omega)) (by omega) e8) q9.2 (by intro x hx; simp only [List.mem_cons, List.not_mem_nil, or_false] at hx; omega)) q14.2 (by omega))⟩)⟩⟩
      · have r17 : w14.toInt ≠ 0 := fun e => h15 (Int32.toInt_inj.mp (e.trans (by decide : (0:Int) = (0 : Int32).toInt)))
        have l18 : 1 ≤ w14.toInt := t_nel h15 l14 rfl rfl
        refine ev_loc f_X6_readPort (nx := 67) rfl rfl rfl rfl ?_
        refine ev_getR f_X6_readPort (nx := 70) (v := .ref (ar0 + 1)) rfl p_a0.1 rfl rfl ((hC14.1 ar0 0 (t_ninO hI.wf p_a0.1 (t_outO hI.wf p_a0.1 rfl) rfl)).2.2.trans ((hC9.1 ar0 0 (t_ninO hI.wf p_a0.1 (t_outO hI.wf p_a0.1 rfl) rfl)).2.2.trans ((hC6.1 ar0 0 (t_ninO hI.wf p_a0.1 (t_outO hI.wf p_a0.1 rfl) rfl)).2.2.trans e5))) rfl rfl ?_
        refine ev_qI0 f_X6_readPort (nx := 73) (r := []) rfl rfl rfl rfl rfl rfl rfl (c_s_isBlasts hI ((ar0 + 1)) p5) rfl (fun w19 l19 u19 q19 => ?_)
        have q19 : ∀ (b : Nat → Int32) (n q : Nat), t_TC b n q gi14 gl14 gr14 (ar0 + 1) → (w19.toInt = 1 ↔ s_isB b n q) := q19
        refine ev_if f_X6_readPort (t1 := 76) (t2 := 85) rfl rfl rfl (fun h20 => ?_) (fun h20 => ?_)
        · have u21 : w19.toInt ≤ 0 := t_equ h20 (by decide : (0:Int32).toInt ≤ (0:Int))
          refine ev_loc f_X6_readPort (nx := 77) rfl rfl rfl rfl ?_
          refine ev_getR f_X6_readPort (nx := 80) (v := .ref (ar0 + 1)) rfl p_a0.1 rfl rfl ((hC14.1 ar0 0 (t_ninO hI.wf p_a0.1 (t_outO hI.wf p_a0.1 rfl) rfl)).2.2.trans ((hC9.1 ar0 0 (t_ninO hI.wf p_a0.1 (t_outO hI.wf p_a0.1 rfl) rfl)).2.2.trans ((hC6.1 ar0 0 (t_ninO hI.wf p_a0.1 (t_outO hI.wf p_a0.1 rfl) rfl)).2.2.trans e5))) rfl rfl ?_
          refine ev_ic f_X6_readPort (nx := 81) (v := 2) rfl (by decide) rfl ?_
          refine ev_qI f_X6_readPort (nx := 84) (r := []) rfl rfl rfl rfl rfl rfl rfl (c_s_refuse hI ((ar0 + 1)) p5 (2) (by decide : (2:Int) ≤ (2:Int32).toInt) (Int.le_trans (by decide : (2:Int32).toInt ≤ (2:Int)) (by decide : (2:Int) ≤ 7))) rfl hX rfl (fun w22 gi22 gl22 gr22 l22 u22 hI hX hC22 q22 => ?_)
          have q22 : (∀ (b : Nat → Int32) (n q : Nat), t_TC b n q gi14 gl14 gr14 (ar0 + 1) → t_FL gi22 (ar0 + 1) (s_fk b n q 2) (s_F b n q)) ∧ w22.toInt = 0 ∧ t_on (ar0 + 1) gi14 gl14 gr14 gi22 gl22 gr22 := q22
          replace p_a0 := p_a0.ext hC22.2
          replace p1 := p1.ext hC22.2
          replace p5 := p5.ext hC22.2
          exact ev_retZ f_X6_readPort rfl l22 (Int.le_trans u22 (by decide : (0:Int) ≤ 1)) ⟨_, _, _, rfl, hI, hX, ⟨_, rfl, l22, (Int.le_trans u22 (by decide : (0:Int) ≤ 1)), (show (∀ (b : Nat → Int32) (n q : Nat) (D : s_D), t_CN b n q D gi gl gr ar0 → (w22.toInt = 1 ∧ ∃ q2 D2, s_port b n q D = s_ok q2 D2 ∧ t_CN b n q2 D2 gi22 gl22 gr22 ar0) ∨ (w22.toInt = 0 ∧ ∃ p x D2, x ≠ 0 ∧ s_port b n q D = s_bad b n p x D2 ∧ t_FL gi22 (ar0 + 1) (s_fk b n p x) (s_F b n p))) ∧ t_lq ar0 gi gl gr gi22 gl22 gr22 from ⟨(by
                                                            intro b n q D h
                                                            have h102 := p_a0.2.1
                                                            have h : t_CS b n q D (D 0 + D 1 + D 2) (s_used D) gi gl gr ar0 := h
                                                            obtain ⟨⟨hb1, hb2⟩, ⟨hb3, hb4⟩, hb5, hb6⟩ := h.2.1.1
                                                            have hp : (gi (ar0 + 2) 0).toInt = D 0 := h.2.1.2.2.1.1
                                                            have h1 := h.on (q6.1 b n _ h.1.S) q6.2.1 q6.2.2
                                                            have h2 := h1.mk (S := [ar0 + 18]) (t_xc.L t_xc.rf (by simp) e8) (by intro x hx; simp only [List.mem_cons, List.not_mem_nil, or_false] at hx; omega) (h1.2.1.pn (p := (gi (ar0 + 2) 0)) hp e8)
                                                            obtain ⟨hv9, hN, hU, h3⟩ := (q9.1 b n _ D _ _ h2 (by omega)).resolve_right (fun hh => by rcases hh with hh | hh <;> exact absurd hh.1 (by omega))
                                                            obtain ⟨hv14, hW14, ht14, hf14⟩ := (q14.1 b n _ h3.1).resolve_right (fun hh => absurd hh.1 (by omega))
                                                            have h4 := h3.on ht14 hf14 q14.2
                                                            have hB : ¬ s_isB b n _ := fun hh => absurd ((q19 b n _ h4.1).mpr hh) (by omega)
                                                            exact Or.inr ⟨q22.2.1, _, 2, D, by decide, by simp only [s_port, s_name, s_kw, s_ifF (show ¬ D 0 = 6 by omega), s_ifT hN, s_ifF hU, s_ifT hW14, s_ifF hB], q22.1 b n _ h4.1⟩), (t_lq.on (t_lq.on (t_lq.ex (t_lq.L (t_lq.on t_lq.rf q6.2.2 (by omega)) (by omega) e8) q9.2 (by intro x hx; simp only [List.mem_cons, List.not_mem_nil, or_false] at hx; omega)) q14.2 (by omega)) q22.2.2 (by omega))⟩)⟩⟩
        · have r23 : w19.toInt ≠ 0 := fun e => h20 (Int32.toInt_inj.mp (e.trans (by decide : (0:Int) = (0 : Int32).toInt)))
          have l24 : 1 ≤ w19.toInt := t_nel h20 l19 rfl rfl
          refine ev_ic f_X6_readPort (nx := 86) (v := 0) rfl (by decide) rfl ?_
          refine ev_loc f_X6_readPort (nx := 87) (lo' := [(2, .int 0), (1, .int (gi (ar0 + 2) 0)), (0, .ref ar0)]) rfl rfl rfl rfl ?_
          have L25 : ∀ (m25 : Nat) (y25_2 : Int32), 0 ≤ y25_2.toInt → y25_2.toInt ≤ 6 → (∀ j : Nat, (j : Int) < y25_2.toInt → gl14 (ar0 + 2 + 1) j ≠ gl14 (ar0 + 1) 6) → (6 - y25_2.toInt).toNat = m25 → x_Ev X (d + 4) n_X6_readPort 87 [(2, .int y25_2), (1, .int (gi (ar0 + 2) 0)), (0, .ref ar0)] [] (sh, gi14, gl14, gr14) (t_PI wl_s_readPort sh gi gl gr 0 1 (Q_s_readPort gi gl gr ar0)) := by
            intro m25
            induction m25 using Nat.strongRecOn with
            | _ m25 ih25 =>
            intro y25_2 l25_2 u25_2 j25_0 hm25
            refine ev_loc f_X6_readPort (nx := 88) rfl rfl rfl rfl ?_
            refine ev_loc f_X6_readPort (nx := 89) rfl rfl rfl rfl ?_
            refine ev_if f_X6_readPort (t1 := 127) (t2 := 92) rfl rfl rfl (fun h26 => ?_) (fun h26 => ?_)
            · have r27 : (gi (ar0 + 2) 0).toInt ≤ y25_2.toInt := Int32.le_iff_toInt_le.mp h26
              refine ev_loc f_X6_readPort (nx := 128) rfl rfl rfl rfl ?_
              refine ev_getR f_X6_readPort (nx := 131) (v := .ref (ar0 + 2)) rfl p_a0.1 rfl rfl ((hC14.1 ar0 1 (t_ninO hI.wf p_a0.1 (t_outO hI.wf p_a0.1 rfl) rfl)).2.2.trans ((hC9.1 ar0 1 (t_ninO hI.wf p_a0.1 (t_outO hI.wf p_a0.1 rfl) rfl)).2.2.trans ((hC6.1 ar0 1 (t_ninO hI.wf p_a0.1 (t_outO hI.wf p_a0.1 rfl) rfl)).2.2.trans e1))) rfl rfl ?_
              have e28 := p1.2.2.1.1
              have p28 := p1.2.2.1.2
              refine ev_getR f_X6_readPort (nx := 134) rfl p1.1 rfl rfl e28 rfl rfl ?_
              refine ev_loc f_X6_readPort (nx := 135) rfl rfl rfl rfl ?_
              refine ev_loc f_X6_readPort (nx := 136) rfl rfl rfl rfl ?_
              refine ev_getR f_X6_readPort (nx := 139) (v := .ref (ar0 + 1)) rfl p_a0.1 rfl rfl ((hC14.1 ar0 0 (t_ninO hI.wf p_a0.1 (t_outO hI.wf p_a0.1 rfl) rfl)).2.2.trans ((hC9.1 ar0 0 (t_ninO hI.wf p_a0.1 (t_outO hI.wf p_a0.1 rfl) rfl)).2.2.trans ((hC6.1 ar0 0 (t_ninO hI.wf p_a0.1 (t_outO hI.wf p_a0.1 rfl) rfl)).2.2.trans e5))) rfl rfl ?_
              refine ev_getL f_X6_readPort (nx := 142) rfl p5.1 rfl rfl rfl ?_
              refine ev_lastT f_X6_readPort (nx := 143) rfl p28 l2 (by decide) u4 (by decide) rfl (hX.upL (t_inOA hI.wf p28 (Or.inr (by have := p1.2.1; omega)) rfl)) (fun g29 e29 hX => ?_)
              refine ev_loc f_X6_readPort (nx := 144) rfl rfl rfl rfl ?_
              refine ev_getR f_X6_readPort (nx := 147) (v := .ref (ar0 + 2)) rfl p_a0.1 rfl rfl ((hC14.1 ar0 1 (t_ninO hI.wf p_a0.1 (t_outO hI.wf p_a0.1 rfl) rfl)).2.2.trans ((hC9.1 ar0 1 (t_ninO hI.wf p_a0.1 (t_outO hI.wf p_a0.1 rfl) rfl)).2.2.trans ((hC6.1 ar0 1 (t_ninO hI.wf p_a0.1 (t_outO hI.wf p_a0.1 rfl) rfl)).2.2.trans e1))) rfl rfl ?_
              have e30 := p1.2.2.2.1.1
              have p30 := p1.2.2.2.1.2
              refine ev_getR f_X6_readPort (nx := 150) rfl p1.1 rfl rfl e30 rfl rfl ?_
              refine ev_loc f_X6_readPort (nx := 151) rfl rfl rfl rfl ?_
              refine ev_loc f_X6_readPort (nx := 152) rfl rfl rfl rfl ?_
              refine ev_getR f_X6_readPort (nx := 155) (v := .ref (ar0 + 1)) rfl p_a0.1 rfl rfl ((hC14.1 ar0 0 (t_ninO hI.wf p_a0.1 (t_outO hI.wf p_a0.1 rfl) rfl)).2.2.trans ((hC9.1 ar0 0 (t_ninO hI.wf p_a0.1 (t_outO hI.wf p_a0.1 rfl) rfl)).2.2.trans ((hC6.1 ar0 0 (t_ninO hI.wf p_a0.1 (t_outO hI.wf p_a0.1 rfl) rfl)).2.2.trans e5))) rfl rfl ?_
              refine ev_getL f_X6_readPort (nx := 158) rfl p5.1 rfl rfl rfl ?_
              refine ev_qL0 f_X6_readPort (nx := 161) (r := [.int (gi (ar0 + 2) 0), .ref (ar0 + 2 + 2)]) rfl rfl rfl rfl rfl rfl rfl (c_s_soundOf hI ((g29 (ar0 + 1) 6))) rfl (fun w31 q31 => ?_)
              have q31 : w31 = s_snd (g29 (ar0 + 1) 6) := q31
              refine ev_lastT f_X6_readPort (nx := 162) rfl p30 l2 (by decide) u4 (by decide) rfl (hX.upL (t_inOA hI.wf p30 (Or.inr (by have := p1.2.1; omega)) rfl)) (fun g32 e32 hX => ?_)
              refine ev_loc f_X6_readPort (nx := 163) rfl rfl rfl rfl ?_
              refine ev_getR f_X6_readPort (nx := 166) (v := .ref (ar0 + 2)) rfl p_a0.1 rfl rfl ((hC14.1 ar0 1 (t_ninO hI.wf p_a0.1 (t_outO hI.wf p_a0.1 rfl) rfl)).2.2.trans ((hC9.1 ar0 1 (t_ninO hI.wf p_a0.1 (t_outO hI.wf p_a0.1 rfl) rfl)).2.2.trans ((hC6.1 ar0 1 (t_ninO hI.wf p_a0.1 (t_outO hI.wf p_a0.1 rfl) rfl)).2.2.trans e1))) rfl rfl ?_
              refine ev_alu f_X6_readPort (nx := 167) rfl rfl rfl rfl ?_
              refine ev_gvI f_X6_readPort (nx := 170) (w := (gi (ar0 + 2) 0)) rfl p1.1 rfl rfl ((hC14.1 (ar0 + 2) 0 (t_ninO hI.wf p1.1 (t_outO hI.wf p1.1 rfl) rfl)).1.trans ((hC9.1 (ar0 + 2) 0 (t_ninO hI.wf p1.1 (t_outO hI.wf p1.1 rfl) rfl)).1.trans ((hC6.1 (ar0 + 2) 0 (t_ninO hI.wf p1.1 (t_outO hI.wf p1.1 rfl) rfl)).1.trans rfl))) rfl ?_
              refine ev_ic f_X6_readPort (nx := 171) (v := 1) rfl (by decide) rfl ?_
              refine ev_addC f_X6_readPort (nx := 172) (c := 1) (l := 1) (u := 6) rfl (by decide) l2 u4 rfl rfl (by decide) (by decide) rfl (fun z33 e33 l33 u33 => ?_)
              refine ev_putIT f_X6_readPort (nx := 175) rfl p1.1 rfl rfl rfl (hI.putB p1.1 rfl rfl l33 (by decide) u33 (by decide)) (hX.upI (t_inO hI.wf p1.1 (t_outO hI.wf p1.1 rfl) rfl)) (fun g34 e34 hI hX => ?_)
              refine ev_loc f_X6_readPort (nx := 176) rfl rfl rfl rfl ?_
              refine ev_getR f_X6_readPort (nx := 179) (v := .ref (ar0 + 1)) rfl p_a0.1 rfl rfl ((hC14.1 ar0 0 (t_ninO hI.wf p_a0.1 (t_outO hI.wf p_a0.1 rfl) rfl)).2.2.trans ((hC9.1 ar0 0 (t_ninO hI.wf p_a0.1 (t_outO hI.wf p_a0.1 rfl) rfl)).2.2.trans ((hC6.1 ar0 0 (t_ninO hI.wf p_a0.1 (t_outO hI.wf p_a0.1 rfl) rfl)).2.2.trans e5))) rfl rfl ?_
              refine ev_qN f_X6_readPort (nx := 182) (r := []) rfl rfl rfl rfl rfl rfl rfl (c_s_step hI ((ar0 + 1)) p5) rfl hX rfl (fun gi35 gl35 gr35 hI hX hC35 q35 => ?_)
              have q35 : (∀ (b : Nat → Int32) (n q : Nat), t_Sp b n q g34 (ar0 + 1) → t_TC b n q gi35 gl35 gr35 (ar0 + 1)) ∧ t_nf g34 gi35 (ar0 + 1) ∧ t_on (ar0 + 1) g34 g32 gr14 gi35 gl35 gr35 := q35
              replace p_a0 := p_a0.ext hC35.2
              replace p1 := p1.ext hC35.2
              replace p5 := p5.ext hC35.2
              refine ev_ic f_X6_readPort (nx := 183) (v := 1) rfl (by decide) rfl ?_
              exact ev_ret f_X6_readPort rfl rfl rfl ⟨_, _, _, rfl, hI, hX, ⟨_, rfl, (Int.le_trans (by decide : (0:Int) ≤ 1) (by decide : (1:Int) ≤ (1:Int32).toInt)), (by decide : (1:Int32).toInt ≤ (1:Int)), (show (∀ (b : Nat → Int32) (n q : Nat) (D : s_D), t_CN b n q D gi gl gr ar0 → ((1 : Int) = 1 ∧ ∃ q2 D2, s_port b n q D = s_ok q2 D2 ∧ t_CN b n q2 D2 gi35 gl35 gr35 ar0) ∨ ((1 : Int) = 0 ∧ ∃ p x D2, x ≠ 0 ∧ s_port b n q D = s_bad b n p x D2 ∧ t_FL gi35 (ar0 + 1) (s_fk b n p x) (s_F b n p))) ∧ t_lq ar0 gi gl gr gi35 gl35 gr35 from ⟨(by
                                                            intro b n q D h
                                                            have h102 := p_a0.2.1
                                                            have h : t_CS b n q D (D 0 + D 1 + D 2) (s_used D) gi gl gr ar0 := h
                                                            obtain ⟨⟨hb1, hb2⟩, ⟨hb3, hb4⟩, hb5, hb6⟩ := h.2.1.1
                                                            have hp : (gi (ar0 + 2) 0).toInt = D 0 := h.2.1.2.2.1.1
                                                            have h1 := h.on (q6.1 b n _ h.1.S) q6.2.1 q6.2.2
                                                            have h2 := h1.mk (S := [ar0 + 18]) (t_xc.L t_xc.rf (by simp) e8) (by intro x hx; simp only [List.mem_cons, List.not_mem_nil, or_false] at hx; omega) (h1.2.1.pn (p := (gi (ar0 + 2) 0)) hp e8)
                                                            obtain ⟨hv9, hN, hU, h3⟩ := (q9.1 b n _ D _ _ h2 (by omega)).resolve_right (fun hh => by rcases hh with hh | hh <;> exact absurd hh.1 (by omega))
                                                            obtain ⟨hv14, hW14, ht14, hf14⟩ := (q14.1 b n _ h3.1).resolve_right (fun hh => absurd hh.1 (by omega))
                                                            have h4 := h3.on ht14 hf14 q14.2
                                                            have hB := (q19 b n _ h4.1).mp (by omega)
                                                            have hL : (gl14 (ar0 + 1) 6) = s_L b n _ := (h4.1.2.2.2.2.2.1 hB.1.1).2
                                                            have hx : ¬ ∃ i : Nat, (i : Int) < D 0 ∧ D (10 + i) = (s_L b n (s_E b n (s_E b n (s_E b n q)))).toInt := fun ⟨i, hi, hh⟩ => j25_0 i (by omega) (Int64.toInt_inj.mp (by rw [(h4.2.1.2.2.1.2 i hi).2.1, hh, hL]))
                                                            have hn : (gl14 (ar0 + 18) (gi (ar0 + 2) 0).toNatClampNeg).toInt = (s_L b n (s_E b n q)).toInt := by rw [(q14.2 (ar0 + 18) (by omega)).2.1, (q9.2 (ar0 + 18) (by intro x hx; simp only [List.mem_cons, List.not_mem_nil, or_false] at hx; omega)).2.1, e8, x_up2_at]; exact congrArg Int64.toInt (h1.1.2.2.2.2.2.1 hN.1).2
                                                            have hR := h4.2.1.port (p := (gi (ar0 + 2) 0)) hp (by omega) hn (by rw [q31, e29, x_up2_ne (by omega)]) (z := z33) (by omega) e29 e32 e34
                                                            rw [hL] at hR
                                                            have hR2 := hR.pto h.2.1.1 (by omega)
                                                            have h5 := h4.mk (S := [ar0 + 2, ar0 + 2 + 1, ar0 + 2 + 2]) (t_xc.I (t_xc.L (t_xc.L t_xc.rf (by simp) e29) (by simp) e32) (by simp) e34) (by intro x hx; simp only [List.mem_cons, List.not_mem_nil, or_false] at hx; omega) hR2
                                                            have h6 := h5.on (q35.1 b n _ h5.1.S) q35.2.1 q35.2.2
                                                            exact Or.inl ⟨rfl, _, _, by simp only [s_port, s_name, s_kw, s_ifF (show ¬ D 0 = 6 by omega), s_ifT hN, s_ifF hU, s_ifT hW14, s_ifT hB, s_ifF hx], h6⟩), (t_lq.on (t_lq.I (t_lq.L (t_lq.L (t_lq.on (t_lq.ex (t_lq.L (t_lq.on t_lq.rf q6.2.2 (by omega)) (by omega) e8) q9.2 (by intro x hx; simp only [List.mem_cons, List.not_mem_nil, or_false] at hx; omega)) q14.2 (by omega)) (by omega) e29) (by omega) e32) (by omega) e34) q35.2.2 (by omega))⟩)⟩⟩
            · have r36 : y25_2.toInt < (gi (ar0 + 2) 0).toInt := Int32.lt_iff_toInt_lt.mp (t_nle h26)
              have u37 : y25_2.toInt ≤ 4 := t_ltu (t_nle h26) u4 rfl
              have l38 : 1 ≤ (gi (ar0 + 2) 0).toInt := t_ltl (t_nle h26) l25_2 rfl
              refine ev_loc f_X6_readPort (nx := 93) rfl rfl rfl rfl ?_
              refine ev_getR f_X6_readPort (nx := 96) (v := .ref (ar0 + 2)) rfl p_a0.1 rfl rfl ((hC14.1 ar0 1 (t_ninO hI.wf p_a0.1 (t_outO hI.wf p_a0.1 rfl) rfl)).2.2.trans ((hC9.1 ar0 1 (t_ninO hI.wf p_a0.1 (t_outO hI.wf p_a0.1 rfl) rfl)).2.2.trans ((hC6.1 ar0 1 (t_ninO hI.wf p_a0.1 (t_outO hI.wf p_a0.1 rfl) rfl)).2.2.trans e1))) rfl rfl ?_
              have e39 := p1.2.2.1.1
              have p39 := p1.2.2.1.2
              refine ev_getR f_X6_readPort (nx := 99) rfl p1.1 rfl rfl e39 rfl rfl ?_
              refine ev_loc f_X6_readPort (nx := 100) rfl rfl rfl rfl ?_
              refine ev_laldT f_X6_readPort (nx := 101) rfl p39 l25_2 (by decide) u37 (by decide) rfl (fun w40 e40 => ?_)
              refine ev_loc f_X6_readPort (nx := 102) rfl rfl rfl rfl ?_
              refine ev_getR f_X6_readPort (nx := 105) (v := .ref (ar0 + 1)) rfl p_a0.1 rfl rfl ((hC14.1 ar0 0 (t_ninO hI.wf p_a0.1 (t_outO hI.wf p_a0.1 rfl) rfl)).2.2.trans ((hC9.1 ar0 0 (t_ninO hI.wf p_a0.1 (t_outO hI.wf p_a0.1 rfl) rfl)).2.2.trans ((hC6.1 ar0 0 (t_ninO hI.wf p_a0.1 (t_outO hI.wf p_a0.1 rfl) rfl)).2.2.trans e5))) rfl rfl ?_
              refine ev_getL f_X6_readPort (nx := 108) rfl p5.1 rfl rfl rfl ?_
              refine ev_anyIE f_X6_readPort (nx := 109) rfl rfl rfl rfl (fun z41 e41 => ?_)
              refine ev_if f_X6_readPort (t1 := 112) (t2 := 121) rfl rfl rfl (fun h42 => ?_) (fun h42 => ?_)
              · have u43 : z41.toInt ≤ 0 := t_equ h42 (by decide : (0:Int32).toInt ≤ (0:Int))
                have l44 : 0 ≤ z41.toInt := t_eql h42 (by decide : (0:Int) ≤ (0:Int32).toInt)
                refine ev_loc f_X6_readPort (nx := 113) rfl rfl rfl rfl ?_
                refine ev_getR f_X6_readPort (nx := 116) (v := .ref (ar0 + 1)) rfl p_a0.1 rfl rfl ((hC14.1 ar0 0 (t_ninO hI.wf p_a0.1 (t_outO hI.wf p_a0.1 rfl) rfl)).2.2.trans ((hC9.1 ar0 0 (t_ninO hI.wf p_a0.1 (t_outO hI.wf p_a0.1 rfl) rfl)).2.2.trans ((hC6.1 ar0 0 (t_ninO hI.wf p_a0.1 (t_outO hI.wf p_a0.1 rfl) rfl)).2.2.trans e5))) rfl rfl ?_
                refine ev_ic f_X6_readPort (nx := 117) (v := 5) rfl (by decide) rfl ?_
                refine ev_qI f_X6_readPort (nx := 120) (r := []) rfl rfl rfl rfl rfl rfl rfl (c_s_refuse hI ((ar0 + 1)) p5 (5) (Int.le_trans (by decide : (2:Int) ≤ 5) (by decide : (5:Int) ≤ (5:Int32).toInt)) (Int.le_trans (by decide : (5:Int32).toInt ≤ (5:Int)) (by decide : (5:Int) ≤ 7))) rfl hX rfl (fun w45 gi45 gl45 gr45 l45 u45 hI hX hC45 q45 => ?_)
                have q45 : (∀ (b : Nat → Int32) (n q : Nat), t_TC b n q gi14 gl14 gr14 (ar0 + 1) → t_FL gi45 (ar0 + 1) (s_fk b n q 5) (s_F b n q)) ∧ w45.toInt = 0 ∧ t_on (ar0 + 1) gi14 gl14 gr14 gi45 gl45 gr45 := q45
                replace p_a0 := p_a0.ext hC45.2
                replace p1 := p1.ext hC45.2
                replace p5 := p5.ext hC45.2
                exact ev_retZ f_X6_readPort rfl l45 (Int.le_trans u45 (by decide : (0:Int) ≤ 1)) ⟨_, _, _, rfl, hI, hX, ⟨_, rfl, l45, (Int.le_trans u45 (by decide : (0:Int) ≤ 1)), (show (∀ (b : Nat → Int32) (n q : Nat) (D : s_D), t_CN b n q D gi gl gr ar0 → (w45.toInt = 1 ∧ ∃ q2 D2, s_port b n q D = s_ok q2 D2 ∧ t_CN b n q2 D2 gi45 gl45 gr45 ar0) ∨ (w45.toInt = 0 ∧ ∃ p x D2, x ≠ 0 ∧ s_port b n q D = s_bad b n p x D2 ∧ t_FL gi45 (ar0 + 1) (s_fk b n p x) (s_F b n p))) ∧ t_lq ar0 gi gl gr gi45 gl45 gr45 from ⟨(by
                                                            intro b n q D h
                                                            have h102 := p_a0.2.1
                                                            have h : t_CS b n q D (D 0 + D 1 + D 2) (s_used D) gi gl gr ar0 := h
                                                            obtain ⟨⟨hb1, hb2⟩, ⟨hb3, hb4⟩, hb5, hb6⟩ := h.2.1.1
                                                            have hp : (gi (ar0 + 2) 0).toInt = D 0 := h.2.1.2.2.1.1
                                                            have h1 := h.on (q6.1 b n _ h.1.S) q6.2.1 q6.2.2
                                                            have h2 := h1.mk (S := [ar0 + 18]) (t_xc.L t_xc.rf (by simp) e8) (by intro x hx; simp only [List.mem_cons, List.not_mem_nil, or_false] at hx; omega) (h1.2.1.pn (p := (gi (ar0 + 2) 0)) hp e8)
                                                            obtain ⟨hv9, hN, hU, h3⟩ := (q9.1 b n _ D _ _ h2 (by omega)).resolve_right (fun hh => by rcases hh with hh | hh <;> exact absurd hh.1 (by omega))
                                                            obtain ⟨hv14, hW14, ht14, hf14⟩ := (q14.1 b n _ h3.1).resolve_right (fun hh => absurd hh.1 (by omega))
                                                            have h4 := h3.on ht14 hf14 q14.2
                                                            have hB := (q19 b n _ h4.1).mp (by omega)
                                                            have hL : (gl14 (ar0 + 1) 6) = s_L b n _ := (h4.1.2.2.2.2.2.1 hB.1.1).2
                                                            have hx : ∃ i : Nat, (i : Int) < D 0 ∧ D (10 + i) = (s_L b n (s_E b n (s_E b n (s_E b n q)))).toInt := ⟨y25_2.toNatClampNeg, by have h1 := t_clamp (i := y25_2) (by omega); omega, by rw [← hL, ← (h4.2.1.2.2.1.2 _ (by have h1 := t_clamp (i := y25_2) (by omega); omega)).2.1, ← e40]; exact congrArg Int64.toInt ((lg_cmp_eq _ _).mp (e41.symm.trans h42))⟩
                                                            exact Or.inr ⟨q45.2.1, _, 5, D, by decide, by simp only [s_port, s_name, s_kw, s_ifF (show ¬ D 0 = 6 by omega), s_ifT hN, s_ifF hU, s_ifT hW14, s_ifT hB, s_ifT hx], q45.1 b n _ h4.1⟩), (t_lq.on (t_lq.on (t_lq.ex (t_lq.L (t_lq.on t_lq.rf q6.2.2 (by omega)) (by omega) e8) q9.2 (by intro x hx; simp only [List.mem_cons, List.not_mem_nil, or_false] at hx; omega)) q14.2 (by omega)) q45.2.2 (by omega))⟩)⟩⟩
              · have r46 : z41.toInt ≠ 0 := fun e => h42 (Int32.toInt_inj.mp (e.trans (by decide : (0:Int) = (0 : Int32).toInt)))
                refine ev_incR f_X6_readPort (nx := 124) (c := 1) (l := 1) (u := 5) rfl rfl (by decide) (by decide) l25_2 u37 rfl rfl (by decide) (by decide) rfl (fun z47 e47 l47 u47 => ?_)
                refine ev_jmp f_X6_readPort (nx := 87) rfl rfl rfl ?_
                refine ev_sub (lo := [(2, .int z47), (1, .int (gi (ar0 + 2) 0)), (0, .ref ar0)]) rfl (t_sc rfl (t_sc rfl (t_sc rfl t_sn))) ?_
                exact ih25 _ (by omega) (z47) (Int.le_trans (by decide : (0:Int) ≤ 1) l47) (Int.le_trans u47 (by decide : (5:Int) ≤ 6)) (fun j hj hx => by by_cases hji : j = y25_2.toNatClampNeg; (exact h42 (e41.trans ((lg_cmp_eq _ _).mpr (by rw [e40, ← hji]; exact hx)))); (exact j25_0 j (by have h1 := t_clamp (i := y25_2) (by omega); omega) hx)) rfl
          refine ev_sub (lo := [(2, .int 0), (1, .int (gi (ar0 + 2) 0)), (0, .ref ar0)]) rfl (t_sc rfl (t_sc rfl (t_sc rfl t_sn))) ?_
          exact L25 _ (0) (by decide : (0:Int) ≤ (0:Int32).toInt) (Int.le_trans (by decide : (0:Int32).toInt ≤ (0:Int)) (by decide : (0:Int) ≤ 6)) (fun j hj => absurd hj (by have : (0 : Int32).toInt = 0 := rfl; omega)) rfl
  · have l48 : 6 ≤ (gi (ar0 + 2) 0).toInt := t_lel (t_nlt h3) (by decide : (6:Int) ≤ (6:Int32).toInt)
    refine ev_loc f_X6_readPort (nx := 15) rfl rfl rfl rfl ?_
    have e49 := p_a0.2.2.2.2.1.1
    have p49 := p_a0.2.2.2.2.1.2
    refine ev_getR f_X6_readPort (nx := 18) rfl p_a0.1 rfl rfl e49 rfl rfl ?_
    refine ev_bp f_X6_readPort (nx := 20) (v := 6) rfl (by decide) rfl ?_
    refine ev_qI f_X6_readPort (nx := 23) (r := []) rfl rfl rfl rfl rfl rfl rfl (c_s_refuse hI ((ar0 + 1)) p49 (6) (Int.le_trans (by decide : (2:Int) ≤ 6) (by decide : (6:Int) ≤ (6:Int32).toInt)) (Int.le_trans (by decide : (6:Int32).toInt ≤ (6:Int)) (by decide : (6:Int) ≤ 7))) rfl hX rfl (fun w50 gi50 gl50 gr50 l50 u50 hI hX hC50 q50 => ?_)
    have q50 : (∀ (b : Nat → Int32) (n q : Nat), t_TC b n q gi gl gr (ar0 + 1) → t_FL gi50 (ar0 + 1) (s_fk b n q 6) (s_F b n q)) ∧ w50.toInt = 0 ∧ t_on (ar0 + 1) gi gl gr gi50 gl50 gr50 := q50
    replace p_a0 := p_a0.ext hC50.2
    replace p1 := p1.ext hC50.2
    replace p49 := p49.ext hC50.2
    exact ev_retZ f_X6_readPort rfl l50 (Int.le_trans u50 (by decide : (0:Int) ≤ 1)) ⟨_, _, _, rfl, hI, hX, ⟨_, rfl, l50, (Int.le_trans u50 (by decide : (0:Int) ≤ 1)), (show (∀ (b : Nat → Int32) (n q : Nat) (D : s_D), t_CN b n q D gi gl gr ar0 → (w50.toInt = 1 ∧ ∃ q2 D2, s_port b n q D = s_ok q2 D2 ∧ t_CN b n q2 D2 gi50 gl50 gr50 ar0) ∨ (w50.toInt = 0 ∧ ∃ p x D2, x ≠ 0 ∧ s_port b n q D = s_bad b n p x D2 ∧ t_FL gi50 (ar0 + 1) (s_fk b n p x) (s_F b n p))) ∧ t_lq ar0 gi gl gr gi50 gl50 gr50 from ⟨(by
                                                            intro b n q D h
                                                            have h102 := p_a0.2.1
                                                            have h : t_CS b n q D (D 0 + D 1 + D 2) (s_used D) gi gl gr ar0 := h
                                                            obtain ⟨⟨hb1, hb2⟩, ⟨hb3, hb4⟩, hb5, hb6⟩ := h.2.1.1
                                                            have hp : (gi (ar0 + 2) 0).toInt = D 0 := h.2.1.2.2.1.1
                                                            exact Or.inr ⟨q50.2.1, _, 6, D, by decide, by simp only [s_port, s_ifT (show D 0 = 6 by omega)], q50.1 b n q h.1⟩), (t_lq.on t_lq.rf q50.2.2 (by omega))⟩)⟩⟩
noncomputable def wl_s_put : List (Nat × Nat) := [(7, 9999), (8, 9999), (9, 9999), (10, 9999), (11, 9999), (12, 9999), (14, 9999), (15, 9999), (16, 9999), (17, 9999), (18, 9999), (30, 9999), (31, 9999), (32, 9999), (33, 9999), (34, 9999), (36, 9999), (37, 9999), (38, 9999), (39, 9999), (40, 9999), (43, 9999), (44, 9999), (47, 9999), (48, 9999), (49, 9999), (50, 9999), (51, 9999), (53, 9999), (54, 9999), (55, 9999), (56, 9999), (57, 9999), (58, 9999), (59, 9999), (130, 9999), (133, 9999)]
noncomputable def Q_s_put (gi : Nat → Nat → Int32) (gl : Nat → Nat → Int64) (gr : Nat → Nat → Value) (ar0 : Nat) (ar1 : Int32) (ar2 : Int32) (ar3 : Int32) (ar4 : Int32) (ar5 : Int32) (ar6 : Int32) : (Nat → Nat → Int32) → (Nat → Nat → Int64) → (Nat → Nat → Value) → Prop := fun (gi2 : Nat → Nat → Int32) (gl2 : Nat → Nat → Int64) (gr2 : Nat → Nat → Value) => ((ar1.toInt < 0 ∨ 6 ≤ ar1.toInt) → gi2 = gi) ∧ ((0 ≤ ar1.toInt ∧ ar1.toInt < 6) → gi2 = x_up2 (x_up2 (x_up2 (x_up2 (x_up2 (gi) (ar0 + 1) ar1.toNatClampNeg ar2) (ar0 + 2) ar1.toNatClampNeg ar3) (ar0 + 3) ar1.toNatClampNeg ar4) (ar0 + 4) ar1.toNatClampNeg ar5) (ar0 + 5) ar1.toNatClampNeg ar6) ∧ gl2 = gl ∧ gr2 = gr
theorem c_s_put {X : x_Ext} {d : Nat} {sh : List (Nat ⊕ (Nat × Nat))} {gi : Nat → Nat → Int32} {gl : Nat → Nat → Int64} {gr : Nat → Nat → Value} (hI : t_I sh gi gr) (ar0 : Nat) (p_a0 : t_LQ sh gr ar0) (ar1 : Int32) (ar2 : Int32) (ar3 : Int32) (ar4 : Int32) (ar5 : Int32) (ar6 : Int32) (l_a6 : 0 ≤ ar6.toInt) (u_a6 : ar6.toInt ≤ 1) : x_Me X (d + 1) n_X4_put [.ref ar0, .int ar1, .int ar2, .int ar3, .int ar4, .int ar5, .int ar6] (sh, gi, gl, gr) (t_PN wl_s_put sh gi gl gr (Q_s_put gi gl gr ar0 ar1 ar2 ar3 ar4 ar5 ar6)) := by
  have hX : t_X wl_s_put sh gi gl gr gi gl gr := t_X.rf
  refine me_i f_X4_put p_a0.1 rfl rfl rfl ?_
  refine ev_loc f_X4_put (nx := 1) rfl rfl rfl rfl ?_
  refine ev_if f_X4_put (t1 := 10) (t2 := 4) rfl rfl rfl (fun h1 => ?_) (fun h1 => ?_)
  · have u2 : ar1.toInt ≤ (-1) := t_ltu h1 (by decide : (0:Int32).toInt ≤ (0:Int)) rfl
    exact ev_ret f_X4_put rfl rfl rfl ⟨_, _, _, rfl, hI, hX, ⟨rfl, (show ((ar1.toInt < 0 ∨ 6 ≤ ar1.toInt) → gi = gi) ∧ ((0 ≤ ar1.toInt ∧ ar1.toInt < 6) → gi = x_up2 (x_up2 (x_up2 (x_up2 (x_up2 (gi) (ar0 + 1) ar1.toNatClampNeg ar2) (ar0 + 2) ar1.toNatClampNeg ar3) (ar0 + 3) ar1.toNatClampNeg ar4) (ar0 + 4) ar1.toNatClampNeg ar5) (ar0 + 5) ar1.toNatClampNeg ar6) ∧ gl = gl ∧ gr = gr from ⟨fun _ => rfl, fun hh => absurd hh (by omega), rfl, rfl⟩)⟩⟩
  · have l3 : 0 ≤ ar1.toInt := t_lel (t_nlt h1) (by decide : (0:Int) ≤ (0:Int32).toInt)
    refine ev_loc f_X4_put (nx := 5) rfl rfl rfl rfl ?_
    refine ev_bp f_X4_put (nx := 7) (v := 6) rfl (by decide) rfl ?_
    refine ev_if f_X4_put (t1 := 11) (t2 := 10) rfl rfl rfl (fun h4 => ?_) (fun h4 => ?_)
    · have u5 : ar1.toInt ≤ 5 := t_ltu h4 (by decide : (6:Int32).toInt ≤ (6:Int)) rfl
      refine ev_loc f_X4_put (nx := 12) rfl rfl rfl rfl ?_
      have e6 := p_a0.2.2.1.1
      have p6 := p_a0.2.2.1.2
      refine ev_getR f_X4_put (nx := 15) rfl p_a0.1 rfl rfl e6 rfl rfl ?_
      refine ev_loc f_X4_put (nx := 16) rfl rfl rfl rfl ?_
      refine ev_loc f_X4_put (nx := 17) rfl rfl rfl rfl ?_
      refine ev_iastT f_X4_put (nx := 18) rfl p6 l3 (by decide) u5 (by decide) rfl (hI.astO p6 (Or.inr (by have := p_a0.2.1; omega)) (by decide +kernel)) (hX.upI (t_inOA hI.wf p6 (Or.inr (by have := p_a0.2.1; omega)) rfl)) (fun g7 e7 hI hX => ?_)
      refine ev_loc f_X4_put (nx := 19) rfl rfl rfl rfl ?_
      have e8 := p_a0.2.2.2.1.1
      have p8 := p_a0.2.2.2.1.2
      refine ev_getR f_X4_put (nx := 22) rfl p_a0.1 rfl rfl e8 rfl rfl ?_
      refine ev_loc f_X4_put (nx := 23) rfl rfl rfl rfl ?_
      refine ev_loc f_X4_put (nx := 24) rfl rfl rfl rfl ?_
      refine ev_iastT f_X4_put (nx := 25) rfl p8 l3 (by decide) u5 (by decide) rfl (hI.astO p8 (Or.inr (by have := p_a0.2.1; omega)) (by decide +kernel)) (hX.upI (t_inOA hI.wf p8 (Or.inr (by have := p_a0.2.1; omega)) rfl)) (fun g9 e9 hI hX => ?_)
      refine ev_loc f_X4_put (nx := 26) rfl rfl rfl rfl ?_
      have e10 := p_a0.2.2.2.2.1.1
      have p10 := p_a0.2.2.2.2.1.2
      refine ev_getR f_X4_put (nx := 29) rfl p_a0.1 rfl rfl e10 rfl rfl ?_
      refine ev_loc f_X4_put (nx := 30) rfl rfl rfl rfl ?_
      refine ev_loc f_X4_put (nx := 32) rfl rfl rfl rfl ?_
      refine ev_iastT f_X4_put (nx := 33) rfl p10 l3 (by decide) u5 (by decide) rfl (hI.astO p10 (Or.inr (by have := p_a0.2.1; omega)) (by decide +kernel)) (hX.upI (t_inOA hI.wf p10 (Or.inr (by have := p_a0.2.1; omega)) rfl)) (fun g11 e11 hI hX => ?_)
      refine ev_loc f_X4_put (nx := 34) rfl rfl rfl rfl ?_
      have e12 := p_a0.2.2.2.2.2.1.1
      have p12 := p_a0.2.2.2.2.2.1.2
      refine ev_getR f_X4_put (nx := 37) rfl p_a0.1 rfl rfl e12 rfl rfl ?_
      refine ev_loc f_X4_put (nx := 38) rfl rfl rfl rfl ?_
      refine ev_loc f_X4_put (nx := 40) rfl rfl rfl rfl ?_
      refine ev_iastT f_X4_put (nx := 41) rfl p12 l3 (by decide) u5 (by decide) rfl (hI.astO p12 (Or.inr (by have := p_a0.2.1; omega)) (by decide +kernel)) (hX.upI (t_inOA hI.wf p12 (Or.inr (by have := p_a0.2.1; omega)) rfl)) (fun g13 e13 hI hX => ?_)
      refine ev_loc f_X4_put (nx := 42) rfl rfl rfl rfl ?_
      have e14 := p_a0.2.2.2.2.2.2.1
      have p14 := p_a0.2.2.2.2.2.2.2
      refine ev_getR f_X4_put (nx := 45) rfl p_a0.1 rfl rfl e14 rfl rfl ?_
      refine ev_loc f_X4_put (nx := 46) rfl rfl rfl rfl ?_
      refine ev_loc f_X4_put (nx := 48) rfl rfl rfl rfl ?_
      refine ev_zastV f_X4_put (nx := 49) rfl p14 l3 (by decide) u5 (by decide) l_a6 u_a6 rfl (fun x _ _ => (hI.astO p14 (Or.inr (by have := p_a0.2.1; omega)) (by decide +kernel))) (fun x => hX.upI (t_inOA hI.wf p14 (Or.inr (by have := p_a0.2.1; omega)) rfl)) (fun g15 e15 hI hX => ?_)
      exact ev_ret f_X4_put rfl rfl rfl ⟨_, _, _, rfl, hI, hX, ⟨rfl, (show ((ar1.toInt < 0 ∨ 6 ≤ ar1.toInt) → g15 = gi) ∧ ((0 ≤ ar1.toInt ∧ ar1.toInt < 6) → g15 = x_up2 (x_up2 (x_up2 (x_up2 (x_up2 (gi) (ar0 + 1) ar1.toNatClampNeg ar2) (ar0 + 2) ar1.toNatClampNeg ar3) (ar0 + 3) ar1.toNatClampNeg ar4) (ar0 + 4) ar1.toNatClampNeg ar5) (ar0 + 5) ar1.toNatClampNeg ar6) ∧ gl = gl ∧ gr = gr from ⟨fun hh => absurd hh (by omega), fun _ => (by rw [e15, e13, e11, e9, e7]), rfl, rfl⟩)⟩⟩
    · have l16 : 6 ≤ ar1.toInt := t_lel (t_nlt h4) (by decide : (6:Int) ≤ (6:Int32).toInt)
      exact ev_ret f_X4_put rfl rfl rfl ⟨_, _, _, rfl, hI, hX, ⟨rfl, (show ((ar1.toInt < 0 ∨ 6 ≤ ar1.toInt) → gi = gi) ∧ ((0 ≤ ar1.toInt ∧ ar1.toInt < 6) → gi = x_up2 (x_up2 (x_up2 (x_up2 (x_up2 (gi) (ar0 + 1) ar1.toNatClampNeg ar2) (ar0 + 2) ar1.toNatClampNeg ar3) (ar0 + 3) ar1.toNatClampNeg ar4) (ar0 + 4) ar1.toNatClampNeg ar5) (ar0 + 5) ar1.toNatClampNeg ar6) ∧ gl = gl ∧ gr = gr from ⟨fun _ => rfl, fun hh => absurd hh (by omega), rfl, rfl⟩)⟩⟩
noncomputable def wl_s_readComing : List (Nat × Nat) := [(6, 0), (7, 9999), (8, 9999), (9, 9999), (10, 9999), (11, 9999), (12, 9999), (13, 0), (14, 9999), (15, 9999), (16, 9999), (17, 9999), (18, 9999), (29, 0), (30, 9999), (31, 9999), (32, 9999), (33, 9999), (34, 9999), (35, 0), (36, 9999), (37, 9999), (38, 9999), (39, 9999), (40, 9999), (43, 9999), (44, 9999), (46, 0), (47, 9999), (48, 9999), (49, 9999), (50, 9999), (51, 9999), (52, 0), (53, 9999), (54, 9999), (55, 9999), (56, 9999), (57, 9999), (58, 9999), (59, 9999), (113, 0), (118, 2), (118, 3), (118, 4), (118, 5), (118, 6), (118, 7), (118, 8), (118, 9), (118, 10), (118, 11), (130, 9999), (133, 9999)]
noncomputable def Q_s_readComing (gi : Nat → Nat → Int32) (gl : Nat → Nat → Int64) (gr : Nat → Nat → Value) (ar0 : Nat) (ar1 : Nat) : Int32 → (Nat → Nat → Int32) → (Nat → Nat → Int64) → (Nat → Nat → Value) → Prop := fun (v : Int32) (gi2 : Nat → Nat → Int32) (gl2 : Nat → Nat → Int64) (gr2 : Nat → Nat → Value) => (∀ (b : Nat → Int32) (n q : Nat) (D : s_D), t_TC b n q gi gl gr (ar0 + 1) → t_FL gi (ar0 + 1) 0 (-1) → (v.toInt = 1 ∧ ∃ q2 x y z, (∀ K, s_come b n q D K = K q2 x y z) ∧ t_TC b n q2 gi2 gl2 gr2 (ar0 + 1) ∧ t_FL gi2 (ar0 + 1) 0 (-1) ∧ (gi2 ar1 0).toInt = (gi ar1 0).toInt + 1 ∧ t_ru (gi (ar1 + 2)) (gi2 (ar1 + 2)) (gi ar1 0).toNatClampNeg x ∧ t_ru (gi (ar1 + 3)) (gi2 (ar1 + 3)) (gi ar1 0).toNatClampNeg y ∧ t_ru (gi (ar1 + 4)) (gi2 (ar1 + 4)) (gi ar1 0).toNatClampNeg z ∧ t_ru (gi (ar1 + 5)) (gi2 (ar1 + 5)) (gi ar1 0).toNatClampNeg 0) ∨ (v.toInt = 0 ∧ ∃ p x, x ≠ 0 ∧ (∀ K, s_come b n q D K = s_bad b n p x D) ∧ t_FL gi2 (ar0 + 1) (s_fk b n p x) (s_F b n p))) ∧ t_xc [ar0 + 1, ar1, ar1 + 1, ar1 + 2, ar1 + 3, ar1 + 4, ar1 + 5] gi gl gr gi2 gl2 gr2
theorem c_s_readComing {X : x_Ext} {d : Nat} {sh : List (Nat ⊕ (Nat × Nat))} {gi : Nat → Nat → Int32} {gl : Nat → Nat → Int64} {gr : Nat → Nat → Value} (hI : t_I sh gi gr) (ar0 : Nat) (p_a0 : t_RQ sh gr ar0) (ar1 : Nat) (p_a1 : t_LQ sh gr ar1) (e_p0 : (gi ar1 0).toInt ≤ 5) (e_p1 : ar0 + 1 < ar1) : x_Me X (d + 4) n_X6_readComing [.ref ar0, .ref ar1] (sh, gi, gl, gr) (t_PI wl_s_readComing sh gi gl gr 0 1 (Q_s_readComing gi gl gr ar0 ar1)) := by
  have hX : t_X wl_s_readComing sh gi gl gr gi gl gr := t_X.rf
  refine me_i f_X6_readComing p_a0.1 rfl rfl rfl ?_
  have lw0 := (hI.b p_a1.1 (t_bdK rfl : t_bd 3 0 = some (0, 6))).1
  refine ev_loc f_X6_readComing (nx := 1) rfl rfl rfl rfl ?_
  have e1 := p_a0.2.2.2.2.1.1
  have p1 := p_a0.2.2.2.2.1.2
  refine ev_getR f_X6_readComing (nx := 4) rfl p_a0.1 rfl rfl e1 rfl rfl ?_
  refine ev_heap f_X6_readComing (nx := 7) rfl rfl rfl rfl ?_
  refine ev_qI f_X6_readComing (nx := 10) (r := []) rfl rfl rfl rfl rfl rfl rfl (c_s_takeAt hI ((ar0 + 1)) p1) rfl hX rfl (fun w2 gi2 gl2 gr2 l2 u2 hI hX hC2 q2 => ?_)
  have q2 : (∀ (b : Nat → Int32) (n q : Nat), t_TC b n q gi gl gr (ar0 + 1) → (w2.toInt = 1 ∧ s_W b n q = some 8 ∧ t_TC b n (s_E b n q) gi2 gl2 gr2 (ar0 + 1) ∧ t_nf gi gi2 (ar0 + 1)) ∨ (w2.toInt = 0 ∧ s_W b n q ≠ some 8 ∧ t_FL gi2 (ar0 + 1) (s_fk b n q 2) (s_F b n q))) ∧ t_on (ar0 + 1) gi gl gr gi2 gl2 gr2 := q2
  replace p_a0 := p_a0.ext hC2.2
  replace p_a1 := p_a1.ext hC2.2
  replace p1 := p1.ext hC2.2
  refine ev_if f_X6_readComing (t1 := 13) (t2 := 15) rfl rfl rfl (fun h3 => ?_) (fun h3 => ?_)
  · have u4 : w2.toInt ≤ 0 := t_equ h3 (by decide : (0:Int32).toInt ≤ (0:Int))
    refine ev_ic f_X6_readComing (nx := 14) (v := 0) rfl (by decide) rfl ?_
    exact ev_ret f_X6_readComing rfl rfl rfl ⟨_, _, _, rfl, hI, hX, ⟨_, rfl, (by decide : (0:Int) ≤ (0:Int32).toInt), (Int.le_trans (by decide : (0:Int32).toInt ≤ (0:Int)) (by decide : (0:Int) ≤ 1)), (show (∀ (b : Nat → Int32) (n q : Nat) (D : s_D), t_TC b n q gi gl gr (ar0 + 1) → t_FL gi (ar0 + 1) 0 (-1) → ((0 : Int) = 1 ∧ ∃ q2 x y z, (∀ K, s_come b n q D K = K q2 x y z) ∧ t_TC b n q2 gi2 gl2 gr2 (ar0 + 1) ∧ t_FL gi2 (ar0 + 1) 0 (-1) ∧ (gi2 ar1 0).toInt = (gi ar1 0).toInt + 1 ∧ t_ru (gi (ar1 + 2)) (gi2 (ar1 + 2)) (gi ar1 0).toNatClampNeg x ∧ t_ru (gi (ar1 + 3)) (gi2 (ar1 + 3)) (gi ar1 0).toNatClampNeg y ∧ t_ru (gi (ar1 + 4)) (gi2 (ar1 + 4)) (gi ar1 0).toNatClampNeg z ∧ t_ru (gi (ar1 + 5)) (gi2 (ar1 + 5)) (gi ar1 0).toNatClampNeg 0) ∨ ((0 : Int) = 0 ∧ ∃ p x, x ≠ 0 ∧ (∀ K, s_come b n q D K = s_bad b n p x D) ∧ t_FL gi2 (ar0 + 1) (s_fk b n p x) (s_F b n p))) ∧ t_xc [ar0 + 1, ar1, ar1 + 1, ar1 + 2, ar1 + 3, ar1 + 4, ar1 + 5] gi gl gr gi2 gl2 gr2 from ⟨(by
                                                            intro b n q D h f0
                                                            have h102 := p_a0.2.1
                                                            rcases q2.1 b n _ h with hh | hh
                                                            · exact absurd hh.1 (by omega)
                                                            · exact Or.inr ⟨rfl, _, 2, by decide, fun K => by simp only [s_come, s_num, s_kw, s_ifF hh.2.1], hh.2.2⟩), (t_xc.on t_xc.rf q2.2 (by simp))⟩)⟩⟩
  · have r5 : w2.toInt ≠ 0 := fun e => h3 (Int32.toInt_inj.mp (e.trans (by decide : (0:Int) = (0 : Int32).toInt)))
    have l6 : 1 ≤ w2.toInt := t_nel h3 l2 rfl rfl
    refine ev_loc f_X6_readComing (nx := 16) rfl rfl rfl rfl ?_
    refine ev_getR f_X6_readComing (nx := 19) (v := .ref (ar0 + 1)) rfl p_a0.1 rfl rfl ((hC2.1 ar0 0 (t_ninO hI.wf p_a0.1 (t_outO hI.wf p_a0.1 rfl) rfl)).2.2.trans e1) rfl rfl ?_
    refine ev_getI f_X6_readComing (nx := 22) rfl p1.1 rfl rfl rfl ?_
    refine ev_loc f_X6_readComing (nx := 23) (lo' := [(2, .int (gi2 (ar0 + 1) 8)), (0, .ref ar0), (1, .ref ar1)]) rfl rfl rfl rfl ?_
    refine ev_loc f_X6_readComing (nx := 24) rfl rfl rfl rfl ?_
    refine ev_getR f_X6_readComing (nx := 27) (v := .ref (ar0 + 1)) rfl p_a0.1 rfl rfl ((hC2.1 ar0 0 (t_ninO hI.wf p_a0.1 (t_outO hI.wf p_a0.1 rfl) rfl)).2.2.trans e1) rfl rfl ?_
    refine ev_ic f_X6_readComing (nx := 28) (v := 0) rfl (by decide) rfl ?_
    refine ev_bp f_X6_readComing (nx := 30) (v := 120) rfl (by decide) rfl ?_
    refine ev_qI f_X6_readComing (nx := 33) (r := []) rfl rfl rfl rfl rfl rfl rfl (c_s_takeNumber hI ((ar0 + 1)) p1 (0) (120)) rfl hX rfl (fun w7 gi7 gl7 gr7 l7 u7 hI hX hC7 q7 => ?_)
    have q7 : (∀ (b : Nat → Int32) (n q : Nat), t_TC b n q gi2 gl2 gr2 (ar0 + 1) → (w7.toInt = 1 ∧ s_isV b n q 0 120 ∧ t_TC b n (s_E b n q) gi7 gl7 gr7 (ar0 + 1) ∧ t_nf gi2 gi7 (ar0 + 1)) ∨ (w7.toInt = 0 ∧ s_K b n q ≠ 3 ∧ t_FL gi7 (ar0 + 1) (s_fk b n q 2) (s_F b n q)) ∨ (w7.toInt = 0 ∧ (s_K b n q = 3 ∧ ¬ s_isV b n q 0 120) ∧ t_FL gi7 (ar0 + 1) (s_fk b n q 4) (s_F b n q))) ∧ t_on (ar0 + 1) gi2 gl2 gr2 gi7 gl7 gr7 := q7
    replace p_a0 := p_a0.ext hC7.2
    replace p_a1 := p_a1.ext hC7.2
    replace p1 := p1.ext hC7.2
    refine ev_if f_X6_readComing (t1 := 49) (t2 := 36) rfl rfl rfl (fun h8 => ?_) (fun h8 => ?_)
    · have u9 : w7.toInt ≤ 0 := t_equ h8 (by decide : (0:Int32).toInt ≤ (0:Int))
      refine ev_ic f_X6_readComing (nx := 50) (v := 0) rfl (by decide) rfl ?_
      exact ev_ret f_X6_readComing rfl rfl rfl ⟨_, _, _, rfl, hI, hX, ⟨_, rfl, (by decide : (0:Int) ≤ (0:Int32).toInt), (Int.le_trans (by decide : (0:Int32).toInt ≤ (0:Int)) (by decide : (0:Int) ≤ 1)), (show (∀ (b : Nat → Int32) (n q : Nat) (D : s_D), t_TC b n q gi gl gr (ar0 + 1) → t_FL gi (ar0 + 1) 0 (-1) → ((0 : Int) = 1 ∧ ∃ q2 x y z, (∀ K, s_come b n q D K = K q2 x y z) ∧ t_TC b n q2 gi7 gl7 gr7 (ar0 + 1) ∧ t_FL gi7 (ar0 + 1) 0 (-1) ∧ (gi7 ar1 0).toInt = (gi ar1 0).toInt + 1 ∧ t_ru (gi (ar1 + 2)) (gi7 (ar1 + 2)) (gi ar1 0).toNatClampNeg x ∧ t_ru (gi (ar1 + 3)) (gi7 (ar1 + 3)) (gi ar1 0).toNatClampNeg y ∧ t_ru (gi (ar1 + 4)) (gi7 (ar1 + 4)) (gi ar1 0).toNatClampNeg z ∧ t_ru (gi (ar1 + 5)) (gi7 (ar1 + 5)) (gi ar1 0).toNatClampNeg 0) ∨ ((0 : Int) = 0 ∧ ∃ p x, x ≠ 0 ∧ (∀ K, s_come b n q D K = s_bad b n p x D) ∧ t_FL gi7 (ar0 + 1) (s_fk b n p x) (s_F b n p))) ∧ t_xc [ar0 + 1, ar1, ar1 + 1, ar1 + 2, ar1 + 3, ar1 + 4, ar1 + 5] gi gl gr gi7 gl7 gr7 from ⟨(by
                                                            intro b n q D h f0
                                                            have h102 := p_a0.2.1
                                                            obtain ⟨_, c1, h1, n1⟩ := (q2.1 b n _ h).resolve_right (fun hh => absurd hh.1 (by omega))
                                                            have f1 : t_FL gi2 (ar0 + 1) 0 (-1) := ⟨by rw [n1.1]; exact f0.1, by rw [n1.2]; exact f0.2⟩
                                                            rcases q7.1 b n _ h1 with hh | hh | hh
                                                            · exact absurd hh.1 (by omega)
                                                            · exact Or.inr ⟨rfl, _, 2, by decide, fun K => by simp only [s_come, s_num, s_kw, s_ifT c1, s_ifF hh.2.1], hh.2.2⟩
                                                            · exact Or.inr ⟨rfl, _, 4, by decide, fun K => by simp only [s_come, s_num, s_kw, s_ifT c1, s_ifT hh.2.1.1, s_ifF hh.2.1.2], hh.2.2⟩), (t_xc.on (t_xc.on t_xc.rf q2.2 (by simp)) q7.2 (by simp))⟩)⟩⟩
    · have r10 : w7.toInt ≠ 0 := fun e => h8 (Int32.toInt_inj.mp (e.trans (by decide : (0:Int) = (0 : Int32).toInt)))
      have l11 : 1 ≤ w7.toInt := t_nel h8 l7 rfl rfl
      refine ev_loc f_X6_readComing (nx := 37) rfl rfl rfl rfl ?_
      refine ev_getR f_X6_readComing (nx := 40) (v := .ref (ar0 + 1)) rfl p_a0.1 rfl rfl ((hC7.1 ar0 0 (t_ninO hI.wf p_a0.1 (t_outO hI.wf p_a0.1 rfl) rfl)).2.2.trans ((hC2.1 ar0 0 (t_ninO hI.wf p_a0.1 (t_outO hI.wf p_a0.1 rfl) rfl)).2.2.trans e1)) rfl rfl ?_
      refine ev_heap f_X6_readComing (nx := 43) rfl rfl rfl rfl ?_
      refine ev_qI f_X6_readComing (nx := 46) (r := []) rfl rfl rfl rfl rfl rfl rfl (c_s_takeTakes hI ((ar0 + 1)) p1) rfl hX rfl (fun w12 gi12 gl12 gr12 l12 u12 hI hX hC12 q12 => ?_)
      have q12 : (∀ (b : Nat → Int32) (n q : Nat), t_TC b n q gi7 gl7 gr7 (ar0 + 1) → (w12.toInt = 1 ∧ s_W b n q = some 9 ∧ t_TC b n (s_E b n q) gi12 gl12 gr12 (ar0 + 1) ∧ t_nf gi7 gi12 (ar0 + 1)) ∨ (w12.toInt = 0 ∧ s_W b n q ≠ some 9 ∧ t_FL gi12 (ar0 + 1) (s_fk b n q 2) (s_F b n q))) ∧ t_on (ar0 + 1) gi7 gl7 gr7 gi12 gl12 gr12 := q12
      replace p_a0 := p_a0.ext hC12.2
      replace p_a1 := p_a1.ext hC12.2
      replace p1 := p1.ext hC12.2
      refine ev_if f_X6_readComing (t1 := 49) (t2 := 51) rfl rfl rfl (fun h13 => ?_) (fun h13 => ?_)
      · have u14 : w12.toInt ≤ 0 := t_equ h13 (by decide : (0:Int32).toInt ≤ (0:Int))
        refine ev_ic f_X6_readComing (nx := 50) (v := 0) rfl (by decide) rfl ?_
        exact ev_ret f_X6_readComing rfl rfl rfl ⟨_, _, _, rfl, hI, hX, ⟨_, rfl, (by decide : (0:Int) ≤ (0:Int32).toInt), (Int.le_trans (by decide : (0:Int32).toInt ≤ (0:Int)) (by decide : (0:Int) ≤ 1)), (show (∀ (b : Nat → Int32) (n q : Nat) (D : s_D), t_TC b n q gi gl gr (ar0 + 1) → t_FL gi (ar0 + 1) 0 (-1) → ((0 : Int) = 1 ∧ ∃ q2 x y z, (∀ K, s_come b n q D K = K q2 x y z) ∧ t_TC b n q2 gi12 gl12 gr12 (ar0 + 1) ∧ t_FL gi12 (ar0 + 1) 0 (-1) ∧ (gi12 ar1 0).toInt = (gi ar1 0).toInt + 1 ∧ t_ru (gi (ar1 + 2)) (gi12 (ar1 + 2)) (gi ar1 0).toNatClampNeg x ∧ t_ru (gi (ar1 + 3)) (gi12 (ar1 + 3)) (gi ar1 0).toNatClampNeg y ∧ t_ru (gi (ar1 + 4)) (gi12 (ar1 + 4)) (gi ar1 0).toNatClampNeg z ∧ t_ru (gi (ar1 + 5)) (gi12 (ar1 + 5)) (gi ar1 0).toNatClampNeg 0) ∨ ((0 : Int) = 0 ∧ ∃ p x, x ≠ 0 ∧ (∀ K, s_come b n q D K = s_bad b n p x D) ∧ t_FL gi12 (ar0 + 1) (s_fk b n p x) (s_F b n p))) ∧ t_xc [ar0 + 1, ar1, ar1 + 1, ar1 + 2, ar1 + 3, ar1 + 4, ar1 + 5] gi gl gr gi12 gl12 gr12 from ⟨(by
                                                            intro b n q D h f0
                                                            have h102 := p_a0.2.1
                                                            obtain ⟨_, c1, h1, n1⟩ := (q2.1 b n _ h).resolve_right (fun hh => absurd hh.1 (by omega))
                                                            have f1 : t_FL gi2 (ar0 + 1) 0 (-1) := ⟨by rw [n1.1]; exact f0.1, by rw [n1.2]; exact f0.2⟩
                                                            obtain ⟨_, c2, h2, n2⟩ := (q7.1 b n _ h1).resolve_right (fun hh => by rcases hh with hh | hh <;> exact absurd hh.1 (by omega))
                                                            have v2 : (gi2 (ar0 + 1) 8).toInt = s_V b n _ := congrArg Int32.toInt (h1.2.2.2.2.2.2.1 c2.1)
                                                            have f2 : t_FL gi7 (ar0 + 1) 0 (-1) := ⟨by rw [n2.1]; exact f1.1, by rw [n2.2]; exact f1.2⟩
                                                            rcases q12.1 b n _ h2 with hh | hh
                                                            · exact absurd hh.1 (by omega)
                                                            · exact Or.inr ⟨rfl, _, 2, by decide, fun K => by simp only [s_come, s_num, s_kw, s_ifT c1, s_ifT c2.1, s_ifT c2, s_ifF hh.2.1], hh.2.2⟩), (t_xc.on (t_xc.on (t_xc.on t_xc.rf q2.2 (by simp)) q7.2 (by simp)) q12.2 (by simp))⟩)⟩⟩
      · have r15 : w12.toInt ≠ 0 := fun e => h13 (Int32.toInt_inj.mp (e.trans (by decide : (0:Int) = (0 : Int32).toInt)))
        have l16 : 1 ≤ w12.toInt := t_nel h13 l12 rfl rfl
        refine ev_loc f_X6_readComing (nx := 52) rfl rfl rfl rfl ?_
        refine ev_getR f_X6_readComing (nx := 55) (v := .ref (ar0 + 1)) rfl p_a0.1 rfl rfl ((hC12.1 ar0 0 (t_ninO hI.wf p_a0.1 (t_outO hI.wf p_a0.1 rfl) rfl)).2.2.trans ((hC7.1 ar0 0 (t_ninO hI.wf p_a0.1 (t_outO hI.wf p_a0.1 rfl) rfl)).2.2.trans ((hC2.1 ar0 0 (t_ninO hI.wf p_a0.1 (t_outO hI.wf p_a0.1 rfl) rfl)).2.2.trans e1))) rfl rfl ?_
        refine ev_getI f_X6_readComing (nx := 58) rfl p1.1 rfl rfl rfl ?_
        refine ev_loc f_X6_readComing (nx := 59) (lo' := [(3, .int (gi12 (ar0 + 1) 8)), (2, .int (gi2 (ar0 + 1) 8)), (0, .ref ar0), (1, .ref ar1)]) rfl rfl rfl rfl ?_
        refine ev_loc f_X6_readComing (nx := 60) rfl rfl rfl rfl ?_
        refine ev_getR f_X6_readComing (nx := 63) (v := .ref (ar0 + 1)) rfl p_a0.1 rfl rfl ((hC12.1 ar0 0 (t_ninO hI.wf p_a0.1 (t_outO hI.wf p_a0.1 rfl) rfl)).2.2.trans ((hC7.1 ar0 0 (t_ninO hI.wf p_a0.1 (t_outO hI.wf p_a0.1 rfl) rfl)).2.2.trans ((hC2.1 ar0 0 (t_ninO hI.wf p_a0.1 (t_outO hI.wf p_a0.1 rfl) rfl)).2.2.trans e1))) rfl rfl ?_
        refine ev_ic f_X6_readComing (nx := 64) (v := 1) rfl (by decide) rfl ?_
        refine ev_bp f_X6_readComing (nx := 66) (v := 20) rfl (by decide) rfl ?_
        refine ev_qI f_X6_readComing (nx := 69) (r := []) rfl rfl rfl rfl rfl rfl rfl (c_s_takeNumber hI ((ar0 + 1)) p1 (1) (20)) rfl hX rfl (fun w17 gi17 gl17 gr17 l17 u17 hI hX hC17 q17 => ?_)
        have q17 : (∀ (b : Nat → Int32) (n q : Nat), t_TC b n q gi12 gl12 gr12 (ar0 + 1) → (w17.toInt = 1 ∧ s_isV b n q 1 20 ∧ t_TC b n (s_E b n q) gi17 gl17 gr17 (ar0 + 1) ∧ t_nf gi12 gi17 (ar0 + 1)) ∨ (w17.toInt = 0 ∧ s_K b n q ≠ 3 ∧ t_FL gi17 (ar0 + 1) (s_fk b n q 2) (s_F b n q)) ∨ (w17.toInt = 0 ∧ (s_K b n q = 3 ∧ ¬ s_isV b n q 1 20) ∧ t_FL gi17 (ar0 + 1) (s_fk b n q 4) (s_F b n q))) ∧ t_on (ar0 + 1) gi12 gl12 gr12 gi17 gl17 gr17 := q17
        replace p_a0 := p_a0.ext hC17.2
        replace p_a1 := p_a1.ext hC17.2
        replace p1 := p1.ext hC17.2
        refine ev_if f_X6_readComing (t1 := 85) (t2 := 72) rfl rfl rfl (fun h18 => ?_) (fun h18 => ?_)
        · have u19 : w17.toInt ≤ 0 := t_equ h18 (by decide : (0:Int32).toInt ≤ (0:Int))
          refine ev_ic f_X6_readComing (nx := 86) (v := 0) rfl (by decide) rfl ?_
          exact ev_ret f_X6_readComing rfl rfl rfl ⟨_, _, _, rfl, hI, hX, ⟨_, rfl, (by decide : (0:Int) ≤ (0:Int32).toInt), (Int.le_trans (by decide : (0:Int32).toInt ≤ (0:Int)) (by decide : (0:Int) ≤ 1)), (show (∀ (b : Nat → Int32) (n q : Nat) (D : s_D), t_TC b n q gi gl gr (ar0 + 1) → t_FL gi (ar0 + 1) 0 (-1) → ((0 : Int) = 1 ∧ ∃ q2 x y z, (∀ K, s_come b n q D K = K q2 x y z) ∧ t_TC b n q2 gi17 gl17 gr17 (ar0 + 1) ∧ t_FL gi17 (ar0 + 1) 0 (-1) ∧ (gi17 ar1 0).toInt = (gi ar1 0).toInt + 1 ∧ t_ru (gi (ar1 + 2)) (gi17 (ar1 + 2)) (gi ar1 0).toNatClampNeg x ∧ t_ru (gi (ar1 + 3)) (gi17 (ar1 + 3)) (gi ar1 0).toNatClampNeg y ∧ t_ru (gi (ar1 + 4)) (gi17 (ar1 + 4)) (gi ar1 0).toNatClampNeg z ∧ t_ru (gi (ar1 + 5)) (gi17 (ar1 + 5)) (gi ar1 0).toNatClampNeg 0) ∨ ((0 : Int) = 0 ∧ ∃ p x, x ≠ 0 ∧ (∀ K, s_come b n q D K = s_bad b n p x D) ∧ t_FL gi17 (ar0 + 1) (s_fk b n p x) (s_F b n p))) ∧ t_xc [ar0 + 1, ar1, ar1 + 1, ar1 + 2, ar1 + 3, ar1 + 4, ar1 + 5] gi gl gr gi17 gl17 gr17 from ⟨(by
                                                            intro b n q D h f0
                                                            have h102 := p_a0.2.1
                                                            obtain ⟨_, c1, h1, n1⟩ := (q2.1 b n _ h).resolve_right (fun hh => absurd hh.1 (by omega))
                                                            have f1 : t_FL gi2 (ar0 + 1) 0 (-1) := ⟨by rw [n1.1]; exact f0.1, by rw [n1.2]; exact f0.2⟩
                                                            obtain ⟨_, c2, h2, n2⟩ := (q7.1 b n _ h1).resolve_right (fun hh => by rcases hh with hh | hh <;> exact absurd hh.1 (by omega))
                                                            have v2 : (gi2 (ar0 + 1) 8).toInt = s_V b n _ := congrArg Int32.toInt (h1.2.2.2.2.2.2.1 c2.1)
                                                            have f2 : t_FL gi7 (ar0 + 1) 0 (-1) := ⟨by rw [n2.1]; exact f1.1, by rw [n2.2]; exact f1.2⟩
                                                            obtain ⟨_, c3, h3, n3⟩ := (q12.1 b n _ h2).resolve_right (fun hh => absurd hh.1 (by omega))
                                                            have f3 : t_FL gi12 (ar0 + 1) 0 (-1) := ⟨by rw [n3.1]; exact f2.1, by rw [n3.2]; exact f2.2⟩
                                                            rcases q17.1 b n _ h3 with hh | hh | hh
                                                            · exact absurd hh.1 (by omega)
                                                            · exact Or.inr ⟨rfl, _, 2, by decide, fun K => by simp only [s_come, s_num, s_kw, s_ifT c1, s_ifT c2.1, s_ifT c2, s_ifT c3, s_ifF hh.2.1], hh.2.2⟩
                                                            · exact Or.inr ⟨rfl, _, 4, by decide, fun K => by simp only [s_come, s_num, s_kw, s_ifT c1, s_ifT c2.1, s_ifT c2, s_ifT c3, s_ifT hh.2.1.1, s_ifF hh.2.1.2], hh.2.2⟩), (t_xc.on (t_xc.on (t_xc.on (t_xc.on t_xc.rf q2.2 (by simp)) q7.2 (by simp)) q12.2 (by simp)) q17.2 (by simp))⟩)⟩⟩
        · have r20 : w17.toInt ≠ 0 := fun e => h18 (Int32.toInt_inj.mp (e.trans (by decide : (0:Int) = (0 : Int32).toInt)))
          have l21 : 1 ≤ w17.toInt := t_nel h18 l17 rfl rfl
          refine ev_loc f_X6_readComing (nx := 73) rfl rfl rfl rfl ?_
          refine ev_getR f_X6_readComing (nx := 76) (v := .ref (ar0 + 1)) rfl p_a0.1 rfl rfl ((hC17.1 ar0 0 (t_ninO hI.wf p_a0.1 (t_outO hI.wf p_a0.1 rfl) rfl)).2.2.trans ((hC12.1 ar0 0 (t_ninO hI.wf p_a0.1 (t_outO hI.wf p_a0.1 rfl) rfl)).2.2.trans ((hC7.1 ar0 0 (t_ninO hI.wf p_a0.1 (t_outO hI.wf p_a0.1 rfl) rfl)).2.2.trans ((hC2.1 ar0 0 (t_ninO hI.wf p_a0.1 (t_outO hI.wf p_a0.1 rfl) rfl)).2.2.trans e1)))) rfl rfl ?_
          refine ev_heap f_X6_readComing (nx := 79) rfl rfl rfl rfl ?_
          refine ev_qI f_X6_readComing (nx := 82) (r := []) rfl rfl rfl rfl rfl rfl rfl (c_s_takeCosts hI ((ar0 + 1)) p1) rfl hX rfl (fun w22 gi22 gl22 gr22 l22 u22 hI hX hC22 q22 => ?_)
          have q22 : (∀ (b : Nat → Int32) (n q : Nat), t_TC b n q gi17 gl17 gr17 (ar0 + 1) → (w22.toInt = 1 ∧ s_W b n q = some 10 ∧ t_TC b n (s_E b n q) gi22 gl22 gr22 (ar0 + 1) ∧ t_nf gi17 gi22 (ar0 + 1)) ∨ (w22.toInt = 0 ∧ s_W b n q ≠ some 10 ∧ t_FL gi22 (ar0 + 1) (s_fk b n q 2) (s_F b n q))) ∧ t_on (ar0 + 1) gi17 gl17 gr17 gi22 gl22 gr22 := q22
          replace p_a0 := p_a0.ext hC22.2
          replace p_a1 := p_a1.ext hC22.2
          replace p1 := p1.ext hC22.2
          refine ev_if f_X6_readComing (t1 := 85) (t2 := 87) rfl rfl rfl (fun h23 => ?_) (fun h23 => ?_)
          · have u24 : w22.toInt ≤ 0 := t_equ h23 (by decide : (0:Int32).toInt ≤ (0:Int))
            refine ev_ic f_X6_readComing (nx := 86) (v := 0) rfl (by decide) rfl ?_
            exact ev_ret f_X6_readComing rfl rfl rfl ⟨_, _, _, rfl, hI, hX, ⟨_, rfl, (by decide : (0:Int) ≤ (0:Int32).toInt), (Int.le_trans (by decide : (0:Int32).toInt ≤ (0:Int)) (by decide : (0:Int) ≤ 1)), (show (∀ (b : Nat → Int32) (n q : Nat) (D : s_D), t_TC b n q gi gl gr (ar0 + 1) → t_FL gi (ar0 + 1) 0 (-1) → ((0 : Int) = 1 ∧ ∃ q2 x y z, (∀ K, s_come b n q D K = K q2 x y z) ∧ t_TC b n q2 gi22 gl22 gr22 (ar0 + 1) ∧ t_FL gi22 (ar0 + 1) 0 (-1) ∧ (gi22 ar1 0).toInt = (gi ar1 0).toInt + 1 ∧ t_ru (gi (ar1 + 2)) (gi22 (ar1 + 2)) (gi ar1 0).toNatClampNeg x ∧ t_ru (gi (ar1 + 3)) (gi22 (ar1 + 3)) (gi ar1 0).toNatClampNeg y ∧ t_ru (gi (ar1 + 4)) (gi22 (ar1 + 4)) (gi ar1 0).toNatClampNeg z ∧ t_ru (gi (ar1 + 5)) (gi22 (ar1 + 5)) (gi ar1 0).toNatClampNeg 0) ∨ ((0 : Int) = 0 ∧ ∃ p x, x ≠ 0 ∧ (∀ K, s_come b n q D K = s_bad b n p x D) ∧ t_FL gi22 (ar0 + 1) (s_fk b n p x) (s_F b n p))) ∧ t_xc [ar0 + 1, ar1, ar1 + 1, ar1 + 2, ar1 + 3, ar1 + 4, ar1 + 5] gi gl gr gi22 gl22 gr22 from ⟨(by
                                                            intro b n q D h f0
                                                            have h102 := p_a0.2.1
                                                            obtain ⟨_, c1, h1, n1⟩ := (q2.1 b n _ h).resolve_right (fun hh => absurd hh.1 (by omega))
                                                            have f1 : t_FL gi2 (ar0 + 1) 0 (-1) := ⟨by rw [n1.1]; exact f0.1, by rw [n1.2]; exact f0.2⟩
                                                            obtain ⟨_, c2, h2, n2⟩ := (q7.1 b n _ h1).resolve_right (fun hh => by rcases hh with hh | hh <;> exact absurd hh.1 (by omega))
                                                            have v2 : (gi2 (ar0 + 1) 8).toInt = s_V b n _ := congrArg Int32.toInt (h1.2.2.2.2.2.2.1 c2.1)
                                                            have f2 : t_FL gi7 (ar0 + 1) 0 (-1) := ⟨by rw [n2.1]; exact f1.1, by rw [n2.2]; exact f1.2⟩
                                                            obtain ⟨_, c3, h3, n3⟩ := (q12.1 b n _ h2).resolve_right (fun hh => absurd hh.1 (by omega))
                                                            have f3 : t_FL gi12 (ar0 + 1) 0 (-1) := ⟨by rw [n3.1]; exact f2.1, by rw [n3.2]; exact f2.2⟩
                                                            obtain ⟨_, c4, h4, n4⟩ := (q17.1 b n _ h3).resolve_right (fun hh => by rcases hh with hh | hh <;> exact absurd hh.1 (by omega))
                                                            have v4 : (gi12 (ar0 + 1) 8).toInt = s_V b n _ := congrArg Int32.toInt (h3.2.2.2.2.2.2.1 c4.1)
                                                            have f4 : t_FL gi17 (ar0 + 1) 0 (-1) := ⟨by rw [n4.1]; exact f3.1, by rw [n4.2]; exact f3.2⟩
                                                            rcases q22.1 b n _ h4 with hh | hh
                                                            · exact absurd hh.1 (by omega)
                                                            · exact Or.inr ⟨rfl, _, 2, by decide, fun K => by simp only [s_come, s_num, s_kw, s_ifT c1, s_ifT c2.1, s_ifT c2, s_ifT c3, s_ifT c4.1, s_ifT c4, s_ifF hh.2.1], hh.2.2⟩), (t_xc.on (t_xc.on (t_xc.on (t_xc.on (t_xc.on t_xc.rf q2.2 (by simp)) q7.2 (by simp)) q12.2 (by simp)) q17.2 (by simp)) q22.2 (by simp))⟩)⟩⟩
          · have r25 : w22.toInt ≠ 0 := fun e => h23 (Int32.toInt_inj.mp (e.trans (by decide : (0:Int) = (0 : Int32).toInt)))
            have l26 : 1 ≤ w22.toInt := t_nel h23 l22 rfl rfl
            refine ev_loc f_X6_readComing (nx := 88) rfl rfl rfl rfl ?_
            refine ev_getR f_X6_readComing (nx := 91) (v := .ref (ar0 + 1)) rfl p_a0.1 rfl rfl ((hC22.1 ar0 0 (t_ninO hI.wf p_a0.1 (t_outO hI.wf p_a0.1 rfl) rfl)).2.2.trans ((hC17.1 ar0 0 (t_ninO hI.wf p_a0.1 (t_outO hI.wf p_a0.1 rfl) rfl)).2.2.trans ((hC12.1 ar0 0 (t_ninO hI.wf p_a0.1 (t_outO hI.wf p_a0.1 rfl) rfl)).2.2.trans ((hC7.1 ar0 0 (t_ninO hI.wf p_a0.1 (t_outO hI.wf p_a0.1 rfl) rfl)).2.2.trans ((hC2.1 ar0 0 (t_ninO hI.wf p_a0.1 (t_outO hI.wf p_a0.1 rfl) rfl)).2.2.trans e1))))) rfl rfl ?_
            refine ev_getI f_X6_readComing (nx := 94) rfl p1.1 rfl rfl rfl ?_
            refine ev_loc f_X6_readComing (nx := 96) (lo' := [(4, .int (gi22 (ar0 + 1) 8)), (3, .int (gi12 (ar0 + 1) 8)), (2, .int (gi2 (ar0 + 1) 8)), (0, .ref ar0), (1, .ref ar1)]) rfl rfl rfl rfl ?_
            refine ev_loc f_X6_readComing (nx := 97) rfl rfl rfl rfl ?_
            refine ev_getR f_X6_readComing (nx := 100) (v := .ref (ar0 + 1)) rfl p_a0.1 rfl rfl ((hC22.1 ar0 0 (t_ninO hI.wf p_a0.1 (t_outO hI.wf p_a0.1 rfl) rfl)).2.2.trans ((hC17.1 ar0 0 (t_ninO hI.wf p_a0.1 (t_outO hI.wf p_a0.1 rfl) rfl)).2.2.trans ((hC12.1 ar0 0 (t_ninO hI.wf p_a0.1 (t_outO hI.wf p_a0.1 rfl) rfl)).2.2.trans ((hC7.1 ar0 0 (t_ninO hI.wf p_a0.1 (t_outO hI.wf p_a0.1 rfl) rfl)).2.2.trans ((hC2.1 ar0 0 (t_ninO hI.wf p_a0.1 (t_outO hI.wf p_a0.1 rfl) rfl)).2.2.trans e1))))) rfl rfl ?_
            refine ev_ic f_X6_readComing (nx := 101) (v := 0) rfl (by decide) rfl ?_
            refine ev_bp f_X6_readComing (nx := 103) (v := 99) rfl (by decide) rfl ?_
            refine ev_qI f_X6_readComing (nx := 106) (r := []) rfl rfl rfl rfl rfl rfl rfl (c_s_takeNumber hI ((ar0 + 1)) p1 (0) (99)) rfl hX rfl (fun w27 gi27 gl27 gr27 l27 u27 hI hX hC27 q27 => ?_)
            have q27 : (∀ (b : Nat → Int32) (n q : Nat), t_TC b n q gi22 gl22 gr22 (ar0 + 1) → (w27.toInt = 1 ∧ s_isV b n q 0 99 ∧ t_TC b n (s_E b n q) gi27 gl27 gr27 (ar0 + 1) ∧ t_nf gi22 gi27 (ar0 + 1)) ∨ (w27.toInt = 0 ∧ s_K b n q ≠ 3 ∧ t_FL gi27 (ar0 + 1) (s_fk b n q 2) (s_F b n q)) ∨ (w27.toInt = 0 ∧ (s_K b n q = 3 ∧ ¬ s_isV b n q 0 99) ∧ t_FL gi27 (ar0 + 1) (s_fk b n q 4) (s_F b n q))) ∧ t_on (ar0 + 1) gi22 gl22 gr22 gi27 gl27 gr27 := q27
            replace p_a0 := p_a0.ext hC27.2
            replace p_a1 := p_a1.ext hC27.2
            replace p1 := p1.ext hC27.2
            refine ev_if f_X6_readComing (t1 := 109) (t2 := 111) rfl rfl rfl (fun h28 => ?_) (fun h28 => ?_)
            · have u29 : w27.toInt ≤ 0 := t_equ h28 (by decide : (0:Int32).toInt ≤ (0:Int))
              refine ev_ic f_X6_readComing (nx := 110) (v := 0) rfl (by decide) rfl ?_
              exact ev_ret f_X6_readComing rfl rfl rfl ⟨_, _, _, rfl, hI, hX, ⟨_, rfl, (by decide : (0:Int) ≤ (0:Int32).toInt), (Int.le_trans (by decide : (0:Int32).toInt ≤ (0:Int)) (by decide : (0:Int) ≤ 1)), (show (∀ (b : Nat → Int32) (n q : Nat) (D : s_D), t_TC b n q gi gl gr (ar0 + 1) → t_FL gi (ar0 + 1) 0 (-1) → ((0 : Int) = 1 ∧ ∃ q2 x y z, (∀ K, s_come b n q D K = K q2 x y z) ∧ t_TC b n q2 gi27 gl27 gr27 (ar0 + 1) ∧ t_FL gi27 (ar0 + 1) 0 (-1) ∧ (gi27 ar1 0).toInt = (gi ar1 0).toInt + 1 ∧ t_ru (gi (ar1 + 2)) (gi27 (ar1 + 2)) (gi ar1 0).toNatClampNeg x ∧ t_ru (gi (ar1 + 3)) (gi27 (ar1 + 3)) (gi ar1 0).toNatClampNeg y ∧ t_ru (gi (ar1 + 4)) (gi27 (ar1 + 4)) (gi ar1 0).toNatClampNeg z ∧ t_ru (gi (ar1 + 5)) (gi27 (ar1 + 5)) (gi ar1 0).toNatClampNeg 0) ∨ ((0 : Int) = 0 ∧ ∃ p x, x ≠ 0 ∧ (∀ K, s_come b n q D K = s_bad b n p x D) ∧ t_FL gi27 (ar0 + 1) (s_fk b n p x) (s_F b n p))) ∧ t_xc [ar0 + 1, ar1, ar1 + 1, ar1 + 2, ar1 + 3, ar1 + 4, ar1 + 5] gi gl gr gi27 gl27 gr27 from ⟨(by
                                                            intro b n q D h f0
                                                            have h102 := p_a0.2.1
                                                            obtain ⟨_, c1, h1, n1⟩ := (q2.1 b n _ h).resolve_right (fun hh => absurd hh.1 (by omega))
                                                            have f1 : t_FL gi2 (ar0 + 1) 0 (-1) := ⟨by rw [n1.1]; exact f0.1, by rw [n1.2]; exact f0.2⟩
                                                            obtain ⟨_, c2, h2, n2⟩ := (q7.1 b n _ h1).resolve_right (fun hh => by rcases hh with hh | hh <;> exact absurd hh.1 (by omega))
                                                            have v2 : (gi2 (ar0 + 1) 8).toInt = s_V b n _ := congrArg Int32.toInt (h1.2.2.2.2.2.2.1 c2.1)
                                                            have f2 : t_FL gi7 (ar0 + 1) 0 (-1) := ⟨by rw [n2.1]; exact f1.1, by rw [n2.2]; exact f1.2⟩
                                                            obtain ⟨_, c3, h3, n3⟩ := (q12.1 b n _ h2).resolve_right (fun hh => absurd hh.1 (by omega))
                                                            have f3 : t_FL gi12 (ar0 + 1) 0 (-1) := ⟨by rw [n3.1]; exact f2.1, by rw [n3.2]; exact f2.2⟩
                                                            obtain ⟨_, c4, h4, n4⟩ := (q17.1 b n _ h3).resolve_right (fun hh => by rcases hh with hh | hh <;> exact absurd hh.1 (by omega))
                                                            have v4 : (gi12 (ar0 + 1) 8).toInt = s_V b n _ := congrArg Int32.toInt (h3.2.2.2.2.2.2.1 c4.1)
                                                            have f4 : t_FL gi17 (ar0 + 1) 0 (-1) := ⟨by rw [n4.1]; exact f3.1, by rw [n4.2]; exact f3.2⟩
                                                            obtain ⟨_, c5, h5, n5⟩ := (q22.1 b n _ h4).resolve_right (fun hh => absurd hh.1 (by omega))
                                                            have f5 : t_FL gi22 (ar0 + 1) 0 (-1) := ⟨by rw [n5.1]; exact f4.1, by rw [n5.2]; exact f4.2⟩
                                                            rcases q27.1 b n _ h5 with hh | hh | hh
                                                            · exact absurd hh.1 (by omega)
                                                            · exact Or.inr ⟨rfl, _, 2, by decide, fun K => by simp only [s_come, s_num, s_kw, s_ifT c1, s_ifT c2.1, s_ifT c2, s_ifT c3, s_ifT c4.1, s_ifT c4, s_ifT c5, s_ifF hh.2.1], hh.2.2⟩
                                                            · exact Or.inr ⟨rfl, _, 4, by decide, fun K => by simp only [s_come, s_num, s_kw, s_ifT c1, s_ifT c2.1, s_ifT c2, s_ifT c3, s_ifT c4.1, s_ifT c4, s_ifT c5, s_ifT hh.2.1.1, s_ifF hh.2.1.2], hh.2.2⟩), (t_xc.on (t_xc.on (t_xc.on (t_xc.on (t_xc.on (t_xc.on t_xc.rf q2.2 (by simp)) q7.2 (by simp)) q12.2 (by simp)) q17.2 (by simp)) q22.2 (by simp)) q27.2 (by simp))⟩)⟩⟩
            · have r30 : w27.toInt ≠ 0 := fun e => h28 (Int32.toInt_inj.mp (e.trans (by decide : (0:Int) = (0 : Int32).toInt)))
              have l31 : 1 ≤ w27.toInt := t_nel h28 l27 rfl rfl
              refine ev_loc f_X6_readComing (nx := 112) rfl rfl rfl rfl ?_
              refine ev_loc f_X6_readComing (nx := 113) rfl rfl rfl rfl ?_
              refine ev_gvI f_X6_readComing (nx := 116) (w := (gi ar1 0)) rfl p_a1.1 rfl rfl ((hC27.1 ar1 0 (t_ninO hI.wf p_a1.1 (t_outO hI.wf p_a1.1 rfl) rfl)).1.trans ((hC22.1 ar1 0 (t_ninO hI.wf p_a1.1 (t_outO hI.wf p_a1.1 rfl) rfl)).1.trans ((hC17.1 ar1 0 (t_ninO hI.wf p_a1.1 (t_outO hI.wf p_a1.1 rfl) rfl)).1.trans ((hC12.1 ar1 0 (t_ninO hI.wf p_a1.1 (t_outO hI.wf p_a1.1 rfl) rfl)).1.trans ((hC7.1 ar1 0 (t_ninO hI.wf p_a1.1 (t_outO hI.wf p_a1.1 rfl) rfl)).1.trans ((hC2.1 ar1 0 (t_ninO hI.wf p_a1.1 (t_outO hI.wf p_a1.1 rfl) rfl)).1.trans rfl)))))) rfl ?_
              refine ev_loc f_X6_readComing (nx := 117) rfl rfl rfl rfl ?_
              refine ev_gvI f_X6_readComing (nx := 120) (w := (gi ar1 0)) rfl p_a1.1 rfl rfl ((hC27.1 ar1 0 (t_ninO hI.wf p_a1.1 (t_outO hI.wf p_a1.1 rfl) rfl)).1.trans ((hC22.1 ar1 0 (t_ninO hI.wf p_a1.1 (t_outO hI.wf p_a1.1 rfl) rfl)).1.trans ((hC17.1 ar1 0 (t_ninO hI.wf p_a1.1 (t_outO hI.wf p_a1.1 rfl) rfl)).1.trans ((hC12.1 ar1 0 (t_ninO hI.wf p_a1.1 (t_outO hI.wf p_a1.1 rfl) rfl)).1.trans ((hC7.1 ar1 0 (t_ninO hI.wf p_a1.1 (t_outO hI.wf p_a1.1 rfl) rfl)).1.trans ((hC2.1 ar1 0 (t_ninO hI.wf p_a1.1 (t_outO hI.wf p_a1.1 rfl) rfl)).1.trans rfl)))))) rfl ?_
              refine ev_loc f_X6_readComing (nx := 121) rfl rfl rfl rfl ?_
              refine ev_loc f_X6_readComing (nx := 122) rfl rfl rfl rfl ?_
              refine ev_loc f_X6_readComing (nx := 124) rfl rfl rfl rfl ?_
              refine ev_ic f_X6_readComing (nx := 125) (v := 0) rfl (by decide) rfl ?_
              refine ev_qN f_X6_readComing (nx := 128) (r := []) rfl rfl rfl rfl rfl rfl rfl (c_s_put hI (ar1) p_a1 ((gi ar1 0)) ((gi ar1 0)) ((gi2 (ar0 + 1) 8)) ((gi12 (ar0 + 1) 8)) ((gi22 (ar0 + 1) 8)) (0) (by decide : (0:Int) ≤ (0:Int32).toInt) (Int.le_trans (by decide : (0:Int32).toInt ≤ (0:Int)) (by decide : (0:Int) ≤ 1))) rfl hX rfl (fun gi32 gl32 gr32 hI hX hC32 q32 => ?_)
              have q32 : (((gi ar1 0).toInt < 0 ∨ 6 ≤ (gi ar1 0).toInt) → gi32 = gi27) ∧ ((0 ≤ (gi ar1 0).toInt ∧ (gi ar1 0).toInt < 6) → gi32 = x_up2 (x_up2 (x_up2 (x_up2 (x_up2 (gi27) (ar1 + 1) (gi ar1 0).toNatClampNeg (gi ar1 0)) (ar1 + 2) (gi ar1 0).toNatClampNeg (gi2 (ar0 + 1) 8)) (ar1 + 3) (gi ar1 0).toNatClampNeg (gi12 (ar0 + 1) 8)) (ar1 + 4) (gi ar1 0).toNatClampNeg (gi22 (ar0 + 1) 8)) (ar1 + 5) (gi ar1 0).toNatClampNeg (0 : Int32)) ∧ gl32 = gl27 ∧ gr32 = gr27 := q32
              replace p_a0 := p_a0.ext hC32.2
              replace p_a1 := p_a1.ext hC32.2
              replace p1 := p1.ext hC32.2
              refine ev_loc f_X6_readComing (nx := 129) rfl rfl rfl rfl ?_
              refine ev_alu f_X6_readComing (nx := 130) rfl rfl rfl rfl ?_
              refine ev_gvI f_X6_readComing (nx := 133) (w := (gi ar1 0)) rfl p_a1.1 rfl rfl ((hC32.1 ar1 0 (t_ninO hI.wf p_a1.1 (t_outO hI.wf p_a1.1 rfl) rfl)).1.trans ((hC27.1 ar1 0 (t_ninO hI.wf p_a1.1 (t_outO hI.wf p_a1.1 rfl) rfl)).1.trans ((hC22.1 ar1 0 (t_ninO hI.wf p_a1.1 (t_outO hI.wf p_a1.1 rfl) rfl)).1.trans ((hC17.1 ar1 0 (t_ninO hI.wf p_a1.1 (t_outO hI.wf p_a1.1 rfl) rfl)).1.trans ((hC12.1 ar1 0 (t_ninO hI.wf p_a1.1 (t_outO hI.wf p_a1.1 rfl) rfl)).1.trans ((hC7.1 ar1 0 (t_ninO hI.wf p_a1.1 (t_outO hI.wf p_a1.1 rfl) rfl)).1.trans ((hC2.1 ar1 0 (t_ninO hI.wf p_a1.1 (t_outO hI.wf p_a1.1 rfl) rfl)).1.trans rfl))))))) rfl ?_
              refine ev_ic f_X6_readComing (nx := 134) (v := 1) rfl (by decide) rfl ?_
              refine ev_addC f_X6_readComing (nx := 135) (c := 1) (l := 1) (u := 6) rfl (by decide) lw0 e_p0 rfl rfl (by decide) (by decide) rfl (fun z33 e33 l33 u33 => ?_)
              refine ev_putIT f_X6_readComing (nx := 138) rfl p_a1.1 rfl rfl rfl (hI.putB p_a1.1 rfl rfl l33 (by decide) u33 (by decide)) (hX.upI (t_inO hI.wf p_a1.1 (t_outO hI.wf p_a1.1 rfl) rfl)) (fun g34 e34 hI hX => ?_)
              refine ev_ic f_X6_readComing (nx := 139) (v := 1) rfl (by decide) rfl ?_
              exact ev_ret f_X6_readComing rfl rfl rfl ⟨_, _, _, rfl, hI, hX, ⟨_, rfl, (Int.le_trans (by decide : (0:Int) ≤ 1) (by decide : (1:Int) ≤ (1:Int32).toInt)), (by decide : (1:Int32).toInt ≤ (1:Int)), (show (∀ (b : Nat → Int32) (n q : Nat) (D : s_D), t_TC b n q gi gl gr (ar0 + 1) → t_FL gi (ar0 + 1) 0 (-1) → ((1 : Int) = 1 ∧ ∃ q2 x y z, (∀ K, s_come b n q D K = K q2 x y z) ∧ t_TC b n q2 g34 gl32 gr32 (ar0 + 1) ∧ t_FL g34 (ar0 + 1) 0 (-1) ∧ (g34 ar1 0).toInt = (gi ar1 0).toInt + 1 ∧ t_ru (gi (ar1 + 2)) (g34 (ar1 + 2)) (gi ar1 0).toNatClampNeg x ∧ t_ru (gi (ar1 + 3)) (g34 (ar1 + 3)) (gi ar1 0).toNatClampNeg y ∧ t_ru (gi (ar1 + 4)) (g34 (ar1 + 4)) (gi ar1 0).toNatClampNeg z ∧ t_ru (gi (ar1 + 5)) (g34 (ar1 + 5)) (gi ar1 0).toNatClampNeg 0) ∨ ((1 : Int) = 0 ∧ ∃ p x, x ≠ 0 ∧ (∀ K, s_come b n q D K = s_bad b n p x D) ∧ t_FL g34 (ar0 + 1) (s_fk b n p x) (s_F b n p))) ∧ t_xc [ar0 + 1, ar1, ar1 + 1, ar1 + 2, ar1 + 3, ar1 + 4, ar1 + 5] gi gl gr g34 gl32 gr32 from ⟨(by
                                                            intro b n q D h f0
                                                            have h102 := p_a0.2.1
                                                            obtain ⟨_, c1, h1, n1⟩ := (q2.1 b n _ h).resolve_right (fun hh => absurd hh.1 (by omega))
                                                            have f1 : t_FL gi2 (ar0 + 1) 0 (-1) := ⟨by rw [n1.1]; exact f0.1, by rw [n1.2]; exact f0.2⟩
                                                            obtain ⟨_, c2, h2, n2⟩ := (q7.1 b n _ h1).resolve_right (fun hh => by rcases hh with hh | hh <;> exact absurd hh.1 (by omega))
                                                            have v2 : (gi2 (ar0 + 1) 8).toInt = s_V b n _ := congrArg Int32.toInt (h1.2.2.2.2.2.2.1 c2.1)
                                                            have f2 : t_FL gi7 (ar0 + 1) 0 (-1) := ⟨by rw [n2.1]; exact f1.1, by rw [n2.2]; exact f1.2⟩
                                                            obtain ⟨_, c3, h3, n3⟩ := (q12.1 b n _ h2).resolve_right (fun hh => absurd hh.1 (by omega))
                                                            have f3 : t_FL gi12 (ar0 + 1) 0 (-1) := ⟨by rw [n3.1]; exact f2.1, by rw [n3.2]; exact f2.2⟩
                                                            obtain ⟨_, c4, h4, n4⟩ := (q17.1 b n _ h3).resolve_right (fun hh => by rcases hh with hh | hh <;> exact absurd hh.1 (by omega))
                                                            have v4 : (gi12 (ar0 + 1) 8).toInt = s_V b n _ := congrArg Int32.toInt (h3.2.2.2.2.2.2.1 c4.1)
                                                            have f4 : t_FL gi17 (ar0 + 1) 0 (-1) := ⟨by rw [n4.1]; exact f3.1, by rw [n4.2]; exact f3.2⟩
                                                            obtain ⟨_, c5, h5, n5⟩ := (q22.1 b n _ h4).resolve_right (fun hh => absurd hh.1 (by omega))
                                                            have f5 : t_FL gi22 (ar0 + 1) 0 (-1) := ⟨by rw [n5.1]; exact f4.1, by rw [n5.2]; exact f4.2⟩
                                                            obtain ⟨_, c6, h6, n6⟩ := (q27.1 b n _ h5).resolve_right (fun hh => by rcases hh with hh | hh <;> exact absurd hh.1 (by omega))
                                                            have v6 : (gi22 (ar0 + 1) 8).toInt = s_V b n _ := congrArg Int32.toInt (h5.2.2.2.2.2.2.1 c6.1)
                                                            have f6 : t_FL gi27 (ar0 + 1) 0 (-1) := ⟨by rw [n6.1]; exact f5.1, by rw [n6.2]; exact f5.2⟩
                                                            have hP := q32.2.1 (by omega)
                                                            obtain ⟨u2, u3, u4, u5, u0⟩ := t_put5 hP
                                                            have hw : ∀ K, K ≠ ar0 + 1 → gi27 K = gi K := fun K hK => by rw [(q27.2 K hK).1, (q22.2 K hK).1, (q17.2 K hK).1, (q12.2 K hK).1, (q7.2 K hK).1, (q2.2 K hK).1]
                                                            have ha : ∀ K, K ≠ ar1 → g34 K = gi32 K := fun K hK => by rw [e34, x_up2_ne hK]
                                                            have g2 : g34 2 = gi27 2 := by rw [ha _ (by omega), u0 _ (by omega)]
                                                            have g1 : g34 (ar0 + 1) = gi27 (ar0 + 1) := by rw [ha _ (by omega), u0 _ (by omega)]
                                                            exact Or.inl ⟨rfl, _, _, _, _, fun K => by simp only [s_come, s_num, s_kw, s_ifT c1, s_ifT c2.1, s_ifT c2, s_ifT c3, s_ifT c4.1, s_ifT c4, s_ifT c5, s_ifT c6.1, s_ifT c6], h6.eq g2 g1 (by rw [q32.2.2.1]) (by rw [q32.2.2.2]), by rw [t_FL, g1]; exact f6, (by rw [e34, x_up2_at]; exact (by omega)), t_ru_of (fun j => by rw [ha _ (by omega), u2 j, hw _ (by omega)]) v2, t_ru_of (fun j => by rw [ha _ (by omega), u3 j, hw _ (by omega)]) v4, t_ru_of (fun j => by rw [ha _ (by omega), u4 j, hw _ (by omega)]) v6, t_ru_of (fun j => by rw [ha _ (by omega), u5 j, hw _ (by omega)]) rfl⟩), (t_xc.I (t_xc.tr (t_xc.on (t_xc.on (t_xc.on (t_xc.on (t_xc.on (t_xc.on t_xc.rf q2.2 (by simp)) q7.2 (by simp)) q12.2 (by simp)) q17.2 (by simp)) q22.2 (by simp)) q27.2 (by simp)) (t_put_xc (q32.2.1 (by omega)) q32.2.2.1 q32.2.2.2) (by simp)) (by simp) e34)⟩)⟩⟩
/-! ===== printed by riv.py: the RIVER of the class ===== -/
noncomputable def wl_s_readShip : List (Nat × Nat) := [(6, 0), (7, 9999), (8, 9999), (9, 9999), (10, 9999), (11, 9999), (12, 9999), (13, 0), (14, 9999), (15, 9999), (16, 9999), (17, 9999), (18, 9999), (29, 0), (30, 9999), (31, 9999), (32, 9999), (33, 9999), (34, 9999), (35, 0), (36, 9999), (37, 9999), (38, 9999), (39, 9999), (40, 9999), (43, 9999), (44, 9999), (46, 0), (47, 9999), (48, 9999), (49, 9999), (50, 9999), (51, 9999), (52, 0), (53, 9999), (54, 9999), (55, 9999), (56, 9999), (57, 9999), (58, 9999), (59, 9999), (113, 0), (115, 4), (118, 2), (118, 3), (118, 4), (118, 5), (118, 6), (118, 7), (118, 8), (118, 9), (118, 10), (118, 11), (130, 9999), (131, 9999), (133, 9999)]
noncomputable def Q_s_readShip (gi : Nat → Nat → Int32) (gl : Nat → Nat → Int64) (gr : Nat → Nat → Value) (ar0 : Nat) : Int32 → (Nat → Nat → Int32) → (Nat → Nat → Int64) → (Nat → Nat → Value) → Prop := fun (v : Int32) (gi2 : Nat → Nat → Int32) (gl2 : Nat → Nat → Int64) (gr2 : Nat → Nat → Value) => (∀ (b : Nat → Int32) (n q : Nat) (D : s_D), t_CN b n q D gi gl gr ar0 → (v.toInt = 1 ∧ ∃ q2 D2, s_ship b n q D = s_ok q2 D2 ∧ t_CN b n q2 D2 gi2 gl2 gr2 ar0) ∨ (v.toInt = 0 ∧ ∃ p x D2, x ≠ 0 ∧ s_ship b n q D = s_bad b n p x D2 ∧ t_FL gi2 (ar0 + 1) (s_fk b n p x) (s_F b n p))) ∧ t_lq ar0 gi gl gr gi2 gl2 gr2
theorem c_s_readShip {X : x_Ext} {d : Nat} {sh : List (Nat ⊕ (Nat × Nat))} {gi : Nat → Nat → Int32} {gl : Nat → Nat → Int64} {gr : Nat → Nat → Value} (hI : t_I sh gi gr) (ar0 : Nat) (p_a0 : t_RQ sh gr ar0) : x_Me X (d + 5) n_X6_readShip [.ref ar0] (sh, gi, gl, gr) (t_PI wl_s_readShip sh gi gl gr 0 1 (Q_s_readShip gi gl gr ar0)) := by
  have hX : t_X wl_s_readShip sh gi gl gr gi gl gr := t_X.rf
  refine me_i f_X6_readShip p_a0.1 rfl rfl rfl ?_
  refine ev_loc f_X6_readShip (nx := 1) rfl rfl rfl rfl ?_
  have e1 := p_a0.2.2.2.2.2.1
  have p1 := p_a0.2.2.2.2.2.2
  refine ev_getR f_X6_readShip (nx := 4) rfl p_a0.1 rfl rfl e1 rfl rfl ?_
  have e2 := p1.2.2.2.2.2.1.1
  have p2 := p1.2.2.2.2.2.1.2
  refine ev_getR f_X6_readShip (nx := 7) rfl p1.1 rfl rfl e2 rfl rfl ?_
  refine ev_getI f_X6_readShip (nx := 10) rfl p2.1 rfl rfl rfl ?_
  obtain ⟨l3, u3⟩ := hI.b p2.1 (t_bdK rfl : t_bd 3 0 = some (0, 6))
  refine ev_loc f_X6_readShip (nx := 11) (lo' := [(1, .int (gi (ar0 + 2 + 3) 0)), (0, .ref ar0)]) rfl rfl rfl rfl ?_
  refine ev_loc f_X6_readShip (nx := 12) rfl rfl rfl rfl ?_
  refine ev_bp f_X6_readShip (nx := 14) (v := 6) rfl (by decide) rfl ?_
  refine ev_if f_X6_readShip (t1 := 27) (t2 := 17) rfl rfl rfl (fun h4 => ?_) (fun h4 => ?_)
  · have u5 : (gi (ar0 + 2 + 3) 0).toInt ≤ 5 := t_ltu h4 (by decide : (6:Int32).toInt ≤ (6:Int)) rfl
    refine ev_loc f_X6_readShip (nx := 28) rfl rfl rfl rfl ?_
    have e6 := p_a0.2.2.2.2.1.1
    have p6 := p_a0.2.2.2.2.1.2
    refine ev_getR f_X6_readShip (nx := 31) rfl p_a0.1 rfl rfl e6 rfl rfl ?_
    refine ev_qN f_X6_readShip (nx := 34) (r := []) rfl rfl rfl rfl rfl rfl rfl (c_s_step hI ((ar0 + 1)) p6) rfl hX rfl (fun gi7 gl7 gr7 hI hX hC7 q7 => ?_)
    have q7 : (∀ (b : Nat → Int32) (n q : Nat), t_Sp b n q gi (ar0 + 1) → t_TC b n q gi7 gl7 gr7 (ar0 + 1)) ∧ t_nf gi gi7 (ar0 + 1) ∧ t_on (ar0 + 1) gi gl gr gi7 gl7 gr7 := q7
    replace p_a0 := p_a0.ext hC7.2
    replace p1 := p1.ext hC7.2
    replace p2 := p2.ext hC7.2
    replace p6 := p6.ext hC7.2
    refine ev_loc f_X6_readShip (nx := 35) rfl rfl rfl rfl ?_
    refine ev_qI f_X6_readShip (nx := 38) (r := []) rfl rfl rfl rfl rfl rfl rfl (c_s_takeNewName hI (ar0) p_a0) rfl hX rfl (fun w8 gi8 gl8 gr8 l8 u8 hI hX hC8 q8 => ?_)
    have q8 : (∀ (b : Nat → Int32) (n q : Nat) (D : s_D) (m : Int) (P : Int → Prop), t_CS b n q D m P gi7 gl7 gr7 ar0 → m < 18 → (w8.toInt = 1 ∧ s_isN b n q ∧ ¬ P (s_L b n q).toInt ∧ t_CS b n (s_E b n q) D (m + 1) (fun x => P x ∨ x = (s_L b n q).toInt) gi8 gl8 gr8 ar0) ∨ (w8.toInt = 0 ∧ ¬ s_isN b n q ∧ t_FL gi8 (ar0 + 1) (s_fk b n q 2) (s_F b n q)) ∨ (w8.toInt = 0 ∧ s_isN b n q ∧ P (s_L b n q).toInt ∧ t_FL gi8 (ar0 + 1) (s_fk b n q 3) (s_F b n q))) ∧ t_xc [ar0, ar0 + 1, ar0 + 19] gi7 gl7 gr7 gi8 gl8 gr8 := q8
    replace p_a0 := p_a0.ext hC8.2
    replace p1 := p1.ext hC8.2
    replace p2 := p2.ext hC8.2
    replace p6 := p6.ext hC8.2
    refine ev_if f_X6_readShip (t1 := 54) (t2 := 41) rfl rfl rfl (fun h9 => ?_) (fun h9 => ?_)
    · have u10 : w8.toInt ≤ 0 := t_equ h9 (by decide : (0:Int32).toInt ≤ (0:Int))
      refine ev_ic f_X6_readShip (nx := 55) (v := 0) rfl (by decide) rfl ?_
      exact ev_ret f_X6_readShip rfl rfl rfl ⟨_, _, _, rfl, hI, hX, ⟨_, rfl, (by decide : (0:Int) ≤ (0:Int32).toInt), (Int.le_trans (by decide : (0:Int32).toInt ≤ (0:Int)) (by decide : (0:Int) ≤ 1)), (show (∀ (b : Nat → Int32) (n q : Nat) (D : s_D), t_CN b n q D gi gl gr ar0 → ((0 : Int) = 1 ∧ ∃ q2 D2, s_ship b n q D = s_ok q2 D2 ∧ t_CN b n q2 D2 gi8 gl8 gr8 ar0) ∨ ((0 : Int) = 0 ∧ ∃ p x D2, x ≠ 0 ∧ s_ship b n q D = s_bad b n p x D2 ∧ t_FL gi8 (ar0 + 1) (s_fk b n p x) (s_F b n p))) ∧ t_lq ar0 gi gl gr gi8 gl8 gr8 from ⟨(by
                                                            intro b n q D h
                                                            have h102 := p_a0.2.1
                                                            have h : t_CS b n q D (D 0 + D 1 + D 2) (s_used D) gi gl gr ar0 := h
                                                            obtain ⟨⟨hb1, hb2⟩, ⟨hb3, hb4⟩, hb5, hb6⟩ := h.2.1.1
                                                            have hp : (gi (ar0 + 2 + 3) 0).toInt = D 1 := h.2.1.2.2.2.2.1.1
                                                            have h1 := h.on (q7.1 b n _ h.1.S) q7.2.1 q7.2.2
                                                            rcases q8.1 b n _ D _ _ h1 (by omega) with hh | hh | hh
                                                            · exact absurd hh.1 (by omega)
                                                            · exact Or.inr ⟨rfl, _, 2, D, by decide, by simp only [s_ship, s_name, s_kw, s_ifF (show ¬ D 1 = 6 by omega), s_ifF hh.2.1], hh.2.2⟩
                                                            · exact Or.inr ⟨rfl, _, 3, D, by decide, by simp only [s_ship, s_name, s_kw, s_ifF (show ¬ D 1 = 6 by omega), s_ifT hh.2.1, s_ifT hh.2.2.1], hh.2.2.2⟩), (t_lq.ex (t_lq.on t_lq.rf q7.2.2 (by omega)) q8.2 (by intro x hx; simp only [List.mem_cons, List.not_mem_nil, or_false] at hx; omega))⟩)⟩⟩
    · have r11 : w8.toInt ≠ 0 := fun e => h9 (Int32.toInt_inj.mp (e.trans (by decide : (0:Int) = (0 : Int32).toInt)))
      have l12 : 1 ≤ w8.toInt := t_nel h9 l8 rfl rfl
      refine ev_loc f_X6_readShip (nx := 42) rfl rfl rfl rfl ?_
      refine ev_getR f_X6_readShip (nx := 45) (v := .ref (ar0 + 1)) rfl p_a0.1 rfl rfl ((hC8.1 ar0 0 (t_ninO hI.wf p_a0.1 (t_outO hI.wf p_a0.1 rfl) rfl)).2.2.trans ((hC7.1 ar0 0 (t_ninO hI.wf p_a0.1 (t_outO hI.wf p_a0.1 rfl) rfl)).2.2.trans e6)) rfl rfl ?_
      refine ev_heap f_X6_readShip (nx := 48) rfl rfl rfl rfl ?_
      refine ev_qI f_X6_readShip (nx := 51) (r := []) rfl rfl rfl rfl rfl rfl rfl (c_s_takeOf hI ((ar0 + 1)) p6) rfl hX rfl (fun w13 gi13 gl13 gr13 l13 u13 hI hX hC13 q13 => ?_)
      have q13 : (∀ (b : Nat → Int32) (n q : Nat), t_TC b n q gi8 gl8 gr8 (ar0 + 1) → (w13.toInt = 1 ∧ s_W b n q = some 7 ∧ t_TC b n (s_E b n q) gi13 gl13 gr13 (ar0 + 1) ∧ t_nf gi8 gi13 (ar0 + 1)) ∨ (w13.toInt = 0 ∧ s_W b n q ≠ some 7 ∧ t_FL gi13 (ar0 + 1) (s_fk b n q 2) (s_F b n q))) ∧ t_on (ar0 + 1) gi8 gl8 gr8 gi13 gl13 gr13 := q13
      replace p_a0 := p_a0.ext hC13.2
      replace p1 := p1.ext hC13.2
      replace p2 := p2.ext hC13.2
      replace p6 := p6.ext hC13.2
      refine ev_if f_X6_readShip (t1 := 54) (t2 := 56) rfl rfl rfl (fun h14 => ?_) (fun h14 => ?_)
      · have u15 : w13.toInt ≤ 0 := t_equ h14 (by decide : (0:Int32).toInt ≤ (0:Int))
        refine ev_ic f_X6_readShip (nx := 55) (v := 0) rfl (by decide) rfl ?_
        exact ev_ret f_X6_readShip rfl rfl rfl ⟨_, _, _, rfl, hI, hX, ⟨_, rfl, (by decide : (0:Int) ≤ (0:Int32).toInt), (Int.le_trans (by decide : (0:Int32).toInt ≤ (0:Int)) (by decide : (0:Int) ≤ 1)), (show (∀ (b : Nat → Int32) (n q : Nat) (D : s_D), t_CN b n q D gi gl gr ar0 → ((0 : Int) = 1 ∧ ∃ q2 D2, s_ship b n q D = s_ok q2 D2 ∧ t_CN b n q2 D2 gi13 gl13 gr13 ar0) ∨ ((0 : Int) = 0 ∧ ∃ p x D2, x ≠ 0 ∧ s_ship b n q D = s_bad b n p x D2 ∧ t_FL gi13 (ar0 + 1) (s_fk b n p x) (s_F b n p))) ∧ t_lq ar0 gi gl gr gi13 gl13 gr13 from ⟨(by
                                                            intro b n q D h
                                                            have h102 := p_a0.2.1
                                                            have h : t_CS b n q D (D 0 + D 1 + D 2) (s_used D) gi gl gr ar0 := h
                                                            obtain ⟨⟨hb1, hb2⟩, ⟨hb3, hb4⟩, hb5, hb6⟩ := h.2.1.1
                                                            have hp : (gi (ar0 + 2 + 3) 0).toInt = D 1 := h.2.1.2.2.2.2.1.1
                                                            have h1 := h.on (q7.1 b n _ h.1.S) q7.2.1 q7.2.2
                                                            obtain ⟨_, hN, hU, h3⟩ := (q8.1 b n _ D _ _ h1 (by omega)).resolve_right (fun hh => by rcases hh with hh | hh <;> exact absurd hh.1 (by omega))
                                                            rcases q13.1 b n _ h3.1 with hh | hh
                                                            · exact absurd hh.1 (by omega)
                                                            · exact Or.inr ⟨rfl, _, 2, D, by decide, by simp only [s_ship, s_name, s_kw, s_ifF (show ¬ D 1 = 6 by omega), s_ifT hN, s_ifF hU, s_ifF hh.2.1], hh.2.2⟩), (t_lq.on (t_lq.ex (t_lq.on t_lq.rf q7.2.2 (by omega)) q8.2 (by intro x hx; simp only [List.mem_cons, List.not_mem_nil, or_false] at hx; omega)) q13.2 (by omega))⟩)⟩⟩
      · have r16 : w13.toInt ≠ 0 := fun e => h14 (Int32.toInt_inj.mp (e.trans (by decide : (0:Int) = (0 : Int32).toInt)))
        have l17 : 1 ≤ w13.toInt := t_nel h14 l13 rfl rfl
        refine ev_loc f_X6_readShip (nx := 57) rfl rfl rfl rfl ?_
        refine ev_getR f_X6_readShip (nx := 60) (v := .ref (ar0 + 1)) rfl p_a0.1 rfl rfl ((hC13.1 ar0 0 (t_ninO hI.wf p_a0.1 (t_outO hI.wf p_a0.1 rfl) rfl)).2.2.trans ((hC8.1 ar0 0 (t_ninO hI.wf p_a0.1 (t_outO hI.wf p_a0.1 rfl) rfl)).2.2.trans ((hC7.1 ar0 0 (t_ninO hI.wf p_a0.1 (t_outO hI.wf p_a0.1 rfl) rfl)).2.2.trans e6))) rfl rfl ?_
        refine ev_qI0 f_X6_readShip (nx := 63) (r := []) rfl rfl rfl rfl rfl rfl rfl (c_s_isName hI ((ar0 + 1)) p6) rfl (fun w18 l18 u18 q18 => ?_)
        have q18 : ∀ (b : Nat → Int32) (n q : Nat), t_TC b n q gi13 gl13 gr13 (ar0 + 1) → (w18.toInt = 1 ↔ s_isN b n q) := q18
        refine ev_if f_X6_readShip (t1 := 66) (t2 := 75) rfl rfl rfl (fun h19 => ?_) (fun h19 => ?_)
        · have u20 : w18.toInt ≤ 0 := t_equ h19 (by decide : (0:Int32).toInt ≤ (0:Int))
          refine ev_loc f_X6_readShip (nx := 67) rfl rfl rfl rfl ?_
          refine ev_getR f_X6_readShip (nx := 70) (v := .ref (ar0 + 1)) rfl p_a0.1 rfl rfl ((hC13.1 ar0 0 (t_ninO hI.wf p_a0.1 (t_outO hI.wf p_a0.1 rfl) rfl)).2.2.trans ((hC8.1 ar0 0 (t_ninO hI.wf p_a0.1 (t_outO hI.wf p_a0.1 rfl) rfl)).2.2.trans ((hC7.1 ar0 0 (t_ninO hI.wf p_a0.1 (t_outO hI.wf p_a0.1 rfl) rfl)).2.2.trans e6))) rfl rfl ?_
          refine ev_ic f_X6_readShip (nx := 71) (v := 2) rfl (by decide) rfl ?_
          refine ev_qI f_X6_readShip (nx := 74) (r := []) rfl rfl rfl rfl rfl rfl rfl (c_s_refuse hI ((ar0 + 1)) p6 (2) (by decide : (2:Int) ≤ (2:Int32).toInt) (Int.le_trans (by decide : (2:Int32).toInt ≤ (2:Int)) (by decide : (2:Int) ≤ 7))) rfl hX rfl (fun w21 gi21 gl21 gr21 l21 u21 hI hX hC21 q21 => ?_)
          have q21 : (∀ (b : Nat → Int32) (n q : Nat), t_TC b n q gi13 gl13 gr13 (ar0 + 1) → t_FL gi21 (ar0 + 1) (s_fk b n q 2) (s_F b n q)) ∧ w21.toInt = 0 ∧ t_on (ar0 + 1) gi13 gl13 gr13 gi21 gl21 gr21 := q21
          replace p_a0 := p_a0.ext hC21.2
          replace p1 := p1.ext hC21.2
          replace p2 := p2.ext hC21.2
          replace p6 := p6.ext hC21.2
          exact ev_retZ f_X6_readShip rfl l21 (Int.le_trans u21 (by decide : (0:Int) ≤ 1)) ⟨_, _, _, rfl, hI, hX, ⟨_, rfl, l21, (Int.le_trans u21 (by decide : (0:Int) ≤ 1)), (show (∀ (b : Nat → Int32) (n q : Nat) (D : s_D), t_CN b n q D gi gl gr ar0 → (w21.toInt = 1 ∧ ∃ q2 D2, s_ship b n q D = s_ok q2 D2 ∧ t_CN b n q2 D2 gi21 gl21 gr21 ar0) ∨ (w21.toInt = 0 ∧ ∃ p x D2, x ≠ 0 ∧ s_ship b n q D = s_bad b n p x D2 ∧ t_FL gi21 (ar0 + 1) (s_fk b n p x) (s_F b n p))) ∧ t_lq ar0 gi gl gr gi21 gl21 gr21 from ⟨(by
                                                            intro b n q D h
                                                            have h102 := p_a0.2.1
                                                            have h : t_CS b n q D (D 0 + D 1 + D 2) (s_used D) gi gl gr ar0 := h
                                                            obtain ⟨⟨hb1, hb2⟩, ⟨hb3, hb4⟩, hb5, hb6⟩ := h.2.1.1
                                                            have hp : (gi (ar0 + 2 + 3) 0).toInt = D 1 := h.2.1.2.2.2.2.1.1
                                                            have h1 := h.on (q7.1 b n _ h.1.S) q7.2.1 q7.2.2
                                                            obtain ⟨_, hN, hU, h3⟩ := (q8.1 b n _ D _ _ h1 (by omega)).resolve_right (fun hh => by rcases hh with hh | hh <;> exact absurd hh.1 (by omega))
                                                            obtain ⟨hv13, hW13, ht13, hf13⟩ := (q13.1 b n _ h3.1).resolve_right (fun hh => absurd hh.1 (by omega))
                                                            have h4 := h3.on ht13 hf13 q13.2
                                                            have hM : ¬ s_isN b n _ := fun hh => absurd ((q18 b n _ h4.1).mpr hh) (by omega)
                                                            exact Or.inr ⟨q21.2.1, _, 2, D, by decide, by simp only [s_ship, s_name, s_kw, s_ifF (show ¬ D 1 = 6 by omega), s_ifT hN, s_ifF hU, s_ifT hW13, s_ifF hM], q21.1 b n _ h4.1⟩), (t_lq.on (t_lq.on (t_lq.ex (t_lq.on t_lq.rf q7.2.2 (by omega)) q8.2 (by intro x hx; simp only [List.mem_cons, List.not_mem_nil, or_false] at hx; omega)) q13.2 (by omega)) q21.2.2 (by omega))⟩)⟩⟩
        · have r22 : w18.toInt ≠ 0 := fun e => h19 (Int32.toInt_inj.mp (e.trans (by decide : (0:Int) = (0 : Int32).toInt)))
          have l23 : 1 ≤ w18.toInt := t_nel h19 l18 rfl rfl
          refine ev_loc f_X6_readShip (nx := 76) rfl rfl rfl rfl ?_
          refine ev_loc f_X6_readShip (nx := 77) rfl rfl rfl rfl ?_
          refine ev_getR f_X6_readShip (nx := 80) (v := .ref (ar0 + 1)) rfl p_a0.1 rfl rfl ((hC13.1 ar0 0 (t_ninO hI.wf p_a0.1 (t_outO hI.wf p_a0.1 rfl) rfl)).2.2.trans ((hC8.1 ar0 0 (t_ninO hI.wf p_a0.1 (t_outO hI.wf p_a0.1 rfl) rfl)).2.2.trans ((hC7.1 ar0 0 (t_ninO hI.wf p_a0.1 (t_outO hI.wf p_a0.1 rfl) rfl)).2.2.trans e6))) rfl rfl ?_
          refine ev_getL f_X6_readShip (nx := 83) rfl p6.1 rfl rfl rfl ?_
          refine ev_qI0 f_X6_readShip (nx := 86) (r := []) rfl rfl rfl rfl rfl rfl rfl (c_s_portNamed hI (ar0) p_a0 ((gl13 (ar0 + 1) 6))) rfl (fun w24 l24 u24 q24 => ?_)
          have q24 : ∀ (b : Nat → Int32) (n q : Nat) (D : s_D) (m : Int) (P : Int → Prop), t_CS b n q D m P gi13 gl13 gr13 ar0 → w24.toInt = s_fst (fun i => D (200 + i)) (gl13 (ar0 + 1) 6).toInt (D 0).toNat 0 := q24
          refine ev_loc f_X6_readShip (nx := 87) (lo' := [(2, .int w24), (1, .int (gi (ar0 + 2 + 3) 0)), (0, .ref ar0)]) rfl rfl rfl rfl ?_
          refine ev_loc f_X6_readShip (nx := 88) rfl rfl rfl rfl ?_
          refine ev_ic f_X6_readShip (nx := 89) (v := -1) rfl (by decide) rfl ?_
          refine ev_if f_X6_readShip (t1 := 92) (t2 := 101) rfl rfl rfl (fun h25 => ?_) (fun h25 => ?_)
          · have u26 : w24.toInt ≤ (-1) := t_equ h25 (by decide : ((-1):Int32).toInt ≤ ((-1):Int))
            refine ev_loc f_X6_readShip (nx := 93) rfl rfl rfl rfl ?_
            refine ev_getR f_X6_readShip (nx := 96) (v := .ref (ar0 + 1)) rfl p_a0.1 rfl rfl ((hC13.1 ar0 0 (t_ninO hI.wf p_a0.1 (t_outO hI.wf p_a0.1 rfl) rfl)).2.2.trans ((hC8.1 ar0 0 (t_ninO hI.wf p_a0.1 (t_outO hI.wf p_a0.1 rfl) rfl)).2.2.trans ((hC7.1 ar0 0 (t_ninO hI.wf p_a0.1 (t_outO hI.wf p_a0.1 rfl) rfl)).2.2.trans e6))) rfl rfl ?_
            refine ev_ic f_X6_readShip (nx := 97) (v := 3) rfl (by decide) rfl ?_
            refine ev_qI f_X6_readShip (nx := 100) (r := []) rfl rfl rfl rfl rfl rfl rfl (c_s_refuse hI ((ar0 + 1)) p6 (3) (Int.le_trans (by decide : (2:Int) ≤ 3) (by decide : (3:Int) ≤ (3:Int32).toInt)) (Int.le_trans (by decide : (3:Int32).toInt ≤ (3:Int)) (by decide : (3:Int) ≤ 7))) rfl hX rfl (fun w27 gi27 gl27 gr27 l27 u27 hI hX hC27 q27 => ?_)
            have q27 : (∀ (b : Nat → Int32) (n q : Nat), t_TC b n q gi13 gl13 gr13 (ar0 + 1) → t_FL gi27 (ar0 + 1) (s_fk b n q 3) (s_F b n q)) ∧ w27.toInt = 0 ∧ t_on (ar0 + 1) gi13 gl13 gr13 gi27 gl27 gr27 := q27
            replace p_a0 := p_a0.ext hC27.2
            replace p1 := p1.ext hC27.2
            replace p2 := p2.ext hC27.2
            replace p6 := p6.ext hC27.2
            exact ev_retZ f_X6_readShip rfl l27 (Int.le_trans u27 (by decide : (0:Int) ≤ 1)) ⟨_, _, _, rfl, hI, hX, ⟨_, rfl, l27, (Int.le_trans u27 (by decide : (0:Int) ≤ 1)), (show (∀ (b : Nat → Int32) (n q : Nat) (D : s_D), t_CN b n q D gi gl gr ar0 → (w27.toInt = 1 ∧ ∃ q2 D2, s_ship b n q D = s_ok q2 D2 ∧ t_CN b n q2 D2 gi27 gl27 gr27 ar0) ∨ (w27.toInt = 0 ∧ ∃ p x D2, x ≠ 0 ∧ s_ship b n q D = s_bad b n p x D2 ∧ t_FL gi27 (ar0 + 1) (s_fk b n p x) (s_F b n p))) ∧ t_lq ar0 gi gl gr gi27 gl27 gr27 from ⟨(by
                                                            intro b n q D h
                                                            have h102 := p_a0.2.1
                                                            have h : t_CS b n q D (D 0 + D 1 + D 2) (s_used D) gi gl gr ar0 := h
                                                            obtain ⟨⟨hb1, hb2⟩, ⟨hb3, hb4⟩, hb5, hb6⟩ := h.2.1.1
                                                            have hp : (gi (ar0 + 2 + 3) 0).toInt = D 1 := h.2.1.2.2.2.2.1.1
                                                            have h1 := h.on (q7.1 b n _ h.1.S) q7.2.1 q7.2.2
                                                            obtain ⟨_, hN, hU, h3⟩ := (q8.1 b n _ D _ _ h1 (by omega)).resolve_right (fun hh => by rcases hh with hh | hh <;> exact absurd hh.1 (by omega))
                                                            obtain ⟨hv13, hW13, ht13, hf13⟩ := (q13.1 b n _ h3.1).resolve_right (fun hh => absurd hh.1 (by omega))
                                                            have h4 := h3.on ht13 hf13 q13.2
                                                            have hM := (q18 b n _ h4.1).mp (by omega)
                                                            have hL : (gl13 (ar0 + 1) 6) = s_L b n (s_E b n (s_E b n (s_E b n q))) := (h4.1.2.2.2.2.2.1 hM.1).2
                                                            have hG : w24.toInt = s_fp D (s_L b n (s_E b n (s_E b n (s_E b n q)))).toInt := by rw [← hL]; exact q24 b n _ D _ _ h4
                                                            exact Or.inr ⟨q27.2.1, _, 3, D, by decide, by simp only [s_ship, s_name, s_kw, s_ifF (show ¬ D 1 = 6 by omega), s_ifT hN, s_ifF hU, s_ifT hW13, s_ifT hM, s_ifT (show s_fp D (s_L b n (s_E b n (s_E b n (s_E b n q)))).toInt = -1 by omega)], q27.1 b n _ h4.1⟩), (t_lq.on (t_lq.on (t_lq.ex (t_lq.on t_lq.rf q7.2.2 (by omega)) q8.2 (by intro x hx; simp only [List.mem_cons, List.not_mem_nil, or_false] at hx; omega)) q13.2 (by omega)) q27.2.2 (by omega))⟩)⟩⟩
          · have r28 : w24.toInt ≠ (-1) := fun e => h25 (Int32.toInt_inj.mp (e.trans (by decide : ((-1):Int) = ((-1) : Int32).toInt)))
            have l29 : 0 ≤ w24.toInt := t_nel h25 l24 rfl rfl
            refine ev_loc f_X6_readShip (nx := 102) rfl rfl rfl rfl ?_
            refine ev_getR f_X6_readShip (nx := 105) (v := .ref (ar0 + 1)) rfl p_a0.1 rfl rfl ((hC13.1 ar0 0 (t_ninO hI.wf p_a0.1 (t_outO hI.wf p_a0.1 rfl) rfl)).2.2.trans ((hC8.1 ar0 0 (t_ninO hI.wf p_a0.1 (t_outO hI.wf p_a0.1 rfl) rfl)).2.2.trans ((hC7.1 ar0 0 (t_ninO hI.wf p_a0.1 (t_outO hI.wf p_a0.1 rfl) rfl)).2.2.trans e6))) rfl rfl ?_
            refine ev_qN f_X6_readShip (nx := 108) (r := []) rfl rfl rfl rfl rfl rfl rfl (c_s_step hI ((ar0 + 1)) p6) rfl hX rfl (fun gi30 gl30 gr30 hI hX hC30 q30 => ?_)
            have q30 : (∀ (b : Nat → Int32) (n q : Nat), t_Sp b n q gi13 (ar0 + 1) → t_TC b n q gi30 gl30 gr30 (ar0 + 1)) ∧ t_nf gi13 gi30 (ar0 + 1) ∧ t_on (ar0 + 1) gi13 gl13 gr13 gi30 gl30 gr30 := q30
            replace p_a0 := p_a0.ext hC30.2
            replace p1 := p1.ext hC30.2
            replace p2 := p2.ext hC30.2
            replace p6 := p6.ext hC30.2
            refine ev_loc f_X6_readShip (nx := 109) rfl rfl rfl rfl ?_
            refine ev_getR f_X6_readShip (nx := 112) (v := .ref (ar0 + 2)) rfl p_a0.1 rfl rfl ((hC30.1 ar0 1 (t_ninO hI.wf p_a0.1 (t_outO hI.wf p_a0.1 rfl) rfl)).2.2.trans ((hC13.1 ar0 1 (t_ninO hI.wf p_a0.1 (t_outO hI.wf p_a0.1 rfl) rfl)).2.2.trans ((hC8.1 ar0 1 (t_ninO hI.wf p_a0.1 (t_outO hI.wf p_a0.1 rfl) rfl)).2.2.trans ((hC7.1 ar0 1 (t_ninO hI.wf p_a0.1 (t_outO hI.wf p_a0.1 rfl) rfl)).2.2.trans e1)))) rfl rfl ?_
            have e31 := p1.2.2.2.2.1.1
            have p31 := p1.2.2.2.2.1.2
            refine ev_getR f_X6_readShip (nx := 115) rfl p1.1 rfl rfl e31 rfl rfl ?_
            refine ev_loc f_X6_readShip (nx := 116) rfl rfl rfl rfl ?_
            refine ev_loc f_X6_readShip (nx := 117) rfl rfl rfl rfl ?_
            refine ev_iastT f_X6_readShip (nx := 118) rfl p31 l3 (by decide) u5 (by decide) rfl (hI.astO p31 (Or.inr (by have := p1.2.1; omega)) (by decide +kernel)) (hX.upI (t_inOA hI.wf p31 (Or.inr (by have := p1.2.1; omega)) rfl)) (fun g32 e32 hI hX => ?_)
            refine ev_loc f_X6_readShip (nx := 119) rfl rfl rfl rfl ?_
            refine ev_loc f_X6_readShip (nx := 120) rfl rfl rfl rfl ?_
            refine ev_getR f_X6_readShip (nx := 123) (v := .ref (ar0 + 2)) rfl p_a0.1 rfl rfl ((hC30.1 ar0 1 (t_ninO hI.wf p_a0.1 (t_outO hI.wf p_a0.1 rfl) rfl)).2.2.trans ((hC13.1 ar0 1 (t_ninO hI.wf p_a0.1 (t_outO hI.wf p_a0.1 rfl) rfl)).2.2.trans ((hC8.1 ar0 1 (t_ninO hI.wf p_a0.1 (t_outO hI.wf p_a0.1 rfl) rfl)).2.2.trans ((hC7.1 ar0 1 (t_ninO hI.wf p_a0.1 (t_outO hI.wf p_a0.1 rfl) rfl)).2.2.trans e1)))) rfl rfl ?_
            refine ev_getR f_X6_readShip (nx := 126) (v := .ref (ar0 + 2 + 3)) rfl p1.1 rfl rfl ((hC30.1 (ar0 + 2) 7 (t_ninO hI.wf p1.1 (t_outO hI.wf p1.1 rfl) rfl)).2.2.trans ((hC13.1 (ar0 + 2) 7 (t_ninO hI.wf p1.1 (t_outO hI.wf p1.1 rfl) rfl)).2.2.trans ((hC8.1 (ar0 + 2) 7 (t_ninO hI.wf p1.1 (t_outO hI.wf p1.1 rfl) rfl)).2.2.trans ((hC7.1 (ar0 + 2) 7 (t_ninO hI.wf p1.1 (t_outO hI.wf p1.1 rfl) rfl)).2.2.trans e2)))) rfl rfl ?_
            refine ev_qI f_X6_readShip (nx := 129) (r := []) rfl rfl rfl rfl rfl rfl rfl (c_s_readComing hI (ar0) p_a0 ((ar0 + 2 + 3)) p2 (by have ff2 : (g32 (ar0 + 2 + 3) 0).toInt = (gi (ar0 + 2 + 3) 0).toInt := congrArg Int32.toInt ((by rw [e32]; exact x_up2_off (Or.inl (t_noobj p31 p2.1)) : g32 (ar0 + 2 + 3) 0 = gi30 (ar0 + 2 + 3) 0).trans ((hC30.1 (ar0 + 2 + 3) 0 (t_ninO hI.wf p2.1 (t_outO hI.wf p2.1 rfl) rfl)).1.trans ((hC13.1 (ar0 + 2 + 3) 0 (t_ninO hI.wf p2.1 (t_outO hI.wf p2.1 rfl) rfl)).1.trans ((hC8.1 (ar0 + 2 + 3) 0 (t_ninO hI.wf p2.1 (t_outO hI.wf p2.1 rfl) rfl)).1.trans ((hC7.1 (ar0 + 2 + 3) 0 (t_ninO hI.wf p2.1 (t_outO hI.wf p2.1 rfl) rfl)).1.trans rfl))))); omega) (by omega)) rfl hX rfl (fun w33 gi33 gl33 gr33 l33 u33 hI hX hC33 q33 => ?_)
            have q33 : (∀ (b : Nat → Int32) (n q : Nat) (D : s_D), t_TC b n q g32 gl30 gr30 (ar0 + 1) → t_FL g32 (ar0 + 1) 0 (-1) → (w33.toInt = 1 ∧ ∃ q2 x y z, (∀ K, s_come b n q D K = K q2 x y z) ∧ t_TC b n q2 gi33 gl33 gr33 (ar0 + 1) ∧ t_FL gi33 (ar0 + 1) 0 (-1) ∧ (gi33 (ar0 + 2 + 3) 0).toInt = (g32 (ar0 + 2 + 3) 0).toInt + 1 ∧ t_ru (g32 ((ar0 + 2 + 3) + 2)) (gi33 ((ar0 + 2 + 3) + 2)) (g32 (ar0 + 2 + 3) 0).toNatClampNeg x ∧ t_ru (g32 ((ar0 + 2 + 3) + 3)) (gi33 ((ar0 + 2 + 3) + 3)) (g32 (ar0 + 2 + 3) 0).toNatClampNeg y ∧ t_ru (g32 ((ar0 + 2 + 3) + 4)) (gi33 ((ar0 + 2 + 3) + 4)) (g32 (ar0 + 2 + 3) 0).toNatClampNeg z ∧ t_ru (g32 ((ar0 + 2 + 3) + 5)) (gi33 ((ar0 + 2 + 3) + 5)) (g32 (ar0 + 2 + 3) 0).toNatClampNeg 0) ∨ (w33.toInt = 0 ∧ ∃ p x, x ≠ 0 ∧ (∀ K, s_come b n q D K = s_bad b n p x D) ∧ t_FL gi33 (ar0 + 1) (s_fk b n p x) (s_F b n p))) ∧ t_xc [ar0 + 1, (ar0 + 2 + 3), (ar0 + 2 + 3) + 1, (ar0 + 2 + 3) + 2, (ar0 + 2 + 3) + 3, (ar0 + 2 + 3) + 4, (ar0 + 2 + 3) + 5] g32 gl30 gr30 gi33 gl33 gr33 := q33
            replace p_a0 := p_a0.ext hC33.2
            replace p1 := p1.ext hC33.2
            replace p2 := p2.ext hC33.2
            replace p6 := p6.ext hC33.2
            refine ev_if f_X6_readShip (t1 := 132) (t2 := 134) rfl rfl rfl (fun h34 => ?_) (fun h34 => ?_)
            · have u35 : w33.toInt ≤ 0 := t_equ h34 (by decide : (0:Int32).toInt ≤ (0:Int))
              refine ev_ic f_X6_readShip (nx := 133) (v := 0) rfl (by decide) rfl ?_
              exact ev_ret f_X6_readShip rfl rfl rfl ⟨_, _, _, rfl, hI, hX, ⟨_, rfl, (by decide : (0:Int) ≤ (0:Int32).toInt), (Int.le_trans (by decide : (0:Int32).toInt ≤ (0:Int)) (by decide : (0:Int) ≤ 1)), (show (∀ (b : Nat → Int32) (n q : Nat) (D : s_D), t_CN b n q D gi gl gr ar0 → ((0 : Int) = 1 ∧ ∃ q2 D2, s_ship b n q D = s_ok q2 D2 ∧ t_CN b n q2 D2 gi33 gl33 gr33 ar0) ∨ ((0 : Int) = 0 ∧ ∃ p x D2, x ≠ 0 ∧ s_ship b n q D = s_bad b n p x D2 ∧ t_FL gi33 (ar0 + 1) (s_fk b n p x) (s_F b n p))) ∧ t_lq ar0 gi gl gr gi33 gl33 gr33 from ⟨(by
                                                            intro b n q D h
                                                            have h102 := p_a0.2.1
                                                            have h : t_CS b n q D (D 0 + D 1 + D 2) (s_used D) gi gl gr ar0 := h
                                                            obtain ⟨⟨hb1, hb2⟩, ⟨hb3, hb4⟩, hb5, hb6⟩ := h.2.1.1
                                                            have hp : (gi (ar0 + 2 + 3) 0).toInt = D 1 := h.2.1.2.2.2.2.1.1
                                                            have h1 := h.on (q7.1 b n _ h.1.S) q7.2.1 q7.2.2
                                                            obtain ⟨_, hN, hU, h3⟩ := (q8.1 b n _ D _ _ h1 (by omega)).resolve_right (fun hh => by rcases hh with hh | hh <;> exact absurd hh.1 (by omega))
                                                            obtain ⟨hv13, hW13, ht13, hf13⟩ := (q13.1 b n _ h3.1).resolve_right (fun hh => absurd hh.1 (by omega))
                                                            have h4 := h3.on ht13 hf13 q13.2
                                                            have hM := (q18 b n _ h4.1).mp (by omega)
                                                            have hL : (gl13 (ar0 + 1) 6) = s_L b n (s_E b n (s_E b n (s_E b n q))) := (h4.1.2.2.2.2.2.1 hM.1).2
                                                            have hG : w24.toInt = s_fp D (s_L b n (s_E b n (s_E b n (s_E b n q)))).toInt := by rw [← hL]; exact q24 b n _ D _ _ h4
                                                            have h5 := h4.on (q30.1 b n _ h4.1.S) q30.2.1 q30.2.2
                                                            have hA : ∀ K, K ≠ ar0 + 2 + 9 → g32 K = gi30 K := fun K hK => by rw [e32, x_up2_ne hK]
                                                            have hT0 := h5.1.eq (g1 := g32) (l1 := gl30) (r1 := gr30) (hA _ (by omega)) (hA _ (by omega)) rfl rfl
                                                            have hF0 : t_FL g32 (ar0 + 1) 0 (-1) := by rw [t_FL, hA _ (by omega)]; exact h5.2.2
                                                            rcases q33.1 b n _ D hT0 hF0 with hh | hh
                                                            · exact absurd hh.1 (by omega)
                                                            · obtain ⟨_, p, x, hx, hK, hf⟩ := hh
                                                              exact Or.inr ⟨rfl, p, x, D, hx, by simp only [s_ship, s_name, s_kw, s_ifF (show ¬ D 1 = 6 by omega), s_ifT hN, s_ifF hU, s_ifT hW13, s_ifT hM, s_ifF (show ¬ s_fp D (s_L b n (s_E b n (s_E b n (s_E b n q)))).toInt = -1 by omega), hK], hf⟩), (t_lq.ex (t_lq.I (t_lq.on (t_lq.on (t_lq.ex (t_lq.on t_lq.rf q7.2.2 (by omega)) q8.2 (by intro x hx; simp only [List.mem_cons, List.not_mem_nil, or_false] at hx; omega)) q13.2 (by omega)) q30.2.2 (by omega)) (by omega) e32) q33.2 (by intro x hx; simp only [List.mem_cons, List.not_mem_nil, or_false] at hx; omega))⟩)⟩⟩
            · have r36 : w33.toInt ≠ 0 := fun e => h34 (Int32.toInt_inj.mp (e.trans (by decide : (0:Int) = (0 : Int32).toInt)))
              have l37 : 1 ≤ w33.toInt := t_nel h34 l33 rfl rfl
              refine ev_loc f_X6_readShip (nx := 135) rfl rfl rfl rfl ?_
              refine ev_getR f_X6_readShip (nx := 138) (v := .ref (ar0 + 1)) rfl p_a0.1 rfl rfl ((hC33.1 ar0 0 (t_ninO hI.wf p_a0.1 (t_outO hI.wf p_a0.1 rfl) rfl)).2.2.trans ((hC30.1 ar0 0 (t_ninO hI.wf p_a0.1 (t_outO hI.wf p_a0.1 rfl) rfl)).2.2.trans ((hC13.1 ar0 0 (t_ninO hI.wf p_a0.1 (t_outO hI.wf p_a0.1 rfl) rfl)).2.2.trans ((hC8.1 ar0 0 (t_ninO hI.wf p_a0.1 (t_outO hI.wf p_a0.1 rfl) rfl)).2.2.trans ((hC7.1 ar0 0 (t_ninO hI.wf p_a0.1 (t_outO hI.wf p_a0.1 rfl) rfl)).2.2.trans e6))))) rfl rfl ?_
              have k38 := hI.2.2.2.1.2.2.2.2.2 (ar0 + 1) p6.1
              obtain ⟨v38, e38⟩ : ∃ v, gr33 (ar0 + 1) 7 = v := ⟨_, rfl⟩
              rw [e38] at k38
              refine ev_getR f_X6_readShip (nx := 141) rfl p6.1 rfl rfl e38 (t_KwR k38) rfl ?_
              refine ev_heap f_X6_readShip (nx := 144) rfl rfl rfl rfl ?_
              refine ev_ack f_X6_readShip (t1 := 147) (t2 := 167) rfl rfl rfl (t_knw k38) rfl (fun h39 => ?_) (fun h39 => ?_)
              · refine ev_loc f_X6_readShip (nx := 148) rfl rfl rfl rfl ?_
                refine ev_getR f_X6_readShip (nx := 151) (v := .ref (ar0 + 2)) rfl p_a0.1 rfl rfl ((hC33.1 ar0 1 (t_ninO hI.wf p_a0.1 (t_outO hI.wf p_a0.1 rfl) rfl)).2.2.trans ((hC30.1 ar0 1 (t_ninO hI.wf p_a0.1 (t_outO hI.wf p_a0.1 rfl) rfl)).2.2.trans ((hC13.1 ar0 1 (t_ninO hI.wf p_a0.1 (t_outO hI.wf p_a0.1 rfl) rfl)).2.2.trans ((hC8.1 ar0 1 (t_ninO hI.wf p_a0.1 (t_outO hI.wf p_a0.1 rfl) rfl)).2.2.trans ((hC7.1 ar0 1 (t_ninO hI.wf p_a0.1 (t_outO hI.wf p_a0.1 rfl) rfl)).2.2.trans e1))))) rfl rfl ?_
                refine ev_getR f_X6_readShip (nx := 154) (v := .ref (ar0 + 2 + 3)) rfl p1.1 rfl rfl ((hC33.1 (ar0 + 2) 7 (t_ninO hI.wf p1.1 (t_outO hI.wf p1.1 rfl) rfl)).2.2.trans ((hC30.1 (ar0 + 2) 7 (t_ninO hI.wf p1.1 (t_outO hI.wf p1.1 rfl) rfl)).2.2.trans ((hC13.1 (ar0 + 2) 7 (t_ninO hI.wf p1.1 (t_outO hI.wf p1.1 rfl) rfl)).2.2.trans ((hC8.1 (ar0 + 2) 7 (t_ninO hI.wf p1.1 (t_outO hI.wf p1.1 rfl) rfl)).2.2.trans ((hC7.1 (ar0 + 2) 7 (t_ninO hI.wf p1.1 (t_outO hI.wf p1.1 rfl) rfl)).2.2.trans e2))))) rfl rfl ?_
                have e40 := p2.2.2.2.2.2.2.1
                have p40 := p2.2.2.2.2.2.2.2
                refine ev_getR f_X6_readShip (nx := 157) rfl p2.1 rfl rfl e40 rfl rfl ?_
                refine ev_loc f_X6_readShip (nx := 158) rfl rfl rfl rfl ?_
                refine ev_ic f_X6_readShip (nx := 159) (v := 1) rfl (by decide) rfl ?_
                refine ev_zastV f_X6_readShip (nx := 160) rfl p40 l3 (by decide) u5 (by decide) (Int.le_trans (by decide : (0:Int) ≤ 1) (by decide : (1:Int) ≤ (1:Int32).toInt)) (by decide : (1:Int32).toInt ≤ (1:Int)) rfl (fun x _ _ => (hI.astO p40 (Or.inr (by have := p2.2.1; omega)) (by decide +kernel))) (fun x => hX.upI (t_inOA hI.wf p40 (Or.inr (by have := p2.2.1; omega)) rfl)) (fun g41 e41 hI hX => ?_)
                refine ev_loc f_X6_readShip (nx := 161) rfl rfl rfl rfl ?_
                refine ev_getR f_X6_readShip (nx := 164) (v := .ref (ar0 + 1)) rfl p_a0.1 rfl rfl ((hC33.1 ar0 0 (t_ninO hI.wf p_a0.1 (t_outO hI.wf p_a0.1 rfl) rfl)).2.2.trans ((hC30.1 ar0 0 (t_ninO hI.wf p_a0.1 (t_outO hI.wf p_a0.1 rfl) rfl)).2.2.trans ((hC13.1 ar0 0 (t_ninO hI.wf p_a0.1 (t_outO hI.wf p_a0.1 rfl) rfl)).2.2.trans ((hC8.1 ar0 0 (t_ninO hI.wf p_a0.1 (t_outO hI.wf p_a0.1 rfl) rfl)).2.2.trans ((hC7.1 ar0 0 (t_ninO hI.wf p_a0.1 (t_outO hI.wf p_a0.1 rfl) rfl)).2.2.trans e6))))) rfl rfl ?_
                refine ev_qN f_X6_readShip (nx := 167) (r := []) rfl rfl rfl rfl rfl rfl rfl (c_s_step hI ((ar0 + 1)) p6) rfl hX rfl (fun gi42 gl42 gr42 hI hX hC42 q42 => ?_)
                have q42 : (∀ (b : Nat → Int32) (n q : Nat), t_Sp b n q g41 (ar0 + 1) → t_TC b n q gi42 gl42 gr42 (ar0 + 1)) ∧ t_nf g41 gi42 (ar0 + 1) ∧ t_on (ar0 + 1) g41 gl33 gr33 gi42 gl42 gr42 := q42
                replace p_a0 := p_a0.ext hC42.2
                replace p1 := p1.ext hC42.2
                replace p2 := p2.ext hC42.2
                replace p6 := p6.ext hC42.2
                refine ev_ic f_X6_readShip (nx := 168) (v := 1) rfl (by decide) rfl ?_
                exact ev_ret f_X6_readShip rfl rfl rfl ⟨_, _, _, rfl, hI, hX, ⟨_, rfl, (Int.le_trans (by decide : (0:Int) ≤ 1) (by decide : (1:Int) ≤ (1:Int32).toInt)), (by decide : (1:Int32).toInt ≤ (1:Int)), (show (∀ (b : Nat → Int32) (n q : Nat) (D : s_D), t_CN b n q D gi gl gr ar0 → ((1 : Int) = 1 ∧ ∃ q2 D2, s_ship b n q D = s_ok q2 D2 ∧ t_CN b n q2 D2 gi42 gl42 gr42 ar0) ∨ ((1 : Int) = 0 ∧ ∃ p x D2, x ≠ 0 ∧ s_ship b n q D = s_bad b n p x D2 ∧ t_FL gi42 (ar0 + 1) (s_fk b n p x) (s_F b n p))) ∧ t_lq ar0 gi gl gr gi42 gl42 gr42 from ⟨(by
                                                            intro b n q D h
                                                            have h102 := p_a0.2.1
                                                            have h : t_CS b n q D (D 0 + D 1 + D 2) (s_used D) gi gl gr ar0 := h
                                                            obtain ⟨⟨hb1, hb2⟩, ⟨hb3, hb4⟩, hb5, hb6⟩ := h.2.1.1
                                                            have hp : (gi (ar0 + 2 + 3) 0).toInt = D 1 := h.2.1.2.2.2.2.1.1
                                                            have h1 := h.on (q7.1 b n _ h.1.S) q7.2.1 q7.2.2
                                                            obtain ⟨_, hN, hU, h3⟩ := (q8.1 b n _ D _ _ h1 (by omega)).resolve_right (fun hh => by rcases hh with hh | hh <;> exact absurd hh.1 (by omega))
                                                            obtain ⟨hv13, hW13, ht13, hf13⟩ := (q13.1 b n _ h3.1).resolve_right (fun hh => absurd hh.1 (by omega))
                                                            have h4 := h3.on ht13 hf13 q13.2
                                                            have hM := (q18 b n _ h4.1).mp (by omega)
                                                            have hL : (gl13 (ar0 + 1) 6) = s_L b n (s_E b n (s_E b n (s_E b n q))) := (h4.1.2.2.2.2.2.1 hM.1).2
                                                            have hG : w24.toInt = s_fp D (s_L b n (s_E b n (s_E b n (s_E b n q)))).toInt := by rw [← hL]; exact q24 b n _ D _ _ h4
                                                            have h5 := h4.on (q30.1 b n _ h4.1.S) q30.2.1 q30.2.2
                                                            have hA : ∀ K, K ≠ ar0 + 2 + 9 → g32 K = gi30 K := fun K hK => by rw [e32, x_up2_ne hK]
                                                            have hT0 := h5.1.eq (g1 := g32) (l1 := gl30) (r1 := gr30) (hA _ (by omega)) (hA _ (by omega)) rfl rfl
                                                            have hF0 : t_FL g32 (ar0 + 1) 0 (-1) := by rw [t_FL, hA _ (by omega)]; exact h5.2.2
                                                            obtain ⟨_, q2, x, y, z, hC, hT, hF, hm, r2, r3, r4, r5⟩ := (q33.1 b n _ D hT0 hF0).resolve_right (fun hh => absurd hh.1 (by omega))
                                                            have hce : gi30 (ar0 + 2 + 3) 0 = gi (ar0 + 2 + 3) 0 := Int32.toInt_inj.mp (by rw [h5.2.1.2.2.2.2.1.1, hp])
                                                            rw [hA (ar0 + 2 + 3 + 2) (by omega), hA (ar0 + 2 + 3) (by omega), hce] at r2
                                                            rw [hA (ar0 + 2 + 3 + 3) (by omega), hA (ar0 + 2 + 3) (by omega), hce] at r3
                                                            rw [hA (ar0 + 2 + 3 + 4) (by omega), hA (ar0 + 2 + 3) (by omega), hce] at r4
                                                            rw [hA (ar0 + 2 + 3 + 5) (by omega), hA (ar0 + 2 + 3) (by omega), hce] at r5
                                                            rw [hA (ar0 + 2 + 3) (by omega), hce, hp] at hm
                                                            have hcl := t_clamp (i := (gi (ar0 + 2 + 3) 0)) (by omega)
                                                            have hB : ∀ K, K ≠ ar0 + 1 → (K < ar0 + 2 + 3 ∨ ar0 + 2 + 3 + 5 < K) → K ≠ ar0 + 2 + 9 → gi33 K = gi30 K := fun K k1 k2 k3 => by rw [(q33.2 K (by intro x hx; simp only [List.mem_cons, List.not_mem_nil, or_false] at hx; omega)).1, hA K k3]
                                                            have hl : ∀ K, K ≠ ar0 + 1 → (K < ar0 + 2 + 3 ∨ ar0 + 2 + 3 + 5 < K) → gl33 K = gl30 K := fun K k1 k2 => by rw [(q33.2 K (by intro x hx; simp only [List.mem_cons, List.not_mem_nil, or_false] at hx; omega)).2.1]
                                                            have rp : t_ru (gi30 (ar0 + 2 + 9)) (gi33 (ar0 + 2 + 9)) (gi (ar0 + 2 + 3) 0).toNatClampNeg (s_fp D (s_L b n (s_E b n (s_E b n (s_E b n q)))).toInt) := t_ru_of (fun j => by rw [(q33.2 (ar0 + 2 + 9) (by intro x hx; simp only [List.mem_cons, List.not_mem_nil, or_false] at hx; omega)).1, e32, x_up2_same]) hG
                                                            have hW := hT.kwT e38 h39
                                                            have hD : ∀ K, K ≠ ar0 + 2 + 3 + 5 → g41 K = gi33 K := fun K hK => by rw [e41, x_up2_ne hK]
                                                            have hR := h5.2.1.ship (g1 := g41) (l1 := gl33) (nm := (s_L b n (s_E b n q)).toInt) (c := (gi (ar0 + 2 + 3) 0).toNatClampNeg) (by omega) (by omega) (by rw [hD _ (by omega)]; exact hm) (by rw [hD _ (by omega)]; exact rp) (by rw [hD _ (by omega)]; exact r2) (by rw [hD _ (by omega)]; exact r3) (by rw [hD _ (by omega)]; exact r4) (t_ru_up (v' := 1) r5 (fun j => by rw [e41, x_up2_same]) (by decide)) (fun c h19 h1 hc => by rw [hD _ (by omega)]; exact hB _ (by omega) (by omega) (by omega)) (fun c h19 h1 hc => hl _ (by omega) (by omega))
                                                            have hR2 := hR.sto h.2.1.1 (by omega)
                                                            have h6 : t_CS b n q2 _ _ _ g41 gl33 gr33 ar0 := ⟨hT.eq (hD _ (by omega)) (hD _ (by omega)) rfl rfl, hR2, by rw [t_FL, hD _ (by omega)]; exact hF⟩
                                                            have h7 := h6.on (q42.1 b n _ h6.1.S) q42.2.1 q42.2.2
                                                            exact Or.inl ⟨rfl, _, _, by simp only [s_ship, s_name, s_kw, s_ifF (show ¬ D 1 = 6 by omega), s_ifT hN, s_ifF hU, s_ifT hW13, s_ifT hM, s_ifF (show ¬ s_fp D (s_L b n (s_E b n (s_E b n (s_E b n q)))).toInt = -1 by omega), hC, s_ifT hW], h7⟩), (t_lq.on (t_lq.I (t_lq.ex (t_lq.I (t_lq.on (t_lq.on (t_lq.ex (t_lq.on t_lq.rf q7.2.2 (by omega)) q8.2 (by intro x hx; simp only [List.mem_cons, List.not_mem_nil, or_false] at hx; omega)) q13.2 (by omega)) q30.2.2 (by omega)) (by omega) e32) q33.2 (by intro x hx; simp only [List.mem_cons, List.not_mem_nil, or_false] at hx; omega)) (by omega) e41) q42.2.2 (by omega))⟩)⟩⟩
              · refine ev_ic f_X6_readShip (nx := 168) (v := 1) rfl (by decide) rfl ?_
                exact ev_ret f_X6_readShip rfl rfl rfl ⟨_, _, _, rfl, hI, hX, ⟨_, rfl, (Int.le_trans (by decide : (0:Int) ≤ 1) (by decide : (1:Int) ≤ (1:Int32).toInt)), (by decide : (1:Int32).toInt ≤ (1:Int)), (show (∀ (b : Nat → Int32) (n q : Nat) (D : s_D), t_CN b n q D gi gl gr ar0 → ((1 : Int) = 1 ∧ ∃ q2 D2, s_ship b n q D = s_ok q2 D2 ∧ t_CN b n q2 D2 gi33 gl33 gr33 ar0) ∨ ((1 : Int) = 0 ∧ ∃ p x D2, x ≠ 0 ∧ s_ship b n q D = s_bad b n p x D2 ∧ t_FL gi33 (ar0 + 1) (s_fk b n p x) (s_F b n p))) ∧ t_lq ar0 gi gl gr gi33 gl33 gr33 from ⟨(by
                                                            intro b n q D h
                                                            have h102 := p_a0.2.1
                                                            have h : t_CS b n q D (D 0 + D 1 + D 2) (s_used D) gi gl gr ar0 := h
                                                            obtain ⟨⟨hb1, hb2⟩, ⟨hb3, hb4⟩, hb5, hb6⟩ := h.2.1.1
                                                            have hp : (gi (ar0 + 2 + 3) 0).toInt = D 1 := h.2.1.2.2.2.2.1.1
                                                            have h1 := h.on (q7.1 b n _ h.1.S) q7.2.1 q7.2.2
                                                            obtain ⟨_, hN, hU, h3⟩ := (q8.1 b n _ D _ _ h1 (by omega)).resolve_right (fun hh => by rcases hh with hh | hh <;> exact absurd hh.1 (by omega))
                                                            obtain ⟨hv13, hW13, ht13, hf13⟩ := (q13.1 b n _ h3.1).resolve_right (fun hh => absurd hh.1 (by omega))
                                                            have h4 := h3.on ht13 hf13 q13.2
                                                            have hM := (q18 b n _ h4.1).mp (by omega)
                                                            have hL : (gl13 (ar0 + 1) 6) = s_L b n (s_E b n (s_E b n (s_E b n q))) := (h4.1.2.2.2.2.2.1 hM.1).2
                                                            have hG : w24.toInt = s_fp D (s_L b n (s_E b n (s_E b n (s_E b n q)))).toInt := by rw [← hL]; exact q24 b n _ D _ _ h4
                                                            have h5 := h4.on (q30.1 b n _ h4.1.S) q30.2.1 q30.2.2
                                                            have hA : ∀ K, K ≠ ar0 + 2 + 9 → g32 K = gi30 K := fun K hK => by rw [e32, x_up2_ne hK]
                                                            have hT0 := h5.1.eq (g1 := g32) (l1 := gl30) (r1 := gr30) (hA _ (by omega)) (hA _ (by omega)) rfl rfl
                                                            have hF0 : t_FL g32 (ar0 + 1) 0 (-1) := by rw [t_FL, hA _ (by omega)]; exact h5.2.2
                                                            obtain ⟨_, q2, x, y, z, hC, hT, hF, hm, r2, r3, r4, r5⟩ := (q33.1 b n _ D hT0 hF0).resolve_right (fun hh => absurd hh.1 (by omega))
                                                            have hce : gi30 (ar0 + 2 + 3) 0 = gi (ar0 + 2 + 3) 0 := Int32.toInt_inj.mp (by rw [h5.2.1.2.2.2.2.1.1, hp])
                                                            rw [hA (ar0 + 2 + 3 + 2) (by omega), hA (ar0 + 2 + 3) (by omega), hce] at r2
                                                            rw [hA (ar0 + 2 + 3 + 3) (by omega), hA (ar0 + 2 + 3) (by omega), hce] at r3
                                                            rw [hA (ar0 + 2 + 3 + 4) (by omega), hA (ar0 + 2 + 3) (by omega), hce] at r4
                                                            rw [hA (ar0 + 2 + 3 + 5) (by omega), hA (ar0 + 2 + 3) (by omega), hce] at r5
                                                            rw [hA (ar0 + 2 + 3) (by omega), hce, hp] at hm
                                                            have hcl := t_clamp (i := (gi (ar0 + 2 + 3) 0)) (by omega)
                                                            have hB : ∀ K, K ≠ ar0 + 1 → (K < ar0 + 2 + 3 ∨ ar0 + 2 + 3 + 5 < K) → K ≠ ar0 + 2 + 9 → gi33 K = gi30 K := fun K k1 k2 k3 => by rw [(q33.2 K (by intro x hx; simp only [List.mem_cons, List.not_mem_nil, or_false] at hx; omega)).1, hA K k3]
                                                            have hl : ∀ K, K ≠ ar0 + 1 → (K < ar0 + 2 + 3 ∨ ar0 + 2 + 3 + 5 < K) → gl33 K = gl30 K := fun K k1 k2 => by rw [(q33.2 K (by intro x hx; simp only [List.mem_cons, List.not_mem_nil, or_false] at hx; omega)).2.1]
                                                            have rp : t_ru (gi30 (ar0 + 2 + 9)) (gi33 (ar0 + 2 + 9)) (gi (ar0 + 2 + 3) 0).toNatClampNeg (s_fp D (s_L b n (s_E b n (s_E b n (s_E b n q)))).toInt) := t_ru_of (fun j => by rw [(q33.2 (ar0 + 2 + 9) (by intro x hx; simp only [List.mem_cons, List.not_mem_nil, or_false] at hx; omega)).1, e32, x_up2_same]) hG
                                                            have hW := hT.kwF e38 h39
                                                            have hR := h5.2.1.ship (g1 := gi33) (l1 := gl33) (nm := (s_L b n (s_E b n q)).toInt) (c := (gi (ar0 + 2 + 3) 0).toNatClampNeg) (by omega) (by omega) hm rp r2 r3 r4 r5 (fun c h19 h1 hc => hB _ (by omega) (by omega) (by omega)) (fun c h19 h1 hc => hl _ (by omega) (by omega))
                                                            have hR2 := hR.sto h.2.1.1 (by omega)
                                                            exact Or.inl ⟨rfl, _, _, by simp only [s_ship, s_name, s_kw, s_ifF (show ¬ D 1 = 6 by omega), s_ifT hN, s_ifF hU, s_ifT hW13, s_ifT hM, s_ifF (show ¬ s_fp D (s_L b n (s_E b n (s_E b n (s_E b n q)))).toInt = -1 by omega), hC, s_ifF hW], hT, hR2, hF⟩), (t_lq.ex (t_lq.I (t_lq.on (t_lq.on (t_lq.ex (t_lq.on t_lq.rf q7.2.2 (by omega)) q8.2 (by intro x hx; simp only [List.mem_cons, List.not_mem_nil, or_false] at hx; omega)) q13.2 (by omega)) q30.2.2 (by omega)) (by omega) e32) q33.2 (by intro x hx; simp only [List.mem_cons, List.not_mem_nil, or_false] at hx; omega))⟩)⟩⟩
  · have l43 : 6 ≤ (gi (ar0 + 2 + 3) 0).toInt := t_lel (t_nlt h4) (by decide : (6:Int) ≤ (6:Int32).toInt)
    refine ev_loc f_X6_readShip (nx := 18) rfl rfl rfl rfl ?_
    have e44 := p_a0.2.2.2.2.1.1
    have p44 := p_a0.2.2.2.2.1.2
    refine ev_getR f_X6_readShip (nx := 21) rfl p_a0.1 rfl rfl e44 rfl rfl ?_
    refine ev_bp f_X6_readShip (nx := 23) (v := 6) rfl (by decide) rfl ?_
    refine ev_qI f_X6_readShip (nx := 26) (r := []) rfl rfl rfl rfl rfl rfl rfl (c_s_refuse hI ((ar0 + 1)) p44 (6) (Int.le_trans (by decide : (2:Int) ≤ 6) (by decide : (6:Int) ≤ (6:Int32).toInt)) (Int.le_trans (by decide : (6:Int32).toInt ≤ (6:Int)) (by decide : (6:Int) ≤ 7))) rfl hX rfl (fun w45 gi45 gl45 gr45 l45 u45 hI hX hC45 q45 => ?_)
    have q45 : (∀ (b : Nat → Int32) (n q : Nat), t_TC b n q gi gl gr (ar0 + 1) → t_FL gi45 (ar0 + 1) (s_fk b n q 6) (s_F b n q)) ∧ w45.toInt = 0 ∧ t_on (ar0 + 1) gi gl gr gi45 gl45 gr45 := q45
    replace p_a0 := p_a0.ext hC45.2
    replace p1 := p1.ext hC45.2
    replace p2 := p2.ext hC45.2
    replace p44 := p44.ext hC45.2
    exact ev_retZ f_X6_readShip rfl l45 (Int.le_trans u45 (by decide : (0:Int) ≤ 1)) ⟨_, _, _, rfl, hI, hX, ⟨_, rfl, l45, (Int.le_trans u45 (by decide : (0:Int) ≤ 1)), (show (∀ (b : Nat → Int32) (n q : Nat) (D : s_D), t_CN b n q D gi gl gr ar0 → (w45.toInt = 1 ∧ ∃ q2 D2, s_ship b n q D = s_ok q2 D2 ∧ t_CN b n q2 D2 gi45 gl45 gr45 ar0) ∨ (w45.toInt = 0 ∧ ∃ p x D2, x ≠ 0 ∧ s_ship b n q D = s_bad b n p x D2 ∧ t_FL gi45 (ar0 + 1) (s_fk b n p x) (s_F b n p))) ∧ t_lq ar0 gi gl gr gi45 gl45 gr45 from ⟨(by
                                                            intro b n q D h
                                                            have h102 := p_a0.2.1
                                                            have h : t_CS b n q D (D 0 + D 1 + D 2) (s_used D) gi gl gr ar0 := h
                                                            obtain ⟨⟨hb1, hb2⟩, ⟨hb3, hb4⟩, hb5, hb6⟩ := h.2.1.1
                                                            have hp : (gi (ar0 + 2 + 3) 0).toInt = D 1 := h.2.1.2.2.2.2.1.1
                                                            exact Or.inr ⟨q45.2.1, _, 6, D, by decide, by simp only [s_ship, s_ifT (show D 1 = 6 by omega)], q45.1 b n q h.1⟩), (t_lq.on t_lq.rf q45.2.2 (by omega))⟩)⟩⟩
noncomputable def wl_s_readCart : List (Nat × Nat) := [(6, 0), (7, 9999), (8, 9999), (9, 9999), (10, 9999), (11, 9999), (12, 9999), (13, 0), (14, 9999), (15, 9999), (16, 9999), (17, 9999), (18, 9999), (29, 0), (30, 9999), (31, 9999), (32, 9999), (33, 9999), (34, 9999), (35, 0), (36, 9999), (37, 9999), (38, 9999), (39, 9999), (40, 9999), (43, 9999), (44, 9999), (46, 0), (47, 9999), (48, 9999), (49, 9999), (50, 9999), (51, 9999), (52, 0), (53, 9999), (54, 9999), (55, 9999), (56, 9999), (57, 9999), (58, 9999), (59, 9999), (113, 0), (115, 4), (118, 2), (118, 3), (118, 4), (118, 5), (118, 6), (118, 7), (118, 8), (118, 9), (118, 10), (118, 11), (130, 9999), (131, 9999), (133, 9999)]
noncomputable def Q_s_readCart (gi : Nat → Nat → Int32) (gl : Nat → Nat → Int64) (gr : Nat → Nat → Value) (ar0 : Nat) : Int32 → (Nat → Nat → Int32) → (Nat → Nat → Int64) → (Nat → Nat → Value) → Prop := fun (v : Int32) (gi2 : Nat → Nat → Int32) (gl2 : Nat → Nat → Int64) (gr2 : Nat → Nat → Value) => (∀ (b : Nat → Int32) (n q : Nat) (D : s_D), t_CN b n q D gi gl gr ar0 → (v.toInt = 1 ∧ ∃ q2 D2, s_cart b n q D = s_ok q2 D2 ∧ t_CN b n q2 D2 gi2 gl2 gr2 ar0) ∨ (v.toInt = 0 ∧ ∃ p x D2, x ≠ 0 ∧ s_cart b n q D = s_bad b n p x D2 ∧ t_FL gi2 (ar0 + 1) (s_fk b n p x) (s_F b n p))) ∧ t_lq ar0 gi gl gr gi2 gl2 gr2
theorem c_s_readCart {X : x_Ext} {d : Nat} {sh : List (Nat ⊕ (Nat × Nat))} {gi : Nat → Nat → Int32} {gl : Nat → Nat → Int64} {gr : Nat → Nat → Value} (hI : t_I sh gi gr) (ar0 : Nat) (p_a0 : t_RQ sh gr ar0) : x_Me X (d + 5) n_X6_readCart [.ref ar0] (sh, gi, gl, gr) (t_PI wl_s_readCart sh gi gl gr 0 1 (Q_s_readCart gi gl gr ar0)) := by
  have hX : t_X wl_s_readCart sh gi gl gr gi gl gr := t_X.rf
  refine me_i f_X6_readCart p_a0.1 rfl rfl rfl ?_
  refine ev_loc f_X6_readCart (nx := 1) rfl rfl rfl rfl ?_
  have e1 := p_a0.2.2.2.2.2.1
  have p1 := p_a0.2.2.2.2.2.2
  refine ev_getR f_X6_readCart (nx := 4) rfl p_a0.1 rfl rfl e1 rfl rfl ?_
  have e2 := p1.2.2.2.2.2.2.1
  have p2 := p1.2.2.2.2.2.2.2
  refine ev_getR f_X6_readCart (nx := 7) rfl p1.1 rfl rfl e2 rfl rfl ?_
  refine ev_getI f_X6_readCart (nx := 10) rfl p2.1 rfl rfl rfl ?_
  obtain ⟨l3, u3⟩ := hI.b p2.1 (t_bdK rfl : t_bd 3 0 = some (0, 6))
  refine ev_bp f_X6_readCart (nx := 12) (v := 6) rfl (by decide) rfl ?_
  refine ev_if f_X6_readCart (t1 := 25) (t2 := 15) rfl rfl rfl (fun h4 => ?_) (fun h4 => ?_)
  · have u5 : (gi (ar0 + 2 + 10) 0).toInt ≤ 5 := t_ltu h4 (by decide : (6:Int32).toInt ≤ (6:Int)) rfl
    refine ev_loc f_X6_readCart (nx := 26) rfl rfl rfl rfl ?_
    have e6 := p_a0.2.2.2.2.1.1
    have p6 := p_a0.2.2.2.2.1.2
    refine ev_getR f_X6_readCart (nx := 29) rfl p_a0.1 rfl rfl e6 rfl rfl ?_
    refine ev_qN f_X6_readCart (nx := 32) (r := []) rfl rfl rfl rfl rfl rfl rfl (c_s_step hI ((ar0 + 1)) p6) rfl hX rfl (fun gi7 gl7 gr7 hI hX hC7 q7 => ?_)
    have q7 : (∀ (b : Nat → Int32) (n q : Nat), t_Sp b n q gi (ar0 + 1) → t_TC b n q gi7 gl7 gr7 (ar0 + 1)) ∧ t_nf gi gi7 (ar0 + 1) ∧ t_on (ar0 + 1) gi gl gr gi7 gl7 gr7 := q7
    replace p_a0 := p_a0.ext hC7.2
    replace p1 := p1.ext hC7.2
    replace p2 := p2.ext hC7.2
    replace p6 := p6.ext hC7.2
    refine ev_loc f_X6_readCart (nx := 33) rfl rfl rfl rfl ?_
    refine ev_qI f_X6_readCart (nx := 36) (r := []) rfl rfl rfl rfl rfl rfl rfl (c_s_takeNewName hI (ar0) p_a0) rfl hX rfl (fun w8 gi8 gl8 gr8 l8 u8 hI hX hC8 q8 => ?_)
    have q8 : (∀ (b : Nat → Int32) (n q : Nat) (D : s_D) (m : Int) (P : Int → Prop), t_CS b n q D m P gi7 gl7 gr7 ar0 → m < 18 → (w8.toInt = 1 ∧ s_isN b n q ∧ ¬ P (s_L b n q).toInt ∧ t_CS b n (s_E b n q) D (m + 1) (fun x => P x ∨ x = (s_L b n q).toInt) gi8 gl8 gr8 ar0) ∨ (w8.toInt = 0 ∧ ¬ s_isN b n q ∧ t_FL gi8 (ar0 + 1) (s_fk b n q 2) (s_F b n q)) ∨ (w8.toInt = 0 ∧ s_isN b n q ∧ P (s_L b n q).toInt ∧ t_FL gi8 (ar0 + 1) (s_fk b n q 3) (s_F b n q))) ∧ t_xc [ar0, ar0 + 1, ar0 + 19] gi7 gl7 gr7 gi8 gl8 gr8 := q8
    replace p_a0 := p_a0.ext hC8.2
    replace p1 := p1.ext hC8.2
    replace p2 := p2.ext hC8.2
    replace p6 := p6.ext hC8.2
    refine ev_if f_X6_readCart (t1 := 57) (t2 := 39) rfl rfl rfl (fun h9 => ?_) (fun h9 => ?_)
    · have u10 : w8.toInt ≤ 0 := t_equ h9 (by decide : (0:Int32).toInt ≤ (0:Int))
      refine ev_ic f_X6_readCart (nx := 58) (v := 0) rfl (by decide) rfl ?_
      exact ev_ret f_X6_readCart rfl rfl rfl ⟨_, _, _, rfl, hI, hX, ⟨_, rfl, (by decide : (0:Int) ≤ (0:Int32).toInt), (Int.le_trans (by decide : (0:Int32).toInt ≤ (0:Int)) (by decide : (0:Int) ≤ 1)), (show (∀ (b : Nat → Int32) (n q : Nat) (D : s_D), t_CN b n q D gi gl gr ar0 → ((0 : Int) = 1 ∧ ∃ q2 D2, s_cart b n q D = s_ok q2 D2 ∧ t_CN b n q2 D2 gi8 gl8 gr8 ar0) ∨ ((0 : Int) = 0 ∧ ∃ p x D2, x ≠ 0 ∧ s_cart b n q D = s_bad b n p x D2 ∧ t_FL gi8 (ar0 + 1) (s_fk b n p x) (s_F b n p))) ∧ t_lq ar0 gi gl gr gi8 gl8 gr8 from ⟨(by
                                                            intro b n q D h
                                                            have h102 := p_a0.2.1
                                                            have h : t_CS b n q D (D 0 + D 1 + D 2) (s_used D) gi gl gr ar0 := h
                                                            obtain ⟨⟨hb1, hb2⟩, ⟨hb3, hb4⟩, hb5, hb6⟩ := h.2.1.1
                                                            have hp : (gi (ar0 + 2 + 10) 0).toInt = D 2 := h.2.1.2.2.2.2.2.1
                                                            have h1 := h.on (q7.1 b n _ h.1.S) q7.2.1 q7.2.2
                                                            rcases q8.1 b n _ D _ _ h1 (by omega) with hh | hh | hh
                                                            · exact absurd hh.1 (by omega)
                                                            · exact Or.inr ⟨rfl, _, 2, D, by decide, by simp only [s_cart, s_name, s_ifF (show ¬ D 2 = 6 by omega), s_ifF hh.2.1], hh.2.2⟩
                                                            · exact Or.inr ⟨rfl, _, 3, D, by decide, by simp only [s_cart, s_name, s_ifF (show ¬ D 2 = 6 by omega), s_ifT hh.2.1, s_ifT hh.2.2.1], hh.2.2.2⟩), (t_lq.ex (t_lq.on t_lq.rf q7.2.2 (by omega)) q8.2 (by intro x hx; simp only [List.mem_cons, List.not_mem_nil, or_false] at hx; omega))⟩)⟩⟩
    · have r11 : w8.toInt ≠ 0 := fun e => h9 (Int32.toInt_inj.mp (e.trans (by decide : (0:Int) = (0 : Int32).toInt)))
      have l12 : 1 ≤ w8.toInt := t_nel h9 l8 rfl rfl
      refine ev_loc f_X6_readCart (nx := 40) rfl rfl rfl rfl ?_
      refine ev_loc f_X6_readCart (nx := 41) rfl rfl rfl rfl ?_
      refine ev_getR f_X6_readCart (nx := 44) (v := .ref (ar0 + 2)) rfl p_a0.1 rfl rfl ((hC8.1 ar0 1 (t_ninO hI.wf p_a0.1 (t_outO hI.wf p_a0.1 rfl) rfl)).2.2.trans ((hC7.1 ar0 1 (t_ninO hI.wf p_a0.1 (t_outO hI.wf p_a0.1 rfl) rfl)).2.2.trans e1)) rfl rfl ?_
      refine ev_getR f_X6_readCart (nx := 47) (v := .ref (ar0 + 2 + 10)) rfl p1.1 rfl rfl ((hC8.1 (ar0 + 2) 9 (t_ninO hI.wf p1.1 (t_outO hI.wf p1.1 rfl) rfl)).2.2.trans ((hC7.1 (ar0 + 2) 9 (t_ninO hI.wf p1.1 (t_outO hI.wf p1.1 rfl) rfl)).2.2.trans e2)) rfl rfl ?_
      refine ev_qI f_X6_readCart (nx := 50) (r := []) rfl rfl rfl rfl rfl rfl rfl (c_s_readComing hI (ar0) p_a0 ((ar0 + 2 + 10)) p2 (by have ff2 : (gi8 (ar0 + 2 + 10) 0).toInt = (gi (ar0 + 2 + 10) 0).toInt := congrArg Int32.toInt ((hC8.1 (ar0 + 2 + 10) 0 (t_ninO hI.wf p2.1 (t_outO hI.wf p2.1 rfl) rfl)).1.trans ((hC7.1 (ar0 + 2 + 10) 0 (t_ninO hI.wf p2.1 (t_outO hI.wf p2.1 rfl) rfl)).1.trans rfl)); omega) (by omega)) rfl hX rfl (fun w13 gi13 gl13 gr13 l13 u13 hI hX hC13 q13 => ?_)
      have q13 : (∀ (b : Nat → Int32) (n q : Nat) (D : s_D), t_TC b n q gi8 gl8 gr8 (ar0 + 1) → t_FL gi8 (ar0 + 1) 0 (-1) → (w13.toInt = 1 ∧ ∃ q2 x y z, (∀ K, s_come b n q D K = K q2 x y z) ∧ t_TC b n q2 gi13 gl13 gr13 (ar0 + 1) ∧ t_FL gi13 (ar0 + 1) 0 (-1) ∧ (gi13 (ar0 + 2 + 10) 0).toInt = (gi8 (ar0 + 2 + 10) 0).toInt + 1 ∧ t_ru (gi8 ((ar0 + 2 + 10) + 2)) (gi13 ((ar0 + 2 + 10) + 2)) (gi8 (ar0 + 2 + 10) 0).toNatClampNeg x ∧ t_ru (gi8 ((ar0 + 2 + 10) + 3)) (gi13 ((ar0 + 2 + 10) + 3)) (gi8 (ar0 + 2 + 10) 0).toNatClampNeg y ∧ t_ru (gi8 ((ar0 + 2 + 10) + 4)) (gi13 ((ar0 + 2 + 10) + 4)) (gi8 (ar0 + 2 + 10) 0).toNatClampNeg z ∧ t_ru (gi8 ((ar0 + 2 + 10) + 5)) (gi13 ((ar0 + 2 + 10) + 5)) (gi8 (ar0 + 2 + 10) 0).toNatClampNeg 0) ∨ (w13.toInt = 0 ∧ ∃ p x, x ≠ 0 ∧ (∀ K, s_come b n q D K = s_bad b n p x D) ∧ t_FL gi13 (ar0 + 1) (s_fk b n p x) (s_F b n p))) ∧ t_xc [ar0 + 1, (ar0 + 2 + 10), (ar0 + 2 + 10) + 1, (ar0 + 2 + 10) + 2, (ar0 + 2 + 10) + 3, (ar0 + 2 + 10) + 4, (ar0 + 2 + 10) + 5] gi8 gl8 gr8 gi13 gl13 gr13 := q13
      replace p_a0 := p_a0.ext hC13.2
      replace p1 := p1.ext hC13.2
      replace p2 := p2.ext hC13.2
      replace p6 := p6.ext hC13.2
      refine ev_if f_X6_readCart (t1 := 57) (t2 := 53) rfl rfl rfl (fun h14 => ?_) (fun h14 => ?_)
      · have u15 : w13.toInt ≤ 0 := t_equ h14 (by decide : (0:Int32).toInt ≤ (0:Int))
        refine ev_ic f_X6_readCart (nx := 58) (v := 0) rfl (by decide) rfl ?_
        exact ev_ret f_X6_readCart rfl rfl rfl ⟨_, _, _, rfl, hI, hX, ⟨_, rfl, (by decide : (0:Int) ≤ (0:Int32).toInt), (Int.le_trans (by decide : (0:Int32).toInt ≤ (0:Int)) (by decide : (0:Int) ≤ 1)), (show (∀ (b : Nat → Int32) (n q : Nat) (D : s_D), t_CN b n q D gi gl gr ar0 → ((0 : Int) = 1 ∧ ∃ q2 D2, s_cart b n q D = s_ok q2 D2 ∧ t_CN b n q2 D2 gi13 gl13 gr13 ar0) ∨ ((0 : Int) = 0 ∧ ∃ p x D2, x ≠ 0 ∧ s_cart b n q D = s_bad b n p x D2 ∧ t_FL gi13 (ar0 + 1) (s_fk b n p x) (s_F b n p))) ∧ t_lq ar0 gi gl gr gi13 gl13 gr13 from ⟨(by
                                                            intro b n q D h
                                                            have h102 := p_a0.2.1
                                                            have h : t_CS b n q D (D 0 + D 1 + D 2) (s_used D) gi gl gr ar0 := h
                                                            obtain ⟨⟨hb1, hb2⟩, ⟨hb3, hb4⟩, hb5, hb6⟩ := h.2.1.1
                                                            have hp : (gi (ar0 + 2 + 10) 0).toInt = D 2 := h.2.1.2.2.2.2.2.1
                                                            have h1 := h.on (q7.1 b n _ h.1.S) q7.2.1 q7.2.2
                                                            obtain ⟨_, hN, hU, h3⟩ := (q8.1 b n _ D _ _ h1 (by omega)).resolve_right (fun hh => by rcases hh with hh | hh <;> exact absurd hh.1 (by omega))
                                                            rcases q13.1 b n _ D h3.1 h3.2.2 with hh | hh
                                                            · exact absurd hh.1 (by omega)
                                                            · obtain ⟨_, p, x, hx, hK, hf⟩ := hh
                                                              exact Or.inr ⟨rfl, p, x, D, hx, by simp only [s_cart, s_name, s_ifF (show ¬ D 2 = 6 by omega), s_ifT hN, s_ifF hU, hK], hf⟩), (t_lq.ex (t_lq.ex (t_lq.on t_lq.rf q7.2.2 (by omega)) q8.2 (by intro x hx; simp only [List.mem_cons, List.not_mem_nil, or_false] at hx; omega)) q13.2 (by intro x hx; simp only [List.mem_cons, List.not_mem_nil, or_false] at hx; omega))⟩)⟩⟩
      · have r16 : w13.toInt ≠ 0 := fun e => h14 (Int32.toInt_inj.mp (e.trans (by decide : (0:Int) = (0 : Int32).toInt)))
        have l17 : 1 ≤ w13.toInt := t_nel h14 l13 rfl rfl
        refine ev_ic f_X6_readCart (nx := 54) (v := 1) rfl (by decide) rfl ?_
        refine ev_jmp f_X6_readCart (nx := 58) rfl rfl rfl ?_
        exact ev_ret f_X6_readCart rfl rfl rfl ⟨_, _, _, rfl, hI, hX, ⟨_, rfl, (Int.le_trans (by decide : (0:Int) ≤ 1) (by decide : (1:Int) ≤ (1:Int32).toInt)), (by decide : (1:Int32).toInt ≤ (1:Int)), (show (∀ (b : Nat → Int32) (n q : Nat) (D : s_D), t_CN b n q D gi gl gr ar0 → ((1 : Int) = 1 ∧ ∃ q2 D2, s_cart b n q D = s_ok q2 D2 ∧ t_CN b n q2 D2 gi13 gl13 gr13 ar0) ∨ ((1 : Int) = 0 ∧ ∃ p x D2, x ≠ 0 ∧ s_cart b n q D = s_bad b n p x D2 ∧ t_FL gi13 (ar0 + 1) (s_fk b n p x) (s_F b n p))) ∧ t_lq ar0 gi gl gr gi13 gl13 gr13 from ⟨(by
                                                            intro b n q D h
                                                            have h102 := p_a0.2.1
                                                            have h : t_CS b n q D (D 0 + D 1 + D 2) (s_used D) gi gl gr ar0 := h
                                                            obtain ⟨⟨hb1, hb2⟩, ⟨hb3, hb4⟩, hb5, hb6⟩ := h.2.1.1
                                                            have hp : (gi (ar0 + 2 + 10) 0).toInt = D 2 := h.2.1.2.2.2.2.2.1
                                                            have h1 := h.on (q7.1 b n _ h.1.S) q7.2.1 q7.2.2
                                                            obtain ⟨_, hN, hU, h3⟩ := (q8.1 b n _ D _ _ h1 (by omega)).resolve_right (fun hh => by rcases hh with hh | hh <;> exact absurd hh.1 (by omega))
                                                            obtain ⟨_, q2, x, y, z, hC, hT, hF, hm, r2, r3, r4, r5⟩ := (q13.1 b n _ D h3.1 h3.2.2).resolve_right (fun hh => absurd hh.1 (by omega))
                                                            have hce : gi8 (ar0 + 2 + 10) 0 = gi (ar0 + 2 + 10) 0 := Int32.toInt_inj.mp (by rw [h3.2.1.2.2.2.2.2.1, hp])
                                                            rw [hce] at r2
                                                            rw [hce] at r3
                                                            rw [hce] at r4
                                                            rw [hce] at r5
                                                            rw [hce, hp] at hm
                                                            have hcl := t_clamp (i := (gi (ar0 + 2 + 10) 0)) (by omega)
                                                            have hB : ∀ K, K ≠ ar0 + 1 → (K < ar0 + 2 + 10 ∨ ar0 + 2 + 10 + 5 < K) → gi13 K = gi8 K ∧ gl13 K = gl8 K := fun K k1 k2 => have q9 := q13.2 K (by intro x hx; simp only [List.mem_cons, List.not_mem_nil, or_false] at hx; omega); ⟨q9.1, q9.2.1⟩
                                                            have hR := h3.2.1.cart (g1 := gi13) (l1 := gl13) (nm := (s_L b n (s_E b n q)).toInt) (c := (gi (ar0 + 2 + 10) 0).toNatClampNeg) (by omega) (by omega) hm r2 r3 r4 r5 (fun c h19 h1 hc => (hB _ (by omega) (by omega)).1) (fun c h19 h1 hc => (hB _ (by omega) (by omega)).2)
                                                            have hR2 := hR.cto h.2.1.1 (by omega)
                                                            exact Or.inl ⟨rfl, _, _, by simp only [s_cart, s_name, s_ifF (show ¬ D 2 = 6 by omega), s_ifT hN, s_ifF hU, hC], hT, hR2, hF⟩), (t_lq.ex (t_lq.ex (t_lq.on t_lq.rf q7.2.2 (by omega)) q8.2 (by intro x hx; simp only [List.mem_cons, List.not_mem_nil, or_false] at hx; omega)) q13.2 (by intro x hx; simp only [List.mem_cons, List.not_mem_nil, or_false] at hx; omega))⟩)⟩⟩
  · have l18 : 6 ≤ (gi (ar0 + 2 + 10) 0).toInt := t_lel (t_nlt h4) (by decide : (6:Int) ≤ (6:Int32).toInt)
    refine ev_loc f_X6_readCart (nx := 16) rfl rfl rfl rfl ?_
    have e19 := p_a0.2.2.2.2.1.1
    have p19 := p_a0.2.2.2.2.1.2
    refine ev_getR f_X6_readCart (nx := 19) rfl p_a0.1 rfl rfl e19 rfl rfl ?_
    refine ev_bp f_X6_readCart (nx := 21) (v := 6) rfl (by decide) rfl ?_
    refine ev_qI f_X6_readCart (nx := 24) (r := []) rfl rfl rfl rfl rfl rfl rfl (c_s_refuse hI ((ar0 + 1)) p19 (6) (Int.le_trans (by decide : (2:Int) ≤ 6) (by decide : (6:Int) ≤ (6:Int32).toInt)) (Int.le_trans (by decide : (6:Int32).toInt ≤ (6:Int)) (by decide : (6:Int) ≤ 7))) rfl hX rfl (fun w20 gi20 gl20 gr20 l20 u20 hI hX hC20 q20 => ?_)
    have q20 : (∀ (b : Nat → Int32) (n q : Nat), t_TC b n q gi gl gr (ar0 + 1) → t_FL gi20 (ar0 + 1) (s_fk b n q 6) (s_F b n q)) ∧ w20.toInt = 0 ∧ t_on (ar0 + 1) gi gl gr gi20 gl20 gr20 := q20
    replace p_a0 := p_a0.ext hC20.2
    replace p1 := p1.ext hC20.2
    replace p2 := p2.ext hC20.2
    replace p19 := p19.ext hC20.2
    exact ev_retZ f_X6_readCart rfl l20 (Int.le_trans u20 (by decide : (0:Int) ≤ 1)) ⟨_, _, _, rfl, hI, hX, ⟨_, rfl, l20, (Int.le_trans u20 (by decide : (0:Int) ≤ 1)), (show (∀ (b : Nat → Int32) (n q : Nat) (D : s_D), t_CN b n q D gi gl gr ar0 → (w20.toInt = 1 ∧ ∃ q2 D2, s_cart b n q D = s_ok q2 D2 ∧ t_CN b n q2 D2 gi20 gl20 gr20 ar0) ∨ (w20.toInt = 0 ∧ ∃ p x D2, x ≠ 0 ∧ s_cart b n q D = s_bad b n p x D2 ∧ t_FL gi20 (ar0 + 1) (s_fk b n p x) (s_F b n p))) ∧ t_lq ar0 gi gl gr gi20 gl20 gr20 from ⟨(by
                                                            intro b n q D h
                                                            have h102 := p_a0.2.1
                                                            have h : t_CS b n q D (D 0 + D 1 + D 2) (s_used D) gi gl gr ar0 := h
                                                            obtain ⟨⟨hb1, hb2⟩, ⟨hb3, hb4⟩, hb5, hb6⟩ := h.2.1.1
                                                            have hp : (gi (ar0 + 2 + 10) 0).toInt = D 2 := h.2.1.2.2.2.2.2.1
                                                            exact Or.inr ⟨q20.2.1, _, 6, D, by decide, by simp only [s_cart, s_ifT (show D 2 = 6 by omega)], q20.1 b n q h.1⟩), (t_lq.on t_lq.rf q20.2.2 (by omega))⟩)⟩⟩
/-! ===== printed by riv.py: the RIVER of the class ===== -/
noncomputable def wl_s_readAll : List (Nat × Nat) := [(3, 0), (3, 3), (3, 4), (3, 5), (3, 6), (4, 9999), (5, 9999), (6, 0), (7, 9999), (8, 9999), (9, 9999), (10, 9999), (11, 9999), (12, 9999), (13, 0), (14, 9999), (15, 9999), (16, 9999), (17, 9999), (18, 9999), (29, 0), (30, 9999), (31, 9999), (32, 9999), (33, 9999), (34, 9999), (35, 0), (36, 9999), (37, 9999), (38, 9999), (39, 9999), (40, 9999), (43, 9999), (44, 9999), (46, 0), (47, 9999), (48, 9999), (49, 9999), (50, 9999), (51, 9999), (52, 0), (53, 9999), (54, 9999), (55, 9999), (56, 9999), (57, 9999), (58, 9999), (59, 9999), (113, 0), (114, 0), (114, 3), (114, 4), (114, 5), (114, 6), (115, 4), (115, 5), (115, 6), (115, 7), (118, 2), (118, 3), (118, 4), (118, 5), (118, 6), (118, 7), (118, 8), (118, 9), (118, 10), (118, 11), (130, 9999), (131, 9999), (133, 9999)]
noncomputable def Q_s_readAll (gi : Nat → Nat → Int32) (gl : Nat → Nat → Int64) (gr : Nat → Nat → Value) (ar0 : Nat) : Int32 → (Nat → Nat → Int32) → (Nat → Nat → Int64) → (Nat → Nat → Value) → Prop := fun (v : Int32) (gi2 : Nat → Nat → Int32) (gl2 : Nat → Nat → Int64) (gr2 : Nat → Nat → Value) => (∀ (b : Nat → Int32) (n q : Nat) (D : s_D), t_CN b n q D gi gl gr ar0 → (v.toInt = 1 ∧ ∃ q2 D2, s_rv b n 901 q D = s_ok q2 D2 ∧ t_CN b n q2 D2 gi2 gl2 gr2 ar0) ∨ (v.toInt = 0 ∧ ∃ p x D2, x ≠ 0 ∧ s_rv b n 901 q D = s_bad b n p x D2 ∧ t_FL gi2 (ar0 + 1) (s_fk b n p x) (s_F b n p))) ∧ t_lq ar0 gi gl gr gi2 gl2 gr2
theorem c_s_readAll {X : x_Ext} {d : Nat} {sh : List (Nat ⊕ (Nat × Nat))} {gi : Nat → Nat → Int32} {gl : Nat → Nat → Int64} {gr : Nat → Nat → Value} (hI : t_I sh gi gr) (ar0 : Nat) (p_a0 : t_RQ sh gr ar0) : x_Me X (d + 6) n_X6_readAll [.ref ar0] (sh, gi, gl, gr) (t_PI wl_s_readAll sh gi gl gr 0 1 (Q_s_readAll gi gl gr ar0)) := by
  have hX : t_X wl_s_readAll sh gi gl gr gi gl gr := t_X.rf
  refine me_i f_X6_readAll p_a0.1 rfl rfl rfl ?_
  refine ev_ic f_X6_readAll (nx := 1) (v := 0) rfl (by decide) rfl ?_
  refine ev_loc f_X6_readAll (nx := 2) (lo' := [(1, .int 0), (0, .ref ar0)]) rfl rfl rfl rfl ?_
  have L1 : ∀ (m1 : Nat) (gi1 : Nat → Nat → Int32) (gl1 : Nat → Nat → Int64) (gr1 : Nat → Nat → Value) (y1_1 : Int32), t_I sh gi1 gr1 → t_X wl_s_readAll sh gi gl gr gi1 gl1 gr1 → t_RQ sh gr1 ar0 → 0 ≤ y1_1.toInt → y1_1.toInt ≤ 901 → (∀ (b : Nat → Int32) (n q : Nat) (D : s_D), t_CN b n q D gi gl gr ar0 → ∃ q2 D2, t_CN b n q2 D2 gi1 gl1 gr1 ar0 ∧ s_rv b n 901 q D = s_rv b n (901 - y1_1.toNatClampNeg) q2 D2) ∧ t_lq ar0 gi gl gr gi1 gl1 gr1 → (901 - y1_1.toInt).toNat = m1 → x_Ev X (d + 6) n_X6_readAll 2 [(1, .int y1_1), (0, .ref ar0)] [] (sh, gi1, gl1, gr1) (t_PI wl_s_readAll sh gi gl gr 0 1 (Q_s_readAll gi gl gr ar0)) := by
    intro m1
    induction m1 using Nat.strongRecOn with
    | _ m1 ih1 =>
    intro gi1 gl1 gr1 y1_1 hI hX p_a0 l1_1 u1_1 j1_0 hm1
    refine ev_loc f_X6_readAll (nx := 3) rfl rfl rfl rfl ?_
    refine ev_sp f_X6_readAll (nx := 6) (v := 900) rfl (by decide) rfl ?_
    refine ev_if f_X6_readAll (t1 := 181) (t2 := 9) rfl rfl rfl (fun h2 => ?_) (fun h2 => ?_)
    · have l3 : 901 ≤ y1_1.toInt := t_ltl h2 (by decide : (900:Int) ≤ (900:Int32).toInt) rfl
      refine ev_ic f_X6_readAll (nx := 182) (v := 1) rfl (by decide) rfl ?_
      exact ev_ret f_X6_readAll rfl rfl rfl ⟨_, _, _, rfl, hI, hX, ⟨_, rfl, (Int.le_trans (by decide : (0:Int) ≤ 1) (by decide : (1:Int) ≤ (1:Int32).toInt)), (by decide : (1:Int32).toInt ≤ (1:Int)), (show (∀ (b : Nat → Int32) (n q : Nat) (D : s_D), t_CN b n q D gi gl gr ar0 → ((1 : Int) = 1 ∧ ∃ q2 D2, s_rv b n 901 q D = s_ok q2 D2 ∧ t_CN b n q2 D2 gi1 gl1 gr1 ar0) ∨ ((1 : Int) = 0 ∧ ∃ p x D2, x ≠ 0 ∧ s_rv b n 901 q D = s_bad b n p x D2 ∧ t_FL gi1 (ar0 + 1) (s_fk b n p x) (s_F b n p))) ∧ t_lq ar0 gi gl gr gi1 gl1 gr1 from ⟨fun b n q D h => (by
                                                            obtain ⟨q2, D2, h2, hs⟩ := j1_0.1 b n q D h
                                                            have h2 : t_CS b n q2 D2 _ _ gi1 gl1 gr1 ar0 := h2
                                                            exact Or.inl ⟨rfl, q2, D2, hs.trans (by rw [show 901 - y1_1.toNatClampNeg = 0 from (by have h1 := t_clamp (i := y1_1) (by omega); omega)]; rfl), h2⟩), j1_0.2⟩)⟩⟩
    · have u4 : y1_1.toInt ≤ 900 := t_leu (t_nlt h2) (by decide : (900:Int32).toInt ≤ (900:Int))
      refine ev_loc f_X6_readAll (nx := 10) rfl rfl rfl rfl ?_
      have e5 := p_a0.2.2.2.2.1.1
      have p5 := p_a0.2.2.2.2.1.2
      refine ev_getR f_X6_readAll (nx := 13) rfl p_a0.1 rfl rfl e5 rfl rfl ?_
      refine ev_getI f_X6_readAll (nx := 16) rfl p5.1 rfl rfl rfl ?_
      refine ev_ic f_X6_readAll (nx := 17) (v := 3) rfl (by decide) rfl ?_
      refine ev_if f_X6_readAll (t1 := 181) (t2 := 20) rfl rfl rfl (fun h6 => ?_) (fun h6 => ?_)
      · have u7 : (gi1 (ar0 + 1) 3).toInt ≤ 3 := t_equ h6 (by decide : (3:Int32).toInt ≤ (3:Int))
        have l8 : 3 ≤ (gi1 (ar0 + 1) 3).toInt := t_eql h6 (by decide : (3:Int) ≤ (3:Int32).toInt)
        refine ev_ic f_X6_readAll (nx := 182) (v := 1) rfl (by decide) rfl ?_
        exact ev_ret f_X6_readAll rfl rfl rfl ⟨_, _, _, rfl, hI, hX, ⟨_, rfl, (Int.le_trans (by decide : (0:Int) ≤ 1) (by decide : (1:Int) ≤ (1:Int32).toInt)), (by decide : (1:Int32).toInt ≤ (1:Int)), (show (∀ (b : Nat → Int32) (n q : Nat) (D : s_D), t_CN b n q D gi gl gr ar0 → ((1 : Int) = 1 ∧ ∃ q2 D2, s_rv b n 901 q D = s_ok q2 D2 ∧ t_CN b n q2 D2 gi1 gl1 gr1 ar0) ∨ ((1 : Int) = 0 ∧ ∃ p x D2, x ≠ 0 ∧ s_rv b n 901 q D = s_bad b n p x D2 ∧ t_FL gi1 (ar0 + 1) (s_fk b n p x) (s_F b n p))) ∧ t_lq ar0 gi gl gr gi1 gl1 gr1 from ⟨fun b n q D h => (by
                                                            obtain ⟨q2, D2, h2, hs⟩ := j1_0.1 b n q D h
                                                            have h2 : t_CS b n q2 D2 _ _ gi1 gl1 gr1 ar0 := h2
                                                            have hK : s_K b n q2 = 0 := by have := h2.1.K; omega
                                                            exact Or.inl ⟨rfl, q2, D2, hs.trans (s_rv_e hK), h2⟩), j1_0.2⟩)⟩⟩
      · have r9 : (gi1 (ar0 + 1) 3).toInt ≠ 3 := fun e => h6 (Int32.toInt_inj.mp (e.trans (by decide : (3:Int) = (3 : Int32).toInt)))
        refine ev_ic f_X6_readAll (nx := 21) (v := 0) rfl (by decide) rfl ?_
        refine ev_loc f_X6_readAll (nx := 22) (lo' := [(2, .int 0), (1, .int y1_1), (0, .ref ar0)]) rfl rfl rfl rfl ?_
        refine ev_loc f_X6_readAll (nx := 23) rfl rfl rfl rfl ?_
        refine ev_getR f_X6_readAll (nx := 26) (v := .ref (ar0 + 1)) rfl p_a0.1 rfl rfl e5 rfl rfl ?_
        have k10 := hI.2.2.2.1.2.2.2.2.2 (ar0 + 1) p5.1
        obtain ⟨v10, e10⟩ : ∃ v, gr1 (ar0 + 1) 7 = v := ⟨_, rfl⟩
        rw [e10] at k10
        refine ev_getR f_X6_readAll (nx := 29) rfl p5.1 rfl rfl e10 (t_KwR k10) rfl ?_
        refine ev_heap f_X6_readAll (nx := 32) rfl rfl rfl rfl ?_
        refine ev_ack f_X6_readAll (t1 := 35) (t2 := 43) rfl rfl rfl (t_knw k10) rfl (fun h11 => ?_) (fun h11 => ?_)
        · refine ev_loc f_X6_readAll (nx := 36) rfl rfl rfl rfl ?_
          refine ev_qI f_X6_readAll (nx := 39) (r := []) rfl rfl rfl rfl rfl rfl rfl (c_s_readPort hI (ar0) p_a0) rfl hX rfl (fun w12 gi12 gl12 gr12 l12 u12 hI hX hC12 q12 => ?_)
          have q12 : (∀ (b : Nat → Int32) (n q : Nat) (D : s_D), t_CN b n q D gi1 gl1 gr1 ar0 → (w12.toInt = 1 ∧ ∃ q2 D2, s_port b n q D = s_ok q2 D2 ∧ t_CN b n q2 D2 gi12 gl12 gr12 ar0) ∨ (w12.toInt = 0 ∧ ∃ p x D2, x ≠ 0 ∧ s_port b n q D = s_bad b n p x D2 ∧ t_FL gi12 (ar0 + 1) (s_fk b n p x) (s_F b n p))) ∧ t_lq ar0 gi1 gl1 gr1 gi12 gl12 gr12 := q12
          replace p_a0 := p_a0.ext hC12.2
          replace p5 := p5.ext hC12.2
          refine ev_loc f_X6_readAll (nx := 40) (lo' := [(2, .int w12), (1, .int y1_1), (0, .ref ar0)]) rfl rfl rfl rfl ?_
          refine ev_jmp f_X6_readAll (nx := 157) rfl rfl rfl ?_
          refine ev_loc f_X6_readAll (nx := 158) rfl rfl rfl rfl ?_
          refine ev_if f_X6_readAll (t1 := 173) (t2 := 161) rfl rfl rfl (fun h13 => ?_) (fun h13 => ?_)
          · have u14 : w12.toInt ≤ 0 := t_equ h13 (by decide : (0:Int32).toInt ≤ (0:Int))
            refine ev_ic f_X6_readAll (nx := 174) (v := 0) rfl (by decide) rfl ?_
            exact ev_ret f_X6_readAll rfl rfl rfl ⟨_, _, _, rfl, hI, hX, ⟨_, rfl, (by decide : (0:Int) ≤ (0:Int32).toInt), (Int.le_trans (by decide : (0:Int32).toInt ≤ (0:Int)) (by decide : (0:Int) ≤ 1)), (show (∀ (b : Nat → Int32) (n q : Nat) (D : s_D), t_CN b n q D gi gl gr ar0 → ((0 : Int) = 1 ∧ ∃ q2 D2, s_rv b n 901 q D = s_ok q2 D2 ∧ t_CN b n q2 D2 gi12 gl12 gr12 ar0) ∨ ((0 : Int) = 0 ∧ ∃ p x D2, x ≠ 0 ∧ s_rv b n 901 q D = s_bad b n p x D2 ∧ t_FL gi12 (ar0 + 1) (s_fk b n p x) (s_F b n p))) ∧ t_lq ar0 gi gl gr gi12 gl12 gr12 from ⟨fun b n q D h => (by
                                                            obtain ⟨q2, D2, h2, hs⟩ := j1_0.1 b n q D h
                                                            have h2 : t_CS b n q2 D2 _ _ gi1 gl1 gr1 ar0 := h2
                                                            have hK : s_K b n q2 ≠ 0 := by have := h2.1.K; omega
                                                            rw [show 901 - y1_1.toNatClampNeg = (900 - y1_1.toNatClampNeg) + 1 from (by have h1 := t_clamp (i := y1_1) (by omega); omega)] at hs
                                                            have hP := s_part_0 (D := D2) (h2.1.kwT e10 h11)
                                                            obtain ⟨_, p, x, D3, hx, hX, hf⟩ := (q12.1 b n q2 D2 h2).resolve_left (fun hh => absurd hh.1 (by omega))
                                                            exact Or.inr ⟨rfl, p, x, D3, hx, hs.trans (s_rv_b1 hK hx (hP.trans hX)), hf⟩), (t_lq.tr j1_0.2 q12.2)⟩)⟩⟩
          · have r15 : w12.toInt ≠ 0 := fun e => h13 (Int32.toInt_inj.mp (e.trans (by decide : (0:Int) = (0 : Int32).toInt)))
            have l16 : 1 ≤ w12.toInt := t_nel h13 l12 rfl rfl
            refine ev_loc f_X6_readAll (nx := 162) rfl rfl rfl rfl ?_
            refine ev_getR f_X6_readAll (nx := 165) (v := .ref (ar0 + 1)) rfl p_a0.1 rfl rfl ((hC12.1 ar0 0 (t_ninO hI.wf p_a0.1 (t_outO hI.wf p_a0.1 rfl) rfl)).2.2.trans e5) rfl rfl ?_
            refine ev_bp f_X6_readAll (nx := 167) (v := 59) rfl (by decide) rfl ?_
            refine ev_qI f_X6_readAll (nx := 170) (r := []) rfl rfl rfl rfl rfl rfl rfl (c_s_takeSign hI ((ar0 + 1)) p5 (59)) rfl hX rfl (fun w17 gi17 gl17 gr17 l17 u17 hI hX hC17 q17 => ?_)
            have q17 : (∀ (b : Nat → Int32) (n q : Nat), t_TC b n q gi12 gl12 gr12 (ar0 + 1) → (w17.toInt = 1 ∧ s_isS b n q 59 ∧ t_TC b n (s_E b n q) gi17 gl17 gr17 (ar0 + 1) ∧ t_nf gi12 gi17 (ar0 + 1)) ∨ (w17.toInt = 0 ∧ ¬ s_isS b n q 59 ∧ t_FL gi17 (ar0 + 1) (s_fk b n q 2) (s_F b n q))) ∧ t_on (ar0 + 1) gi12 gl12 gr12 gi17 gl17 gr17 := q17
            replace p_a0 := p_a0.ext hC17.2
            replace p5 := p5.ext hC17.2
            refine ev_if f_X6_readAll (t1 := 173) (t2 := 175) rfl rfl rfl (fun h18 => ?_) (fun h18 => ?_)
            · have u19 : w17.toInt ≤ 0 := t_equ h18 (by decide : (0:Int32).toInt ≤ (0:Int))
              refine ev_ic f_X6_readAll (nx := 174) (v := 0) rfl (by decide) rfl ?_
              exact ev_ret f_X6_readAll rfl rfl rfl ⟨_, _, _, rfl, hI, hX, ⟨_, rfl, (by decide : (0:Int) ≤ (0:Int32).toInt), (Int.le_trans (by decide : (0:Int32).toInt ≤ (0:Int)) (by decide : (0:Int) ≤ 1)), (show (∀ (b : Nat → Int32) (n q : Nat) (D : s_D), t_CN b n q D gi gl gr ar0 → ((0 : Int) = 1 ∧ ∃ q2 D2, s_rv b n 901 q D = s_ok q2 D2 ∧ t_CN b n q2 D2 gi17 gl17 gr17 ar0) ∨ ((0 : Int) = 0 ∧ ∃ p x D2, x ≠ 0 ∧ s_rv b n 901 q D = s_bad b n p x D2 ∧ t_FL gi17 (ar0 + 1) (s_fk b n p x) (s_F b n p))) ∧ t_lq ar0 gi gl gr gi17 gl17 gr17 from ⟨fun b n q D h => (by
                                                            obtain ⟨q2, D2, h2, hs⟩ := j1_0.1 b n q D h
                                                            have h2 : t_CS b n q2 D2 _ _ gi1 gl1 gr1 ar0 := h2
                                                            have hK : s_K b n q2 ≠ 0 := by have := h2.1.K; omega
                                                            rw [show 901 - y1_1.toNatClampNeg = (900 - y1_1.toNatClampNeg) + 1 from (by have h1 := t_clamp (i := y1_1) (by omega); omega)] at hs
                                                            have hP := s_part_0 (D := D2) (h2.1.kwT e10 h11)
                                                            obtain ⟨_, q3, D3, hX, h3⟩ := (q12.1 b n q2 D2 h2).resolve_right (fun hh => absurd hh.1 (by omega))
                                                            obtain ⟨_, hS, hf⟩ := (q17.1 b n q3 h3.1).resolve_left (fun hh => absurd hh.1 (by omega))
                                                            exact Or.inr ⟨rfl, q3, 2, D3, by decide, hs.trans (s_rv_b2 hK (hP.trans hX) hS), hf⟩), (t_lq.on (t_lq.tr j1_0.2 q12.2) q17.2 (by omega))⟩)⟩⟩
            · have r20 : w17.toInt ≠ 0 := fun e => h18 (Int32.toInt_inj.mp (e.trans (by decide : (0:Int) = (0 : Int32).toInt)))
              have l21 : 1 ≤ w17.toInt := t_nel h18 l17 rfl rfl
              refine ev_incR f_X6_readAll (nx := 178) (c := 1) (l := 1) (u := 901) rfl rfl (by decide) (by decide) l1_1 u4 rfl rfl (by decide) (by decide) rfl (fun z22 e22 l22 u22 => ?_)
              refine ev_jmp f_X6_readAll (nx := 2) rfl rfl rfl ?_
              refine ev_sub (lo := [(1, .int z22), (0, .ref ar0)]) rfl (t_sc rfl (t_sc rfl t_sn)) ?_
              exact ih1 _ (by omega) gi17 gl17 gr17 (z22) hI hX p_a0 (Int.le_trans (by decide : (0:Int) ≤ 1) l22) u22 ⟨fun b n q D h => (by
                                                            obtain ⟨q2, D2, h2, hs⟩ := j1_0.1 b n q D h
                                                            have h2 : t_CS b n q2 D2 _ _ gi1 gl1 gr1 ar0 := h2
                                                            have hK : s_K b n q2 ≠ 0 := by have := h2.1.K; omega
                                                            have hP := s_part_0 (D := D2) (h2.1.kwT e10 h11)
                                                            obtain ⟨_, q3, D3, hX, h3⟩ := (q12.1 b n q2 D2 h2).resolve_right (fun hh => absurd hh.1 (by omega))
                                                            have h3 : t_CS b n q3 D3 _ _ gi12 gl12 gr12 ar0 := h3
                                                            obtain ⟨_, hS, hT, hF⟩ := (q17.1 b n q3 h3.1).resolve_right (fun hh => absurd hh.1 (by omega))
                                                            have h4 := h3.on hT hF q17.2
                                                            refine ⟨_, D3, h4, hs.trans ?_⟩
                                                            rw [show 901 - y1_1.toNatClampNeg = (901 - z22.toNatClampNeg) + 1 from (by have h1 := t_clamp (i := y1_1) (by omega); have h2 := t_clamp (i := z22) (by omega); omega)]
                                                            exact s_rv_ok hK (hP.trans hX) hS), (t_lq.on (t_lq.tr j1_0.2 q12.2) q17.2 (by omega))⟩ rfl
        · refine ev_loc f_X6_readAll (nx := 44) rfl rfl rfl rfl ?_
          refine ev_getR f_X6_readAll (nx := 47) (v := .ref (ar0 + 1)) rfl p_a0.1 rfl rfl e5 rfl rfl ?_
          refine ev_getR f_X6_readAll (nx := 50) (v := v10) rfl p5.1 rfl rfl e10 (t_KwR k10) rfl ?_
          refine ev_heap f_X6_readAll (nx := 53) rfl rfl rfl rfl ?_
          refine ev_ack f_X6_readAll (t1 := 56) (t2 := 64) rfl rfl rfl (t_knw k10) rfl (fun h23 => ?_) (fun h23 => ?_)
          · refine ev_loc f_X6_readAll (nx := 57) rfl rfl rfl rfl ?_
            refine ev_qI f_X6_readAll (nx := 60) (r := []) rfl rfl rfl rfl rfl rfl rfl (c_s_readTurns hI (ar0) p_a0) rfl hX rfl (fun w24 gi24 gl24 gr24 l24 u24 hI hX hC24 q24 => ?_)
            have q24 : (∀ (b : Nat → Int32) (n q : Nat) (D : s_D), t_CN b n q D gi1 gl1 gr1 ar0 → (w24.toInt = 1 ∧ ∃ q2 D2, s_turns b n q D = s_ok q2 D2 ∧ t_CN b n q2 D2 gi24 gl24 gr24 ar0) ∨ (w24.toInt = 0 ∧ ∃ p x D2, x ≠ 0 ∧ s_turns b n q D = s_bad b n p x D2 ∧ t_FL gi24 (ar0 + 1) (s_fk b n p x) (s_F b n p))) ∧ t_lq ar0 gi1 gl1 gr1 gi24 gl24 gr24 := q24
            replace p_a0 := p_a0.ext hC24.2
            replace p5 := p5.ext hC24.2
            refine ev_loc f_X6_readAll (nx := 61) (lo' := [(2, .int w24), (1, .int y1_1), (0, .ref ar0)]) rfl rfl rfl rfl ?_
            refine ev_jmp f_X6_readAll (nx := 157) rfl rfl rfl ?_
            refine ev_loc f_X6_readAll (nx := 158) rfl rfl rfl rfl ?_
            refine ev_if f_X6_readAll (t1 := 173) (t2 := 161) rfl rfl rfl (fun h25 => ?_) (fun h25 => ?_)
            · have u26 : w24.toInt ≤ 0 := t_equ h25 (by decide : (0:Int32).toInt ≤ (0:Int))
              refine ev_ic f_X6_readAll (nx := 174) (v := 0) rfl (by decide) rfl ?_
              exact ev_ret f_X6_readAll rfl rfl rfl ⟨_, _, _, rfl, hI, hX, ⟨_, rfl, (by decide : (0:Int) ≤ (0:Int32).toInt), (Int.le_trans (by decide : (0:Int32).toInt ≤ (0:Int)) (by decide : (0:Int) ≤ 1)), (show (∀ (b : Nat → Int32) (n q : Nat) (D : s_D), t_CN b n q D gi gl gr ar0 → ((0 : Int) = 1 ∧ ∃ q2 D2, s_rv b n 901 q D = s_ok q2 D2 ∧ t_CN b n q2 D2 gi24 gl24 gr24 ar0) ∨ ((0 : Int) = 0 ∧ ∃ p x D2, x ≠ 0 ∧ s_rv b n 901 q D = s_bad b n p x D2 ∧ t_FL gi24 (ar0 + 1) (s_fk b n p x) (s_F b n p))) ∧ t_lq ar0 gi gl gr gi24 gl24 gr24 from ⟨fun b n q D h => (by
                                                            obtain ⟨q2, D2, h2, hs⟩ := j1_0.1 b n q D h
                                                            have h2 : t_CS b n q2 D2 _ _ gi1 gl1 gr1 ar0 := h2
                                                            have hK : s_K b n q2 ≠ 0 := by have := h2.1.K; omega
                                                            rw [show 901 - y1_1.toNatClampNeg = (900 - y1_1.toNatClampNeg) + 1 from (by have h1 := t_clamp (i := y1_1) (by omega); omega)] at hs
                                                            have hP := s_part_2 (D := D2) (h2.1.kwT e10 h23)
                                                            obtain ⟨_, p, x, D3, hx, hX, hf⟩ := (q24.1 b n q2 D2 h2).resolve_left (fun hh => absurd hh.1 (by omega))
                                                            exact Or.inr ⟨rfl, p, x, D3, hx, hs.trans (s_rv_b1 hK hx (hP.trans hX)), hf⟩), (t_lq.tr j1_0.2 q24.2)⟩)⟩⟩
            · have r27 : w24.toInt ≠ 0 := fun e => h25 (Int32.toInt_inj.mp (e.trans (by decide : (0:Int) = (0 : Int32).toInt)))
              have l28 : 1 ≤ w24.toInt := t_nel h25 l24 rfl rfl
              refine ev_loc f_X6_readAll (nx := 162) rfl rfl rfl rfl ?_
              refine ev_getR f_X6_readAll (nx := 165) (v := .ref (ar0 + 1)) rfl p_a0.1 rfl rfl ((hC24.1 ar0 0 (t_ninO hI.wf p_a0.1 (t_outO hI.wf p_a0.1 rfl) rfl)).2.2.trans e5) rfl rfl ?_
              refine ev_bp f_X6_readAll (nx := 167) (v := 59) rfl (by decide) rfl ?_
              refine ev_qI f_X6_readAll (nx := 170) (r := []) rfl rfl rfl rfl rfl rfl rfl (c_s_takeSign hI ((ar0 + 1)) p5 (59)) rfl hX rfl (fun w29 gi29 gl29 gr29 l29 u29 hI hX hC29 q29 => ?_)
              have q29 : (∀ (b : Nat → Int32) (n q : Nat), t_TC b n q gi24 gl24 gr24 (ar0 + 1) → (w29.toInt = 1 ∧ s_isS b n q 59 ∧ t_TC b n (s_E b n q) gi29 gl29 gr29 (ar0 + 1) ∧ t_nf gi24 gi29 (ar0 + 1)) ∨ (w29.toInt = 0 ∧ ¬ s_isS b n q 59 ∧ t_FL gi29 (ar0 + 1) (s_fk b n q 2) (s_F b n q))) ∧ t_on (ar0 + 1) gi24 gl24 gr24 gi29 gl29 gr29 := q29
              replace p_a0 := p_a0.ext hC29.2
              replace p5 := p5.ext hC29.2
              refine ev_if f_X6_readAll (t1 := 173) (t2 := 175) rfl rfl rfl (fun h30 => ?_) (fun h30 => ?_)
              · have u31 : w29.toInt ≤ 0 := t_equ h30 (by decide : (0:Int32).toInt ≤ (0:Int))
                refine ev_ic f_X6_readAll (nx := 174) (v := 0) rfl (by decide) rfl ?_
                exact ev_ret f_X6_readAll rfl rfl rfl ⟨_, _, _, rfl, hI, hX, ⟨_, rfl, (by decide : (0:Int) ≤ (0:Int32).toInt), (Int.le_trans (by decide : (0:Int32).toInt ≤ (0:Int)) (by decide : (0:Int) ≤ 1)), (show (∀ (b : Nat → Int32) (n q : Nat) (D : s_D), t_CN b n q D gi gl gr ar0 → ((0 : Int) = 1 ∧ ∃ q2 D2, s_rv b n 901 q D = s_ok q2 D2 ∧ t_CN b n q2 D2 gi29 gl29 gr29 ar0) ∨ ((0 : Int) = 0 ∧ ∃ p x D2, x ≠ 0 ∧ s_rv b n 901 q D = s_bad b n p x D2 ∧ t_FL gi29 (ar0 + 1) (s_fk b n p x) (s_F b n p))) ∧ t_lq ar0 gi gl gr gi29 gl29 gr29 from ⟨fun b n q D h => (by
                                                            obtain ⟨q2, D2, h2, hs⟩ := j1_0.1 b n q D h
                                                            have h2 : t_CS b n q2 D2 _ _ gi1 gl1 gr1 ar0 := h2
                                                            have hK : s_K b n q2 ≠ 0 := by have := h2.1.K; omega
                                                            rw [show 901 - y1_1.toNatClampNeg = (900 - y1_1.toNatClampNeg) + 1 from (by have h1 := t_clamp (i := y1_1) (by omega); omega)] at hs
                                                            have hP := s_part_2 (D := D2) (h2.1.kwT e10 h23)
                                                            obtain ⟨_, q3, D3, hX, h3⟩ := (q24.1 b n q2 D2 h2).resolve_right (fun hh => absurd hh.1 (by omega))
                                                            obtain ⟨_, hS, hf⟩ := (q29.1 b n q3 h3.1).resolve_left (fun hh => absurd hh.1 (by omega))
                                                            exact Or.inr ⟨rfl, q3, 2, D3, by decide, hs.trans (s_rv_b2 hK (hP.trans hX) hS), hf⟩), (t_lq.on (t_lq.tr j1_0.2 q24.2) q29.2 (by omega))⟩)⟩⟩
              · have r32 : w29.toInt ≠ 0 := fun e => h30 (Int32.toInt_inj.mp (e.trans (by decide : (0:Int) = (0 : Int32).toInt)))
                have l33 : 1 ≤ w29.toInt := t_nel h30 l29 rfl rfl
                refine ev_incR f_X6_readAll (nx := 178) (c := 1) (l := 1) (u := 901) rfl rfl (by decide) (by decide) l1_1 u4 rfl rfl (by decide) (by decide) rfl (fun z34 e34 l34 u34 => ?_)
                refine ev_jmp f_X6_readAll (nx := 2) rfl rfl rfl ?_
                refine ev_sub (lo := [(1, .int z34), (0, .ref ar0)]) rfl (t_sc rfl (t_sc rfl t_sn)) ?_
                exact ih1 _ (by omega) gi29 gl29 gr29 (z34) hI hX p_a0 (Int.le_trans (by decide : (0:Int) ≤ 1) l34) u34 ⟨fun b n q D h => (by
                                                            obtain ⟨q2, D2, h2, hs⟩ := j1_0.1 b n q D h
                                                            have h2 : t_CS b n q2 D2 _ _ gi1 gl1 gr1 ar0 := h2
                                                            have hK : s_K b n q2 ≠ 0 := by have := h2.1.K; omega
                                                            have hP := s_part_2 (D := D2) (h2.1.kwT e10 h23)
                                                            obtain ⟨_, q3, D3, hX, h3⟩ := (q24.1 b n q2 D2 h2).resolve_right (fun hh => absurd hh.1 (by omega))
                                                            have h3 : t_CS b n q3 D3 _ _ gi24 gl24 gr24 ar0 := h3
                                                            obtain ⟨_, hS, hT, hF⟩ := (q29.1 b n q3 h3.1).resolve_right (fun hh => absurd hh.1 (by omega))
                                                            have h4 := h3.on hT hF q29.2
                                                            refine ⟨_, D3, h4, hs.trans ?_⟩
                                                            rw [show 901 - y1_1.toNatClampNeg = (901 - z34.toNatClampNeg) + 1 from (by have h1 := t_clamp (i := y1_1) (by omega); have h2 := t_clamp (i := z34) (by omega); omega)]
                                                            exact s_rv_ok hK (hP.trans hX) hS), (t_lq.on (t_lq.tr j1_0.2 q24.2) q29.2 (by omega))⟩ rfl
          · refine ev_loc f_X6_readAll (nx := 65) rfl rfl rfl rfl ?_
            refine ev_getR f_X6_readAll (nx := 68) (v := .ref (ar0 + 1)) rfl p_a0.1 rfl rfl e5 rfl rfl ?_
            refine ev_getR f_X6_readAll (nx := 71) (v := v10) rfl p5.1 rfl rfl e10 (t_KwR k10) rfl ?_
            refine ev_heap f_X6_readAll (nx := 74) rfl rfl rfl rfl ?_
            refine ev_ack f_X6_readAll (t1 := 77) (t2 := 85) rfl rfl rfl (t_knw k10) rfl (fun h35 => ?_) (fun h35 => ?_)
            · refine ev_loc f_X6_readAll (nx := 78) rfl rfl rfl rfl ?_
              refine ev_qI f_X6_readAll (nx := 81) (r := []) rfl rfl rfl rfl rfl rfl rfl (c_s_readFrost hI (ar0) p_a0) rfl hX rfl (fun w36 gi36 gl36 gr36 l36 u36 hI hX hC36 q36 => ?_)
              have q36 : (∀ (b : Nat → Int32) (n q : Nat) (D : s_D), t_CN b n q D gi1 gl1 gr1 ar0 → (w36.toInt = 1 ∧ ∃ q2 D2, s_frost b n q D = s_ok q2 D2 ∧ t_CN b n q2 D2 gi36 gl36 gr36 ar0) ∨ (w36.toInt = 0 ∧ ∃ p x D2, x ≠ 0 ∧ s_frost b n q D = s_bad b n p x D2 ∧ t_FL gi36 (ar0 + 1) (s_fk b n p x) (s_F b n p))) ∧ t_lq ar0 gi1 gl1 gr1 gi36 gl36 gr36 := q36
              replace p_a0 := p_a0.ext hC36.2
              replace p5 := p5.ext hC36.2
              refine ev_loc f_X6_readAll (nx := 82) (lo' := [(2, .int w36), (1, .int y1_1), (0, .ref ar0)]) rfl rfl rfl rfl ?_
              refine ev_jmp f_X6_readAll (nx := 157) rfl rfl rfl ?_
              refine ev_loc f_X6_readAll (nx := 158) rfl rfl rfl rfl ?_
              refine ev_if f_X6_readAll (t1 := 173) (t2 := 161) rfl rfl rfl (fun h37 => ?_) (fun h37 => ?_)
              · have u38 : w36.toInt ≤ 0 := t_equ h37 (by decide : (0:Int32).toInt ≤ (0:Int))
                refine ev_ic f_X6_readAll (nx := 174) (v := 0) rfl (by decide) rfl ?_
                exact ev_ret f_X6_readAll rfl rfl rfl ⟨_, _, _, rfl, hI, hX, ⟨_, rfl, (by decide : (0:Int) ≤ (0:Int32).toInt), (Int.le_trans (by decide : (0:Int32).toInt ≤ (0:Int)) (by decide : (0:Int) ≤ 1)), (show (∀ (b : Nat → Int32) (n q : Nat) (D : s_D), t_CN b n q D gi gl gr ar0 → ((0 : Int) = 1 ∧ ∃ q2 D2, s_rv b n 901 q D = s_ok q2 D2 ∧ t_CN b n q2 D2 gi36 gl36 gr36 ar0) ∨ ((0 : Int) = 0 ∧ ∃ p x D2, x ≠ 0 ∧ s_rv b n 901 q D = s_bad b n p x D2 ∧ t_FL gi36 (ar0 + 1) (s_fk b n p x) (s_F b n p))) ∧ t_lq ar0 gi gl gr gi36 gl36 gr36 from ⟨fun b n q D h => (by
                                                            obtain ⟨q2, D2, h2, hs⟩ := j1_0.1 b n q D h
                                                            have h2 : t_CS b n q2 D2 _ _ gi1 gl1 gr1 ar0 := h2
                                                            have hK : s_K b n q2 ≠ 0 := by have := h2.1.K; omega
                                                            rw [show 901 - y1_1.toNatClampNeg = (900 - y1_1.toNatClampNeg) + 1 from (by have h1 := t_clamp (i := y1_1) (by omega); omega)] at hs
                                                            have hP := s_part_3 (D := D2) (h2.1.kwT e10 h35)
                                                            obtain ⟨_, p, x, D3, hx, hX, hf⟩ := (q36.1 b n q2 D2 h2).resolve_left (fun hh => absurd hh.1 (by omega))
                                                            exact Or.inr ⟨rfl, p, x, D3, hx, hs.trans (s_rv_b1 hK hx (hP.trans hX)), hf⟩), (t_lq.tr j1_0.2 q36.2)⟩)⟩⟩
              · have r39 : w36.toInt ≠ 0 := fun e => h37 (Int32.toInt_inj.mp (e.trans (by decide : (0:Int) = (0 : Int32).toInt)))
                have l40 : 1 ≤ w36.toInt := t_nel h37 l36 rfl rfl
                refine ev_loc f_X6_readAll (nx := 162) rfl rfl rfl rfl ?_
                refine ev_getR f_X6_readAll (nx := 165) (v := .ref (ar0 + 1)) rfl p_a0.1 rfl rfl ((hC36.1 ar0 0 (t_ninO hI.wf p_a0.1 (t_outO hI.wf p_a0.1 rfl) rfl)).2.2.trans e5) rfl rfl ?_
                refine ev_bp f_X6_readAll (nx := 167) (v := 59) rfl (by decide) rfl ?_
                refine ev_qI f_X6_readAll (nx := 170) (r := []) rfl rfl rfl rfl rfl rfl rfl (c_s_takeSign hI ((ar0 + 1)) p5 (59)) rfl hX rfl (fun w41 gi41 gl41 gr41 l41 u41 hI hX hC41 q41 => ?_)
                have q41 : (∀ (b : Nat → Int32) (n q : Nat), t_TC b n q gi36 gl36 gr36 (ar0 + 1) → (w41.toInt = 1 ∧ s_isS b n q 59 ∧ t_TC b n (s_E b n q) gi41 gl41 gr41 (ar0 + 1) ∧ t_nf gi36 gi41 (ar0 + 1)) ∨ (w41.toInt = 0 ∧ ¬ s_isS b n q 59 ∧ t_FL gi41 (ar0 + 1) (s_fk b n q 2) (s_F b n q))) ∧ t_on (ar0 + 1) gi36 gl36 gr36 gi41 gl41 gr41 := q41
                replace p_a0 := p_a0.ext hC41.2
                replace p5 := p5.ext hC41.2
                refine ev_if f_X6_readAll (t1 := 173) (t2 := 175) rfl rfl rfl (fun h42 => ?_) (fun h42 => ?_)
                · have u43 : w41.toInt ≤ 0 := t_equ h42 (by decide : (0:Int32).toInt ≤ (0:Int))
                  refine ev_ic f_X6_readAll (nx := 174) (v := 0) rfl (by decide) rfl ?_
                  exact ev_ret f_X6_readAll rfl rfl rfl ⟨_, _, _, rfl, hI, hX, ⟨_, rfl, (by decide : (0:Int) ≤ (0:Int32).toInt), (Int.le_trans (by decide : (0:Int32).toInt ≤ (0:Int)) (by decide : (0:Int) ≤ 1)), (show (∀ (b : Nat → Int32) (n q : Nat) (D : s_D), t_CN b n q D gi gl gr ar0 → ((0 : Int) = 1 ∧ ∃ q2 D2, s_rv b n 901 q D = s_ok q2 D2 ∧ t_CN b n q2 D2 gi41 gl41 gr41 ar0) ∨ ((0 : Int) = 0 ∧ ∃ p x D2, x ≠ 0 ∧ s_rv b n 901 q D = s_bad b n p x D2 ∧ t_FL gi41 (ar0 + 1) (s_fk b n p x) (s_F b n p))) ∧ t_lq ar0 gi gl gr gi41 gl41 gr41 from ⟨fun b n q D h => (by
                                                            obtain ⟨q2, D2, h2, hs⟩ := j1_0.1 b n q D h
                                                            have h2 : t_CS b n q2 D2 _ _ gi1 gl1 gr1 ar0 := h2
                                                            have hK : s_K b n q2 ≠ 0 := by have := h2.1.K; omega
                                                            rw [show 901 - y1_1.toNatClampNeg = (900 - y1_1.toNatClampNeg) + 1 from (by have h1 := t_clamp (i := y1_1) (by omega); omega)] at hs
                                                            have hP := s_part_3 (D := D2) (h2.1.kwT e10 h35)
                                                            obtain ⟨_, q3, D3, hX, h3⟩ := (q36.1 b n q2 D2 h2).resolve_right (fun hh => absurd hh.1 (by omega))
                                                            obtain ⟨_, hS, hf⟩ := (q41.1 b n q3 h3.1).resolve_left (fun hh => absurd hh.1 (by omega))
                                                            exact Or.inr ⟨rfl, q3, 2, D3, by decide, hs.trans (s_rv_b2 hK (hP.trans hX) hS), hf⟩), (t_lq.on (t_lq.tr j1_0.2 q36.2) q41.2 (by omega))⟩)⟩⟩
                · have r44 : w41.toInt ≠ 0 := fun e => h42 (Int32.toInt_inj.mp (e.trans (by decide : (0:Int) = (0 : Int32).toInt)))
                  have l45 : 1 ≤ w41.toInt := t_nel h42 l41 rfl rfl
                  refine ev_incR f_X6_readAll (nx := 178) (c := 1) (l := 1) (u := 901) rfl rfl (by decide) (by decide) l1_1 u4 rfl rfl (by decide) (by decide) rfl (fun z46 e46 l46 u46 => ?_)
                  refine ev_jmp f_X6_readAll (nx := 2) rfl rfl rfl ?_
                  refine ev_sub (lo := [(1, .int z46), (0, .ref ar0)]) rfl (t_sc rfl (t_sc rfl t_sn)) ?_
                  exact ih1 _ (by omega) gi41 gl41 gr41 (z46) hI hX p_a0 (Int.le_trans (by decide : (0:Int) ≤ 1) l46) u46 ⟨fun b n q D h => (by
                                                            obtain ⟨q2, D2, h2, hs⟩ := j1_0.1 b n q D h
                                                            have h2 : t_CS b n q2 D2 _ _ gi1 gl1 gr1 ar0 := h2
                                                            have hK : s_K b n q2 ≠ 0 := by have := h2.1.K; omega
                                                            have hP := s_part_3 (D := D2) (h2.1.kwT e10 h35)
                                                            obtain ⟨_, q3, D3, hX, h3⟩ := (q36.1 b n q2 D2 h2).resolve_right (fun hh => absurd hh.1 (by omega))
                                                            have h3 : t_CS b n q3 D3 _ _ gi36 gl36 gr36 ar0 := h3
                                                            obtain ⟨_, hS, hT, hF⟩ := (q41.1 b n q3 h3.1).resolve_right (fun hh => absurd hh.1 (by omega))
                                                            have h4 := h3.on hT hF q41.2
                                                            refine ⟨_, D3, h4, hs.trans ?_⟩
                                                            rw [show 901 - y1_1.toNatClampNeg = (901 - z46.toNatClampNeg) + 1 from (by have h1 := t_clamp (i := y1_1) (by omega); have h2 := t_clamp (i := z46) (by omega); omega)]
                                                            exact s_rv_ok hK (hP.trans hX) hS), (t_lq.on (t_lq.tr j1_0.2 q36.2) q41.2 (by omega))⟩ rfl
            · refine ev_loc f_X6_readAll (nx := 86) rfl rfl rfl rfl ?_
              refine ev_getR f_X6_readAll (nx := 89) (v := .ref (ar0 + 1)) rfl p_a0.1 rfl rfl e5 rfl rfl ?_
              refine ev_getR f_X6_readAll (nx := 92) (v := v10) rfl p5.1 rfl rfl e10 (t_KwR k10) rfl ?_
              refine ev_heap f_X6_readAll (nx := 95) rfl rfl rfl rfl ?_
              refine ev_ack f_X6_readAll (t1 := 98) (t2 := 106) rfl rfl rfl (t_knw k10) rfl (fun h47 => ?_) (fun h47 => ?_)
              · refine ev_loc f_X6_readAll (nx := 99) rfl rfl rfl rfl ?_
                refine ev_qI f_X6_readAll (nx := 102) (r := []) rfl rfl rfl rfl rfl rfl rfl (c_s_readEcho hI (ar0) p_a0) rfl hX rfl (fun w48 gi48 gl48 gr48 l48 u48 hI hX hC48 q48 => ?_)
                have q48 : (∀ (b : Nat → Int32) (n q : Nat) (D : s_D), t_CN b n q D gi1 gl1 gr1 ar0 → (w48.toInt = 1 ∧ ∃ q2 D2, s_echo b n q D = s_ok q2 D2 ∧ t_CN b n q2 D2 gi48 gl48 gr48 ar0) ∨ (w48.toInt = 0 ∧ ∃ p x D2, x ≠ 0 ∧ s_echo b n q D = s_bad b n p x D2 ∧ t_FL gi48 (ar0 + 1) (s_fk b n p x) (s_F b n p))) ∧ t_lq ar0 gi1 gl1 gr1 gi48 gl48 gr48 := q48
                replace p_a0 := p_a0.ext hC48.2
                replace p5 := p5.ext hC48.2
                refine ev_loc f_X6_readAll (nx := 103) (lo' := [(2, .int w48), (1, .int y1_1), (0, .ref ar0)]) rfl rfl rfl rfl ?_
                refine ev_jmp f_X6_readAll (nx := 157) rfl rfl rfl ?_
                refine ev_loc f_X6_readAll (nx := 158) rfl rfl rfl rfl ?_
                refine ev_if f_X6_readAll (t1 := 173) (t2 := 161) rfl rfl rfl (fun h49 => ?_) (fun h49 => ?_)
                · have u50 : w48.toInt ≤ 0 := t_equ h49 (by decide : (0:Int32).toInt ≤ (0:Int))
                  refine ev_ic f_X6_readAll (nx := 174) (v := 0) rfl (by decide) rfl ?_
                  exact ev_ret f_X6_readAll rfl rfl rfl ⟨_, _, _, rfl, hI, hX, ⟨_, rfl, (by decide : (0:Int) ≤ (0:Int32).toInt), (Int.le_trans (by decide : (0:Int32).toInt ≤ (0:Int)) (by decide : (0:Int) ≤ 1)), (show (∀ (b : Nat → Int32) (n q : Nat) (D : s_D), t_CN b n q D gi gl gr ar0 → ((0 : Int) = 1 ∧ ∃ q2 D2, s_rv b n 901 q D = s_ok q2 D2 ∧ t_CN b n q2 D2 gi48 gl48 gr48 ar0) ∨ ((0 : Int) = 0 ∧ ∃ p x D2, x ≠ 0 ∧ s_rv b n 901 q D = s_bad b n p x D2 ∧ t_FL gi48 (ar0 + 1) (s_fk b n p x) (s_F b n p))) ∧ t_lq ar0 gi gl gr gi48 gl48 gr48 from ⟨fun b n q D h => (by
                                                            obtain ⟨q2, D2, h2, hs⟩ := j1_0.1 b n q D h
                                                            have h2 : t_CS b n q2 D2 _ _ gi1 gl1 gr1 ar0 := h2
                                                            have hK : s_K b n q2 ≠ 0 := by have := h2.1.K; omega
                                                            rw [show 901 - y1_1.toNatClampNeg = (900 - y1_1.toNatClampNeg) + 1 from (by have h1 := t_clamp (i := y1_1) (by omega); omega)] at hs
                                                            have hP := s_part_5 (D := D2) (h2.1.kwT e10 h47)
                                                            obtain ⟨_, p, x, D3, hx, hX, hf⟩ := (q48.1 b n q2 D2 h2).resolve_left (fun hh => absurd hh.1 (by omega))
                                                            exact Or.inr ⟨rfl, p, x, D3, hx, hs.trans (s_rv_b1 hK hx (hP.trans hX)), hf⟩), (t_lq.tr j1_0.2 q48.2)⟩)⟩⟩
                · have r51 : w48.toInt ≠ 0 := fun e => h49 (Int32.toInt_inj.mp (e.trans (by decide : (0:Int) = (0 : Int32).toInt)))
                  have l52 : 1 ≤ w48.toInt := t_nel h49 l48 rfl rfl
                  refine ev_loc f_X6_readAll (nx := 162) rfl rfl rfl rfl ?_
                  refine ev_getR f_X6_readAll (nx := 165) (v := .ref (ar0 + 1)) rfl p_a0.1 rfl rfl ((hC48.1 ar0 0 (t_ninO hI.wf p_a0.1 (t_outO hI.wf p_a0.1 rfl) rfl)).2.2.trans e5) rfl rfl ?_
                  refine ev_bp f_X6_readAll (nx := 167) (v := 59) rfl (by decide) rfl ?_
                  refine ev_qI f_X6_readAll (nx := 170) (r := []) rfl rfl rfl rfl rfl rfl rfl (c_s_takeSign hI ((ar0 + 1)) p5 (59)) rfl hX rfl (fun w53 gi53 gl53 gr53 l53 u53 hI hX hC53 q53 => ?_)
                  have q53 : (∀ (b : Nat → Int32) (n q : Nat), t_TC b n q gi48 gl48 gr48 (ar0 + 1) → (w53.toInt = 1 ∧ s_isS b n q 59 ∧ t_TC b n (s_E b n q) gi53 gl53 gr53 (ar0 + 1) ∧ t_nf gi48 gi53 (ar0 + 1)) ∨ (w53.toInt = 0 ∧ ¬ s_isS b n q 59 ∧ t_FL gi53 (ar0 + 1) (s_fk b n q 2) (s_F b n q))) ∧ t_on (ar0 + 1) gi48 gl48 gr48 gi53 gl53 gr53 := q53
                  replace p_a0 := p_a0.ext hC53.2
                  replace p5 := p5.ext hC53.2
                  refine ev_if f_X6_readAll (t1 := 173) (t2 := 175) rfl rfl rfl (fun h54 => ?_) (fun h54 => ?_)
                  · have u55 : w53.toInt ≤ 0 := t_equ h54 (by decide : (0:Int32).toInt ≤ (0:Int))
                    refine ev_ic f_X6_readAll (nx := 174) (v := 0) rfl (by decide) rfl ?_
                    exact ev_ret f_X6_readAll rfl rfl rfl ⟨_, _, _, rfl, hI, hX, ⟨_, rfl, (by decide : (0:Int) ≤ (0:Int32).toInt), (Int.le_trans (by decide : (0:Int32).toInt ≤ (0:Int)) (by decide : (0:Int) ≤ 1)), (show (∀ (b : Nat → Int32) (n q : Nat) (D : s_D), t_CN b n q D gi gl gr ar0 → ((0 : Int) = 1 ∧ ∃ q2 D2, s_rv b n 901 q D = s_ok q2 D2 ∧ t_CN b n q2 D2 gi53 gl53 gr53 ar0) ∨ ((0 : Int) = 0 ∧ ∃ p x D2, x ≠ 0 ∧ s_rv b n 901 q D = s_bad b n p x D2 ∧ t_FL gi53 (ar0 + 1) (s_fk b n p x) (s_F b n p))) ∧ t_lq ar0 gi gl gr gi53 gl53 gr53 from ⟨fun b n q D h => (by
                                                            obtain ⟨q2, D2, h2, hs⟩ := j1_0.1 b n q D h
                                                            have h2 : t_CS b n q2 D2 _ _ gi1 gl1 gr1 ar0 := h2
                                                            have hK : s_K b n q2 ≠ 0 := by have := h2.1.K; omega
                                                            rw [show 901 - y1_1.toNatClampNeg = (900 - y1_1.toNatClampNeg) + 1 from (by have h1 := t_clamp (i := y1_1) (by omega); omega)] at hs
                                                            have hP := s_part_5 (D := D2) (h2.1.kwT e10 h47)
                                                            obtain ⟨_, q3, D3, hX, h3⟩ := (q48.1 b n q2 D2 h2).resolve_right (fun hh => absurd hh.1 (by omega))
                                                            obtain ⟨_, hS, hf⟩ := (q53.1 b n q3 h3.1).resolve_left (fun hh => absurd hh.1 (by omega))
                                                            exact Or.inr ⟨rfl, q3, 2, D3, by decide, hs.trans (s_rv_b2 hK (hP.trans hX) hS), hf⟩), (t_lq.on (t_lq.tr j1_0.2 q48.2) q53.2 (by omega))⟩)⟩⟩
                  · have r56 : w53.toInt ≠ 0 := fun e => h54 (Int32.toInt_inj.mp (e.trans (by decide : (0:Int) = (0 : Int32).toInt)))
                    have l57 : 1 ≤ w53.toInt := t_nel h54 l53 rfl rfl
                    refine ev_incR f_X6_readAll (nx := 178) (c := 1) (l := 1) (u := 901) rfl rfl (by decide) (by decide) l1_1 u4 rfl rfl (by decide) (by decide) rfl (fun z58 e58 l58 u58 => ?_)
                    refine ev_jmp f_X6_readAll (nx := 2) rfl rfl rfl ?_
                    refine ev_sub (lo := [(1, .int z58), (0, .ref ar0)]) rfl (t_sc rfl (t_sc rfl t_sn)) ?_
                    exact ih1 _ (by omega) gi53 gl53 gr53 (z58) hI hX p_a0 (Int.le_trans (by decide : (0:Int) ≤ 1) l58) u58 ⟨fun b n q D h => (by
                                                            obtain ⟨q2, D2, h2, hs⟩ := j1_0.1 b n q D h
                                                            have h2 : t_CS b n q2 D2 _ _ gi1 gl1 gr1 ar0 := h2
                                                            have hK : s_K b n q2 ≠ 0 := by have := h2.1.K; omega
                                                            have hP := s_part_5 (D := D2) (h2.1.kwT e10 h47)
                                                            obtain ⟨_, q3, D3, hX, h3⟩ := (q48.1 b n q2 D2 h2).resolve_right (fun hh => absurd hh.1 (by omega))
                                                            have h3 : t_CS b n q3 D3 _ _ gi48 gl48 gr48 ar0 := h3
                                                            obtain ⟨_, hS, hT, hF⟩ := (q53.1 b n q3 h3.1).resolve_right (fun hh => absurd hh.1 (by omega))
                                                            have h4 := h3.on hT hF q53.2
                                                            refine ⟨_, D3, h4, hs.trans ?_⟩
                                                            rw [show 901 - y1_1.toNatClampNeg = (901 - z58.toNatClampNeg) + 1 from (by have h1 := t_clamp (i := y1_1) (by omega); have h2 := t_clamp (i := z58) (by omega); omega)]
                                                            exact s_rv_ok hK (hP.trans hX) hS), (t_lq.on (t_lq.tr j1_0.2 q48.2) q53.2 (by omega))⟩ rfl
              · refine ev_loc f_X6_readAll (nx := 107) rfl rfl rfl rfl ?_
                refine ev_getR f_X6_readAll (nx := 110) (v := .ref (ar0 + 1)) rfl p_a0.1 rfl rfl e5 rfl rfl ?_
                refine ev_getR f_X6_readAll (nx := 113) (v := v10) rfl p5.1 rfl rfl e10 (t_KwR k10) rfl ?_
                refine ev_heap f_X6_readAll (nx := 116) rfl rfl rfl rfl ?_
                refine ev_ack f_X6_readAll (t1 := 119) (t2 := 127) rfl rfl rfl (t_knw k10) rfl (fun h59 => ?_) (fun h59 => ?_)
                · refine ev_loc f_X6_readAll (nx := 120) rfl rfl rfl rfl ?_
                  refine ev_qI f_X6_readAll (nx := 123) (r := []) rfl rfl rfl rfl rfl rfl rfl (c_s_readShip hI (ar0) p_a0) rfl hX rfl (fun w60 gi60 gl60 gr60 l60 u60 hI hX hC60 q60 => ?_)
                  have q60 : (∀ (b : Nat → Int32) (n q : Nat) (D : s_D), t_CN b n q D gi1 gl1 gr1 ar0 → (w60.toInt = 1 ∧ ∃ q2 D2, s_ship b n q D = s_ok q2 D2 ∧ t_CN b n q2 D2 gi60 gl60 gr60 ar0) ∨ (w60.toInt = 0 ∧ ∃ p x D2, x ≠ 0 ∧ s_ship b n q D = s_bad b n p x D2 ∧ t_FL gi60 (ar0 + 1) (s_fk b n p x) (s_F b n p))) ∧ t_lq ar0 gi1 gl1 gr1 gi60 gl60 gr60 := q60
                  replace p_a0 := p_a0.ext hC60.2
                  replace p5 := p5.ext hC60.2
                  refine ev_loc f_X6_readAll (nx := 124) (lo' := [(2, .int w60), (1, .int y1_1), (0, .ref ar0)]) rfl rfl rfl rfl ?_
                  refine ev_jmp f_X6_readAll (nx := 157) rfl rfl rfl ?_
                  refine ev_loc f_X6_readAll (nx := 158) rfl rfl rfl rfl ?_
                  refine ev_if f_X6_readAll (t1 := 173) (t2 := 161) rfl rfl rfl (fun h61 => ?_) (fun h61 => ?_)
                  · have u62 : w60.toInt ≤ 0 := t_equ h61 (by decide : (0:Int32).toInt ≤ (0:Int))
                    refine ev_ic f_X6_readAll (nx := 174) (v := 0) rfl (by decide) rfl ?_
                    exact ev_ret f_X6_readAll rfl rfl rfl ⟨_, _, _, rfl, hI, hX, ⟨_, rfl, (by decide : (0:Int) ≤ (0:Int32).toInt), (Int.le_trans (by decide : (0:Int32).toInt ≤ (0:Int)) (by decide : (0:Int) ≤ 1)), (show (∀ (b : Nat → Int32) (n q : Nat) (D : s_D), t_CN b n q D gi gl gr ar0 → ((0 : Int) = 1 ∧ ∃ q2 D2, s_rv b n 901 q D = s_ok q2 D2 ∧ t_CN b n q2 D2 gi60 gl60 gr60 ar0) ∨ ((0 : Int) = 0 ∧ ∃ p x D2, x ≠ 0 ∧ s_rv b n 901 q D = s_bad b n p x D2 ∧ t_FL gi60 (ar0 + 1) (s_fk b n p x) (s_F b n p))) ∧ t_lq ar0 gi gl gr gi60 gl60 gr60 from ⟨fun b n q D h => (by
                                                            obtain ⟨q2, D2, h2, hs⟩ := j1_0.1 b n q D h
                                                            have h2 : t_CS b n q2 D2 _ _ gi1 gl1 gr1 ar0 := h2
                                                            have hK : s_K b n q2 ≠ 0 := by have := h2.1.K; omega
                                                            rw [show 901 - y1_1.toNatClampNeg = (900 - y1_1.toNatClampNeg) + 1 from (by have h1 := t_clamp (i := y1_1) (by omega); omega)] at hs
                                                            have hP := s_part_6 (D := D2) (h2.1.kwT e10 h59)
                                                            obtain ⟨_, p, x, D3, hx, hX, hf⟩ := (q60.1 b n q2 D2 h2).resolve_left (fun hh => absurd hh.1 (by omega))
                                                            exact Or.inr ⟨rfl, p, x, D3, hx, hs.trans (s_rv_b1 hK hx (hP.trans hX)), hf⟩), (t_lq.tr j1_0.2 q60.2)⟩)⟩⟩
                  · have r63 : w60.toInt ≠ 0 := fun e => h61 (Int32.toInt_inj.mp (e.trans (by decide : (0:Int) = (0 : Int32).toInt)))
                    have l64 : 1 ≤ w60.toInt := t_nel h61 l60 rfl rfl
                    refine ev_loc f_X6_readAll (nx := 162) rfl rfl rfl rfl ?_
                    refine ev_getR f_X6_readAll (nx := 165) (v := .ref (ar0 + 1)) rfl p_a0.1 rfl rfl ((hC60.1 ar0 0 (t_ninO hI.wf p_a0.1 (t_outO hI.wf p_a0.1 rfl) rfl)).2.2.trans e5) rfl rfl ?_
                    refine ev_bp f_X6_readAll (nx := 167) (v := 59) rfl (by decide) rfl ?_
                    refine ev_qI f_X6_readAll (nx := 170) (r := []) rfl rfl rfl rfl rfl rfl rfl (c_s_takeSign hI ((ar0 + 1)) p5 (59)) rfl hX rfl (fun w65 gi65 gl65 gr65 l65 u65 hI hX hC65 q65 => ?_)
                    have q65 : (∀ (b : Nat → Int32) (n q : Nat), t_TC b n q gi60 gl60 gr60 (ar0 + 1) → (w65.toInt = 1 ∧ s_isS b n q 59 ∧ t_TC b n (s_E b n q) gi65 gl65 gr65 (ar0 + 1) ∧ t_nf gi60 gi65 (ar0 + 1)) ∨ (w65.toInt = 0 ∧ ¬ s_isS b n q 59 ∧ t_FL gi65 (ar0 + 1) (s_fk b n q 2) (s_F b n q))) ∧ t_on (ar0 + 1) gi60 gl60 gr60 gi65 gl65 gr65 := q65
                    replace p_a0 := p_a0.ext hC65.2
                    replace p5 := p5.ext hC65.2
                    refine ev_if f_X6_readAll (t1 := 173) (t2 := 175) rfl rfl rfl (fun h66 => ?_) (fun h66 => ?_)
                    · have u67 : w65.toInt ≤ 0 := t_equ h66 (by decide : (0:Int32).toInt ≤ (0:Int))
                      refine ev_ic f_X6_readAll (nx := 174) (v := 0) rfl (by decide) rfl ?_
                      exact ev_ret f_X6_readAll rfl rfl rfl ⟨_, _, _, rfl, hI, hX, ⟨_, rfl, (by decide : (0:Int) ≤ (0:Int32).toInt), (Int.le_trans (by decide : (0:Int32).toInt ≤ (0:Int)) (by decide : (0:Int) ≤ 1)), (show (∀ (b : Nat → Int32) (n q : Nat) (D : s_D), t_CN b n q D gi gl gr ar0 → ((0 : Int) = 1 ∧ ∃ q2 D2, s_rv b n 901 q D = s_ok q2 D2 ∧ t_CN b n q2 D2 gi65 gl65 gr65 ar0) ∨ ((0 : Int) = 0 ∧ ∃ p x D2, x ≠ 0 ∧ s_rv b n 901 q D = s_bad b n p x D2 ∧ t_FL gi65 (ar0 + 1) (s_fk b n p x) (s_F b n p))) ∧ t_lq ar0 gi gl gr gi65 gl65 gr65 from ⟨fun b n q D h => (by
                                                            obtain ⟨q2, D2, h2, hs⟩ := j1_0.1 b n q D h
                                                            have h2 : t_CS b n q2 D2 _ _ gi1 gl1 gr1 ar0 := h2
                                                            have hK : s_K b n q2 ≠ 0 := by have := h2.1.K; omega
                                                            rw [show 901 - y1_1.toNatClampNeg = (900 - y1_1.toNatClampNeg) + 1 from (by have h1 := t_clamp (i := y1_1) (by omega); omega)] at hs
                                                            have hP := s_part_6 (D := D2) (h2.1.kwT e10 h59)
                                                            obtain ⟨_, q3, D3, hX, h3⟩ := (q60.1 b n q2 D2 h2).resolve_right (fun hh => absurd hh.1 (by omega))
                                                            obtain ⟨_, hS, hf⟩ := (q65.1 b n q3 h3.1).resolve_left (fun hh => absurd hh.1 (by omega))
                                                            exact Or.inr ⟨rfl, q3, 2, D3, by decide, hs.trans (s_rv_b2 hK (hP.trans hX) hS), hf⟩), (t_lq.on (t_lq.tr j1_0.2 q60.2) q65.2 (by omega))⟩)⟩⟩
                    · have r68 : w65.toInt ≠ 0 := fun e => h66 (Int32.toInt_inj.mp (e.trans (by decide : (0:Int) = (0 : Int32).toInt)))
                      have l69 : 1 ≤ w65.toInt := t_nel h66 l65 rfl rfl
                      refine ev_incR f_X6_readAll (nx := 178) (c := 1) (l := 1) (u := 901) rfl rfl (by decide) (by decide) l1_1 u4 rfl rfl (by decide) (by decide) rfl (fun z70 e70 l70 u70 => ?_)
                      refine ev_jmp f_X6_readAll (nx := 2) rfl rfl rfl ?_
                      refine ev_sub (lo := [(1, .int z70), (0, .ref ar0)]) rfl (t_sc rfl (t_sc rfl t_sn)) ?_
                      exact ih1 _ (by omega) gi65 gl65 gr65 (z70) hI hX p_a0 (Int.le_trans (by decide : (0:Int) ≤ 1) l70) u70 ⟨fun b n q D h => (by
                                                            obtain ⟨q2, D2, h2, hs⟩ := j1_0.1 b n q D h
                                                            have h2 : t_CS b n q2 D2 _ _ gi1 gl1 gr1 ar0 := h2
                                                            have hK : s_K b n q2 ≠ 0 := by have := h2.1.K; omega
                                                            have hP := s_part_6 (D := D2) (h2.1.kwT e10 h59)
                                                            obtain ⟨_, q3, D3, hX, h3⟩ := (q60.1 b n q2 D2 h2).resolve_right (fun hh => absurd hh.1 (by omega))
                                                            have h3 : t_CS b n q3 D3 _ _ gi60 gl60 gr60 ar0 := h3
                                                            obtain ⟨_, hS, hT, hF⟩ := (q65.1 b n q3 h3.1).resolve_right (fun hh => absurd hh.1 (by omega))
                                                            have h4 := h3.on hT hF q65.2
                                                            refine ⟨_, D3, h4, hs.trans ?_⟩
                                                            rw [show 901 - y1_1.toNatClampNeg = (901 - z70.toNatClampNeg) + 1 from (by have h1 := t_clamp (i := y1_1) (by omega); have h2 := t_clamp (i := z70) (by omega); omega)]
                                                            exact s_rv_ok hK (hP.trans hX) hS), (t_lq.on (t_lq.tr j1_0.2 q60.2) q65.2 (by omega))⟩ rfl
                · refine ev_loc f_X6_readAll (nx := 128) rfl rfl rfl rfl ?_
                  refine ev_getR f_X6_readAll (nx := 131) (v := .ref (ar0 + 1)) rfl p_a0.1 rfl rfl e5 rfl rfl ?_
                  refine ev_getR f_X6_readAll (nx := 134) (v := v10) rfl p5.1 rfl rfl e10 (t_KwR k10) rfl ?_
                  refine ev_heap f_X6_readAll (nx := 137) rfl rfl rfl rfl ?_
                  refine ev_ack f_X6_readAll (t1 := 140) (t2 := 148) rfl rfl rfl (t_knw k10) rfl (fun h71 => ?_) (fun h71 => ?_)
                  · refine ev_loc f_X6_readAll (nx := 141) rfl rfl rfl rfl ?_
                    refine ev_qI f_X6_readAll (nx := 144) (r := []) rfl rfl rfl rfl rfl rfl rfl (c_s_readCart hI (ar0) p_a0) rfl hX rfl (fun w72 gi72 gl72 gr72 l72 u72 hI hX hC72 q72 => ?_)
                    have q72 : (∀ (b : Nat → Int32) (n q : Nat) (D : s_D), t_CN b n q D gi1 gl1 gr1 ar0 → (w72.toInt = 1 ∧ ∃ q2 D2, s_cart b n q D = s_ok q2 D2 ∧ t_CN b n q2 D2 gi72 gl72 gr72 ar0) ∨ (w72.toInt = 0 ∧ ∃ p x D2, x ≠ 0 ∧ s_cart b n q D = s_bad b n p x D2 ∧ t_FL gi72 (ar0 + 1) (s_fk b n p x) (s_F b n p))) ∧ t_lq ar0 gi1 gl1 gr1 gi72 gl72 gr72 := q72
                    replace p_a0 := p_a0.ext hC72.2
                    replace p5 := p5.ext hC72.2
                    refine ev_loc f_X6_readAll (nx := 145) (lo' := [(2, .int w72), (1, .int y1_1), (0, .ref ar0)]) rfl rfl rfl rfl ?_
                    refine ev_jmp f_X6_readAll (nx := 157) rfl rfl rfl ?_
                    refine ev_loc f_X6_readAll (nx := 158) rfl rfl rfl rfl ?_
                    refine ev_if f_X6_readAll (t1 := 173) (t2 := 161) rfl rfl rfl (fun h73 => ?_) (fun h73 => ?_)
                    · have u74 : w72.toInt ≤ 0 := t_equ h73 (by decide : (0:Int32).toInt ≤ (0:Int))
                      refine ev_ic f_X6_readAll (nx := 174) (v := 0) rfl (by decide) rfl ?_
                      exact ev_ret f_X6_readAll rfl rfl rfl ⟨_, _, _, rfl, hI, hX, ⟨_, rfl, (by decide : (0:Int) ≤ (0:Int32).toInt), (Int.le_trans (by decide : (0:Int32).toInt ≤ (0:Int)) (by decide : (0:Int) ≤ 1)), (show (∀ (b : Nat → Int32) (n q : Nat) (D : s_D), t_CN b n q D gi gl gr ar0 → ((0 : Int) = 1 ∧ ∃ q2 D2, s_rv b n 901 q D = s_ok q2 D2 ∧ t_CN b n q2 D2 gi72 gl72 gr72 ar0) ∨ ((0 : Int) = 0 ∧ ∃ p x D2, x ≠ 0 ∧ s_rv b n 901 q D = s_bad b n p x D2 ∧ t_FL gi72 (ar0 + 1) (s_fk b n p x) (s_F b n p))) ∧ t_lq ar0 gi gl gr gi72 gl72 gr72 from ⟨fun b n q D h => (by
                                                            obtain ⟨q2, D2, h2, hs⟩ := j1_0.1 b n q D h
                                                            have h2 : t_CS b n q2 D2 _ _ gi1 gl1 gr1 ar0 := h2
                                                            have hK : s_K b n q2 ≠ 0 := by have := h2.1.K; omega
                                                            rw [show 901 - y1_1.toNatClampNeg = (900 - y1_1.toNatClampNeg) + 1 from (by have h1 := t_clamp (i := y1_1) (by omega); omega)] at hs
                                                            have hP := s_part_12 (D := D2) (h2.1.kwT e10 h71)
                                                            obtain ⟨_, p, x, D3, hx, hX, hf⟩ := (q72.1 b n q2 D2 h2).resolve_left (fun hh => absurd hh.1 (by omega))
                                                            exact Or.inr ⟨rfl, p, x, D3, hx, hs.trans (s_rv_b1 hK hx (hP.trans hX)), hf⟩), (t_lq.tr j1_0.2 q72.2)⟩)⟩⟩
                    · have r75 : w72.toInt ≠ 0 := fun e => h73 (Int32.toInt_inj.mp (e.trans (by decide : (0:Int) = (0 : Int32).toInt)))
                      have l76 : 1 ≤ w72.toInt := t_nel h73 l72 rfl rfl
                      refine ev_loc f_X6_readAll (nx := 162) rfl rfl rfl rfl ?_
                      refine ev_getR f_X6_readAll (nx := 165) (v := .ref (ar0 + 1)) rfl p_a0.1 rfl rfl ((hC72.1 ar0 0 (t_ninO hI.wf p_a0.1 (t_outO hI.wf p_a0.1 rfl) rfl)).2.2.trans e5) rfl rfl ?_
                      refine ev_bp f_X6_readAll (nx := 167) (v := 59) rfl (by decide) rfl ?_
                      refine ev_qI f_X6_readAll (nx := 170) (r := []) rfl rfl rfl rfl rfl rfl rfl (c_s_takeSign hI ((ar0 + 1)) p5 (59)) rfl hX rfl (fun w77 gi77 gl77 gr77 l77 u77 hI hX hC77 q77 => ?_)
                      have q77 : (∀ (b : Nat → Int32) (n q : Nat), t_TC b n q gi72 gl72 gr72 (ar0 + 1) → (w77.toInt = 1 ∧ s_isS b n q 59 ∧ t_TC b n (s_E b n q) gi77 gl77 gr77 (ar0 + 1) ∧ t_nf gi72 gi77 (ar0 + 1)) ∨ (w77.toInt = 0 ∧ ¬ s_isS b n q 59 ∧ t_FL gi77 (ar0 + 1) (s_fk b n q 2) (s_F b n q))) ∧ t_on (ar0 + 1) gi72 gl72 gr72 gi77 gl77 gr77 := q77
                      replace p_a0 := p_a0.ext hC77.2
                      replace p5 := p5.ext hC77.2
                      refine ev_if f_X6_readAll (t1 := 173) (t2 := 175) rfl rfl rfl (fun h78 => ?_) (fun h78 => ?_)
                      · have u79 : w77.toInt ≤ 0 := t_equ h78 (by decide : (0:Int32).toInt ≤ (0:Int))
                        refine ev_ic f_X6_readAll (nx := 174) (v := 0) rfl (by decide) rfl ?_
                        exact ev_ret f_X6_readAll rfl rfl rfl ⟨_, _, _, rfl, hI, hX, ⟨_, rfl, (by decide : (0:Int) ≤ (0:Int32).toInt), (Int.le_trans (by decide : (0:Int32).toInt ≤ (0:Int)) (by decide : (0:Int) ≤ 1)), (show (∀ (b : Nat → Int32) (n q : Nat) (D : s_D), t_CN b n q D gi gl gr ar0 → ((0 : Int) = 1 ∧ ∃ q2 D2, s_rv b n 901 q D = s_ok q2 D2 ∧ t_CN b n q2 D2 gi77 gl77 gr77 ar0) ∨ ((0 : Int) = 0 ∧ ∃ p x D2, x ≠ 0 ∧ s_rv b n 901 q D = s_bad b n p x D2 ∧ t_FL gi77 (ar0 + 1) (s_fk b n p x) (s_F b n p))) ∧ t_lq ar0 gi gl gr gi77 gl77 gr77 from ⟨fun b n q D h => (by
                                                            obtain ⟨q2, D2, h2, hs⟩ := j1_0.1 b n q D h
                                                            have h2 : t_CS b n q2 D2 _ _ gi1 gl1 gr1 ar0 := h2
                                                            have hK : s_K b n q2 ≠ 0 := by have := h2.1.K; omega
                                                            rw [show 901 - y1_1.toNatClampNeg = (900 - y1_1.toNatClampNeg) + 1 from (by have h1 := t_clamp (i := y1_1) (by omega); omega)] at hs
                                                            have hP := s_part_12 (D := D2) (h2.1.kwT e10 h71)
                                                            obtain ⟨_, q3, D3, hX, h3⟩ := (q72.1 b n q2 D2 h2).resolve_right (fun hh => absurd hh.1 (by omega))
                                                            obtain ⟨_, hS, hf⟩ := (q77.1 b n q3 h3.1).resolve_left (fun hh => absurd hh.1 (by omega))
                                                            exact Or.inr ⟨rfl, q3, 2, D3, by decide, hs.trans (s_rv_b2 hK (hP.trans hX) hS), hf⟩), (t_lq.on (t_lq.tr j1_0.2 q72.2) q77.2 (by omega))⟩)⟩⟩
                      · have r80 : w77.toInt ≠ 0 := fun e => h78 (Int32.toInt_inj.mp (e.trans (by decide : (0:Int) = (0 : Int32).toInt)))
                        have l81 : 1 ≤ w77.toInt := t_nel h78 l77 rfl rfl
                        refine ev_incR f_X6_readAll (nx := 178) (c := 1) (l := 1) (u := 901) rfl rfl (by decide) (by decide) l1_1 u4 rfl rfl (by decide) (by decide) rfl (fun z82 e82 l82 u82 => ?_)
                        refine ev_jmp f_X6_readAll (nx := 2) rfl rfl rfl ?_
                        refine ev_sub (lo := [(1, .int z82), (0, .ref ar0)]) rfl (t_sc rfl (t_sc rfl t_sn)) ?_
                        exact ih1 _ (by omega) gi77 gl77 gr77 (z82) hI hX p_a0 (Int.le_trans (by decide : (0:Int) ≤ 1) l82) u82 ⟨fun b n q D h => (by
                                                            obtain ⟨q2, D2, h2, hs⟩ := j1_0.1 b n q D h
                                                            have h2 : t_CS b n q2 D2 _ _ gi1 gl1 gr1 ar0 := h2
                                                            have hK : s_K b n q2 ≠ 0 := by have := h2.1.K; omega
                                                            have hP := s_part_12 (D := D2) (h2.1.kwT e10 h71)
                                                            obtain ⟨_, q3, D3, hX, h3⟩ := (q72.1 b n q2 D2 h2).resolve_right (fun hh => absurd hh.1 (by omega))
                                                            have h3 : t_CS b n q3 D3 _ _ gi72 gl72 gr72 ar0 := h3
                                                            obtain ⟨_, hS, hT, hF⟩ := (q77.1 b n q3 h3.1).resolve_right (fun hh => absurd hh.1 (by omega))
                                                            have h4 := h3.on hT hF q77.2
                                                            refine ⟨_, D3, h4, hs.trans ?_⟩
                                                            rw [show 901 - y1_1.toNatClampNeg = (901 - z82.toNatClampNeg) + 1 from (by have h1 := t_clamp (i := y1_1) (by omega); have h2 := t_clamp (i := z82) (by omega); omega)]
                                                            exact s_rv_ok hK (hP.trans hX) hS), (t_lq.on (t_lq.tr j1_0.2 q72.2) q77.2 (by omega))⟩ rfl
                  · refine ev_loc f_X6_readAll (nx := 149) rfl rfl rfl rfl ?_
                    refine ev_getR f_X6_readAll (nx := 152) (v := .ref (ar0 + 1)) rfl p_a0.1 rfl rfl e5 rfl rfl ?_
                    refine ev_ic f_X6_readAll (nx := 153) (v := 2) rfl (by decide) rfl ?_
                    refine ev_qI f_X6_readAll (nx := 156) (r := []) rfl rfl rfl rfl rfl rfl rfl (c_s_refuse hI ((ar0 + 1)) p5 (2) (by decide : (2:Int) ≤ (2:Int32).toInt) (Int.le_trans (by decide : (2:Int32).toInt ≤ (2:Int)) (by decide : (2:Int) ≤ 7))) rfl hX rfl (fun w83 gi83 gl83 gr83 l83 u83 hI hX hC83 q83 => ?_)
                    have q83 : (∀ (b : Nat → Int32) (n q : Nat), t_TC b n q gi1 gl1 gr1 (ar0 + 1) → t_FL gi83 (ar0 + 1) (s_fk b n q 2) (s_F b n q)) ∧ w83.toInt = 0 ∧ t_on (ar0 + 1) gi1 gl1 gr1 gi83 gl83 gr83 := q83
                    replace p_a0 := p_a0.ext hC83.2
                    replace p5 := p5.ext hC83.2
                    refine ev_alu f_X6_readAll (nx := 157) rfl rfl rfl rfl ?_
                    refine ev_loc f_X6_readAll (nx := 158) rfl rfl rfl rfl ?_
                    refine ev_t f_X6_readAll (t1 := 173) (t2 := 161) rfl rfl rfl (by decide) ?_
                    refine ev_ic f_X6_readAll (nx := 174) (v := 0) rfl (by decide) rfl ?_
                    exact ev_ret f_X6_readAll rfl rfl rfl ⟨_, _, _, rfl, hI, hX, ⟨_, rfl, (by decide : (0:Int) ≤ (0:Int32).toInt), (Int.le_trans (by decide : (0:Int32).toInt ≤ (0:Int)) (by decide : (0:Int) ≤ 1)), (show (∀ (b : Nat → Int32) (n q : Nat) (D : s_D), t_CN b n q D gi gl gr ar0 → ((0 : Int) = 1 ∧ ∃ q2 D2, s_rv b n 901 q D = s_ok q2 D2 ∧ t_CN b n q2 D2 gi83 gl83 gr83 ar0) ∨ ((0 : Int) = 0 ∧ ∃ p x D2, x ≠ 0 ∧ s_rv b n 901 q D = s_bad b n p x D2 ∧ t_FL gi83 (ar0 + 1) (s_fk b n p x) (s_F b n p))) ∧ t_lq ar0 gi gl gr gi83 gl83 gr83 from ⟨fun b n q D h => (by
                                                            obtain ⟨q2, D2, h2, hs⟩ := j1_0.1 b n q D h
                                                            have h2 : t_CS b n q2 D2 _ _ gi1 gl1 gr1 ar0 := h2
                                                            have hK : s_K b n q2 ≠ 0 := by have := h2.1.K; omega
                                                            rw [show 901 - y1_1.toNatClampNeg = (900 - y1_1.toNatClampNeg) + 1 from (by have h1 := t_clamp (i := y1_1) (by omega); omega)] at hs
                                                            have hP := s_part_x (D := D2) (h2.1.kwF e10 h11) (h2.1.kwF e10 h23) (h2.1.kwF e10 h35) (h2.1.kwF e10 h47) (h2.1.kwF e10 h59) (h2.1.kwF e10 h71)
                                                            exact Or.inr ⟨rfl, q2, 2, D2, by decide, hs.trans (s_rv_b1 hK (by decide) hP), q83.1 b n q2 h2.1⟩), (t_lq.on j1_0.2 q83.2.2 (by omega))⟩)⟩⟩
  refine ev_sub (lo := [(1, .int 0), (0, .ref ar0)]) rfl (t_sc rfl (t_sc rfl t_sn)) ?_
  exact L1 _ gi gl gr (0) hI hX p_a0 (by decide : (0:Int) ≤ (0:Int32).toInt) (Int.le_trans (by decide : (0:Int32).toInt ≤ (0:Int)) (by decide : (0:Int) ≤ 901)) ⟨fun b n q D h => ⟨q, D, h, congrArg (fun k => s_rv b n k q D) (by decide : 901 = 901 - (0 : Int32).toNatClampNeg)⟩, t_lq.rf⟩ rfl
/-! ===== printed by riv.py: river() behind its making ===== -/
noncomputable def wl_s_riverT : List (Nat × Nat) := [(0, 0), (0, 5), (0, 6), (0, 7), (0, 8), (0, 9), (3, 0), (3, 3), (3, 4), (3, 5), (3, 6), (4, 9999), (5, 9999), (6, 0), (7, 9999), (8, 9999), (9, 9999), (10, 9999), (11, 9999), (12, 9999), (13, 0), (14, 9999), (15, 9999), (16, 9999), (17, 9999), (18, 9999), (29, 0), (30, 9999), (31, 9999), (32, 9999), (33, 9999), (34, 9999), (35, 0), (36, 9999), (37, 9999), (38, 9999), (39, 9999), (40, 9999), (43, 9999), (44, 9999), (46, 0), (47, 9999), (48, 9999), (49, 9999), (50, 9999), (51, 9999), (52, 0), (53, 9999), (54, 9999), (55, 9999), (56, 9999), (57, 9999), (58, 9999), (59, 9999), (113, 0), (114, 0), (114, 3), (114, 4), (114, 5), (114, 6), (115, 4), (115, 5), (115, 6), (115, 7), (118, 2), (118, 3), (118, 4), (118, 5), (118, 6), (118, 7), (118, 8), (118, 9), (118, 10), (118, 11), (130, 9999), (131, 9999), (133, 9999)]
noncomputable def Q_s_riverT (gi : Nat → Nat → Int32) (gl : Nat → Nat → Int64) (gr : Nat → Nat → Value) (ar1 : Int32) (ar2 : Nat) : Int32 → (Nat → Nat → Int32) → (Nat → Nat → Int64) → (Nat → Nat → Value) → Prop := fun (v : Int32) (gi2 : Nat → Nat → Int32) (gl2 : Nat → Nat → Int64) (gr2 : Nat → Nat → Value) => (∀ (b : Nat → Int32) (n : Nat), t_CN b n 0 s_D0 gi gl gr ar2 → (∃ q2 D2, s_rv b n 901 0 s_D0 = s_ok q2 D2 ∧ v.toInt = D2 1 ∧ (gi2 0 8).toInt = 0 ∧ (gi2 0 9).toInt = -1 ∧ gr2 0 6 = .ref (ar2 + 2) ∧ gr2 0 7 = .null ∧ t_CR gi2 gl2 ar2 D2 (D2 0 + D2 1 + D2 2) (s_used D2)) ∨ (∃ p x D2, x ≠ 0 ∧ s_rv b n 901 0 s_D0 = s_bad b n p x D2 ∧ v.toInt = -1 ∧ (gi2 0 8).toInt = s_fk b n p x ∧ (gi2 0 9).toInt = (s_F b n p : Nat) ∧ gr2 0 6 = gr 0 6 ∧ gr2 0 7 = gr 0 7)) ∧ t_l0 ar2 gi gl gr gi2 gl2 gr2
theorem c_s_riverT {X : x_Ext} {d : Nat} {sh : List (Nat ⊕ (Nat × Nat))} {gi : Nat → Nat → Int32} {gl : Nat → Nat → Int64} {gr : Nat → Nat → Value} (hI : t_I sh gi gr) (ar1 : Int32) (ar2 : Nat) (p_a2 : t_RQ sh gr ar2) : x_Ev X (d + 7) n_X11_river 38 [(0, .ref 0), (1, .int ar1), (2, .ref ar2)] [] (sh, gi, gl, gr) (t_PI wl_s_riverT sh gi gl gr (-1) 6 (Q_s_riverT gi gl gr ar1 ar2)) := by
  have hX : t_X wl_s_riverT sh gi gl gr gi gl gr := t_X.rf
  refine ev_loc f_X11_river (nx := 39) rfl rfl rfl rfl ?_
  refine ev_qI f_X11_river (nx := 42) (r := []) rfl rfl rfl rfl rfl rfl rfl (c_s_readAll hI (ar2) p_a2) rfl hX rfl (fun w3 gi3 gl3 gr3 l3 u3 hI hX hC3 q3 => ?_)
  have q3 : (∀ (b : Nat → Int32) (n q : Nat) (D : s_D), t_CN b n q D gi gl gr ar2 → (w3.toInt = 1 ∧ ∃ q2 D2, s_rv b n 901 q D = s_ok q2 D2 ∧ t_CN b n q2 D2 gi3 gl3 gr3 ar2) ∨ (w3.toInt = 0 ∧ ∃ p x D2, x ≠ 0 ∧ s_rv b n 901 q D = s_bad b n p x D2 ∧ t_FL gi3 (ar2 + 1) (s_fk b n p x) (s_F b n p))) ∧ t_lq ar2 gi gl gr gi3 gl3 gr3 := q3
  replace p_a2 := p_a2.ext hC3.2
  refine ev_loc f_X11_river (nx := 43) (lo' := [(3, .int w3), (0, .ref 0), (1, .int ar1), (2, .ref ar2)]) rfl rfl rfl rfl ?_
  refine ev_loc f_X11_river (nx := 44) rfl rfl rfl rfl ?_
  refine ev_loc f_X11_river (nx := 45) rfl rfl rfl rfl ?_
  have e4 := p_a2.2.2.2.2.1.1
  have p4 := p_a2.2.2.2.2.1.2
  refine ev_getR f_X11_river (nx := 48) rfl p_a2.1 rfl rfl e4 rfl rfl ?_
  refine ev_inV2 f_X11_river (nx := 51) (lo2 := [(0, .ref 0), (1, .ref (ar2 + 1))]) rfl rfl rfl rfl f_X11_endText (hI.wf.s rfl) rfl rfl rfl rfl rfl ?_
  refine ev_loc f_X11_endText (nx := 1) rfl rfl rfl rfl ?_
  refine ev_ic f_X11_endText (nx := 2) (v := 0) rfl (by decide) rfl ?_
  refine ev_putIT f_X11_endText (nx := 5) rfl (hI.wf.s rfl) rfl rfl rfl (hI.putB (hI.wf.s rfl) rfl rfl (by decide : (0:Int) ≤ (0:Int32).toInt) (by decide) (by decide : (0:Int32).toInt ≤ (0:Int)) (by decide)) (hX.upI rfl) (fun g5 e5 hI hX => ?_)
  refine ev_loc f_X11_endText (nx := 6) rfl rfl rfl rfl ?_
  refine ev_loc f_X11_endText (nx := 7) rfl rfl rfl rfl ?_
  refine ev_getI f_X11_endText (nx := 10) rfl p4.1 rfl rfl rfl ?_
  refine ev_putIT f_X11_endText (nx := 13) rfl (hI.wf.s rfl) rfl rfl rfl (hI.put0 (hI.wf.s rfl) rfl rfl) (hX.upI rfl) (fun g6 e6 hI hX => ?_)
  refine ev_loc f_X11_endText (nx := 14) rfl rfl rfl rfl ?_
  refine ev_loc f_X11_endText (nx := 15) rfl rfl rfl rfl ?_
  refine ev_getI f_X11_endText (nx := 18) rfl p4.1 rfl rfl rfl ?_
  refine ev_putIT f_X11_endText (nx := 21) rfl (hI.wf.s rfl) rfl rfl rfl (hI.put0 (hI.wf.s rfl) rfl rfl) (hX.upI rfl) (fun g7 e7 hI hX => ?_)
  refine ev_retK0 f_X11_endText rfl rfl rfl ?_
  refine ev_loc f_X11_river (nx := 52) rfl rfl rfl rfl ?_
  refine ev_if f_X11_river (t1 := 55) (t2 := 62) rfl rfl rfl (fun h8 => ?_) (fun h8 => ?_)
  · have u9 : w3.toInt ≤ 0 := t_equ h8 (by decide : (0:Int32).toInt ≤ (0:Int))
    refine ev_loc f_X11_river (nx := 56) rfl rfl rfl rfl ?_
    refine ev_bp f_X11_river (nx := 58) (v := 9) rfl (by decide) rfl ?_
    refine ev_inV2 f_X11_river (nx := 61) (lo2 := [(0, .ref 0), (1, .int 9)]) rfl rfl rfl rfl f_X11_refuse (hI.wf.s rfl) rfl rfl rfl rfl rfl ?_
    refine ev_loc f_X11_refuse (nx := 1) rfl rfl rfl rfl ?_
    refine ev_loc f_X11_refuse (nx := 2) rfl rfl rfl rfl ?_
    refine ev_putIT f_X11_refuse (nx := 5) rfl (hI.wf.s rfl) rfl rfl rfl (hI.put0 (hI.wf.s rfl) rfl rfl) (hX.upI rfl) (fun g10 e10 hI hX => ?_)
    refine ev_ic f_X11_refuse (nx := 6) (v := -1) rfl (by decide) rfl ?_
    refine ev_retK1 f_X11_refuse rfl rfl rfl ?_
    exact ev_ret f_X11_river rfl rfl rfl ⟨_, _, _, rfl, hI, hX, ⟨_, rfl, (by decide : ((-1):Int) ≤ ((-1):Int32).toInt), (Int.le_trans (by decide : ((-1):Int32).toInt ≤ ((-1):Int)) (by decide : ((-1):Int) ≤ 6)), (show (∀ (b : Nat → Int32) (n : Nat), t_CN b n 0 s_D0 gi gl gr ar2 → (∃ q2 D2, s_rv b n 901 0 s_D0 = s_ok q2 D2 ∧ ((-1) : Int) = D2 1 ∧ (g10 0 8).toInt = 0 ∧ (g10 0 9).toInt = -1 ∧ gr3 0 6 = .ref (ar2 + 2) ∧ gr3 0 7 = .null ∧ t_CR g10 gl3 ar2 D2 (D2 0 + D2 1 + D2 2) (s_used D2)) ∨ (∃ p x D2, x ≠ 0 ∧ s_rv b n 901 0 s_D0 = s_bad b n p x D2 ∧ ((-1) : Int) = -1 ∧ (g10 0 8).toInt = s_fk b n p x ∧ (g10 0 9).toInt = (s_F b n p : Nat) ∧ gr3 0 6 = gr 0 6 ∧ gr3 0 7 = gr 0 7)) ∧ t_l0 ar2 gi gl gr g10 gl3 gr3 from ⟨(by
                                                            intro b n h
                                                            have h102 := p_a2.2.1
                                                            obtain ⟨_, p, x, D2, hx, hX, hf⟩ := (q3.1 b n 0 s_D0 h).resolve_left (fun hh => absurd hh.1 (by omega))
                                                            refine Or.inr ⟨p, x, D2, hx, hX, rfl, ?_, ?_, ?_, ?_⟩
                                                            · refine (congrArg Int32.toInt ((by rw [e10]; exact x_up2_off (Or.inr (by decide)) : g10 0 8 = g7 0 8).trans ((by rw [e7]; exact x_up2_off (Or.inr (by decide)) : g7 0 8 = g6 0 8).trans (by rw [e6]; exact x_up2_at _ _ _ _ : g6 0 8 = (g5 (ar2 + 1) 10))))).trans ?_; rw [e5, x_up2_ne (by omega)]; exact hf.1
                                                            · refine (congrArg Int32.toInt ((by rw [e10]; exact x_up2_off (Or.inr (by decide)) : g10 0 9 = g7 0 9).trans (by rw [e7]; exact x_up2_at _ _ _ _ : g7 0 9 = (g6 (ar2 + 1) 11)))).trans ?_; rw [e6, x_up2_ne (by omega), e5, x_up2_ne (by omega)]; exact hf.2
                                                            · exact (hC3.1 0 6 rfl).2.2
                                                            · exact (hC3.1 0 7 rfl).2.2), (fun K k0 hK => have q9 := q3.2 K hK; ⟨by rw [e10, x_up2_ne k0, e7, x_up2_ne k0, e6, x_up2_ne k0, e5, x_up2_ne k0]; exact q9.1, q9.2.1, q9.2.2⟩)⟩)⟩⟩
  · have r11 : w3.toInt ≠ 0 := fun e => h8 (Int32.toInt_inj.mp (e.trans (by decide : (0:Int) = (0 : Int32).toInt)))
    have l12 : 1 ≤ w3.toInt := t_nel h8 l3 rfl rfl
    refine ev_loc f_X11_river (nx := 63) rfl rfl rfl rfl ?_
    refine ev_loc f_X11_river (nx := 64) rfl rfl rfl rfl ?_
    have e13 := p_a2.2.2.2.2.2.1
    have p13 := p_a2.2.2.2.2.2.2
    refine ev_getR f_X11_river (nx := 67) rfl p_a2.1 rfl rfl e13 rfl rfl ?_
    have pR14 := p13.Rv
    have hE14 := t_eqf_up (gr := gr3) (j := 6) (v := .ref (ar2 + 2)) (hI.wf.s (k := 0) rfl) rfl
    have hT14 := t_putRiver hI pR14
    replace p_a2 := p_a2.ext hE14
    replace p4 := p4.ext hE14
    replace p13 := p13.ext hE14
    refine ev_putRT f_X11_river (nx := 70) rfl (hI.wf.s rfl) rfl rfl rfl rfl hT14 (hX.upR rfl hE14) (fun g14 e14 hI hX => ?_)
    rw [← e14] at p_a2
    rw [← e14] at p4
    rw [← e14] at p13
    refine ev_loc f_X11_river (nx := 71) rfl rfl rfl rfl ?_
    refine ev_alu f_X11_river (nx := 72) rfl rfl rfl rfl ?_
    have hE15 := t_eqf_up (gr := g14) (j := 7) (v := .null) (hI.wf.s (k := 0) rfl) rfl
    have hT15 := t_putRules hI (v := .null) (Or.inl rfl)
    replace p_a2 := p_a2.ext hE15
    replace p4 := p4.ext hE15
    replace p13 := p13.ext hE15
    refine ev_putRT f_X11_river (nx := 75) rfl (hI.wf.s rfl) rfl rfl rfl rfl hT15 (hX.upR rfl hE15) (fun g15 e15 hI hX => ?_)
    rw [← e15] at p_a2
    rw [← e15] at p4
    rw [← e15] at p13
    refine ev_loc f_X11_river (nx := 76) rfl rfl rfl rfl ?_
    refine ev_loc f_X11_river (nx := 77) rfl rfl rfl rfl ?_
    refine ev_getR f_X11_river (nx := 80) (v := .ref (ar2 + 2)) rfl (hI.wf.s rfl) rfl rfl ((by rw [e15]; exact x_up2_off (Or.inr (by decide)) : g15 0 6 = g14 0 6).trans (by rw [e14]; exact x_up2_at _ _ _ _ : g14 0 6 = .ref (ar2 + 2))) rfl rfl ?_
    have e16 := p13.2.2.2.2.2.1.1
    have p16 := p13.2.2.2.2.2.1.2
    refine ev_getR f_X11_river (nx := 83) rfl p13.1 rfl rfl e16 rfl rfl ?_
    refine ev_getI f_X11_river (nx := 86) rfl p16.1 rfl rfl rfl ?_
    obtain ⟨l17, u17⟩ := hI.b p16.1 (t_bdK rfl : t_bd 3 0 = some (0, 6))
    refine ev_inV2 f_X11_river (nx := 89) (lo2 := [(0, .ref 0), (1, .int (g7 (ar2 + 2 + 3) 0))]) rfl rfl rfl rfl f_X11_answer (hI.wf.s rfl) rfl rfl rfl rfl rfl ?_
    refine ev_loc f_X11_answer (nx := 1) rfl rfl rfl rfl ?_
    refine ev_ic f_X11_answer (nx := 2) (v := 0) rfl (by decide) rfl ?_
    refine ev_putIT f_X11_answer (nx := 5) rfl (hI.wf.s rfl) rfl rfl rfl (hI.put0 (hI.wf.s rfl) rfl rfl) (hX.upI rfl) (fun g18 e18 hI hX => ?_)
    refine ev_loc f_X11_answer (nx := 6) rfl rfl rfl rfl ?_
    refine ev_retK1 f_X11_answer rfl rfl rfl ?_
    exact ev_ret f_X11_river rfl rfl rfl ⟨_, _, _, rfl, hI, hX, ⟨_, rfl, (Int.le_trans (by decide : ((-1):Int) ≤ 0) l17), u17, (show (∀ (b : Nat → Int32) (n : Nat), t_CN b n 0 s_D0 gi gl gr ar2 → (∃ q2 D2, s_rv b n 901 0 s_D0 = s_ok q2 D2 ∧ (g7 (ar2 + 2 + 3) 0).toInt = D2 1 ∧ (g18 0 8).toInt = 0 ∧ (g18 0 9).toInt = -1 ∧ g15 0 6 = .ref (ar2 + 2) ∧ g15 0 7 = .null ∧ t_CR g18 gl3 ar2 D2 (D2 0 + D2 1 + D2 2) (s_used D2)) ∨ (∃ p x D2, x ≠ 0 ∧ s_rv b n 901 0 s_D0 = s_bad b n p x D2 ∧ (g7 (ar2 + 2 + 3) 0).toInt = -1 ∧ (g18 0 8).toInt = s_fk b n p x ∧ (g18 0 9).toInt = (s_F b n p : Nat) ∧ g15 0 6 = gr 0 6 ∧ g15 0 7 = gr 0 7)) ∧ t_l0 ar2 gi gl gr g18 gl3 g15 from ⟨(by
                                                            intro b n h
                                                            have h102 := p_a2.2.1
                                                            obtain ⟨_, q2, D2, hX, h2⟩ := (q3.1 b n 0 s_D0 h).resolve_right (fun hh => absurd hh.1 (by omega))
                                                            have h2 : t_CS b n q2 D2 _ _ gi3 gl3 gr3 ar2 := h2
                                                            refine Or.inl ⟨q2, D2, hX, ?_, ?_, ?_, ((by rw [e15]; exact x_up2_off (Or.inr (by decide)) : g15 0 6 = g14 0 6).trans (by rw [e14]; exact x_up2_at _ _ _ _ : g14 0 6 = .ref (ar2 + 2))), (by rw [e15]; exact x_up2_at _ _ _ _ : g15 0 7 = .null), h2.2.1.eqs (fun c _ _ => ⟨by rw [e18, x_up2_ne (by omega), e7, x_up2_ne (by omega), e6, x_up2_ne (by omega), e5, x_up2_ne (by omega)], rfl⟩)⟩
                                                            · rw [e7, x_up2_ne (by omega), e6, x_up2_ne (by omega), e5, x_up2_ne (by omega)]; exact h2.2.1.2.2.2.2.1.1
                                                            · refine (congrArg Int32.toInt ((by rw [e18]; exact x_up2_off (Or.inr (by decide)) : g18 0 8 = g7 0 8).trans ((by rw [e7]; exact x_up2_off (Or.inr (by decide)) : g7 0 8 = g6 0 8).trans (by rw [e6]; exact x_up2_at _ _ _ _ : g6 0 8 = (g5 (ar2 + 1) 10))))).trans ?_; rw [e5, x_up2_ne (by omega)]; exact h2.2.2.1
                                                            · refine (congrArg Int32.toInt ((by rw [e18]; exact x_up2_off (Or.inr (by decide)) : g18 0 9 = g7 0 9).trans (by rw [e7]; exact x_up2_at _ _ _ _ : g7 0 9 = (g6 (ar2 + 1) 11)))).trans ?_; rw [e6, x_up2_ne (by omega), e5, x_up2_ne (by omega)]; exact h2.2.2.2), (fun K k0 hK => have q9 := q3.2 K hK; ⟨by rw [e18, x_up2_ne k0, e7, x_up2_ne k0, e6, x_up2_ne k0, e5, x_up2_ne k0]; exact q9.1, q9.2.1, by rw [e15, x_up2_ne k0, e14, x_up2_ne k0]; exact q9.2.2⟩)⟩)⟩⟩
/-! ===== printed by riv.py: river(), its reader made ===== -/
noncomputable def t_RES (gi : Nat → Nat → Int32) (gl : Nat → Nat → Int64) (gr : Nat → Nat → Value) (N : Nat) (b : Nat → Int32) (n : Nat) (x : Int32) (g : Nat → Nat → Int32) (l : Nat → Nat → Int64) (r : Nat → Nat → Value) : Prop := ((∃ q2 D2, s_rv b n 901 0 s_D0 = s_ok q2 D2 ∧ x.toInt = D2 1 ∧ (g 0 8).toInt = 0 ∧ (g 0 9).toInt = -1 ∧ r 0 6 = .ref (N + 2) ∧ r 0 7 = .null ∧ t_CR g l N D2 (D2 0 + D2 1 + D2 2) (s_used D2) ∧ t_VL r (N + 2)) ∨ (∃ p x2 D2, x2 ≠ 0 ∧ s_rv b n 901 0 s_D0 = s_bad b n p x2 D2 ∧ x.toInt = -1 ∧ (g 0 8).toInt = s_fk b n p x2 ∧ (g 0 9).toInt = (s_F b n p : Nat) ∧ r 0 6 = gr 0 6 ∧ r 0 7 = gr 0 7)) ∧ t_l0 N gi gl gr g l r
set_option maxHeartbeats 4000000 in
theorem c_s_river {X : x_Ext} {d : Nat} {sh : List (Nat ⊕ (Nat × Nat))} {gi : Nat → Nat → Int32} {gl : Nat → Nat → Int64} {gr : Nat → Nat → Value} (hI : t_I sh gi gr) (hH : t_H sh) (ar1 : Int32) : x_Me X (d + 11) n_X11_river [.ref 0, .int ar1] (sh, gi, gl, gr) (fun v G1 => ∃ sh1 g l r x, G1 = (sh1, g, l, r) ∧ v = some (.int x) ∧ ((0 ≤ ar1.toInt ∧ ar1.toInt ≤ (gi 0 5).toInt) → ∀ n : Nat, (n : Int) = ar1.toInt → t_RES gi gl gr sh.length (gi 2) n x g l r) ∧ (¬ (0 ≤ ar1.toInt ∧ ar1.toInt ≤ (gi 0 5).toInt) → x.toInt = -1 ∧ (∀ K, K ≠ 0 → g K = gi K ∧ l K = gl K ∧ r K = gr K) ∧ r 0 6 = gr 0 6 ∧ r 0 7 = gr 0 7) ∧ ((0 ≤ ar1.toInt ∧ ar1.toInt ≤ (gi 0 5).toInt) → sh.length + 18 ≤ sh1.length)) := by
  have hb0 := hI.b (hI.wf.s (k := 0) rfl) (t_bdK rfl : t_bd 10 5 = some (0, 900))
  refine me_i f_X11_river (hI.wf.s rfl) rfl rfl rfl ?_
  refine ev_loc f_X11_river (nx := 1) rfl rfl rfl rfl ?_
  refine ev_if f_X11_river (t1 := 12) (t2 := 4) rfl rfl rfl (fun h1 => ?_) (fun h1 => ?_)
  · have h1 := Int32.lt_iff_toInt_lt.mp h1; have kf0 : (0 : Int32).toInt = 0 := (by decide); refine x_Ev.mono (x_Ev.up (c_t_riverN (d := d) hI ar1) (by omega)) ?_; rintro v G1 ⟨g1, l1, r1, rfl, k1, k2, x, rfl, -, -, k3⟩; exact ⟨sh, g1, l1, r1, x, rfl, rfl, fun hi => absurd hi (by omega), fun _ => ⟨k3, fun K hK => t_row0 k2 rfl hK, (k2.1 0 6 rfl).2.2, (k2.1 0 7 rfl).2.2⟩, fun hi => absurd hi (by omega)⟩
  have h1 := Int32.le_iff_toInt_le.mp (t_nlt h1); have kf0 : (0 : Int32).toInt = 0 := (by decide)
  refine ev_loc f_X11_river (nx := 5) rfl rfl rfl rfl ?_
  refine ev_loc f_X11_river (nx := 6) rfl rfl rfl rfl ?_
  refine ev_getI f_X11_river (nx := 9) rfl (hI.wf.s rfl) rfl rfl rfl ?_
  refine ev_if f_X11_river (t1 := 18) (t2 := 12) rfl rfl rfl (fun h2 => ?_) (fun h2 => ?_)
  rotate_left
  · have h2 := Int32.lt_iff_toInt_lt.mp (t_nle h2); refine x_Ev.mono (x_Ev.up (c_t_riverN (d := d) hI ar1) (by omega)) ?_; rintro v G1 ⟨g1, l1, r1, rfl, k1, k2, x, rfl, -, -, k3⟩; exact ⟨sh, g1, l1, r1, x, rfl, rfl, fun hi => absurd hi (by omega), fun _ => ⟨k3, fun K hK => t_row0 k2 rfl hK, (k2.1 0 6 rfl).2.2, (k2.1 0 7 rfl).2.2⟩, fun hi => absurd hi (by omega)⟩
  have h2 := Int32.le_iff_toInt_le.mp h2
  have hin : (0 ≤ ar1.toInt ∧ ar1.toInt ≤ (gi 0 5).toInt) := by omega
  have lx : (0:Int) ≤ ar1.toInt := by omega
  have ux : ar1.toInt ≤ (900:Int) := by omega
  obtain ⟨N, hN⟩ : ∃ N, sh.length = N := ⟨_, rfl⟩
  rw [hN]
  have h102 := t_102 hI.wf
  rw [hN] at h102
  have hG := t_G.refl (N := N) (r := N) (gi0 := gi) (gl0 := gl) (gr0 := gr) hN (fun ci j lo hi hk ht => absurd (t_lt hk) (by omega))
  rw [show ((sh, gi, gl, gr) : x_G) = (sh ++ [], gi, gl, gr) by rw [List.append_nil]]
  refine ev_newG f_X11_river (nx := 21) (c := 0) (ext' := [.inl 5]) rfl rfl rfl hN rfl rfl hG (fun a101 b101 g101 ea101 eb101 e101 hG => ?_)
  refine ev_alu f_X11_river (nx := 22) rfl rfl rfl rfl ?_
  refine ev_newG f_X11_river (nx := 25) (c := 1) (ext' := [.inl 5, .inl 8]) rfl rfl rfl hN rfl rfl hG (fun a102 b102 g102 ea102 eb102 e102 hG => ?_)
  refine ev_alu f_X11_river (nx := 26) rfl rfl rfl rfl ?_
  refine ev_loc f_X11_river (nx := 27) rfl rfl rfl rfl ?_
  refine ev_getR f_X11_river (nx := 30) rfl (t_sl (hI.wf.s rfl)) rfl rfl ((congrFun (hG.1 0 (by omega) (by omega)).2.2 4).trans (hI.wf.r rfl)) rfl rfl ?_
  refine ev_loc f_X11_river (nx := 31) rfl rfl rfl rfl ?_
  refine ev_inV3 f_X11_river (nx := 34) (lo2 := [(0, .ref (N + 1)), (1, .ref 2), (2, .int ar1)]) rfl rfl rfl rfl f_X9_init ((t_sx hN).trans rfl) rfl rfl rfl rfl rfl ?_
  refine ev_loc f_X9_init (nx := 1) rfl rfl rfl rfl ?_
  refine ev_obj f_X9_init (nx := 4) rfl rfl (by omega) (by decide) rfl ?_
  refine ev_loc f_X9_init (nx := 5) rfl rfl rfl rfl ?_
  refine ev_ic f_X9_init (nx := 6) (v := 0) rfl (by decide) rfl ?_
  refine ev_putIG f_X9_init (nx := 9) rfl ((t_sx hN).trans rfl) rfl rfl rfl (hG.putI (Or.inl (by omega)) ((t_sx hN).trans rfl) (fun lo hi e => by have e : some ((0 : Int), (900 : Int)) = some (lo, hi) := e; cases e; exact ⟨by decide, by decide⟩) (fun _ => rfl)) (fun a103 ea103 hG => ?_)
  refine ev_loc f_X9_init (nx := 10) rfl rfl rfl rfl ?_
  refine ev_ic f_X9_init (nx := 11) (v := 3) rfl (by decide) rfl ?_
  refine ev_putIG f_X9_init (nx := 14) rfl ((t_sx hN).trans rfl) rfl rfl rfl (hG.putI (Or.inl (by omega)) ((t_sx hN).trans rfl) (fun lo hi e => by have e : (none : Option (Int × Int)) = some (lo, hi) := e; cases e) (fun h => absurd h (by decide))) (fun a104 ea104 hG => ?_)
  refine ev_loc f_X9_init (nx := 15) rfl rfl rfl rfl ?_
  refine ev_ic f_X9_init (nx := 16) (v := 0) rfl (by decide) rfl ?_
  refine ev_putIG f_X9_init (nx := 19) rfl ((t_sx hN).trans rfl) rfl rfl rfl (hG.putI (Or.inl (by omega)) ((t_sx hN).trans rfl) (fun lo hi e => by have e : some ((0 : Int), (900 : Int)) = some (lo, hi) := e; cases e; exact ⟨by decide, by decide⟩) (fun _ => rfl)) (fun a105 ea105 hG => ?_)
  refine ev_loc f_X9_init (nx := 20) rfl rfl rfl rfl ?_
  refine ev_ic f_X9_init (nx := 21) (v := 0) rfl (by decide) rfl ?_
  refine ev_putIG f_X9_init (nx := 24) rfl ((t_sx hN).trans rfl) rfl rfl rfl (hG.putI (Or.inl (by omega)) ((t_sx hN).trans rfl) (fun lo hi e => by have e : (none : Option (Int × Int)) = some (lo, hi) := e; cases e) (fun _ => rfl)) (fun a106 ea106 hG => ?_)
  refine ev_loc f_X9_init (nx := 25) rfl rfl rfl rfl ?_
  refine ev_lc f_X9_init (nx := 26) (v := 0) rfl (by decide) rfl ?_
  refine ev_putLG f_X9_init (nx := 29) rfl ((t_sx hN).trans rfl) rfl rfl rfl (hG.putL (Or.inl (by omega))) (fun b107 eb107 hG => ?_)
  refine ev_loc f_X9_init (nx := 30) rfl rfl rfl rfl ?_
  refine ev_alu f_X9_init (nx := 31) rfl rfl rfl rfl ?_
  refine ev_putRG f_X9_init (nx := 34) rfl ((t_sx hN).trans rfl) rfl rfl rfl rfl (hG.putR (Or.inl (by omega)) ((t_sx hN).trans rfl) (fun h8 h7 => Or.inl rfl)) (fun g108 e108 hG => ?_)
  refine ev_loc f_X9_init (nx := 35) rfl rfl rfl rfl ?_
  refine ev_ic f_X9_init (nx := 36) (v := 0) rfl (by decide) rfl ?_
  refine ev_putIG f_X9_init (nx := 39) rfl ((t_sx hN).trans rfl) rfl rfl rfl (hG.putI (Or.inl (by omega)) ((t_sx hN).trans rfl) (fun lo hi e => by have e : (none : Option (Int × Int)) = some (lo, hi) := e; cases e) (fun _ => rfl)) (fun a109 ea109 hG => ?_)
  refine ev_loc f_X9_init (nx := 40) rfl rfl rfl rfl ?_
  refine ev_ic f_X9_init (nx := 41) (v := 0) rfl (by decide) rfl ?_
  refine ev_putIG f_X9_init (nx := 44) rfl ((t_sx hN).trans rfl) rfl rfl rfl (hG.putI (Or.inl (by omega)) ((t_sx hN).trans rfl) (fun lo hi e => by have e : (none : Option (Int × Int)) = some (lo, hi) := e; cases e) (fun _ => rfl)) (fun a110 ea110 hG => ?_)
  refine ev_loc f_X9_init (nx := 45) rfl rfl rfl rfl ?_
  refine ev_ic f_X9_init (nx := 46) (v := 0) rfl (by decide) rfl ?_
  refine ev_putIG f_X9_init (nx := 49) rfl ((t_sx hN).trans rfl) rfl rfl rfl (hG.putI (Or.inl (by omega)) ((t_sx hN).trans rfl) (fun lo hi e => by have e : (none : Option (Int × Int)) = some (lo, hi) := e; cases e) (fun _ => rfl)) (fun a111 ea111 hG => ?_)
  refine ev_loc f_X9_init (nx := 50) rfl rfl rfl rfl ?_
  refine ev_ic f_X9_init (nx := 51) (v := -1) rfl (by decide) rfl ?_
  refine ev_putIG f_X9_init (nx := 54) rfl ((t_sx hN).trans rfl) rfl rfl rfl (hG.putI (Or.inl (by omega)) ((t_sx hN).trans rfl) (fun lo hi e => by have e : (none : Option (Int × Int)) = some (lo, hi) := e; cases e) (fun h => absurd h (by decide))) (fun a112 ea112 hG => ?_)
  refine ev_loc f_X9_init (nx := 55) rfl rfl rfl rfl ?_
  refine ev_loc f_X9_init (nx := 56) rfl rfl rfl rfl ?_
  refine ev_putRG f_X9_init (nx := 59) rfl ((t_sx hN).trans rfl) rfl rfl rfl rfl (hG.putR (Or.inl (by omega)) ((t_sx hN).trans rfl) (fun h8 h7 => absurd h7 (by decide))) (fun g113 e113 hG => ?_)
  refine ev_loc f_X9_init (nx := 60) rfl rfl rfl rfl ?_
  refine ev_loc f_X9_init (nx := 61) rfl rfl rfl rfl ?_
  refine ev_loc f_X9_init (nx := 62) rfl rfl rfl rfl ?_
  refine ev_alenv f_X9_init (nx := 63) (w := 900) rfl (t_sl (hI.wf.s rfl)) rfl (by decide) rfl ?_
  refine ev_minE f_X9_init (nx := 66) (l := 0) (u := 900) rfl rfl (by omega) rfl lx ux (by decide : (900:Int) ≤ (900:Int32).toInt) (by decide : (900:Int32).toInt ≤ (900:Int)) (by decide) (by decide) rfl (fun w114 e114 l114 u114 => ?_)
  refine ev_putIG f_X9_init (nx := 69) rfl ((t_sx hN).trans rfl) rfl rfl rfl (hG.putI (Or.inl (by omega)) ((t_sx hN).trans rfl) (fun lo hi e => by have e : some ((0 : Int), (900 : Int)) = some (lo, hi) := e; cases e; exact ⟨l114, u114⟩) (fun h => absurd h (by decide))) (fun a115 ea115 hG => ?_)
  refine ev_loc f_X9_init (nx := 70) rfl rfl rfl rfl ?_
  have hI1 := hG.I hN hI hH (by omega) (fun s hs => absurd (t_lt hs) (by omega))
  have hTk : t_Tk (sh ++ ([.inl 5, .inl 8] : List (Nat ⊕ (Nat × Nat)))) g113 (N + 1) := ⟨(t_sx hN).trans rfl, (by rw [e113]; exact x_up2_at _ _ _ _)⟩
  have i1_1 : a115 (N + 1) 1 = w114 := by rw [ea115, x_up2_at]
  have i1_2 : a115 (N + 1) 2 = 0 := by rw [ea115, x_up2_off (Or.inr (by decide)), ea112, x_up2_off (Or.inr (by decide)), ea111, x_up2_off (Or.inr (by decide)), ea110, x_up2_off (Or.inr (by decide)), ea109, x_up2_off (Or.inr (by decide)), ea106, x_up2_off (Or.inr (by decide)), ea105, x_up2_off (Or.inr (by decide)), ea104, x_up2_off (Or.inr (by decide)), ea103, x_up2_at]
  have i1_10 : a115 (N + 1) 10 = 0 := by rw [ea115, x_up2_off (Or.inr (by decide)), ea112, x_up2_off (Or.inr (by decide)), ea111, x_up2_at]
  have i1_11 : a115 (N + 1) 11 = (-1) := by rw [ea115, x_up2_off (Or.inr (by decide)), ea112, x_up2_at]
  have hS : t_Sp (gi 2) ar1.toNatClampNeg 0 a115 (N + 1) := ⟨(hG.1 2 (by omega) (by omega)).1, by rw [i1_1]; have hc := t_clamp (i := ar1) lx; have h9 : (900 : Int32).toInt = 900 := rfl; omega, by rw [i1_2]; rfl, Nat.zero_le _⟩
  have hG1 := hG
  have hX : t_X wl_s_step (sh ++ ([.inl 5, .inl 8] : List (Nat ⊕ (Nat × Nat)))) a115 b107 g113 a115 b107 g113 := t_X.rf
  refine ev_qN f_X9_init (nx := 73) (r := []) rfl rfl rfl rfl rfl rfl rfl (x_Me.up (c_s_step (d := d) hI1 (N + 1) hTk) (by omega)) rfl hX rfl (fun gi1 gl1 gr1 hI2 hX1 _ qs => ?_)
  have hT1 := qs.1 (gi 2) _ 0 hS
  have hF1 : t_FL gi1 (N + 1) 0 (-1) := ⟨by rw [qs.2.1.1, i1_10]; rfl, by rw [qs.2.1.2, i1_11]; rfl⟩
  replace hTk := hTk.ext hX1.2
  have hN2 : (sh ++ ([.inl 5, .inl 8] : List (Nat ⊕ (Nat × Nat)))).length = N + 2 := by rw [List.length_append, hN]; rfl
  have hG := t_G.refl (N := N + 2) (r := N + 0) (gi0 := gi1) (gl0 := gl1) (gr0 := gr1) hN2 (fun ci j lo hi hk ht => hI2.b hk ht)
  rw [show (((sh ++ ([.inl 5, .inl 8] : List (Nat ⊕ (Nat × Nat)))), gi1, gl1, gr1) : x_G) = ((sh ++ ([.inl 5, .inl 8] : List (Nat ⊕ (Nat × Nat)))) ++ [], gi1, gl1, gr1) by rw [List.append_nil]]
  refine ev_retK0 f_X9_init rfl rfl rfl ?_
  refine ev_inV2 f_X11_river (nx := 37) (lo2 := [(0, .ref (N + 0)), (1, .ref (N + 1))]) rfl rfl rfl rfl f_X6_init (t_sl ((t_sx hN).trans rfl)) rfl rfl rfl rfl rfl ?_
  refine ev_loc f_X6_init (nx := 1) rfl rfl rfl rfl ?_
  refine ev_obj f_X6_init (nx := 4) rfl rfl (by omega) (by decide) rfl ?_
  refine ev_loc f_X6_init (nx := 5) rfl rfl rfl rfl ?_
  refine ev_newG f_X6_init (nx := 8) (c := 0) (ext' := [.inl 4]) rfl rfl rfl hN2 rfl rfl hG (fun a116 b116 g116 ea116 eb116 e116 hG => ?_)
  refine ev_alu f_X6_init (nx := 9) rfl rfl rfl rfl ?_
  refine ev_inV1 f_X6_init (nx := 12) (lo2 := [(0, .ref (N + 2 + 0))]) rfl rfl rfl rfl f_X5_init ((t_sx hN2).trans rfl) rfl rfl rfl rfl rfl ?_
  refine ev_loc f_X5_init (nx := 1) rfl rfl rfl rfl ?_
  refine ev_obj f_X5_init (nx := 4) rfl rfl (by omega) (by decide) rfl ?_
  refine ev_loc f_X5_init (nx := 5) rfl rfl rfl rfl ?_
  refine ev_ic f_X5_init (nx := 6) (v := 0) rfl (by decide) rfl ?_
  refine ev_putIG f_X5_init (nx := 9) rfl ((t_sx hN2).trans rfl) rfl rfl rfl (hG.putI (Or.inl (by omega)) ((t_sx hN2).trans rfl) (fun lo hi e => by have e : some ((0 : Int), (6 : Int)) = some (lo, hi) := e; cases e; exact ⟨by decide, by decide⟩) (fun _ => rfl)) (fun a117 ea117 hG => ?_)
  refine ev_loc f_X5_init (nx := 10) rfl rfl rfl rfl ?_
  refine ev_bp f_X5_init (nx := 12) (v := 6) rfl (by decide) rfl ?_
  refine ev_arrG f_X5_init (nx := 14) (c := 1) (m := 6) (ext' := [.inl 4, .inr (1, 6)]) rfl rfl (by decide) rfl (by decide) rfl hN2 rfl rfl hG (fun a118 b118 g118 ea118 eb118 e118 hG => ?_)
  refine ev_putRG f_X5_init (nx := 17) rfl ((t_sx hN2).trans rfl) rfl rfl rfl rfl (hG.putR (Or.inl (by omega)) ((t_sx hN2).trans rfl) (fun h8 h7 => absurd h8 (by decide))) (fun g119 e119 hG => ?_)
  refine ev_loc f_X5_init (nx := 18) rfl rfl rfl rfl ?_
  refine ev_bp f_X5_init (nx := 20) (v := 6) rfl (by decide) rfl ?_
  refine ev_arrG f_X5_init (nx := 22) (c := 2) (m := 6) (ext' := [.inl 4, .inr (1, 6), .inr (1, 6)]) rfl rfl (by decide) rfl (by decide) rfl hN2 rfl rfl hG (fun a120 b120 g120 ea120 eb120 e120 hG => ?_)
  refine ev_putRG f_X5_init (nx := 25) rfl ((t_sx hN2).trans rfl) rfl rfl rfl rfl (hG.putR (Or.inl (by omega)) ((t_sx hN2).trans rfl) (fun h8 h7 => absurd h8 (by decide))) (fun g121 e121 hG => ?_)
  refine ev_loc f_X5_init (nx := 26) rfl rfl rfl rfl ?_
  refine ev_ic f_X5_init (nx := 27) (v := 5) rfl (by decide) rfl ?_
  refine ev_putIG f_X5_init (nx := 30) rfl ((t_sx hN2).trans rfl) rfl rfl rfl (hG.putI (Or.inl (by omega)) ((t_sx hN2).trans rfl) (fun lo hi e => by have e : (none : Option (Int × Int)) = some (lo, hi) := e; cases e) (fun h => absurd h (by decide))) (fun a122 ea122 hG => ?_)
  refine ev_loc f_X5_init (nx := 31) rfl rfl rfl rfl ?_
  refine ev_ic f_X5_init (nx := 32) (v := 0) rfl (by decide) rfl ?_
  refine ev_putIG f_X5_init (nx := 35) rfl ((t_sx hN2).trans rfl) rfl rfl rfl (hG.putI (Or.inl (by omega)) ((t_sx hN2).trans rfl) (fun lo hi e => by have e : (none : Option (Int × Int)) = some (lo, hi) := e; cases e) (fun _ => rfl)) (fun a123 ea123 hG => ?_)
  refine ev_loc f_X5_init (nx := 36) rfl rfl rfl rfl ?_
  refine ev_ic f_X5_init (nx := 37) (v := 0) rfl (by decide) rfl ?_
  refine ev_putIG f_X5_init (nx := 40) rfl ((t_sx hN2).trans rfl) rfl rfl rfl (hG.putI (Or.inl (by omega)) ((t_sx hN2).trans rfl) (fun lo hi e => by have e : (none : Option (Int × Int)) = some (lo, hi) := e; cases e) (fun _ => rfl)) (fun a124 ea124 hG => ?_)
  refine ev_loc f_X5_init (nx := 41) rfl rfl rfl rfl ?_
  refine ev_ic f_X5_init (nx := 42) (v := 0) rfl (by decide) rfl ?_
  refine ev_putIG f_X5_init (nx := 45) rfl ((t_sx hN2).trans rfl) rfl rfl rfl (hG.putI (Or.inl (by omega)) ((t_sx hN2).trans rfl) (fun lo hi e => by have e : (none : Option (Int × Int)) = some (lo, hi) := e; cases e) (fun _ => rfl)) (fun a125 ea125 hG => ?_)
  refine ev_loc f_X5_init (nx := 46) rfl rfl rfl rfl ?_
  refine ev_newG f_X5_init (nx := 49) (c := 3) (ext' := [.inl 4, .inr (1, 6), .inr (1, 6), .inl 3]) rfl rfl rfl hN2 rfl rfl hG (fun a126 b126 g126 ea126 eb126 e126 hG => ?_)
  refine ev_alu f_X5_init (nx := 50) rfl rfl rfl rfl ?_
  refine ev_inV1 f_X5_init (nx := 53) (lo2 := [(0, .ref (N + 2 + 3))]) rfl rfl rfl rfl f_X4_init ((t_sx hN2).trans rfl) rfl rfl rfl rfl rfl ?_
  refine ev_loc f_X4_init (nx := 1) rfl rfl rfl rfl ?_
  refine ev_obj f_X4_init (nx := 4) rfl rfl (by omega) (by decide) rfl ?_
  refine ev_loc f_X4_init (nx := 5) rfl rfl rfl rfl ?_
  refine ev_ic f_X4_init (nx := 6) (v := 0) rfl (by decide) rfl ?_
  refine ev_putIG f_X4_init (nx := 9) rfl ((t_sx hN2).trans rfl) rfl rfl rfl (hG.putI (Or.inl (by omega)) ((t_sx hN2).trans rfl) (fun lo hi e => by have e : some ((0 : Int), (6 : Int)) = some (lo, hi) := e; cases e; exact ⟨by decide, by decide⟩) (fun _ => rfl)) (fun a127 ea127 hG => ?_)
  refine ev_loc f_X4_init (nx := 10) rfl rfl rfl rfl ?_
  refine ev_bp f_X4_init (nx := 12) (v := 6) rfl (by decide) rfl ?_
  refine ev_arrG f_X4_init (nx := 14) (c := 4) (m := 6) (ext' := [.inl 4, .inr (1, 6), .inr (1, 6), .inl 3, .inr (0, 6)]) rfl rfl (by decide) rfl (by decide) rfl hN2 rfl rfl hG (fun a128 b128 g128 ea128 eb128 e128 hG => ?_)
  refine ev_putRG f_X4_init (nx := 17) rfl ((t_sx hN2).trans rfl) rfl rfl rfl rfl (hG.putR (Or.inl (by omega)) ((t_sx hN2).trans rfl) (fun h8 h7 => absurd h8 (by decide))) (fun g129 e129 hG => ?_)
  refine ev_loc f_X4_init (nx := 18) rfl rfl rfl rfl ?_
  refine ev_bp f_X4_init (nx := 20) (v := 6) rfl (by decide) rfl ?_
  refine ev_arrG f_X4_init (nx := 22) (c := 5) (m := 6) (ext' := [.inl 4, .inr (1, 6), .inr (1, 6), .inl 3, .inr (0, 6), .inr (0, 6)]) rfl rfl (by decide) rfl (by decide) rfl hN2 rfl rfl hG (fun a130 b130 g130 ea130 eb130 e130 hG => ?_)
  refine ev_putRG f_X4_init (nx := 25) rfl ((t_sx hN2).trans rfl) rfl rfl rfl rfl (hG.putR (Or.inl (by omega)) ((t_sx hN2).trans rfl) (fun h8 h7 => absurd h8 (by decide))) (fun g131 e131 hG => ?_)
  refine ev_loc f_X4_init (nx := 26) rfl rfl rfl rfl ?_
  refine ev_bp f_X4_init (nx := 28) (v := 6) rfl (by decide) rfl ?_
  refine ev_arrG f_X4_init (nx := 30) (c := 6) (m := 6) (ext' := [.inl 4, .inr (1, 6), .inr (1, 6), .inl 3, .inr (0, 6), .inr (0, 6), .inr (0, 6)]) rfl rfl (by decide) rfl (by decide) rfl hN2 rfl rfl hG (fun a132 b132 g132 ea132 eb132 e132 hG => ?_)
  refine ev_putRG f_X4_init (nx := 33) rfl ((t_sx hN2).trans rfl) rfl rfl rfl rfl (hG.putR (Or.inl (by omega)) ((t_sx hN2).trans rfl) (fun h8 h7 => absurd h8 (by decide))) (fun g133 e133 hG => ?_)
  refine ev_loc f_X4_init (nx := 34) rfl rfl rfl rfl ?_
  refine ev_bp f_X4_init (nx := 36) (v := 6) rfl (by decide) rfl ?_
  refine ev_arrG f_X4_init (nx := 38) (c := 7) (m := 6) (ext' := [.inl 4, .inr (1, 6), .inr (1, 6), .inl 3, .inr (0, 6), .inr (0, 6), .inr (0, 6), .inr (0, 6)]) rfl rfl (by decide) rfl (by decide) rfl hN2 rfl rfl hG (fun a134 b134 g134 ea134 eb134 e134 hG => ?_)
  refine ev_putRG f_X4_init (nx := 41) rfl ((t_sx hN2).trans rfl) rfl rfl rfl rfl (hG.putR (Or.inl (by omega)) ((t_sx hN2).trans rfl) (fun h8 h7 => absurd h8 (by decide))) (fun g135 e135 hG => ?_)
  refine ev_loc f_X4_init (nx := 42) rfl rfl rfl rfl ?_
  refine ev_bp f_X4_init (nx := 44) (v := 6) rfl (by decide) rfl ?_
  refine ev_arrG f_X4_init (nx := 46) (c := 8) (m := 6) (ext' := [.inl 4, .inr (1, 6), .inr (1, 6), .inl 3, .inr (0, 6), .inr (0, 6), .inr (0, 6), .inr (0, 6), .inr (3, 6)]) rfl rfl (by decide) rfl (by decide) rfl hN2 rfl rfl hG (fun a136 b136 g136 ea136 eb136 e136 hG => ?_)
  refine ev_putRG f_X4_init (nx := 49) rfl ((t_sx hN2).trans rfl) rfl rfl rfl rfl (hG.putR (Or.inl (by omega)) ((t_sx hN2).trans rfl) (fun h8 h7 => absurd h8 (by decide))) (fun g137 e137 hG => ?_)
  refine ev_retK0 f_X4_init rfl rfl rfl ?_
  refine ev_putRG f_X5_init (nx := 56) rfl ((t_sx hN2).trans rfl) rfl rfl rfl rfl (hG.putR (Or.inl (by omega)) ((t_sx hN2).trans rfl) (fun h8 h7 => absurd h8 (by decide))) (fun g138 e138 hG => ?_)
  refine ev_loc f_X5_init (nx := 57) rfl rfl rfl rfl ?_
  refine ev_bp f_X5_init (nx := 59) (v := 6) rfl (by decide) rfl ?_
  refine ev_arrG f_X5_init (nx := 61) (c := 9) (m := 6) (ext' := [.inl 4, .inr (1, 6), .inr (1, 6), .inl 3, .inr (0, 6), .inr (0, 6), .inr (0, 6), .inr (0, 6), .inr (3, 6), .inr (0, 6)]) rfl rfl (by decide) rfl (by decide) rfl hN2 rfl rfl hG (fun a139 b139 g139 ea139 eb139 e139 hG => ?_)
  refine ev_putRG f_X5_init (nx := 64) rfl ((t_sx hN2).trans rfl) rfl rfl rfl rfl (hG.putR (Or.inl (by omega)) ((t_sx hN2).trans rfl) (fun h8 h7 => absurd h8 (by decide))) (fun g140 e140 hG => ?_)
  refine ev_loc f_X5_init (nx := 65) rfl rfl rfl rfl ?_
  refine ev_newG f_X5_init (nx := 68) (c := 10) (ext' := [.inl 4, .inr (1, 6), .inr (1, 6), .inl 3, .inr (0, 6), .inr (0, 6), .inr (0, 6), .inr (0, 6), .inr (3, 6), .inr (0, 6), .inl 3]) rfl rfl rfl hN2 rfl rfl hG (fun a141 b141 g141 ea141 eb141 e141 hG => ?_)
  refine ev_alu f_X5_init (nx := 69) rfl rfl rfl rfl ?_
  refine ev_inV1 f_X5_init (nx := 72) (lo2 := [(0, .ref (N + 2 + 10))]) rfl rfl rfl rfl f_X4_init ((t_sx hN2).trans rfl) rfl rfl rfl rfl rfl ?_
  refine ev_loc f_X4_init (nx := 1) rfl rfl rfl rfl ?_
  refine ev_obj f_X4_init (nx := 4) rfl rfl (by omega) (by decide) rfl ?_
  refine ev_loc f_X4_init (nx := 5) rfl rfl rfl rfl ?_
  refine ev_ic f_X4_init (nx := 6) (v := 0) rfl (by decide) rfl ?_
  refine ev_putIG f_X4_init (nx := 9) rfl ((t_sx hN2).trans rfl) rfl rfl rfl (hG.putI (Or.inl (by omega)) ((t_sx hN2).trans rfl) (fun lo hi e => by have e : some ((0 : Int), (6 : Int)) = some (lo, hi) := e; cases e; exact ⟨by decide, by decide⟩) (fun _ => rfl)) (fun a142 ea142 hG => ?_)
  refine ev_loc f_X4_init (nx := 10) rfl rfl rfl rfl ?_
  refine ev_bp f_X4_init (nx := 12) (v := 6) rfl (by decide) rfl ?_
  refine ev_arrG f_X4_init (nx := 14) (c := 11) (m := 6) (ext' := [.inl 4, .inr (1, 6), .inr (1, 6), .inl 3, .inr (0, 6), .inr (0, 6), .inr (0, 6), .inr (0, 6), .inr (3, 6), .inr (0, 6), .inl 3, .inr (0, 6)]) rfl rfl (by decide) rfl (by decide) rfl hN2 rfl rfl hG (fun a143 b143 g143 ea143 eb143 e143 hG => ?_)
  refine ev_putRG f_X4_init (nx := 17) rfl ((t_sx hN2).trans rfl) rfl rfl rfl rfl (hG.putR (Or.inl (by omega)) ((t_sx hN2).trans rfl) (fun h8 h7 => absurd h8 (by decide))) (fun g144 e144 hG => ?_)
  refine ev_loc f_X4_init (nx := 18) rfl rfl rfl rfl ?_
  refine ev_bp f_X4_init (nx := 20) (v := 6) rfl (by decide) rfl ?_
  refine ev_arrG f_X4_init (nx := 22) (c := 12) (m := 6) (ext' := [.inl 4, .inr (1, 6), .inr (1, 6), .inl 3, .inr (0, 6), .inr (0, 6), .inr (0, 6), .inr (0, 6), .inr (3, 6), .inr (0, 6), .inl 3, .inr (0, 6), .inr (0, 6)]) rfl rfl (by decide) rfl (by decide) rfl hN2 rfl rfl hG (fun a145 b145 g145 ea145 eb145 e145 hG => ?_)
  refine ev_putRG f_X4_init (nx := 25) rfl ((t_sx hN2).trans rfl) rfl rfl rfl rfl (hG.putR (Or.inl (by omega)) ((t_sx hN2).trans rfl) (fun h8 h7 => absurd h8 (by decide))) (fun g146 e146 hG => ?_)
  refine ev_loc f_X4_init (nx := 26) rfl rfl rfl rfl ?_
  refine ev_bp f_X4_init (nx := 28) (v := 6) rfl (by decide) rfl ?_
  refine ev_arrG f_X4_init (nx := 30) (c := 13) (m := 6) (ext' := [.inl 4, .inr (1, 6), .inr (1, 6), .inl 3, .inr (0, 6), .inr (0, 6), .inr (0, 6), .inr (0, 6), .inr (3, 6), .inr (0, 6), .inl 3, .inr (0, 6), .inr (0, 6), .inr (0, 6)]) rfl rfl (by decide) rfl (by decide) rfl hN2 rfl rfl hG (fun a147 b147 g147 ea147 eb147 e147 hG => ?_)
  refine ev_putRG f_X4_init (nx := 33) rfl ((t_sx hN2).trans rfl) rfl rfl rfl rfl (hG.putR (Or.inl (by omega)) ((t_sx hN2).trans rfl) (fun h8 h7 => absurd h8 (by decide))) (fun g148 e148 hG => ?_)
  refine ev_loc f_X4_init (nx := 34) rfl rfl rfl rfl ?_
  refine ev_bp f_X4_init (nx := 36) (v := 6) rfl (by decide) rfl ?_
  refine ev_arrG f_X4_init (nx := 38) (c := 14) (m := 6) (ext' := [.inl 4, .inr (1, 6), .inr (1, 6), .inl 3, .inr (0, 6), .inr (0, 6), .inr (0, 6), .inr (0, 6), .inr (3, 6), .inr (0, 6), .inl 3, .inr (0, 6), .inr (0, 6), .inr (0, 6), .inr (0, 6)]) rfl rfl (by decide) rfl (by decide) rfl hN2 rfl rfl hG (fun a149 b149 g149 ea149 eb149 e149 hG => ?_)
  refine ev_putRG f_X4_init (nx := 41) rfl ((t_sx hN2).trans rfl) rfl rfl rfl rfl (hG.putR (Or.inl (by omega)) ((t_sx hN2).trans rfl) (fun h8 h7 => absurd h8 (by decide))) (fun g150 e150 hG => ?_)
  refine ev_loc f_X4_init (nx := 42) rfl rfl rfl rfl ?_
  refine ev_bp f_X4_init (nx := 44) (v := 6) rfl (by decide) rfl ?_
  refine ev_arrG f_X4_init (nx := 46) (c := 15) (m := 6) (ext' := [.inl 4, .inr (1, 6), .inr (1, 6), .inl 3, .inr (0, 6), .inr (0, 6), .inr (0, 6), .inr (0, 6), .inr (3, 6), .inr (0, 6), .inl 3, .inr (0, 6), .inr (0, 6), .inr (0, 6), .inr (0, 6), .inr (3, 6)]) rfl rfl (by decide) rfl (by decide) rfl hN2 rfl rfl hG (fun a151 b151 g151 ea151 eb151 e151 hG => ?_)
  refine ev_putRG f_X4_init (nx := 49) rfl ((t_sx hN2).trans rfl) rfl rfl rfl rfl (hG.putR (Or.inl (by omega)) ((t_sx hN2).trans rfl) (fun h8 h7 => absurd h8 (by decide))) (fun g152 e152 hG => ?_)
  refine ev_retK0 f_X4_init rfl rfl rfl ?_
  refine ev_putRG f_X5_init (nx := 75) rfl ((t_sx hN2).trans rfl) rfl rfl rfl rfl (hG.putR (Or.inl (by omega)) ((t_sx hN2).trans rfl) (fun h8 h7 => absurd h8 (by decide))) (fun g153 e153 hG => ?_)
  refine ev_retK0 f_X5_init rfl rfl rfl ?_
  refine ev_putRG f_X6_init (nx := 15) rfl (t_sl ((t_sx hN).trans rfl)) rfl rfl rfl rfl (hG.putR (Or.inr rfl) (t_sl ((t_sx hN).trans rfl)) (fun h8 h7 => absurd h8 (by decide))) (fun g154 e154 hG => ?_)
  refine ev_loc f_X6_init (nx := 16) rfl rfl rfl rfl ?_
  refine ev_bp f_X6_init (nx := 18) (v := 6) rfl (by decide) rfl ?_
  refine ev_arrG f_X6_init (nx := 20) (c := 16) (m := 6) (ext' := [.inl 4, .inr (1, 6), .inr (1, 6), .inl 3, .inr (0, 6), .inr (0, 6), .inr (0, 6), .inr (0, 6), .inr (3, 6), .inr (0, 6), .inl 3, .inr (0, 6), .inr (0, 6), .inr (0, 6), .inr (0, 6), .inr (3, 6), .inr (1, 6)]) rfl rfl (by decide) rfl (by decide) rfl hN2 rfl rfl hG (fun a155 b155 g155 ea155 eb155 e155 hG => ?_)
  refine ev_putRG f_X6_init (nx := 23) rfl (t_sl ((t_sx hN).trans rfl)) rfl rfl rfl rfl (hG.putR (Or.inr rfl) (t_sl ((t_sx hN).trans rfl)) (fun h8 h7 => absurd h8 (by decide))) (fun g156 e156 hG => ?_)
  refine ev_loc f_X6_init (nx := 24) rfl rfl rfl rfl ?_
  refine ev_bp f_X6_init (nx := 26) (v := 18) rfl (by decide) rfl ?_
  refine ev_arrG f_X6_init (nx := 28) (c := 17) (m := 18) (ext' := [.inl 4, .inr (1, 6), .inr (1, 6), .inl 3, .inr (0, 6), .inr (0, 6), .inr (0, 6), .inr (0, 6), .inr (3, 6), .inr (0, 6), .inl 3, .inr (0, 6), .inr (0, 6), .inr (0, 6), .inr (0, 6), .inr (3, 6), .inr (1, 6), .inr (1, 18)]) rfl rfl (by decide) rfl (by decide) rfl hN2 rfl rfl hG (fun a157 b157 g157 ea157 eb157 e157 hG => ?_)
  refine ev_putRG f_X6_init (nx := 31) rfl (t_sl ((t_sx hN).trans rfl)) rfl rfl rfl rfl (hG.putR (Or.inr rfl) (t_sl ((t_sx hN).trans rfl)) (fun h8 h7 => absurd h8 (by decide))) (fun g158 e158 hG => ?_)
  refine ev_loc f_X6_init (nx := 32) rfl rfl rfl rfl ?_
  refine ev_ic f_X6_init (nx := 33) (v := 0) rfl (by decide) rfl ?_
  refine ev_putIG f_X6_init (nx := 36) rfl (t_sl ((t_sx hN).trans rfl)) rfl rfl rfl (hG.putI (Or.inr rfl) (t_sl ((t_sx hN).trans rfl)) (fun lo hi e => by have e : some ((0 : Int), (18 : Int)) = some (lo, hi) := e; cases e; exact ⟨by decide, by decide⟩) (fun _ => rfl)) (fun a159 ea159 hG => ?_)
  refine ev_loc f_X6_init (nx := 37) rfl rfl rfl rfl ?_
  refine ev_ic f_X6_init (nx := 38) (v := 0) rfl (by decide) rfl ?_
  refine ev_putZG f_X6_init (nx := 41) rfl (t_sl ((t_sx hN).trans rfl)) rfl rfl (Or.inl rfl) rfl (hG.putI (Or.inr rfl) (t_sl ((t_sx hN).trans rfl)) (fun lo hi e => by have e : (none : Option (Int × Int)) = some (lo, hi) := e; cases e) (fun _ => rfl)) (fun a160 ea160 hG => ?_)
  refine ev_loc f_X6_init (nx := 42) rfl rfl rfl rfl ?_
  refine ev_ic f_X6_init (nx := 43) (v := 0) rfl (by decide) rfl ?_
  refine ev_putZG f_X6_init (nx := 46) rfl (t_sl ((t_sx hN).trans rfl)) rfl rfl (Or.inl rfl) rfl (hG.putI (Or.inr rfl) (t_sl ((t_sx hN).trans rfl)) (fun lo hi e => by have e : (none : Option (Int × Int)) = some (lo, hi) := e; cases e) (fun _ => rfl)) (fun a161 ea161 hG => ?_)
  refine ev_loc f_X6_init (nx := 47) rfl rfl rfl rfl ?_
  refine ev_ic f_X6_init (nx := 48) (v := 0) rfl (by decide) rfl ?_
  refine ev_putZG f_X6_init (nx := 51) rfl (t_sl ((t_sx hN).trans rfl)) rfl rfl (Or.inl rfl) rfl (hG.putI (Or.inr rfl) (t_sl ((t_sx hN).trans rfl)) (fun lo hi e => by have e : (none : Option (Int × Int)) = some (lo, hi) := e; cases e) (fun _ => rfl)) (fun a162 ea162 hG => ?_)
  refine ev_loc f_X6_init (nx := 52) rfl rfl rfl rfl ?_
  refine ev_loc f_X6_init (nx := 53) rfl rfl rfl rfl ?_
  refine ev_putRG f_X6_init (nx := 56) rfl (t_sl ((t_sx hN).trans rfl)) rfl rfl rfl rfl (hG.putR (Or.inr rfl) (t_sl ((t_sx hN).trans rfl)) (fun h8 h7 => absurd h8 (by decide))) (fun g163 e163 hG => ?_)
  refine ev_retK0 f_X6_init rfl rfl rfl ?_
  refine ev_loc f_X11_river (nx := 38) (lo' := [(2, .ref (N + 0)), (0, .ref 0), (1, .int ar1)]) rfl rfl rfl rfl ?_
  have hI3 := hG.I hN2 hI2 (t_H_ext hH (t_he rfl)) (by omega) (fun s hs => Or.inl (by rw [(t_sx hN).trans rfl] at hs; cases hs; rfl))
  have f0_N_0 : g163 (N + 0) 0 = .ref (N + 1) := (by rw [e163]; exact x_up2_at _ _ _ _)
  have f1_N_0 : g163 (N + 0) 1 = .ref (N + 2 + 0) := (by rw [e163, x_up2_off (Or.inr (by decide)), e158, x_up2_off (Or.inr (by decide)), e157, x_clr_ne (by omega), e156, x_up2_off (Or.inr (by decide)), e155, x_clr_ne (by omega), e154]; exact x_up2_at _ _ _ _)
  have f2_N_0 : g163 (N + 0) 2 = .ref (N + 2 + 16) := (by rw [e163, x_up2_off (Or.inr (by decide)), e158, x_up2_off (Or.inr (by decide)), e157, x_clr_ne (by omega), e156]; exact x_up2_at _ _ _ _)
  have f3_N_0 : g163 (N + 0) 3 = .ref (N + 2 + 17) := (by rw [e163, x_up2_off (Or.inr (by decide)), e158]; exact x_up2_at _ _ _ _)
  have f1_N_2_0 : g163 (N + 2 + 0) 1 = .ref (N + 2 + 1) := (by rw [e163, x_up2_off (Or.inl (by omega)), e158, x_up2_off (Or.inl (by omega)), e157, x_clr_ne (by omega), e156, x_up2_off (Or.inl (by omega)), e155, x_clr_ne (by omega), e154, x_up2_off (Or.inl (by omega)), e153, x_up2_off (Or.inr (by decide)), e152, x_up2_off (Or.inl (by omega)), e151, x_clr_ne (by omega), e150, x_up2_off (Or.inl (by omega)), e149, x_clr_ne (by omega), e148, x_up2_off (Or.inl (by omega)), e147, x_clr_ne (by omega), e146, x_up2_off (Or.inl (by omega)), e145, x_clr_ne (by omega), e144, x_up2_off (Or.inl (by omega)), e143, x_clr_ne (by omega), e141, x_clr_ne (by omega), e140, x_up2_off (Or.inr (by decide)), e139, x_clr_ne (by omega), e138, x_up2_off (Or.inr (by decide)), e137, x_up2_off (Or.inl (by omega)), e136, x_clr_ne (by omega), e135, x_up2_off (Or.inl (by omega)), e134, x_clr_ne (by omega), e133, x_up2_off (Or.inl (by omega)), e132, x_clr_ne (by omega), e131, x_up2_off (Or.inl (by omega)), e130, x_clr_ne (by omega), e129, x_up2_off (Or.inl (by omega)), e128, x_clr_ne (by omega), e126, x_clr_ne (by omega), e121, x_up2_off (Or.inr (by decide)), e120, x_clr_ne (by omega), e119]; exact x_up2_at _ _ _ _)
  have f2_N_2_0 : g163 (N + 2 + 0) 2 = .ref (N + 2 + 2) := (by rw [e163, x_up2_off (Or.inl (by omega)), e158, x_up2_off (Or.inl (by omega)), e157, x_clr_ne (by omega), e156, x_up2_off (Or.inl (by omega)), e155, x_clr_ne (by omega), e154, x_up2_off (Or.inl (by omega)), e153, x_up2_off (Or.inr (by decide)), e152, x_up2_off (Or.inl (by omega)), e151, x_clr_ne (by omega), e150, x_up2_off (Or.inl (by omega)), e149, x_clr_ne (by omega), e148, x_up2_off (Or.inl (by omega)), e147, x_clr_ne (by omega), e146, x_up2_off (Or.inl (by omega)), e145, x_clr_ne (by omega), e144, x_up2_off (Or.inl (by omega)), e143, x_clr_ne (by omega), e141, x_clr_ne (by omega), e140, x_up2_off (Or.inr (by decide)), e139, x_clr_ne (by omega), e138, x_up2_off (Or.inr (by decide)), e137, x_up2_off (Or.inl (by omega)), e136, x_clr_ne (by omega), e135, x_up2_off (Or.inl (by omega)), e134, x_clr_ne (by omega), e133, x_up2_off (Or.inl (by omega)), e132, x_clr_ne (by omega), e131, x_up2_off (Or.inl (by omega)), e130, x_clr_ne (by omega), e129, x_up2_off (Or.inl (by omega)), e128, x_clr_ne (by omega), e126, x_clr_ne (by omega), e121]; exact x_up2_at _ _ _ _)
  have f8_N_2_0 : g163 (N + 2 + 0) 8 = .ref (N + 2 + 9) := (by rw [e163, x_up2_off (Or.inl (by omega)), e158, x_up2_off (Or.inl (by omega)), e157, x_clr_ne (by omega), e156, x_up2_off (Or.inl (by omega)), e155, x_clr_ne (by omega), e154, x_up2_off (Or.inl (by omega)), e153, x_up2_off (Or.inr (by decide)), e152, x_up2_off (Or.inl (by omega)), e151, x_clr_ne (by omega), e150, x_up2_off (Or.inl (by omega)), e149, x_clr_ne (by omega), e148, x_up2_off (Or.inl (by omega)), e147, x_clr_ne (by omega), e146, x_up2_off (Or.inl (by omega)), e145, x_clr_ne (by omega), e144, x_up2_off (Or.inl (by omega)), e143, x_clr_ne (by omega), e141, x_clr_ne (by omega), e140]; exact x_up2_at _ _ _ _)
  have f7_N_2_0 : g163 (N + 2 + 0) 7 = .ref (N + 2 + 3) := (by rw [e163, x_up2_off (Or.inl (by omega)), e158, x_up2_off (Or.inl (by omega)), e157, x_clr_ne (by omega), e156, x_up2_off (Or.inl (by omega)), e155, x_clr_ne (by omega), e154, x_up2_off (Or.inl (by omega)), e153, x_up2_off (Or.inr (by decide)), e152, x_up2_off (Or.inl (by omega)), e151, x_clr_ne (by omega), e150, x_up2_off (Or.inl (by omega)), e149, x_clr_ne (by omega), e148, x_up2_off (Or.inl (by omega)), e147, x_clr_ne (by omega), e146, x_up2_off (Or.inl (by omega)), e145, x_clr_ne (by omega), e144, x_up2_off (Or.inl (by omega)), e143, x_clr_ne (by omega), e141, x_clr_ne (by omega), e140, x_up2_off (Or.inr (by decide)), e139, x_clr_ne (by omega), e138]; exact x_up2_at _ _ _ _)
  have f9_N_2_0 : g163 (N + 2 + 0) 9 = .ref (N + 2 + 10) := (by rw [e163, x_up2_off (Or.inl (by omega)), e158, x_up2_off (Or.inl (by omega)), e157, x_clr_ne (by omega), e156, x_up2_off (Or.inl (by omega)), e155, x_clr_ne (by omega), e154, x_up2_off (Or.inl (by omega)), e153]; exact x_up2_at _ _ _ _)
  have f1_N_2_3 : g163 (N + 2 + 3) 1 = .ref (N + 2 + 4) := (by rw [e163, x_up2_off (Or.inl (by omega)), e158, x_up2_off (Or.inl (by omega)), e157, x_clr_ne (by omega), e156, x_up2_off (Or.inl (by omega)), e155, x_clr_ne (by omega), e154, x_up2_off (Or.inl (by omega)), e153, x_up2_off (Or.inl (by omega)), e152, x_up2_off (Or.inl (by omega)), e151, x_clr_ne (by omega), e150, x_up2_off (Or.inl (by omega)), e149, x_clr_ne (by omega), e148, x_up2_off (Or.inl (by omega)), e147, x_clr_ne (by omega), e146, x_up2_off (Or.inl (by omega)), e145, x_clr_ne (by omega), e144, x_up2_off (Or.inl (by omega)), e143, x_clr_ne (by omega), e141, x_clr_ne (by omega), e140, x_up2_off (Or.inl (by omega)), e139, x_clr_ne (by omega), e138, x_up2_off (Or.inl (by omega)), e137, x_up2_off (Or.inr (by decide)), e136, x_clr_ne (by omega), e135, x_up2_off (Or.inr (by decide)), e134, x_clr_ne (by omega), e133, x_up2_off (Or.inr (by decide)), e132, x_clr_ne (by omega), e131, x_up2_off (Or.inr (by decide)), e130, x_clr_ne (by omega), e129]; exact x_up2_at _ _ _ _)
  have f2_N_2_3 : g163 (N + 2 + 3) 2 = .ref (N + 2 + 5) := (by rw [e163, x_up2_off (Or.inl (by omega)), e158, x_up2_off (Or.inl (by omega)), e157, x_clr_ne (by omega), e156, x_up2_off (Or.inl (by omega)), e155, x_clr_ne (by omega), e154, x_up2_off (Or.inl (by omega)), e153, x_up2_off (Or.inl (by omega)), e152, x_up2_off (Or.inl (by omega)), e151, x_clr_ne (by omega), e150, x_up2_off (Or.inl (by omega)), e149, x_clr_ne (by omega), e148, x_up2_off (Or.inl (by omega)), e147, x_clr_ne (by omega), e146, x_up2_off (Or.inl (by omega)), e145, x_clr_ne (by omega), e144, x_up2_off (Or.inl (by omega)), e143, x_clr_ne (by omega), e141, x_clr_ne (by omega), e140, x_up2_off (Or.inl (by omega)), e139, x_clr_ne (by omega), e138, x_up2_off (Or.inl (by omega)), e137, x_up2_off (Or.inr (by decide)), e136, x_clr_ne (by omega), e135, x_up2_off (Or.inr (by decide)), e134, x_clr_ne (by omega), e133, x_up2_off (Or.inr (by decide)), e132, x_clr_ne (by omega), e131]; exact x_up2_at _ _ _ _)
  have f3_N_2_3 : g163 (N + 2 + 3) 3 = .ref (N + 2 + 6) := (by rw [e163, x_up2_off (Or.inl (by omega)), e158, x_up2_off (Or.inl (by omega)), e157, x_clr_ne (by omega), e156, x_up2_off (Or.inl (by omega)), e155, x_clr_ne (by omega), e154, x_up2_off (Or.inl (by omega)), e153, x_up2_off (Or.inl (by omega)), e152, x_up2_off (Or.inl (by omega)), e151, x_clr_ne (by omega), e150, x_up2_off (Or.inl (by omega)), e149, x_clr_ne (by omega), e148, x_up2_off (Or.inl (by omega)), e147, x_clr_ne (by omega), e146, x_up2_off (Or.inl (by omega)), e145, x_clr_ne (by omega), e144, x_up2_off (Or.inl (by omega)), e143, x_clr_ne (by omega), e141, x_clr_ne (by omega), e140, x_up2_off (Or.inl (by omega)), e139, x_clr_ne (by omega), e138, x_up2_off (Or.inl (by omega)), e137, x_up2_off (Or.inr (by decide)), e136, x_clr_ne (by omega), e135, x_up2_off (Or.inr (by decide)), e134, x_clr_ne (by omega), e133]; exact x_up2_at _ _ _ _)
  have f4_N_2_3 : g163 (N + 2 + 3) 4 = .ref (N + 2 + 7) := (by rw [e163, x_up2_off (Or.inl (by omega)), e158, x_up2_off (Or.inl (by omega)), e157, x_clr_ne (by omega), e156, x_up2_off (Or.inl (by omega)), e155, x_clr_ne (by omega), e154, x_up2_off (Or.inl (by omega)), e153, x_up2_off (Or.inl (by omega)), e152, x_up2_off (Or.inl (by omega)), e151, x_clr_ne (by omega), e150, x_up2_off (Or.inl (by omega)), e149, x_clr_ne (by omega), e148, x_up2_off (Or.inl (by omega)), e147, x_clr_ne (by omega), e146, x_up2_off (Or.inl (by omega)), e145, x_clr_ne (by omega), e144, x_up2_off (Or.inl (by omega)), e143, x_clr_ne (by omega), e141, x_clr_ne (by omega), e140, x_up2_off (Or.inl (by omega)), e139, x_clr_ne (by omega), e138, x_up2_off (Or.inl (by omega)), e137, x_up2_off (Or.inr (by decide)), e136, x_clr_ne (by omega), e135]; exact x_up2_at _ _ _ _)
  have f5_N_2_3 : g163 (N + 2 + 3) 5 = .ref (N + 2 + 8) := (by rw [e163, x_up2_off (Or.inl (by omega)), e158, x_up2_off (Or.inl (by omega)), e157, x_clr_ne (by omega), e156, x_up2_off (Or.inl (by omega)), e155, x_clr_ne (by omega), e154, x_up2_off (Or.inl (by omega)), e153, x_up2_off (Or.inl (by omega)), e152, x_up2_off (Or.inl (by omega)), e151, x_clr_ne (by omega), e150, x_up2_off (Or.inl (by omega)), e149, x_clr_ne (by omega), e148, x_up2_off (Or.inl (by omega)), e147, x_clr_ne (by omega), e146, x_up2_off (Or.inl (by omega)), e145, x_clr_ne (by omega), e144, x_up2_off (Or.inl (by omega)), e143, x_clr_ne (by omega), e141, x_clr_ne (by omega), e140, x_up2_off (Or.inl (by omega)), e139, x_clr_ne (by omega), e138, x_up2_off (Or.inl (by omega)), e137]; exact x_up2_at _ _ _ _)
  have f1_N_2_10 : g163 (N + 2 + 10) 1 = .ref (N + 2 + 11) := (by rw [e163, x_up2_off (Or.inl (by omega)), e158, x_up2_off (Or.inl (by omega)), e157, x_clr_ne (by omega), e156, x_up2_off (Or.inl (by omega)), e155, x_clr_ne (by omega), e154, x_up2_off (Or.inl (by omega)), e153, x_up2_off (Or.inl (by omega)), e152, x_up2_off (Or.inr (by decide)), e151, x_clr_ne (by omega), e150, x_up2_off (Or.inr (by decide)), e149, x_clr_ne (by omega), e148, x_up2_off (Or.inr (by decide)), e147, x_clr_ne (by omega), e146, x_up2_off (Or.inr (by decide)), e145, x_clr_ne (by omega), e144]; exact x_up2_at _ _ _ _)
  have f2_N_2_10 : g163 (N + 2 + 10) 2 = .ref (N + 2 + 12) := (by rw [e163, x_up2_off (Or.inl (by omega)), e158, x_up2_off (Or.inl (by omega)), e157, x_clr_ne (by omega), e156, x_up2_off (Or.inl (by omega)), e155, x_clr_ne (by omega), e154, x_up2_off (Or.inl (by omega)), e153, x_up2_off (Or.inl (by omega)), e152, x_up2_off (Or.inr (by decide)), e151, x_clr_ne (by omega), e150, x_up2_off (Or.inr (by decide)), e149, x_clr_ne (by omega), e148, x_up2_off (Or.inr (by decide)), e147, x_clr_ne (by omega), e146]; exact x_up2_at _ _ _ _)
  have f3_N_2_10 : g163 (N + 2 + 10) 3 = .ref (N + 2 + 13) := (by rw [e163, x_up2_off (Or.inl (by omega)), e158, x_up2_off (Or.inl (by omega)), e157, x_clr_ne (by omega), e156, x_up2_off (Or.inl (by omega)), e155, x_clr_ne (by omega), e154, x_up2_off (Or.inl (by omega)), e153, x_up2_off (Or.inl (by omega)), e152, x_up2_off (Or.inr (by decide)), e151, x_clr_ne (by omega), e150, x_up2_off (Or.inr (by decide)), e149, x_clr_ne (by omega), e148]; exact x_up2_at _ _ _ _)
  have f4_N_2_10 : g163 (N + 2 + 10) 4 = .ref (N + 2 + 14) := (by rw [e163, x_up2_off (Or.inl (by omega)), e158, x_up2_off (Or.inl (by omega)), e157, x_clr_ne (by omega), e156, x_up2_off (Or.inl (by omega)), e155, x_clr_ne (by omega), e154, x_up2_off (Or.inl (by omega)), e153, x_up2_off (Or.inl (by omega)), e152, x_up2_off (Or.inr (by decide)), e151, x_clr_ne (by omega), e150]; exact x_up2_at _ _ _ _)
  have f5_N_2_10 : g163 (N + 2 + 10) 5 = .ref (N + 2 + 15) := (by rw [e163, x_up2_off (Or.inl (by omega)), e158, x_up2_off (Or.inl (by omega)), e157, x_clr_ne (by omega), e156, x_up2_off (Or.inl (by omega)), e155, x_clr_ne (by omega), e154, x_up2_off (Or.inl (by omega)), e153, x_up2_off (Or.inl (by omega)), e152]; exact x_up2_at _ _ _ _)
  have hVQ : t_VQ ((sh ++ ([.inl 5, .inl 8] : List (Nat ⊕ (Nat × Nat)))) ++ [.inl 4, .inr (1, 6), .inr (1, 6), .inl 3, .inr (0, 6), .inr (0, 6), .inr (0, 6), .inr (0, 6), .inr (3, 6), .inr (0, 6), .inl 3, .inr (0, 6), .inr (0, 6), .inr (0, 6), .inr (0, 6), .inr (3, 6), .inr (1, 6), .inr (1, 18)]) g163 (N + 2) := ⟨((t_sx (i := 0) hN2).trans rfl), by omega, ⟨f1_N_2_0, ((t_sx (i := 1) hN2).trans rfl)⟩, ⟨f2_N_2_0, ((t_sx (i := 2) hN2).trans rfl)⟩, ⟨f8_N_2_0, ((t_sx (i := 9) hN2).trans rfl)⟩, ⟨f7_N_2_0, ⟨((t_sx (i := 3) hN2).trans rfl), by omega, ⟨f1_N_2_3, ((t_sx (i := 4) hN2).trans rfl)⟩, ⟨f2_N_2_3, ((t_sx (i := 5) hN2).trans rfl)⟩, ⟨f3_N_2_3, ((t_sx (i := 6) hN2).trans rfl)⟩, ⟨f4_N_2_3, ((t_sx (i := 7) hN2).trans rfl)⟩, f5_N_2_3, ((t_sx (i := 8) hN2).trans rfl)⟩⟩, f9_N_2_0, ⟨((t_sx (i := 10) hN2).trans rfl), by omega, ⟨f1_N_2_10, ((t_sx (i := 11) hN2).trans rfl)⟩, ⟨f2_N_2_10, ((t_sx (i := 12) hN2).trans rfl)⟩, ⟨f3_N_2_10, ((t_sx (i := 13) hN2).trans rfl)⟩, ⟨f4_N_2_10, ((t_sx (i := 14) hN2).trans rfl)⟩, f5_N_2_10, ((t_sx (i := 15) hN2).trans rfl)⟩⟩
  have hTk2 : t_Tk ((sh ++ ([.inl 5, .inl 8] : List (Nat ⊕ (Nat × Nat)))) ++ [.inl 4, .inr (1, 6), .inr (1, 6), .inl 3, .inr (0, 6), .inr (0, 6), .inr (0, 6), .inr (0, 6), .inr (3, 6), .inr (0, 6), .inl 3, .inr (0, 6), .inr (0, 6), .inr (0, 6), .inr (0, 6), .inr (3, 6), .inr (1, 6), .inr (1, 18)]) g163 (N + 1) := ⟨t_sl ((t_sx hN).trans rfl), (congrFun (hG.1 (N + 1) (by omega) (by omega)).2.2 0).trans hTk.2⟩
  have hR : t_RQ ((sh ++ ([.inl 5, .inl 8] : List (Nat ⊕ (Nat × Nat)))) ++ [.inl 4, .inr (1, 6), .inr (1, 6), .inl 3, .inr (0, 6), .inr (0, 6), .inr (0, 6), .inr (0, 6), .inr (3, 6), .inr (0, 6), .inl 3, .inr (0, 6), .inr (0, 6), .inr (0, 6), .inr (0, 6), .inr (3, 6), .inr (1, 6), .inr (1, 18)]) g163 N := ⟨t_sl ((t_sx (i := 0) hN).trans rfl), by omega, ⟨f2_N_0, ((t_sx (i := 16) hN2).trans rfl)⟩, ⟨f3_N_0, ((t_sx (i := 17) hN2).trans rfl)⟩, ⟨f0_N_0, hTk2⟩, f1_N_0, hVQ⟩
  have zR4 : (a162 (N + 0) 4).toInt = 0 := by rw [ea162, x_up2_off (Or.inr (by decide)), ea161, x_up2_off (Or.inr (by decide)), ea160, x_up2_off (Or.inr (by decide)), ea159, x_up2_at]; rfl
  have zR5 : (a162 (N + 0) 5).toInt = 0 := by rw [ea162, x_up2_off (Or.inr (by decide)), ea161, x_up2_off (Or.inr (by decide)), ea160, x_up2_at]; rfl
  have zR6 : (a162 (N + 0) 6).toInt = 0 := by rw [ea162, x_up2_off (Or.inr (by decide)), ea161, x_up2_at]; rfl
  have zR7 : (a162 (N + 0) 7).toInt = 0 := by rw [ea162, x_up2_at]; rfl
  have zV0 : (a162 (N + 2 + 0) 0).toInt = 0 := by rw [ea162, x_up2_off (Or.inl (by omega)), ea161, x_up2_off (Or.inl (by omega)), ea160, x_up2_off (Or.inl (by omega)), ea159, x_up2_off (Or.inl (by omega)), ea157, x_clr_ne (by omega), ea155, x_clr_ne (by omega), ea151, x_clr_ne (by omega), ea149, x_clr_ne (by omega), ea147, x_clr_ne (by omega), ea145, x_clr_ne (by omega), ea143, x_clr_ne (by omega), ea142, x_up2_off (Or.inl (by omega)), ea141, x_clr_ne (by omega), ea139, x_clr_ne (by omega), ea136, x_clr_ne (by omega), ea134, x_clr_ne (by omega), ea132, x_clr_ne (by omega), ea130, x_clr_ne (by omega), ea128, x_clr_ne (by omega), ea127, x_up2_off (Or.inl (by omega)), ea126, x_clr_ne (by omega), ea125, x_up2_off (Or.inr (by decide)), ea124, x_up2_off (Or.inr (by decide)), ea123, x_up2_off (Or.inr (by decide)), ea122, x_up2_off (Or.inr (by decide)), ea120, x_clr_ne (by omega), ea118, x_clr_ne (by omega), ea117, x_up2_at]; rfl
  have zV3 : (a162 (N + 2 + 0) 3).toInt = 5 := by rw [ea162, x_up2_off (Or.inl (by omega)), ea161, x_up2_off (Or.inl (by omega)), ea160, x_up2_off (Or.inl (by omega)), ea159, x_up2_off (Or.inl (by omega)), ea157, x_clr_ne (by omega), ea155, x_clr_ne (by omega), ea151, x_clr_ne (by omega), ea149, x_clr_ne (by omega), ea147, x_clr_ne (by omega), ea145, x_clr_ne (by omega), ea143, x_clr_ne (by omega), ea142, x_up2_off (Or.inl (by omega)), ea141, x_clr_ne (by omega), ea139, x_clr_ne (by omega), ea136, x_clr_ne (by omega), ea134, x_clr_ne (by omega), ea132, x_clr_ne (by omega), ea130, x_clr_ne (by omega), ea128, x_clr_ne (by omega), ea127, x_up2_off (Or.inl (by omega)), ea126, x_clr_ne (by omega), ea125, x_up2_off (Or.inr (by decide)), ea124, x_up2_off (Or.inr (by decide)), ea123, x_up2_off (Or.inr (by decide)), ea122, x_up2_at]; rfl
  have zV4 : (a162 (N + 2 + 0) 4).toInt = 0 := by rw [ea162, x_up2_off (Or.inl (by omega)), ea161, x_up2_off (Or.inl (by omega)), ea160, x_up2_off (Or.inl (by omega)), ea159, x_up2_off (Or.inl (by omega)), ea157, x_clr_ne (by omega), ea155, x_clr_ne (by omega), ea151, x_clr_ne (by omega), ea149, x_clr_ne (by omega), ea147, x_clr_ne (by omega), ea145, x_clr_ne (by omega), ea143, x_clr_ne (by omega), ea142, x_up2_off (Or.inl (by omega)), ea141, x_clr_ne (by omega), ea139, x_clr_ne (by omega), ea136, x_clr_ne (by omega), ea134, x_clr_ne (by omega), ea132, x_clr_ne (by omega), ea130, x_clr_ne (by omega), ea128, x_clr_ne (by omega), ea127, x_up2_off (Or.inl (by omega)), ea126, x_clr_ne (by omega), ea125, x_up2_off (Or.inr (by decide)), ea124, x_up2_off (Or.inr (by decide)), ea123, x_up2_at]; rfl
  have zV5 : (a162 (N + 2 + 0) 5).toInt = 0 := by rw [ea162, x_up2_off (Or.inl (by omega)), ea161, x_up2_off (Or.inl (by omega)), ea160, x_up2_off (Or.inl (by omega)), ea159, x_up2_off (Or.inl (by omega)), ea157, x_clr_ne (by omega), ea155, x_clr_ne (by omega), ea151, x_clr_ne (by omega), ea149, x_clr_ne (by omega), ea147, x_clr_ne (by omega), ea145, x_clr_ne (by omega), ea143, x_clr_ne (by omega), ea142, x_up2_off (Or.inl (by omega)), ea141, x_clr_ne (by omega), ea139, x_clr_ne (by omega), ea136, x_clr_ne (by omega), ea134, x_clr_ne (by omega), ea132, x_clr_ne (by omega), ea130, x_clr_ne (by omega), ea128, x_clr_ne (by omega), ea127, x_up2_off (Or.inl (by omega)), ea126, x_clr_ne (by omega), ea125, x_up2_off (Or.inr (by decide)), ea124, x_up2_at]; rfl
  have zV6 : (a162 (N + 2 + 0) 6).toInt = 0 := by rw [ea162, x_up2_off (Or.inl (by omega)), ea161, x_up2_off (Or.inl (by omega)), ea160, x_up2_off (Or.inl (by omega)), ea159, x_up2_off (Or.inl (by omega)), ea157, x_clr_ne (by omega), ea155, x_clr_ne (by omega), ea151, x_clr_ne (by omega), ea149, x_clr_ne (by omega), ea147, x_clr_ne (by omega), ea145, x_clr_ne (by omega), ea143, x_clr_ne (by omega), ea142, x_up2_off (Or.inl (by omega)), ea141, x_clr_ne (by omega), ea139, x_clr_ne (by omega), ea136, x_clr_ne (by omega), ea134, x_clr_ne (by omega), ea132, x_clr_ne (by omega), ea130, x_clr_ne (by omega), ea128, x_clr_ne (by omega), ea127, x_up2_off (Or.inl (by omega)), ea126, x_clr_ne (by omega), ea125, x_up2_at]; rfl
  have zS0 : (a162 (N + 2 + 3) 0).toInt = 0 := by rw [ea162, x_up2_off (Or.inl (by omega)), ea161, x_up2_off (Or.inl (by omega)), ea160, x_up2_off (Or.inl (by omega)), ea159, x_up2_off (Or.inl (by omega)), ea157, x_clr_ne (by omega), ea155, x_clr_ne (by omega), ea151, x_clr_ne (by omega), ea149, x_clr_ne (by omega), ea147, x_clr_ne (by omega), ea145, x_clr_ne (by omega), ea143, x_clr_ne (by omega), ea142, x_up2_off (Or.inl (by omega)), ea141, x_clr_ne (by omega), ea139, x_clr_ne (by omega), ea136, x_clr_ne (by omega), ea134, x_clr_ne (by omega), ea132, x_clr_ne (by omega), ea130, x_clr_ne (by omega), ea128, x_clr_ne (by omega), ea127, x_up2_at]; rfl
  have zC0 : (a162 (N + 2 + 10) 0).toInt = 0 := by rw [ea162, x_up2_off (Or.inl (by omega)), ea161, x_up2_off (Or.inl (by omega)), ea160, x_up2_off (Or.inl (by omega)), ea159, x_up2_off (Or.inl (by omega)), ea157, x_clr_ne (by omega), ea155, x_clr_ne (by omega), ea151, x_clr_ne (by omega), ea149, x_clr_ne (by omega), ea147, x_clr_ne (by omega), ea145, x_clr_ne (by omega), ea143, x_clr_ne (by omega), ea142, x_up2_at]; rfl
  have hT2 := hT1.eq (g1 := a162) (l1 := b157) (r1 := g163) (hG.1 2 (by omega) (by omega)).1 (hG.1 (N + 1) (by omega) (by omega)).1 (hG.1 (N + 1) (by omega) (by omega)).2.1 (hG.1 (N + 1) (by omega) (by omega)).2.2
  have hF2 : t_FL a162 (N + 1) 0 (-1) := by rw [t_FL, (hG.1 (N + 1) (by omega) (by omega)).1]; exact hF1
  have hC : t_CR a162 b157 N s_D0 (s_D0 0 + s_D0 1 + s_D0 2) (s_used s_D0) := t_CR_0 zR4 zV0 zV3 zV4 zV5 zV6 zR5 zR6 zR7 zS0 zC0
  refine ev_sub (lo := [(0, .ref 0), (1, .int ar1), (2, .ref (N + 0))]) rfl (t_sc rfl (t_sc rfl (t_sc rfl t_sn))) ?_
  refine x_Ev.mono (x_Ev.up (c_s_riverT (d := d) hI3 ar1 N hR) (by omega)) ?_
  rintro v G1 ⟨g1, l1, r1, rfl, k1, k2, x, rfl, -, -, k3, k4⟩
  refine ⟨_, g1, l1, r1, x, rfl, rfl, fun _ n hn => ?_, fun hh => absurd hin hh, fun _ => by rw [List.length_append, hN2]; show N + 18 ≤ N + 2 + 18; omega⟩
  have en : n = ar1.toNatClampNeg := by have hc := t_clamp (i := ar1) lx; omega
  subst en
  have hr6 : g163 0 6 = gr 0 6 := by rw [(hG.1 0 (by omega) (by omega)).2.2, (hX1.1 0 6 rfl).2.2, (hG1.1 0 (by omega) (by omega)).2.2]
  have hr7 : g163 0 7 = gr 0 7 := by rw [(hG.1 0 (by omega) (by omega)).2.2, (hX1.1 0 7 rfl).2.2, (hG1.1 0 (by omega) (by omega)).2.2]
  refine ⟨(k3 _ _ ⟨hT2, hC, hF2⟩).imp ?_ ?_, fun K k0 hK => ?_⟩
  · rintro ⟨q2, D2, a1, a2, a3, a4, a5, a6, a7⟩
    exact ⟨q2, D2, a1, a2, a3, a4, a5, a6, a7, (hR.ext k2.2).2.2.2.2.2.2.l⟩
  · rintro ⟨p, x2, D2, a1, a2, a3, a4, a5, a6, a7⟩
    exact ⟨p, x2, D2, a1, a2, a3, a4, a5, a6.trans hr6, a7.trans hr7⟩
  · have f1 := k4 K k0 hK
    have f2 := hG.1 K (by omega) (by omega)
    have f3 := qs.2.2 K (by omega)
    have f4 := hG1.1 K (by omega) (by omega)
    exact ⟨f1.1.trans (f2.1.trans (f3.1.trans f4.1)), f1.2.1.trans (f2.2.1.trans (f3.2.1.trans f4.2.1)), f1.2.2.trans (f2.2.2.trans (f3.2.2.trans f4.2.2))⟩
/-! ===== TOKENS as the other side reads them ===== -/
/-- a byte from 0 to 255 -/
noncomputable def s_ub (x : Int) : Int := if 0 ≤ x then x else x + 256
theorem s_u_all : ((List.range 256).all (fun i => decide ((Int32.ofInt ((i : Int) - 128) &&& 255).toInt = s_ub ((i : Int) - 128)))) = true := by decide +kernel
theorem s_u_and {x : Int32} (l : -128 ≤ x.toInt) (u : x.toInt ≤ 127) : (x &&& 255).toInt = s_ub x.toInt := by
  have h := List.all_eq_true.mp s_u_all (x.toInt + 128).toNat (List.mem_range.mpr (by omega))
  have h := of_decide_eq_true h
  rw [show (((x.toInt + 128).toNat : Nat) : Int) - 128 = x.toInt by omega, Int32.ofInt_toInt] at h
  exact h
theorem s_i8_all : ((List.range 256).all (fun i => decide ((Int32.ofInt ((i : Int) - 128)).toInt8.toInt32 = Int32.ofInt ((i : Int) - 128)))) = true := by decide +kernel
theorem s_i8 {x : Int32} (l : -128 ≤ x.toInt) (u : x.toInt ≤ 127) : x.toInt8.toInt32 = x := by
  have h := List.all_eq_true.mp s_i8_all (x.toInt + 128).toNat (List.mem_range.mpr (by omega))
  have h := of_decide_eq_true h
  rw [show (((x.toInt + 128).toNat : Nat) : Int) - 128 = x.toInt by omega, Int32.ofInt_toInt] at h
  exact h
noncomputable def t_by (b : Nat → Int32) (n : Nat) : Prop := ∀ k : Nat, k < n → -128 ≤ (b k).toInt ∧ (b k).toInt ≤ 127
/-- the text -/
noncomputable def t_Tx (b : Nat → Int32) (n : Nat) (gi : Nat → Nat → Int32) : Prop := ((∀ k : Nat, k < n → gi 76 k = b k) ∧ t_by b n) ∧ (gi 69 11).toInt = (n : Int)
noncomputable def s_at (b : Nat → Int32) (n i : Nat) : Int := if i < n then s_ub (b i).toInt else -1
/-- it goes on behind p -/
noncomputable def t_Sm (b : Nat → Int32) (n p : Nat) (gi : Nat → Nat → Int32) : Prop := t_Tx b n gi ∧ (gi 69 14).toInt = (p : Int) ∧ p ≤ n
noncomputable def t_TM (b : Nat → Int32) (n p : Nat) (gi : Nat → Nat → Int32) : Prop := (t_Tx b n gi ∧ p ≤ n) ∧ (gi 69 14).toInt = (s_E b n p : Nat) ∧ (gi 69 13).toInt = (s_F b n p : Nat) ∧ (gi 69 12).toInt = (s_K b n p : Nat) ∧ (s_K b n p = 3 → gi 69 15 = s_nn b (s_F b n p) (s_E b n p - s_F b n p)) ∧ (s_K b n p = 4 → gi 69 15 = b (s_F b n p))
section TMM
variable {b : Nat → Int32} {n p q i j : Nat} {gi g1 g2 g3 : Nat → Nat → Int32}
theorem t_Tx.at (h : t_Tx b n gi) {x w z : Int32} (h0 : 0 ≤ x.toInt) (hx : x.toInt < (gi 69 11).toInt) (ew : w = gi 76 x.toNatClampNeg) (ez : z = w &&& 255) : z.toInt = s_at b n x.toNatClampNeg := by
  have hc := t_clamp h0
  have hn := h.2
  have hi : x.toNatClampNeg < n := by omega
  have hb := h.1.2 _ hi
  unfold s_at
  rw [if_pos hi, ez, ew, h.1.1 _ hi, s_u_and hb.1 hb.2]
theorem t_Tx.no (h : t_Tx b n gi) {x : Int32} (h0 : 0 ≤ x.toInt) (hx : (gi 69 11).toInt ≤ x.toInt) : -1 = s_at b n x.toNatClampNeg := by
  have hc := t_clamp h0
  have hn := h.2
  unfold s_at
  rw [if_neg (by omega)]
theorem s_at_c {c : Int} (hb : t_by b n) (h0 : 0 ≤ c) (h1 : c ≤ 127) : s_at b n i = c ↔ (i < n ∧ (b i).toInt = c) := by
  unfold s_at s_ub
  by_cases hi : i < n
  · have := hb i hi
    rw [if_pos hi]
    constructor
    · intro h; refine ⟨hi, ?_⟩; split at h <;> omega
    · rintro ⟨_, h⟩; rw [if_pos (by omega)]; exact h
  · rw [if_neg hi]
    constructor
    · intro h; omega
    · rintro ⟨h, _⟩; exact absurd h hi
theorem s_at_r {c d : Int} (hb : t_by b n) (h0 : 0 ≤ c) (h1 : d ≤ 127) : (c ≤ s_at b n i ∧ s_at b n i ≤ d) ↔ (i < n ∧ c ≤ (b i).toInt ∧ (b i).toInt ≤ d) := by
  unfold s_at s_ub
  by_cases hi : i < n
  · have := hb i hi
    rw [if_pos hi]
    constructor
    · rintro ⟨h, h'⟩; refine ⟨hi, ?_⟩; split at h <;> split at h' <;> omega
    · rintro ⟨_, h, h'⟩; rw [if_pos (by omega)]; exact ⟨h, h'⟩
  · rw [if_neg hi]
    constructor
    · rintro ⟨h, _⟩; omega
    · rintro ⟨h, _⟩; exact absurd h hi
theorem s_at_e (hy : t_by b n) (h : s_at b n i = -1) : n ≤ i := by
  apply Classical.byContradiction
  intro hi
  have hi : i < n := by omega
  have := hy i hi
  unfold s_at at h
  rw [if_pos hi] at h
  unfold s_ub at h
  split at h <;> omega
theorem s_at_n (h : n ≤ i) : s_at b n i = -1 := if_neg (by omega)
theorem t_Tx.up (h : t_Tx b n gi) {j : Nat} {v : Int32} (hj : j ≠ 11) (e : g1 = x_up2 gi 69 j v) : t_Tx b n g1 := by
  subst e
  exact ⟨⟨fun k hk => by rw [x_up2_ne (by decide)]; exact h.1.1 k hk, h.1.2⟩, by rw [x_up2_off (Or.inr hj.symm)]; exact h.2⟩
theorem t_Sm.up (h : t_Sm b n p gi) {j : Nat} {v : Int32} (hj : j ≠ 11 ∧ j ≠ 14) (e : g1 = x_up2 gi 69 j v) : t_Sm b n p g1 :=
  ⟨h.1.up hj.1 e, by rw [e, x_up2_off (Or.inr hj.2.symm)]; exact h.2.1, h.2.2⟩
theorem t_Sm.nx (h : t_Sm b n i gi) {v : Int32} (hv : v.toInt = (i : Int) + 1) (hi : i < n) (e : g1 = x_up2 gi 69 14 v) : t_Sm b n (i + 1) g1 :=
  ⟨h.1.up (by decide) e, by rw [e, x_up2_at]; omega, hi⟩
theorem t_Sm.cl (h : t_Sm b n i gi) : (gi 69 14).toNatClampNeg = i := by
  have h1 := h.2.1
  have hc := t_clamp (i := gi 69 14) (by omega)
  omega
theorem t_Sm.up2 (h : t_Sm b n p gi) {v : Int32} (e : g1 = x_up2 gi 69 12 v) : t_Sm b n p g1 := h.up (by decide) e
theorem s_sg_r {x : Int} (h : s_sg x = true) : 0 ≤ x ∧ x ≤ 127 := by
  unfold s_sg at h; simp only [Bool.or_eq_true, decide_eq_true_eq] at h; omega
/-- blanks -/
theorem t_Sm.blk1 (h : t_Sm b n i gi) {w : Int32} (ew : w.toInt = s_at b n (gi 69 14).toNatClampNeg) (hw : w.toInt = 32 ∨ w.toInt = 10) : i < n ∧ s_F b n (i + 1) = s_F b n i := by
  rw [h.cl] at ew
  have h2 : i < n ∧ ((b i).toInt = 32 ∨ (b i).toInt = 10) := by
    rcases hw with hw | hw
    · have := (s_at_c h.1.1.2 (by decide) (by decide)).mp (ew.symm.trans hw); exact ⟨this.1, Or.inl this.2⟩
    · have := (s_at_c h.1.1.2 (by decide) (by decide)).mp (ew.symm.trans hw); exact ⟨this.1, Or.inr this.2⟩
  refine ⟨h2.1, s_rn_t h2.1 ?_⟩
  unfold s_bl
  rw [Bool.or_eq_true, decide_eq_true_eq, decide_eq_true_eq]
  exact h2.2
theorem t_Sm.blk (h : t_Sm b n i gi) {w w2 : Int32} (ew : w.toInt = s_at b n (gi 69 14).toNatClampNeg) (ew2 : w2.toInt = s_at b n (gi 69 14).toNatClampNeg) (h1 : w.toInt ≠ 32) (h2 : w2.toInt ≠ 10) : s_F b n i = i := by
  rw [h.cl] at ew ew2
  refine s_rn_f (fun hi => ?_)
  unfold s_bl
  rw [Bool.or_eq_false_iff, decide_eq_false_iff_not, decide_eq_false_iff_not]
  exact ⟨fun hh => h1 (ew.trans ((s_at_c h.1.1.2 (by decide) (by decide)).mpr ⟨hi, hh⟩)), fun hh => h2 (ew2.trans ((s_at_c h.1.1.2 (by decide) (by decide)).mpr ⟨hi, hh⟩))⟩
/-- within a WORD, a NUMBER, from i, to j -/
noncomputable def t_MW (P : Int → Bool) (b : Nat → Int32) (n p i j : Nat) (gi : Nat → Nat → Int32) : Prop := (t_Sm b n j gi ∧ (gi 69 13).toInt = (i : Int) ∧ s_F b n p = i ∧ p ≤ n) ∧ (i < n ∧ P (b i).toInt = true) ∧ i ≤ j ∧ s_rn P b n j = s_rn P b n i
theorem t_MW.s {P : Int → Bool} (h : t_MW P b n p i j gi) (hj : j < n) (hP : P (b j).toInt = true) {v : Int32} (hv : v.toInt = (j : Int) + 1) (e : g1 = x_up2 gi 69 14 v) : t_MW P b n p i (j + 1) g1 := by
  obtain ⟨⟨h1, h2, h3, h4⟩, h5, h6, h7⟩ := h
  exact ⟨⟨h1.nx hv hj e, by rw [e, x_up2_off (Or.inr (by decide))]; exact h2, h3, h4⟩, h5, by omega, by rw [s_rn_t hj hP]; exact h7⟩
theorem t_MW.e {P : Int → Bool} (h : t_MW P b n p i j gi) (hP : j < n → P (b j).toInt = false) : j = s_rn P b n i := by
  rw [← h.2.2.2]; exact (s_rn_f hP).symm
theorem t_MW.up {P : Int → Bool} (h : t_MW P b n p i j gi) {k : Nat} {v : Int32} (hk : k ≠ 11 ∧ k ≠ 14 ∧ k ≠ 13) (e : g1 = x_up2 gi 69 k v) : t_MW P b n p i j g1 :=
  ⟨⟨h.1.1.up ⟨hk.1, hk.2.1⟩ e, by rw [e, x_up2_off (Or.inr hk.2.2.symm)]; exact h.1.2.1, h.1.2.2⟩, h.2⟩
theorem s_smT {x : Int} (l : 97 ≤ x) (u : x ≤ 122) : s_sm x = true := by unfold s_sm; rw [Bool.and_eq_true, decide_eq_true_eq, decide_eq_true_eq]; exact ⟨l, u⟩
theorem s_dgT {x : Int} (l : 48 ≤ x) (u : x ≤ 57) : s_dg x = true := by unfold s_dg; rw [Bool.and_eq_true, decide_eq_true_eq, decide_eq_true_eq]; exact ⟨l, u⟩
theorem s_smF' {x : Int} (h : x < 97 ∨ 122 < x) : s_sm x = false := by
  cases hc : s_sm x with
  | false => rfl
  | true => exact absurd hc (s_smF h)
theorem s_dgF' {x : Int} (h : x < 48 ∨ 57 < x) : s_dg x = false := by
  unfold s_dg
  cases hc : (decide (48 ≤ x) && decide (x ≤ 57)) with
  | false => rfl
  | true => rw [Bool.and_eq_true, decide_eq_true_eq, decide_eq_true_eq] at hc; omega
/-- the byte told lies between, or not -/
theorem t_Sm.inn (h : t_Sm b n j gi) {w : Int32} (ew : w.toInt = s_at b n (gi 69 14).toNatClampNeg) {c d : Int} (h0 : 0 ≤ c) (h1 : d ≤ 127) (l : c ≤ w.toInt) (u : w.toInt ≤ d) : j < n ∧ c ≤ (b j).toInt ∧ (b j).toInt ≤ d := by
  rw [h.cl] at ew
  exact (s_at_r h.1.1.2 h0 h1).mp ⟨by omega, by omega⟩
theorem t_Sm.out (h : t_Sm b n j gi) {w : Int32} (ew : w.toInt = s_at b n (gi 69 14).toNatClampNeg) {c d : Int} (h0 : 0 ≤ c) (h1 : d ≤ 127) (hw : w.toInt < c ∨ d < w.toInt) (hj : j < n) : (b j).toInt < c ∨ d < (b j).toInt := by
  rw [h.cl] at ew
  by_cases hh : (b j).toInt < c ∨ d < (b j).toInt
  · exact hh
  · have := (s_at_r (i := j) h.1.1.2 h0 h1).mpr ⟨hj, by omega, by omega⟩
    omega
theorem s_K_0 (hF : s_F b n p = i) (hn : n ≤ i) : s_K b n p = 0 ∧ s_E b n p = i := by
  unfold s_K s_E; rw [hF, if_pos hn, if_pos hn]; exact ⟨rfl, rfl⟩
theorem s_K_2 (hF : s_F b n p = i) (hn : i < n) (hw : s_sm (b i).toInt = true) : s_K b n p = 2 ∧ s_E b n p = s_rn s_sm b n i := by
  unfold s_K s_E
  have hni : ¬ n ≤ i := by omega
  rw [hF, if_neg hni, if_neg hni, if_pos hw, if_pos hw]; exact ⟨rfl, rfl⟩
theorem s_K_3 (hF : s_F b n p = i) (hn : i < n) (hd : s_dg (b i).toInt = true) : s_K b n p = (if 4 < s_rn s_dg b n i - i then 1 else 3) ∧ s_E b n p = s_rn s_dg b n i := by
  have hw : ¬ s_sm (b i).toInt = true := by
    unfold s_dg at hd
    rw [Bool.and_eq_true, decide_eq_true_eq, decide_eq_true_eq] at hd
    exact s_smF (by omega)
  unfold s_K s_E
  have hni : ¬ n ≤ i := by omega
  rw [hF, if_neg hni, if_neg hni, if_neg hw, if_neg hw, if_pos hd, if_pos hd]; exact ⟨rfl, rfl⟩
theorem s_K_4 (hF : s_F b n p = i) (hn : i < n) (hw : ¬ s_sm (b i).toInt = true) (hd : ¬ s_dg (b i).toInt = true) : s_K b n p = (if s_sg (b i).toInt = true then 4 else 1) ∧ s_E b n p = i + 1 := by
  unfold s_K s_E
  have hni : ¬ n ≤ i := by omega
  rw [hF, if_neg hni, if_neg hni, if_neg hw, if_neg hw, if_neg hd, if_neg hd]; exact ⟨rfl, rfl⟩
theorem t_TM_0 (h : t_Sm b n i gi) (hF : s_F b n p = i) (hp : p ≤ n) (hn : n ≤ i) (h13 : (gi 69 13).toInt = (i : Int)) (h12 : (gi 69 12).toInt = 0) : t_TM b n p gi := by
  obtain ⟨hK, hE⟩ := s_K_0 hF hn
  exact ⟨⟨h.1, hp⟩, by rw [hE]; exact h.2.1, by rw [hF]; exact h13, by rw [hK]; exact h12, fun hh => (by rw [hK] at hh; cases hh), fun hh => (by rw [hK] at hh; cases hh)⟩
theorem t_TM_2 (h : t_MW s_sm b n p i j gi) (he : j = s_rn s_sm b n i) (h12 : (gi 69 12).toInt = 2) : t_TM b n p gi := by
  obtain ⟨⟨h1, h2, h3, h4⟩, h5, h6, h7⟩ := h
  obtain ⟨hK, hE⟩ := s_K_2 h3 h5.1 h5.2
  exact ⟨⟨h1.1, h4⟩, by rw [hE, ← he]; exact h1.2.1, by rw [h3]; exact h2, by rw [hK]; exact h12, fun hh => (by rw [hK] at hh; cases hh), fun hh => (by rw [hK] at hh; cases hh)⟩
theorem t_TM_3 (h : t_MW s_dg b n p i j gi) (he : j = s_rn s_dg b n i) (hv : j - i ≤ 4 → gi 69 15 = s_nn b i (j - i)) (h12 : (gi 69 12).toInt = if 4 < (j : Int) - i then 1 else 3) : t_TM b n p gi := by
  obtain ⟨⟨h1, h2, h3, h4⟩, h5, h6, h7⟩ := h
  obtain ⟨hK, hE⟩ := s_K_3 h3 h5.1 h5.2
  rw [← he] at hK hE
  refine ⟨⟨h1.1, h4⟩, by rw [hE]; exact h1.2.1, by rw [h3]; exact h2, ?_, fun hh => ?_, fun hh => ?_⟩
  · rw [hK, h12]
    by_cases h8 : 4 < j - i
    · rw [if_pos h8, if_pos (by omega)]; rfl
    · rw [if_neg h8, if_neg (by omega)]; rfl
  · rw [hE, h3]
    refine hv ?_
    rw [hK] at hh
    by_cases h8 : 4 < j - i
    · rw [if_pos h8] at hh; cases hh
    · omega
  · rw [hK] at hh; split at hh <;> cases hh
theorem t_TM_4 (h : t_Sm b n (i + 1) gi) (hF : s_F b n p = i) (hp : p ≤ n) (hn : i < n) (hw : (b i).toInt < 97 ∨ 122 < (b i).toInt) (hd : (b i).toInt < 48 ∨ 57 < (b i).toInt) (h13 : (gi 69 13).toInt = (i : Int)) (h12 : (gi 69 12).toInt = if s_sg (b i).toInt = true then 4 else 1) (h15 : s_sg (b i).toInt = true → gi 69 15 = b i) : t_TM b n p gi := by
  obtain ⟨hK, hE⟩ := s_K_4 hF hn (s_smF hw) (by rw [s_dgF' hd]; decide)
  refine ⟨⟨h.1, hp⟩, by rw [hE]; exact h.2.1, by rw [hF]; exact h13, ?_, fun hh => ?_, fun hh => ?_⟩
  · rw [hK, h12]; split <;> rfl
  · rw [hK] at hh; split at hh <;> cases hh
  · rw [hF]; refine h15 ?_
    rw [hK] at hh
    by_cases hs : s_sg (b i).toInt = true
    · exact hs
    · rw [if_neg hs] at hh; cases hh
/-- digits: the number so far -/
theorem s_nn_b : ∀ k : Nat, k ≤ 4 → (∀ t, t < k → 48 ≤ (b (q + t)).toInt ∧ (b (q + t)).toInt ≤ 57) → 0 ≤ (s_nn b q k).toInt ∧ (s_nn b q k).toInt < 10 ^ k
  | 0, _, _ => by show 0 ≤ (0 : Int32).toInt ∧ (0 : Int32).toInt < 1; exact ⟨by decide, by decide⟩
  | k + 1, h4, h => by
    obtain ⟨h1, h2⟩ := s_nn_b k (by omega) (fun t ht => h t (by omega))
    have h3 := h k (by omega)
    have hp : (10 : Int) ^ k ≤ 1000 := by
      have hk : k = 0 ∨ k = 1 ∨ k = 2 ∨ k = 3 := by omega
      rcases hk with rfl | rfl | rfl | rfl <;> decide
    have h48 : (48 : Int32).toInt = 48 := rfl
    have h10 : (10 : Int32).toInt = 10 := rfl
    have e1 : (b (q + k) - 48).toInt = (b (q + k)).toInt - 48 := by rw [Int32.toInt_sub, h48, Int.bmod_eq_of_le] <;> omega
    have e2 : (s_nn b q k * 10).toInt = (s_nn b q k).toInt * 10 := by rw [Int32.toInt_mul, h10, Int.bmod_eq_of_le] <;> omega
    have e3 : (s_nn b q k * 10 + (b (q + k) - 48)).toInt = (s_nn b q k).toInt * 10 + ((b (q + k)).toInt - 48) := by rw [Int32.toInt_add, e1, e2, Int.bmod_eq_of_le] <;> omega
    show 0 ≤ (s_nn b q k * 10 + (b (q + k) - 48)).toInt ∧ (s_nn b q k * 10 + (b (q + k) - 48)).toInt < 10 ^ (k + 1)
    rw [e3, Int.pow_succ]
    exact ⟨by omega, by omega⟩
theorem s_nn_s {k : Nat} (h4 : k < 4) (h : ∀ t, t < k + 1 → 48 ≤ (b (q + t)).toInt ∧ (b (q + t)).toInt ≤ 57) : (s_nn b q (k + 1)).toInt = 10 * (s_nn b q k).toInt + (b (q + k)).toInt - 48 ∧ (s_nn b q (k + 1)).toInt ≤ 9999 := by
  obtain ⟨h1, h2⟩ := s_nn_b (b := b) (q := q) k (by omega) (fun t ht => h t (by omega))
  have h3 := h k (by omega)
  have hp : (10 : Int) ^ k ≤ 1000 := by
    have hk : k = 0 ∨ k = 1 ∨ k = 2 ∨ k = 3 := by omega
    rcases hk with rfl | rfl | rfl | rfl <;> decide
  have h48 : (48 : Int32).toInt = 48 := rfl
  have h10 : (10 : Int32).toInt = 10 := rfl
  have e1 : (b (q + k) - 48).toInt = (b (q + k)).toInt - 48 := by rw [Int32.toInt_sub, h48, Int.bmod_eq_of_le] <;> omega
  have e2 : (s_nn b q k * 10).toInt = (s_nn b q k).toInt * 10 := by rw [Int32.toInt_mul, h10, Int.bmod_eq_of_le] <;> omega
  have e3 : (s_nn b q k * 10 + (b (q + k) - 48)).toInt = (s_nn b q k).toInt * 10 + ((b (q + k)).toInt - 48) := by rw [Int32.toInt_add, e1, e2, Int.bmod_eq_of_le] <;> omega
  have e4 : (s_nn b q (k + 1)).toInt = (s_nn b q k).toInt * 10 + ((b (q + k)).toInt - 48) := e3
  exact ⟨by omega, by omega⟩
theorem t_dig1 {v w z1 z2 z3 x : Int32} (e1 : z1 = 10 * v) (e2 : z2 = z1 + w) (e3 : z3 = z2 - 48) (ex : x.toInt = min (100000 : Int32).toInt z3.toInt) (w0 : 48 ≤ w.toInt) (w1 : w.toInt ≤ 57) (h0 : 0 ≤ v.toInt) (h1 : v.toInt ≤ 999) : x.toInt = 10 * v.toInt + w.toInt - 48 := by
  have h48 : (48 : Int32).toInt = 48 := rfl
  have h10 : (10 : Int32).toInt = 10 := rfl
  have hM : (100000 : Int32).toInt = 100000 := rfl
  have f1 : z1.toInt = 10 * v.toInt := by rw [e1, Int32.toInt_mul, h10, Int.bmod_eq_of_le] <;> omega
  have f2 : z2.toInt = 10 * v.toInt + w.toInt := by rw [e2, Int32.toInt_add, f1, Int.bmod_eq_of_le] <;> omega
  have f3 : z3.toInt = 10 * v.toInt + w.toInt - 48 := by rw [e3, Int32.toInt_sub, f2, h48, Int.bmod_eq_of_le] <;> omega
  rw [hM] at ex
  omega
/-- a digit more -/
theorem t_MW.dig (h : t_MW s_dg b n p i j gi) (_ : j < n) (hd : 48 ≤ (b j).toInt ∧ (b j).toInt ≤ 57) (hv : j - i ≤ 4 → gi 69 15 = s_nn b i (j - i)) {x : Int32} (hx : 0 ≤ (gi 69 15).toInt → (gi 69 15).toInt ≤ 999 → x.toInt = 10 * (gi 69 15).toInt + (b j).toInt - 48) : j + 1 - i ≤ 4 → x = s_nn b i (j + 1 - i) := by
  intro h4
  obtain ⟨⟨h1, h2, h3, h5⟩, h6, h7, h8⟩ := h
  have hr := s_rn_b (P := s_dg) (b := b) (n := n) (i := i)
  have hr2 := s_rn_b (P := s_dg) (b := b) (n := n) (i := j)
  have hall : ∀ t, t < (j - i) + 1 → 48 ≤ (b (i + t)).toInt ∧ (b (i + t)).toInt ≤ 57 := fun t ht => by
    by_cases htj : i + t = j
    · rw [htj]; exact hd
    · have h9 := hr.2.2 (i + t) (by omega) (by rw [← h8]; omega)
      unfold s_dg at h9
      rw [Bool.and_eq_true, decide_eq_true_eq, decide_eq_true_eq] at h9
      exact h9
  obtain ⟨s1, s2⟩ := s_nn_s (k := j - i) (by omega) hall
  obtain ⟨s3, s4⟩ := s_nn_b (b := b) (q := i) (j - i) (by omega) (fun t ht => hall t (by omega))
  have hp : (10 : Int) ^ (j - i) ≤ 1000 := by
    have hk : j - i = 0 ∨ j - i = 1 ∨ j - i = 2 ∨ j - i = 3 := by omega
    rcases hk with e | e | e | e <;> rw [e] <;> decide
  have e := hv (by omega)
  rw [show i + (j - i) = j by omega] at s1
  rw [show j + 1 - i = (j - i) + 1 by omega]
  rw [← e] at s3 s4 s1
  exact Int32.toInt_inj.mp (by rw [hx s3 (by omega)]; omega)
end TMM
theorem t_P_PI {X : x_Ext} {d mi : Nat} {as : List Value} {G : x_G} {wl : List (Nat × Nat)} {sh : List (Nat ⊕ (Nat × Nat))} {gi : Nat → Nat → Int32} {gl : Nat → Nat → Int64} {gr : Nat → Nat → Value} {lo hi : Int} (h : x_Me X d mi as G (t_P wl sh gi gl gr (t_Ri lo hi))) : x_Me X d mi as G (t_PI wl sh gi gl gr lo hi (fun _ _ _ _ => True)) :=
  h.mono (fun v G' ⟨g, l, r, e, hI, hX, x, hv, h1, h2⟩ => ⟨g, l, r, e, hI, hX, x, hv, h1, h2, trivial⟩)
/-! ===== the words that are no NAMES, as the other side finds them ===== -/
noncomputable def s_ksl : List Nat := [1, 6, 12, 18, 23, 28, 33, 39, 44, 47, 50, 56, 62, 67, 70, 73, 78, 83, 88, 91, 95, 99, 107, 113, 119, 124, 131, 138]
noncomputable def s_kel : List Nat := [5, 11, 17, 22, 27, 32, 38, 43, 46, 49, 55, 61, 66, 69, 72, 77, 82, 87, 90, 94, 98, 106, 112, 118, 123, 130, 137]
noncomputable def s_pml : List Nat := [0, 2, 3, 5, 6, 12, 1, 4, 7, 8, 9, 10, 11, 13, 14, 15, 16, 17, 18, 19, 20, 21, 22, 23, 24, 25, 26]
noncomputable def s_mil : List Int := [0, 6, 1, 2, 7, 3, 4, 8, 9, 10, 11, 12, 5, 13, 14, 15, 16, 17, 18, 19, 20, 21, 22, 23, 24, 25, 26]
noncomputable def s_ks (j : Nat) : Nat := s_ksl.getD j 138
noncomputable def s_ke (j : Nat) : Nat := s_kel.getD j 137
noncomputable def s_mi : Option Nat → Int
  | none => -1
  | some i => s_mil.getD i 0
theorem s_kt_all : ((List.range 27).all (fun j => decide (1 ≤ s_ks j ∧ s_ks j < s_ke j ∧ s_ke j ≤ 137 ∧ s_ke j - s_ks j ≤ 7 ∧ s_ks (j + 1) = s_ke j + 1 ∧ (x_kc (s_ke j)).toInt = 32) && (List.range (s_ke j - s_ks j)).all (fun t => decide (97 ≤ (x_kc (s_ks j + t)).toInt ∧ (x_kc (s_ks j + t)).toInt ≤ 122)))) = true := by decide +kernel
theorem s_kt {j : Nat} (hj : j < 27) : (1 ≤ s_ks j ∧ s_ks j < s_ke j ∧ s_ke j ≤ 137 ∧ s_ke j - s_ks j ≤ 7 ∧ s_ks (j + 1) = s_ke j + 1 ∧ (x_kc (s_ke j)).toInt = 32) ∧ ∀ t, t < s_ke j - s_ks j → 97 ≤ (x_kc (s_ks j + t)).toInt ∧ (x_kc (s_ks j + t)).toInt ≤ 122 := by
  have h := List.all_eq_true.mp s_kt_all j (List.mem_range.mpr hj)
  rw [Bool.and_eq_true, decide_eq_true_eq] at h
  exact ⟨h.1, fun t ht => of_decide_eq_true (List.all_eq_true.mp h.2 t (List.mem_range.mpr ht))⟩
/-- a word's letters as a number -/
noncomputable def s_lt (b : Nat → Int32) (q : Nat) : Nat → Int
  | 0 => 0
  | k + 1 => 32 * s_lt b q k + ((b (q + k)).toInt - 96)
noncomputable def s_wd (b : Nat → Int32) (q k : Nat) : Prop := ∀ t, t < k → 97 ≤ (b (q + t)).toInt ∧ (b (q + t)).toInt ≤ 122
section LTR
variable {b b' : Nat → Int32} {q q' : Nat}
theorem s_lt_nn : ∀ {k : Nat}, s_wd b q k → 0 ≤ s_lt b q k
  | 0, _ => Int.le_refl 0
  | k + 1, h => by
    have h3 := h k (Nat.lt_succ_self _)
    have h4 := s_lt_nn (fun i hi => h i (Nat.lt_succ_of_lt hi))
    show 0 ≤ 32 * s_lt b q k + ((b (q + k)).toInt - 96)
    omega
theorem s_lt_inj : ∀ {k k' : Nat}, s_wd b q k → s_wd b' q' k' → s_lt b q k = s_lt b' q' k' → k = k' ∧ ∀ i, i < k → b (q + i) = b' (q' + i)
  | 0, 0, _, _, _ => ⟨rfl, fun i h => absurd h (Nat.not_lt_zero i)⟩
  | 0, k' + 1, _, h2, h => by
    exfalso
    have h3 := h2 k' (Nat.lt_succ_self _)
    have h4 : 0 ≤ s_lt b' q' k' := s_lt_nn (fun i hi => h2 i (Nat.lt_succ_of_lt hi))
    have h5 : (0 : Int) = 32 * s_lt b' q' k' + ((b' (q' + k')).toInt - 96) := h
    omega
  | k + 1, 0, h1, _, h => by
    exfalso
    have h3 := h1 k (Nat.lt_succ_self _)
    have h4 : 0 ≤ s_lt b q k := s_lt_nn (fun i hi => h1 i (Nat.lt_succ_of_lt hi))
    have h5 : 32 * s_lt b q k + ((b (q + k)).toInt - 96) = 0 := h
    omega
  | k + 1, k' + 1, h1, h2, h => by
    have h3 := h1 k (Nat.lt_succ_self _)
    have h4 := h2 k' (Nat.lt_succ_self _)
    have h5 : 32 * s_lt b q k + ((b (q + k)).toInt - 96) = 32 * s_lt b' q' k' + ((b' (q' + k')).toInt - 96) := h
    have h6 : s_lt b q k = s_lt b' q' k' := by omega
    obtain ⟨e, h7⟩ := s_lt_inj (fun i hi => h1 i (Nat.lt_succ_of_lt hi)) (fun i hi => h2 i (Nat.lt_succ_of_lt hi)) h6
    subst e
    refine ⟨rfl, fun i hi => ?_⟩
    by_cases hik : i = k
    · subst hik; exact Int32.toInt_inj.mp (by omega)
    · exact h7 i (by omega)
theorem s_lt_b : ∀ {k : Nat}, s_wd b q k → s_lt b q k < 32 ^ k
  | 0, _ => by show (0 : Int) < 1; decide
  | k + 1, h => by
    have h3 := h k (Nat.lt_succ_self _)
    have h4 := s_lt_b (fun i hi => h i (Nat.lt_succ_of_lt hi))
    show 32 * s_lt b q k + ((b (q + k)).toInt - 96) < 32 ^ (k + 1)
    rw [Int.pow_succ]; omega
theorem s_p32 {k : Nat} (h : k ≤ 8) : (32 : Int) ^ k ≤ 1099511627776 := by
  have hk : k = 0 ∨ k = 1 ∨ k = 2 ∨ k = 3 ∨ k = 4 ∨ k = 5 ∨ k = 6 ∨ k = 7 ∨ k = 8 := by omega
  rcases hk with rfl | rfl | rfl | rfl | rfl | rfl | rfl | rfl | rfl <;> decide
theorem s_ll_lt : ∀ {k : Nat}, k ≤ 8 → s_wd b q k → (s_ll b q k).toInt = s_lt b q k
  | 0, _, _ => rfl
  | k + 1, h8, h => by
    have h3 := h k (Nat.lt_succ_self _)
    have hw : s_wd b q k := fun i hi => h i (Nat.lt_succ_of_lt hi)
    have h4 := s_ll_lt (k := k) (by omega) hw
    have h5 := s_lt_nn hw
    have h6 := s_lt_b hw
    have h7 := s_p32 (k := k) (by omega)
    have e32 : (32 : Int64).toInt = 32 := rfl
    have e1 : (s_ll b q k * 32).toInt = s_lt b q k * 32 := by rw [Int64.toInt_mul, h4, e32, Int.bmod_eq_of_le] <;> omega
    have e2 : (Int64.ofInt ((b (q + k)).toInt - 96)).toInt = (b (q + k)).toInt - 96 := Int64.toInt_ofInt_of_le (by omega) (by omega)
    show (s_ll b q k * 32 + Int64.ofInt ((b (q + k)).toInt - 96)).toInt = 32 * s_lt b q k + ((b (q + k)).toInt - 96)
    rw [Int64.toInt_add, e1, e2, Int.bmod_eq_of_le] <;> omega
theorem s_ll_cg : ∀ {k : Nat}, (∀ t, t < k → b (q + t) = b' (q' + t)) → s_ll b q k = s_ll b' q' k
  | 0, _ => rfl
  | k + 1, h => by
    show s_ll b q k * 32 + Int64.ofInt ((b (q + k)).toInt - 96) = s_ll b' q' k * 32 + Int64.ofInt ((b' (q' + k)).toInt - 96)
    rw [s_ll_cg (fun t ht => h t (Nat.lt_succ_of_lt ht)), h k (Nat.lt_succ_self _)]
/-- words of eight letters at most: the same number, the same word -/
theorem s_ll_inj {k k' : Nat} (h8 : k ≤ 8) (h8' : k' ≤ 8) (h : s_wd b q k) (h' : s_wd b' q' k') (e : s_ll b q k = s_ll b' q' k') : k = k' ∧ ∀ i, i < k → b (q + i) = b' (q' + i) :=
  s_lt_inj h h' (by rw [← s_ll_lt h8 h, ← s_ll_lt h8' h', e])
end LTR
/-- word j of these stands at q -/
noncomputable def s_mt (b : Nat → Int32) (n q j : Nat) : Prop := s_E b n q - s_F b n q = s_ke j - s_ks j ∧ ∀ t, t < s_ke j - s_ks j → x_kc (s_ks j + t) = b (s_F b n q + t)
theorem s_kl_all : ((List.range 27).all (fun j => decide (s_ll x_kc (s_ks j) (s_ke j - s_ks j) = x_kwl.getD (s_pml.getD j 0) 0) && (decide (s_kwm (x_kwl.getD (s_pml.getD j 0) 0) 27 = some (s_pml.getD j 0)) && decide (s_mil.getD (s_pml.getD j 0) 0 = (j : Int))))) = true := by decide +kernel
theorem s_pm_all : ((List.range 27).all (fun i => (List.range 27).any (fun j => decide (s_pml.getD j 0 = i)))) = true := by decide +kernel
section WORDS
variable {b : Nat → Int32} {n q : Nat}
theorem s_K2_wd (h : s_K b n q = 2) : s_wd b (s_F b n q) (s_E b n q - s_F b n q) := by
  intro t ht
  have hni : ¬ n ≤ s_F b n q := fun hh => by unfold s_K at h; rw [if_pos hh] at h; cases h
  have hs : s_sm (b (s_F b n q)).toInt = true := by
    cases hc : s_sm (b (s_F b n q)).toInt with
    | true => rfl
    | false =>
      exfalso
      unfold s_K at h
      rw [if_neg hni, hc, if_neg (by decide)] at h
      split at h
      · split at h <;> cases h
      · split at h <;> cases h
  have hE : s_E b n q = s_rn s_sm b n (s_F b n q) := by unfold s_E; rw [if_neg hni, if_pos hs]
  have h1 := (s_rn_b (P := s_sm) (b := b) (n := n) (i := s_F b n q)).2.2 (s_F b n q + t) (by omega) (by rw [hE] at ht; omega)
  unfold s_sm at h1
  rw [Bool.and_eq_true, decide_eq_true_eq, decide_eq_true_eq] at h1
  exact h1
theorem s_mt_W {j : Nat} (hj : j < 27) (hK : s_K b n q = 2) (h : s_mt b n q j) : s_mi (s_W b n q) = (j : Int) := by
  have h1 := List.all_eq_true.mp s_kl_all j (List.mem_range.mpr hj)
  rw [Bool.and_eq_true, Bool.and_eq_true, decide_eq_true_eq, decide_eq_true_eq, decide_eq_true_eq] at h1
  have h2 := s_kt hj
  have e : s_ll b (s_F b n q) (s_E b n q - s_F b n q) = x_kwl.getD (s_pml.getD j 0) 0 := by
    rw [← h1.1, h.1]; exact (s_ll_cg (fun t ht => h.2 t ht)).symm
  unfold s_W
  rw [if_pos ⟨hK, by rw [h.1]; omega⟩, e, h1.2.1]
  exact h1.2.2
theorem s_kwm_some {x : Int64} {i : Nat} : ∀ {m : Nat}, s_kwm x m = some i → i < m ∧ x_kwl.getD i 0 = x
  | 0, h => by cases h
  | m + 1, h => by
    have h : (if x_kwl.getD m 0 = x then some m else s_kwm x m) = some i := h
    split at h
    · cases h; exact ⟨Nat.lt_succ_self _, by assumption⟩
    · have := s_kwm_some h; exact ⟨by omega, this.2⟩
theorem s_nm_W (hn : ∀ j, j < 27 → ¬ s_mt b n q j) : s_W b n q = none := by
  cases hc : s_W b n q with
  | none => rfl
  | some i =>
    exfalso
    unfold s_W at hc
    split at hc
    case isFalse => cases hc
    case isTrue hk =>
      obtain ⟨h1, h2⟩ := s_kwm_some hc
      obtain ⟨j, hj, hji⟩ := List.any_eq_true.mp (List.all_eq_true.mp s_pm_all i (List.mem_range.mpr h1))
      have hj := List.mem_range.mp hj
      have hji := of_decide_eq_true hji
      have h3 := List.all_eq_true.mp s_kl_all j (List.mem_range.mpr hj)
      rw [Bool.and_eq_true, decide_eq_true_eq, hji, h2] at h3
      have h4 := s_kt hj
      obtain ⟨h5, h6⟩ := s_ll_inj (by omega) hk.2 h4.2 (s_K2_wd hk.1) h3.1
      exact hn j hj ⟨h5.symm, h6⟩
theorem s_K_W (h : s_K b n q ≠ 2) : s_W b n q = none := by unfold s_W; rw [if_neg (fun hh => h hh.1)]
/-- how far the words are looked at -/
noncomputable def t_I14 (b : Nat → Int32) (n q : Nat) (x2 x3 : Int32) : Prop := ∃ j : Nat, (j ≤ 27 ∧ x2.toInt = (j : Int) ∧ x3.toInt = (s_ks j : Nat)) ∧ ∀ i, i < j → ¬ s_mt b n q i
noncomputable def t_I25 (b : Nat → Int32) (n q : Nat) (x2 x3 x4 : Int32) : Prop := ∃ j : Nat, ((j < 27 ∧ x2.toInt = (j : Int) ∧ x3.toInt = (s_ks j : Nat)) ∧ ((s_ks j : Nat) : Int) ≤ x4.toInt ∧ x4.toInt ≤ (s_ke j : Nat)) ∧ ∀ i, i < j → ¬ s_mt b n q i
noncomputable def t_I68 (b : Nat → Int32) (n q : Nat) (x2 x3 x4 x5 x6 : Int32) : Prop := ∃ j : Nat, (((j < 27 ∧ x2.toInt = (j : Int) ∧ x3.toInt = (s_ks j : Nat)) ∧ x4.toInt = (s_ke j : Nat) ∧ ((s_ks j : Nat) : Int) ≤ x6.toInt ∧ x6.toInt ≤ (s_ke j : Nat)) ∧ ((x5.toInt ≠ 0 ∧ s_E b n q - s_F b n q = s_ke j - s_ks j ∧ ∀ t : Nat, ((s_ks j + t : Nat) : Int) < x6.toInt → x_kc (s_ks j + t) = b (s_F b n q + t)) ∨ (x5.toInt = 0 ∧ ¬ s_mt b n q j))) ∧ ∀ i, i < j → ¬ s_mt b n q i
theorem t_I14_0 : t_I14 b n q 0 1 := ⟨0, ⟨by decide, rfl, rfl⟩, fun i hi => absurd hi (Nat.not_lt_zero i)⟩
theorem t_I25_0 {x2 x3 : Int32} (h : t_I14 b n q x2 x3) (h3 : x3.toInt < 138) : t_I25 b n q x2 x3 x3 := by
  obtain ⟨j, ⟨h1, h2, h4⟩, h5⟩ := h
  have hj : j < 27 := by
    by_cases hj : j = 27
    · rw [hj, show s_ks 27 = 138 from rfl] at h4; omega
    · omega
  have := (s_kt hj).1
  exact ⟨j, ⟨⟨hj, h2, h4⟩, by omega, by omega⟩, h5⟩
theorem t_I25_s {x2 x3 x4 w z : Int32} (h : t_I25 b n q x2 x3 x4) (ew : w = x_kc x4.toNatClampNeg) (hw : w.toInt ≠ 32) (hz : z.toInt = x4.toInt + 1) : t_I25 b n q x2 x3 z := by
  obtain ⟨j, ⟨⟨hj, h2, h3⟩, h4, h5⟩, h6⟩ := h
  have hk := (s_kt hj).1
  have hc := t_clamp (i := x4) (by omega)
  have hne : x4.toInt ≠ (s_ke j : Nat) := fun hh => hw (by rw [ew, show x4.toNatClampNeg = s_ke j by omega]; exact hk.2.2.2.2.2)
  exact ⟨j, ⟨⟨hj, h2, h3⟩, by omega, by omega⟩, h6⟩
theorem t_I68_0 {x2 x3 x4 x5 w : Int32} (h : t_I25 b n q x2 x3 x4) (ew : w = x_kc x4.toNatClampNeg) (hw : w.toInt = 32) (h5 : (x5.toInt ≠ 0 ∧ x4.toInt - x3.toInt = ((s_E b n q : Nat) : Int) - (s_F b n q : Nat)) ∨ (x5.toInt = 0 ∧ x4.toInt - x3.toInt ≠ ((s_E b n q : Nat) : Int) - (s_F b n q : Nat))) (hEF : s_F b n q ≤ s_E b n q) : t_I68 b n q x2 x3 x4 x5 x3 := by
  obtain ⟨j, ⟨⟨hj, h2, h3⟩, h4, h6⟩, h7⟩ := h
  obtain ⟨hk, hk2⟩ := s_kt hj
  have hc := t_clamp (i := x4) (by omega)
  have he : x4.toInt = (s_ke j : Nat) := by
    by_cases hlt : x4.toInt < (s_ke j : Nat)
    · have := hk2 (x4.toNatClampNeg - s_ks j) (by omega)
      rw [show s_ks j + (x4.toNatClampNeg - s_ks j) = x4.toNatClampNeg by omega, ← ew] at this
      omega
    · omega
  refine ⟨j, ⟨⟨⟨hj, h2, h3⟩, he, by omega, by omega⟩, ?_⟩, h7⟩
  rcases h5 with ⟨h8, h9⟩ | ⟨h8, h9⟩
  · exact Or.inl ⟨h8, by omega, fun t ht => by omega⟩
  · exact Or.inr ⟨h8, fun hh => by have := hh.1; omega⟩
theorem t_I68_y {x2 x3 x4 x5 x6 c w z idx : Int32} (h : t_I68 b n q x2 x3 x4 x5 x6) (hb : t_by b n) (h5 : x5.toInt ≠ 0) (hlt : x6.toInt < x4.toInt) (hi : idx.toInt = ((s_F b n q : Nat) : Int) + x6.toInt - x3.toInt) (hEn : s_E b n q ≤ n) (ec : c = x_kc x6.toNatClampNeg) (ew : w.toInt = s_at b n idx.toNatClampNeg) (he : c = w) {y : Int32} (hy : y.toInt ≠ 0) (hz : z.toInt = x6.toInt + 1) : t_I68 b n q x2 x3 x4 y z := by
  obtain ⟨j, ⟨⟨⟨hj, h2, h3⟩, h4, h6, h7⟩, h8⟩, h9⟩ := h
  obtain ⟨hk, hk2⟩ := s_kt hj
  rcases h8 with ⟨_, h10, h11⟩ | ⟨h10, _⟩
  · refine ⟨j, ⟨⟨⟨hj, h2, h3⟩, h4, by omega, by omega⟩, Or.inl ⟨hy, h10, fun t ht => ?_⟩⟩, h9⟩
    by_cases ht6 : ((s_ks j + t : Nat) : Int) < x6.toInt
    · exact h11 t ht6
    · have hc := t_clamp (i := x6) (by omega)
      have hci := t_clamp (i := idx) (by omega)
      have e6 : x6.toNatClampNeg = s_ks j + t := by omega
      have ei : idx.toNatClampNeg = s_F b n q + t := by omega
      have hl := hk2 t (by omega)
      rw [e6] at ec
      rw [← ec] at hl
      rw [← he, ei] at ew
      have hb2 := ((s_at_c (i := s_F b n q + t) hb (c := c.toInt) (by omega) (by omega)).mp ew.symm).2
      rw [← ec]
      exact Int32.toInt_inj.mp hb2.symm
  · exact absurd h10 h5
theorem t_I68_n {x2 x3 x4 x5 x6 c w z idx : Int32} (h : t_I68 b n q x2 x3 x4 x5 x6) (hb : t_by b n) (h5 : x5.toInt ≠ 0) (hlt : x6.toInt < x4.toInt) (hi : idx.toInt = ((s_F b n q : Nat) : Int) + x6.toInt - x3.toInt) (hEn : s_E b n q ≤ n) (ec : c = x_kc x6.toNatClampNeg) (ew : w.toInt = s_at b n idx.toNatClampNeg) (he : c.toInt ≠ w.toInt) {y : Int32} (hy : y.toInt = 0) (hz : z.toInt = x6.toInt + 1) : t_I68 b n q x2 x3 x4 y z := by
  obtain ⟨j, ⟨⟨⟨hj, h2, h3⟩, h4, h6, h7⟩, h8⟩, h9⟩ := h
  obtain ⟨hk, hk2⟩ := s_kt hj
  rcases h8 with ⟨_, h10, h11⟩ | ⟨h10, _⟩
  · refine ⟨j, ⟨⟨⟨hj, h2, h3⟩, h4, by omega, by omega⟩, Or.inr ⟨hy, fun hh => he ?_⟩⟩, h9⟩
    have hc := t_clamp (i := x6) (by omega)
    have hci := t_clamp (i := idx) (by omega)
    have hl := hk2 (x6.toNatClampNeg - s_ks j) (by omega)
    have hm := hh.2 (x6.toNatClampNeg - s_ks j) (by omega)
    have e6 : s_ks j + (x6.toNatClampNeg - s_ks j) = x6.toNatClampNeg := by omega
    have ei : idx.toNatClampNeg = s_F b n q + (x6.toNatClampNeg - s_ks j) := by omega
    rw [e6] at hl hm
    rw [← ec] at hl hm
    rw [ew, ei]
    exact ((s_at_c hb (c := c.toInt) (by omega) (by omega)).mpr ⟨by omega, by rw [← hm]⟩).symm
  · exact absurd h10 h5
theorem t_I68_r {x2 x3 x4 x5 x6 : Int32} (h : t_I68 b n q x2 x3 x4 x5 x6) (h5 : x5.toInt ≠ 0) (hge : x4.toInt ≤ x6.toInt) (hK : s_K b n q = 2) : x2.toInt = s_mi (s_W b n q) := by
  obtain ⟨j, ⟨⟨⟨hj, h2, h3⟩, h4, h6, h7⟩, h8⟩, h9⟩ := h
  rcases h8 with ⟨_, h10, h11⟩ | ⟨h10, _⟩
  · rw [h2]; exact (s_mt_W hj hK ⟨h10, fun t ht => h11 t (by omega)⟩).symm
  · exact absurd h10 h5
theorem t_I14_s {x2 x3 x4 x5 x6 z2 z3 : Int32} (h : t_I68 b n q x2 x3 x4 x5 x6) (h5 : x5.toInt = 0) (hz2 : z2.toInt = x2.toInt + 1) (hz3 : z3.toInt = x4.toInt + 1) : t_I14 b n q z2 z3 := by
  obtain ⟨j, ⟨⟨⟨hj, h2, h3⟩, h4, h6, h7⟩, h8⟩, h9⟩ := h
  have hk := (s_kt hj).1
  rcases h8 with ⟨h10, _⟩ | ⟨_, h11⟩
  · exact absurd h5 h10
  · refine ⟨j + 1, ⟨by omega, by omega, by omega⟩, fun i hi => ?_⟩
    by_cases hij : i = j
    · rw [hij]; exact h11
    · exact h9 i (by omega)
theorem t_I14_e {x2 x3 : Int32} (h : t_I14 b n q x2 x3) (h3 : 138 ≤ x3.toInt) : -1 = s_mi (s_W b n q) := by
  obtain ⟨j, ⟨h1, h2, h4⟩, h5⟩ := h
  have hj : j = 27 := by
    by_cases hj : j < 27
    · have := (s_kt hj).1; omega
    · omega
  rw [s_nm_W (fun i hi => h5 i (by omega))]; rfl
end WORDS
