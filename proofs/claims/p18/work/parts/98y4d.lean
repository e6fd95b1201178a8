/-! ===== printed by riv.py: the RIVER of the class ===== -/
noncomputable def wl_s_readAll : List (Nat × Nat) := [(3, 0), (3, 3), (3, 4), (3, 5), (3, 6), (4, 9999), (5, 9999), (6, 0), (7, 9999), (8, 9999), (9, 9999), (10, 9999), (11, 9999), (12, 9999), (13, 0), (14, 9999), (15, 9999), (16, 9999), (17, 9999), (18, 9999), (29, 0), (30, 9999), (31, 9999), (32, 9999), (33, 9999), (34, 9999), (35, 0), (36, 9999), (37, 9999), (38, 9999), (39, 9999), (40, 9999), (43, 9999), (44, 9999), (46, 0), (47, 9999), (48, 9999), (49, 9999), (50, 9999), (51, 9999), (52, 0), (53, 9999), (54, 9999), (55, 9999), (56, 9999), (57, 9999), (58, 9999), (59, 9999), (113, 0), (114, 0), (114, 3), (114, 4), (114, 5), (114, 6), (115, 4), (115, 5), (115, 6), (115, 7), (118, 2), (118, 3), (118, 4), (118, 5), (118, 6), (118, 7), (118, 8), (118, 9), (118, 10), (118, 11), (130, 9999), (131, 9999), (133, 9999)]
noncomputable def Q_s_readAll (gi : Nat → Nat → Int32) (gl : Nat → Nat → Int64) (gr : Nat → Nat → Value) (ar0 : Nat) : Int32 → (Nat → Nat → Int32) → (Nat → Nat → Int64) → (Nat → Nat → Value) → Prop := fun (v : Int32) (gi2 : Nat → Nat → Int32) (gl2 : Nat → Nat → Int64) (gr2 : Nat → Nat → Value) => (∀ (b : Nat → Int32) (n q : Nat) (D : s_D), t_CN b n q D gi gl gr ar0 → (v.toInt = 1 ∧ ∃ q2 D2, s_rv b n 901 q D = s_ok q2 D2 ∧ t_CN b n q2 D2 gi2 gl2 gr2 ar0) ∨ (v.toInt = 0 ∧ ∃ p x D2, x ≠ 0 ∧ s_rv b n 901 q D = s_bad b n p x D2 ∧ t_FL gi2 (ar0 + 1) (s_fk b n p x) (s_F b n p))) ∧ t_lq ar0 gi gl gr gi2 gl2 gr2
theorem c_s_readAll {X : x_Ext} {d : Nat} {sh : List (Nat ⊕ (Nat × Nat))} {gi : Nat → Nat → Int32} {gl : Nat → Nat → Int64} {gr : Nat → Nat → Value} (hI : t_I sh gi gr) (ar0 : Nat) (p_a0 : t_RQ sh gr ar0) : x_Me X (d + 6) n_X6_readAll [.ref ar0] (sh, gi, gl, gr) (t_PI wl_s_readAll sh gi gl gr 0 1 (Q_s_readAll gi gl gr ar0)) := by
  have hX : t_X wl_s_readAll sh gi gl gr gi gl gr := t_X.rf
  refine me_i f_X6_readAll p_a0.1 rfl rfl rfl ?_
  refine ev_ic f_X6_readAll (nx := 1) (v := 0) rfl (by decide) rfl ?_
  refine ev_loc f_X6_readAll (nx := 2) (lo' := [(1, .int 0), (0, .ref ar0)]) rfl rfl rfl rfl ?_
  have L1 : ∀ (m1 : Nat) (gi1 : Nat → Nat → Int32) (gl1 : Nat → Nat → Int64) (gr1 : Nat → Nat → Value) (y1_1 : Int32), t_I sh gi1 gr1 → t_X wl_s_readAll sh gi gl gr gi1 gl1 gr1 → t_RQ sh gr1 ar0 → 0 ≤ y1_1.toInt → y1_1.toInt ≤ 901 → (∀ (b : Nat → Int32) (n q : Nat) (D : s_D), t_CN b n q D gi gl gr ar0 → ∃ q2 D2, t_CN b n q2 D2 gi1 gl1 gr1 ar0 ∧ s_rv b n 901 q D = s_rv b n (901 - y1_1.toNatClampNeg) q2 D2) ∧ t_lq ar0 gi gl gr gi1 gl1 gr1 → (901 - y1_1.toInt).toNat = m1 → x_Ev X (d + 6) n_X6_readAll 2 [(1, .int y1_1), (0, .ref ar0)] [] (sh, gi1, gl1, gr1) (t_PI wl_s_readAll sh gi gl gr 0 1 (Q_s_readAll gi gl gr ar0)) := by
    intro m1
    induction m1 using Nat.strongRecOn with
    | _ m1 ih1 =>
    intro gi1 gl1 gr1 y1_1 hI hX p_a0 l1_1 u1_1 j1_0 hm1
    refine ev_loc f_X6_readAll (nx := 3) rfl rfl rfl rfl ?_
    refine ev_sp f_X6_readAll (nx := 6) (v := 900) rfl (by decide) rfl ?_
    refine ev_if f_X6_readAll (t1 := 181) (t2 := 9) rfl rfl rfl (fun h2 => ?_) (fun h2 => ?_)
    · have l3 : 901 ≤ y1_1.toInt := t_ltl h2 (by decide : (900:Int) ≤ (900:Int32).toInt) rfl
      refine ev_ic f_X6_readAll (nx := 182) (v := 1) rfl (by decide) rfl ?_
      exact ev_ret f_X6_readAll rfl rfl rfl ⟨_, _, _, rfl, hI, hX, ⟨_, rfl, (Int.le_trans (by decide : (0:Int) ≤ 1) (by decide : (1:Int) ≤ (1:Int32).toInt)), (by decide : (1:Int32).toInt ≤ (1:Int)), (show (∀ (b : Nat → Int32) (n q : Nat) (D : s_D), t_CN b n q D gi gl gr ar0 → ((1 : Int) = 1 ∧ ∃ q2 D2, s_rv b n 901 q D = s_ok q2 D2 ∧ t_CN b n q2 D2 gi1 gl1 gr1 ar0) ∨ ((1 : Int) = 0 ∧ ∃ p x D2, x ≠ 0 ∧ s_rv b n 901 q D = s_bad b n p x D2 ∧ t_FL gi1 (ar0 + 1) (s_fk b n p x) (s_F b n p))) ∧ t_lq ar0 gi gl gr gi1 gl1 gr1 from ⟨fun b n q D h => (by
                                                            obtain ⟨q2, D2, h2, hs⟩ := j1_0.1 b n q D h
                                                            have h2 : t_CS b n q2 D2 _ _ gi1 gl1 gr1 ar0 := h2
                                                            exact Or.inl ⟨rfl, q2, D2, hs.trans (by rw [show 901 - y1_1.toNatClampNeg = 0 from (by have h1 := t_clamp (i := y1_1) (by omega); omega)]; rfl), h2⟩), j1_0.2⟩)⟩⟩
    · have u4 : y1_1.toInt ≤ 900 := t_leu (t_nlt h2) (by decide : (900:Int32).toInt ≤ (900:Int))
      refine ev_loc f_X6_readAll (nx := 10) rfl rfl rfl rfl ?_
      have e5 := p_a0.2.2.2.2.1.1
      have p5 := p_a0.2.2.2.2.1.2
      refine ev_getR f_X6_readAll (nx := 13) rfl p_a0.1 rfl rfl e5 rfl rfl ?_
      refine ev_getI f_X6_readAll (nx := 16) rfl p5.1 rfl rfl rfl ?_
      refine ev_ic f_X6_readAll (nx := 17) (v := 3) rfl (by decide) rfl ?_
      refine ev_if f_X6_readAll (t1 := 181) (t2 := 20) rfl rfl rfl (fun h6 => ?_) (fun h6 => ?_)
      · have u7 : (gi1 (ar0 + 1) 3).toInt ≤ 3 := t_equ h6 (by decide : (3:Int32).toInt ≤ (3:Int))
        have l8 : 3 ≤ (gi1 (ar0 + 1) 3).toInt := t_eql h6 (by decide : (3:Int) ≤ (3:Int32).toInt)
        refine ev_ic f_X6_readAll (nx := 182) (v := 1) rfl (by decide) rfl ?_
        exact ev_ret f_X6_readAll rfl rfl rfl ⟨_, _, _, rfl, hI, hX, ⟨_, rfl, (Int.le_trans (by decide : (0:Int) ≤ 1) (by decide : (1:Int) ≤ (1:Int32).toInt)), (by decide : (1:Int32).toInt ≤ (1:Int)), (show (∀ (b : Nat → Int32) (n q : Nat) (D : s_D), t_CN b n q D gi gl gr ar0 → ((1 : Int) = 1 ∧ ∃ q2 D2, s_rv b n 901 q D = s_ok q2 D2 ∧ t_CN b n q2 D2 gi1 gl1 gr1 ar0) ∨ ((1 : Int) = 0 ∧ ∃ p x D2, x ≠ 0 ∧ s_rv b n 901 q D = s_bad b n p x D2 ∧ t_FL gi1 (ar0 + 1) (s_fk b n p x) (s_F b n p))) ∧ t_lq ar0 gi gl gr gi1 gl1 gr1 from ⟨fun b n q D h => (by
                                                            obtain ⟨q2, D2, h2, hs⟩ := j1_0.1 b n q D h
                                                            have h2 : t_CS b n q2 D2 _ _ gi1 gl1 gr1 ar0 := h2
                                                            have hK : s_K b n q2 = 0 := by have := h2.1.K; omega
                                                            exact Or.inl ⟨rfl, q2, D2, hs.trans (s_rv_e hK), h2⟩), j1_0.2⟩)⟩⟩
      · have r9 : (gi1 (ar0 + 1) 3).toInt ≠ 3 := fun e => h6 (Int32.toInt_inj.mp (e.trans (by decide : (3:Int) = (3 : Int32).toInt)))
        refine ev_ic f_X6_readAll (nx := 21) (v := 0) rfl (by decide) rfl ?_
        refine ev_loc f_X6_readAll (nx := 22) (lo' := [(2, .int 0), (1, .int y1_1), (0, .ref ar0)]) rfl rfl rfl rfl ?_
        refine ev_loc f_X6_readAll (nx := 23) rfl rfl rfl rfl ?_
        refine ev_getR f_X6_readAll (nx := 26) (v := .ref (ar0 + 1)) rfl p_a0.1 rfl rfl e5 rfl rfl ?_
        have k10 := hI.2.2.2.1.2.2.2.2.2 (ar0 + 1) p5.1
        obtain ⟨v10, e10⟩ : ∃ v, gr1 (ar0 + 1) 7 = v := ⟨_, rfl⟩
        rw [e10] at k10
        refine ev_getR f_X6_readAll (nx := 29) rfl p5.1 rfl rfl e10 (t_KwR k10) rfl ?_
        refine ev_heap f_X6_readAll (nx := 32) rfl rfl rfl rfl ?_
        refine ev_ack f_X6_readAll (t1 := 35) (t2 := 43) rfl rfl rfl (t_knw k10) rfl (fun h11 => ?_) (fun h11 => ?_)
        · refine ev_loc f_X6_readAll (nx := 36) rfl rfl rfl rfl ?_
          refine ev_qI f_X6_readAll (nx := 39) (r := []) rfl rfl rfl rfl rfl rfl rfl (c_s_readPort hI (ar0) p_a0) rfl hX rfl (fun w12 gi12 gl12 gr12 l12 u12 hI hX hC12 q12 => ?_)
          have q12 : (∀ (b : Nat → Int32) (n q : Nat) (D : s_D), t_CN b n q D gi1 gl1 gr1 ar0 → (w12.toInt = 1 ∧ ∃ q2 D2, s_port b n q D = s_ok q2 D2 ∧ t_CN b n q2 D2 gi12 gl12 gr12 ar0) ∨ (w12.toInt = 0 ∧ ∃ p x D2, x ≠ 0 ∧ s_port b n q D = s_bad b n p x D2 ∧ t_FL gi12 (ar0 + 1) (s_fk b n p x) (s_F b n p))) ∧ t_lq ar0 gi1 gl1 gr1 gi12 gl12 gr12 := q12
          replace p_a0 := p_a0.ext hC12.2
          replace p5 := p5.ext hC12.2
          refine ev_loc f_X6_readAll (nx := 40) (lo' := [(2, .int w12), (1, .int y1_1), (0, .ref ar0)]) rfl rfl rfl rfl ?_
          refine ev_jmp f_X6_readAll (nx := 157) rfl rfl rfl ?_
          refine ev_loc f_X6_readAll (nx := 158) rfl rfl rfl rfl ?_
          refine ev_if f_X6_readAll (t1 := 173) (t2 := 161) rfl rfl rfl (fun h13 => ?_) (fun h13 => ?_)
          · have u14 : w12.toInt ≤ 0 := t_equ h13 (by decide : (0:Int32).toInt ≤ (0:Int))
            refine ev_ic f_X6_readAll (nx := 174) (v := 0) rfl (by decide) rfl ?_
            exact ev_ret f_X6_readAll rfl rfl rfl ⟨_, _, _, rfl, hI, hX, ⟨_, rfl, (by decide : (0:Int) ≤ (0:Int32).toInt), (Int.le_trans (by decide : (0:Int32).toInt ≤ (0:Int)) (by decide : (0:Int) ≤ 1)), (show (∀ (b : Nat → Int32) (n q : Nat) (D : s_D), t_CN b n q D gi gl gr ar0 → ((0 : Int) = 1 ∧ ∃ q2 D2, s_rv b n 901 q D = s_ok q2 D2 ∧ t_CN b n q2 D2 gi12 gl12 gr12 ar0) ∨ ((0 : Int) = 0 ∧ ∃ p x D2, x ≠ 0 ∧ s_rv b n 901 q D = s_bad b n p x D2 ∧ t_FL gi12 (ar0 + 1) (s_fk b n p x) (s_F b n p))) ∧ t_lq ar0 gi gl gr gi12 gl12 gr12 from ⟨fun b n q D h => (by
                                                            obtain ⟨q2, D2, h2, hs⟩ := j1_0.1 b n q D h
                                                            have h2 : t_CS b n q2 D2 _ _ gi1 gl1 gr1 ar0 := h2
                                                            have hK : s_K b n q2 ≠ 0 := by have := h2.1.K; omega
                                                            rw [show 901 - y1_1.toNatClampNeg = (900 - y1_1.toNatClampNeg) + 1 from (by have h1 := t_clamp (i := y1_1) (by omega); omega)] at hs
                                                            have hP := s_part_0 (D := D2) (h2.1.kwT e10 h11)
                                                            obtain ⟨_, p, x, D3, hx, hX, hf⟩ := (q12.1 b n q2 D2 h2).resolve_left (fun hh => absurd hh.1 (by omega))
                                                            exact Or.inr ⟨rfl, p, x, D3, hx, hs.trans (s_rv_b1 hK hx (hP.trans hX)), hf⟩), (t_lq.tr j1_0.2 q12.2)⟩)⟩⟩
          · have r15 : w12.toInt ≠ 0 := fun e => h13 (Int32.toInt_inj.mp (e.trans (by decide : (0:Int) = (0 : Int32).toInt)))
            have l16 : 1 ≤ w12.toInt := t_nel h13 l12 rfl rfl
            refine ev_loc f_X6_readAll (nx := 162) rfl rfl rfl rfl ?_
            refine ev_getR f_X6_readAll (nx := 165) (v := .ref (ar0 + 1)) rfl p_a0.1 rfl rfl ((hC12.1 ar0 0 (t_ninO hI.wf p_a0.1 (t_outO hI.wf p_a0.1 rfl) rfl)).2.2.trans e5) rfl rfl ?_
            refine ev_bp f_X6_readAll (nx := 167) (v := 59) rfl (by decide) rfl ?_
            refine ev_qI f_X6_readAll (nx := 170) (r := []) rfl rfl rfl rfl rfl rfl rfl (c_s_takeSign hI ((ar0 + 1)) p5 (59)) rfl hX rfl (fun w17 gi17 gl17 gr17 l17 u17 hI hX hC17 q17 => ?_)
            have q17 : (∀ (b : Nat → Int32) (n q : Nat), t_TC b n q gi12 gl12 gr12 (ar0 + 1) → (w17.toInt = 1 ∧ s_isS b n q 59 ∧ t_TC b n (s_E b n q) gi17 gl17 gr17 (ar0 + 1) ∧ t_nf gi12 gi17 (ar0 + 1)) ∨ (w17.toInt = 0 ∧ ¬ s_isS b n q 59 ∧ t_FL gi17 (ar0 + 1) (s_fk b n q 2) (s_F b n q))) ∧ t_on (ar0 + 1) gi12 gl12 gr12 gi17 gl17 gr17 := q17
            replace p_a0 := p_a0.ext hC17.2
            replace p5 := p5.ext hC17.2
            refine ev_if f_X6_readAll (t1 := 173) (t2 := 175) rfl rfl rfl (fun h18 => ?_) (fun h18 => ?_)
            · have u19 : w17.toInt ≤ 0 := t_equ h18 (by decide : (0:Int32).toInt ≤ (0:Int))
              refine ev_ic f_X6_readAll (nx := 174) (v := 0) rfl (by decide) rfl ?_
              exact ev_ret f_X6_readAll rfl rfl rfl ⟨_, _, _, rfl, hI, hX, ⟨_, rfl, (by decide : (0:Int) ≤ (0:Int32).toInt), (Int.le_trans (by decide : (0:Int32).toInt ≤ (0:Int)) (by decide : (0:Int) ≤ 1)), (show (∀ (b : Nat → Int32) (n q : Nat) (D : s_D), t_CN b n q D gi gl gr ar0 → ((0 : Int) = 1 ∧ ∃ q2 D2, s_rv b n 901 q D = s_ok q2 D2 ∧ t_CN b n q2 D2 gi17 gl17 gr17 ar0) ∨ ((0 : Int) = 0 ∧ ∃ p x D2, x ≠ 0 ∧ s_rv b n 901 q D = s_bad b n p x D2 ∧ t_FL gi17 (ar0 + 1) (s_fk b n p x) (s_F b n p))) ∧ t_lq ar0 gi gl gr gi17 gl17 gr17 from ⟨fun b n q D h => (by
                                                            obtain ⟨q2, D2, h2, hs⟩ := j1_0.1 b n q D h
                                                            have h2 : t_CS b n q2 D2 _ _ gi1 gl1 gr1 ar0 := h2
                                                            have hK : s_K b n q2 ≠ 0 := by have := h2.1.K; omega
                                                            rw [show 901 - y1_1.toNatClampNeg = (900 - y1_1.toNatClampNeg) + 1 from (by have h1 := t_clamp (i := y1_1) (by omega); omega)] at hs
                                                            have hP := s_part_0 (D := D2) (h2.1.kwT e10 h11)
                                                            obtain ⟨_, q3, D3, hX, h3⟩ := (q12.1 b n q2 D2 h2).resolve_right (fun hh => absurd hh.1 (by omega))
                                                            obtain ⟨_, hS, hf⟩ := (q17.1 b n q3 h3.1).resolve_left (fun hh => absurd hh.1 (by omega))
                                                            exact Or.inr ⟨rfl, q3, 2, D3, by decide, hs.trans (s_rv_b2 hK (hP.trans hX) hS), hf⟩), (t_lq.on (t_lq.tr j1_0.2 q12.2) q17.2 (by omega))⟩)⟩⟩
            · have r20 : w17.toInt ≠ 0 := fun e => h18 (Int32.toInt_inj.mp (e.trans (by decide : (0:Int) = (0 : Int32).toInt)))
              have l21 : 1 ≤ w17.toInt := t_nel h18 l17 rfl rfl
              refine ev_incR f_X6_readAll (nx := 178) (c := 1) (l := 1) (u := 901) rfl rfl (by decide) (by decide) l1_1 u4 rfl rfl (by decide) (by decide) rfl (fun z22 e22 l22 u22 => ?_)
              refine ev_jmp f_X6_readAll (nx := 2) rfl rfl rfl ?_
              refine ev_sub (lo := [(1, .int z22), (0, .ref ar0)]) rfl (t_sc rfl (t_sc rfl t_sn)) ?_
              exact ih1 _ (by omega) gi17 gl17 gr17 (z22) hI hX p_a0 (Int.le_trans (by decide : (0:Int) ≤ 1) l22) u22 ⟨fun b n q D h => (by
                                                            obtain ⟨q2, D2, h2, hs⟩ := j1_0.1 b n q D h
                                                            have h2 : t_CS b n q2 D2 _ _ gi1 gl1 gr1 ar0 := h2
                                                            have hK : s_K b n q2 ≠ 0 := by have := h2.1.K; omega
                                                            have hP := s_part_0 (D := D2) (h2.1.kwT e10 h11)
                                                            obtain ⟨_, q3, D3, hX, h3⟩ := (q12.1 b n q2 D2 h2).resolve_right (fun hh => absurd hh.1 (by omega))
                                                            have h3 : t_CS b n q3 D3 _ _ gi12 gl12 gr12 ar0 := h3
                                                            obtain ⟨_, hS, hT, hF⟩ := (q17.1 b n q3 h3.1).resolve_right (fun hh => absurd hh.1 (by omega))
                                                            have h4 := h3.on hT hF q17.2
                                                            refine ⟨_, D3, h4, hs.trans ?_⟩
                                                            rw [show 901 - y1_1.toNatClampNeg = (901 - z22.toNatClampNeg) + 1 from (by have h1 := t_clamp (i := y1_1) (by omega); have h2 := t_clamp (i := z22) (by omega); omega)]
                                                            exact s_rv_ok hK (hP.trans hX) hS), (t_lq.on (t_lq.tr j1_0.2 q12.2) q17.2 (by omega))⟩ rfl
        · refine ev_loc f_X6_readAll (nx := 44) rfl rfl rfl rfl ?_
          refine ev_getR f_X6_readAll (nx := 47) (v := .ref (ar0 + 1)) rfl p_a0.1 rfl rfl e5 rfl rfl ?_
          refine ev_getR f_X6_readAll (nx := 50) (v := v10) rfl p5.1 rfl rfl e10 (t_KwR k10) rfl ?_
          refine ev_heap f_X6_readAll (nx := 53) rfl rfl rfl rfl ?_
          refine ev_ack f_X6_readAll (t1 := 56) (t2 := 64) rfl rfl rfl (t_knw k10) rfl (fun h23 => ?_) (fun h23 => ?_)
          · refine ev_loc f_X6_readAll (nx := 57) rfl rfl rfl rfl ?_
            refine ev_qI f_X6_readAll (nx := 60) (r := []) rfl rfl rfl rfl rfl rfl rfl (c_s_readTurns hI (ar0) p_a0) rfl hX rfl (fun w24 gi24 gl24 gr24 l24 u24 hI hX hC24 q24 => ?_)
            have q24 : (∀ (b : Nat → Int32) (n q : Nat) (D : s_D), t_CN b n q D gi1 gl1 gr1 ar0 → (w24.toInt = 1 ∧ ∃ q2 D2, s_turns b n q D = s_ok q2 D2 ∧ t_CN b n q2 D2 gi24 gl24 gr24 ar0) ∨ (w24.toInt = 0 ∧ ∃ p x D2, x ≠ 0 ∧ s_turns b n q D = s_bad b n p x D2 ∧ t_FL gi24 (ar0 + 1) (s_fk b n p x) (s_F b n p))) ∧ t_lq ar0 gi1 gl1 gr1 gi24 gl24 gr24 := q24
            replace p_a0 := p_a0.ext hC24.2
            replace p5 := p5.ext hC24.2
            refine ev_loc f_X6_readAll (nx := 61) (lo' := [(2, .int w24), (1, .int y1_1), (0, .ref ar0)]) rfl rfl rfl rfl ?_
            refine ev_jmp f_X6_readAll (nx := 157) rfl rfl rfl ?_
            refine ev_loc f_X6_readAll (nx := 158) rfl rfl rfl rfl ?_
            refine ev_if f_X6_readAll (t1 := 173) (t2 := 161) rfl rfl rfl (fun h25 => ?_) (fun h25 => ?_)
            · have u26 : w24.toInt ≤ 0 := t_equ h25 (by decide : (0:Int32).toInt ≤ (0:Int))
              refine ev_ic f_X6_readAll (nx := 174) (v := 0) rfl (by decide) rfl ?_
              exact ev_ret f_X6_readAll rfl rfl rfl ⟨_, _, _, rfl, hI, hX, ⟨_, rfl, (by decide : (0:Int) ≤ (0:Int32).toInt), (Int.le_trans (by decide : (0:Int32).toInt ≤ (0:Int)) (by decide : (0:Int) ≤ 1)), (show (∀ (b : Nat → Int32) (n q : Nat) (D : s_D), t_CN b n q D gi gl gr ar0 → ((0 : Int) = 1 ∧ ∃ q2 D2, s_rv b n 901 q D = s_ok q2 D2 ∧ t_CN b n q2 D2 gi24 gl24 gr24 ar0) ∨ ((0 : Int) = 0 ∧ ∃ p x D2, x ≠ 0 ∧ s_rv b n 901 q D = s_bad b n p x D2 ∧ t_FL gi24 (ar0 + 1) (s_fk b n p x) (s_F b n p))) ∧ t_lq ar0 gi gl gr gi24 gl24 gr24 from ⟨fun b n q D h => (by
                                                            obtain ⟨q2, D2, h2, hs⟩ := j1_0.1 b n q D h
                                                            have h2 : t_CS b n q2 D2 _ _ gi1 gl1 gr1 ar0 := h2
                                                            have hK : s_K b n q2 ≠ 0 := by have := h2.1.K; omega
                                                            rw [show 901 - y1_1.toNatClampNeg = (900 - y1_1.toNatClampNeg) + 1 from (by have h1 := t_clamp (i := y1_1) (by omega); omega)] at hs
                                                            have hP := s_part_2 (D := D2) (h2.1.kwT e10 h23)
                                                            obtain ⟨_, p, x, D3, hx, hX, hf⟩ := (q24.1 b n q2 D2 h2).resolve_left (fun hh => absurd hh.1 (by omega))
                                                            exact Or.inr ⟨rfl, p, x, D3, hx, hs.trans (s_rv_b1 hK hx (hP.trans hX)), hf⟩), (t_lq.tr j1_0.2 q24.2)⟩)⟩⟩
            · have r27 : w24.toInt ≠ 0 := fun e => h25 (Int32.toInt_inj.mp (e.trans (by decide : (0:Int) = (0 : Int32).toInt)))
              have l28 : 1 ≤ w24.toInt := t_nel h25 l24 rfl rfl
              refine ev_loc f_X6_readAll (nx := 162) rfl rfl rfl rfl ?_
              refine ev_getR f_X6_readAll (nx := 165) (v := .ref (ar0 + 1)) rfl p_a0.1 rfl rfl ((hC24.1 ar0 0 (t_ninO hI.wf p_a0.1 (t_outO hI.wf p_a0.1 rfl) rfl)).2.2.trans e5) rfl rfl ?_
              refine ev_bp f_X6_readAll (nx := 167) (v := 59) rfl (by decide) rfl ?_
              refine ev_qI f_X6_readAll (nx := 170) (r := []) rfl rfl rfl rfl rfl rfl rfl (c_s_takeSign hI ((ar0 + 1)) p5 (59)) rfl hX rfl (fun w29 gi29 gl29 gr29 l29 u29 hI hX hC29 q29 => ?_)
              have q29 : (∀ (b : Nat → Int32) (n q : Nat), t_TC b n q gi24 gl24 gr24 (ar0 + 1) → (w29.toInt = 1 ∧ s_isS b n q 59 ∧ t_TC b n (s_E b n q) gi29 gl29 gr29 (ar0 + 1) ∧ t_nf gi24 gi29 (ar0 + 1)) ∨ (w29.toInt = 0 ∧ ¬ s_isS b n q 59 ∧ t_FL gi29 (ar0 + 1) (s_fk b n q 2) (s_F b n q))) ∧ t_on (ar0 + 1) gi24 gl24 gr24 gi29 gl29 gr29 := q29
              replace p_a0 := p_a0.ext hC29.2
              replace p5 := p5.ext hC29.2
              refine ev_if f_X6_readAll (t1 := 173) (t2 := 175) rfl rfl rfl (fun h30 => ?_) (fun h30 => ?_)
              · have u31 : w29.toInt ≤ 0 := t_equ h30 (by decide : (0:Int32).toInt ≤ (0:Int))
                refine ev_ic f_X6_readAll (nx := 174) (v := 0) rfl (by decide) rfl ?_
                exact ev_ret f_X6_readAll rfl rfl rfl ⟨_, _, _, rfl, hI, hX, ⟨_, rfl, (by decide : (0:Int) ≤ (0:Int32).toInt), (Int.le_trans (by decide : (0:Int32).toInt ≤ (0:Int)) (by decide : (0:Int) ≤ 1)), (show (∀ (b : Nat → Int32) (n q : Nat) (D : s_D), t_CN b n q D gi gl gr ar0 → ((0 : Int) = 1 ∧ ∃ q2 D2, s_rv b n 901 q D = s_ok q2 D2 ∧ t_CN b n q2 D2 gi29 gl29 gr29 ar0) ∨ ((0 : Int) = 0 ∧ ∃ p x D2, x ≠ 0 ∧ s_rv b n 901 q D = s_bad b n p x D2 ∧ t_FL gi29 (ar0 + 1) (s_fk b n p x) (s_F b n p))) ∧ t_lq ar0 gi gl gr gi29 gl29 gr29 from ⟨fun b n q D h => (by
                                                            obtain ⟨q2, D2, h2, hs⟩ := j1_0.1 b n q D h
                                                            have h2 : t_CS b n q2 D2 _ _ gi1 gl1 gr1 ar0 := h2
                                                            have hK : s_K b n q2 ≠ 0 := by have := h2.1.K; omega
                                                            rw [show 901 - y1_1.toNatClampNeg = (900 - y1_1.toNatClampNeg) + 1 from (by have h1 := t_clamp (i := y1_1) (by omega); omega)] at hs
                                                            have hP := s_part_2 (D := D2) (h2.1.kwT e10 h23)
                                                            obtain ⟨_, q3, D3, hX, h3⟩ := (q24.1 b n q2 D2 h2).resolve_right (fun hh => absurd hh.1 (by omega))
                                                            obtain ⟨_, hS, hf⟩ := (q29.1 b n q3 h3.1).resolve_left (fun hh => absurd hh.1 (by omega))
                                                            exact Or.inr ⟨rfl, q3, 2, D3, by decide, hs.trans (s_rv_b2 hK (hP.trans hX) hS), hf⟩), (t_lq.on (t_lq.tr j1_0.2 q24.2) q29.2 (by omega))⟩)⟩⟩
              · have r32 : w29.toInt ≠ 0 := fun e => h30 (Int32.toInt_inj.mp (e.trans (by decide : (0:Int) = (0 : Int32).toInt)))
                have l33 : 1 ≤ w29.toInt := t_nel h30 l29 rfl rfl
                refine ev_incR f_X6_readAll (nx := 178) (c := 1) (l := 1) (u := 901) rfl rfl (by decide) (by decide) l1_1 u4 rfl rfl (by decide) (by decide) rfl (fun z34 e34 l34 u34 => ?_)
                refine ev_jmp f_X6_readAll (nx := 2) rfl rfl rfl ?_
                refine ev_sub (lo := [(1, .int z34), (0, .ref ar0)]) rfl (t_sc rfl (t_sc rfl t_sn)) ?_
                exact ih1 _ (by omega) gi29 gl29 gr29 (z34) hI hX p_a0 (Int.le_trans (by decide : (0:Int) ≤ 1) l34) u34 ⟨fun b n q D h => (by
                                                            obtain ⟨q2, D2, h2, hs⟩ := j1_0.1 b n q D h
                                                            have h2 : t_CS b n q2 D2 _ _ gi1 gl1 gr1 ar0 := h2
                                                            have hK : s_K b n q2 ≠ 0 := by have := h2.1.K; omega
                                                            have hP := s_part_2 (D := D2) (h2.1.kwT e10 h23)
                                                            obtain ⟨_, q3, D3, hX, h3⟩ := (q24.1 b n q2 D2 h2).resolve_right (fun hh => absurd hh.1 (by omega))
                                                            have h3 : t_CS b n q3 D3 _ _ gi24 gl24 gr24 ar0 := h3
                                                            obtain ⟨_, hS, hT, hF⟩ := (q29.1 b n q3 h3.1).resolve_right (fun hh => absurd hh.1 (by omega))
                                                            have h4 := h3.on hT hF q29.2
                                                            refine ⟨_, D3, h4, hs.trans ?_⟩
                                                            rw [show 901 - y1_1.toNatClampNeg = (901 - z34.toNatClampNeg) + 1 from (by have h1 := t_clamp (i := y1_1) (by omega); have h2 := t_clamp (i := z34) (by omega); omega)]
                                                            exact s_rv_ok hK (hP.trans hX) hS), (t_lq.on (t_lq.tr j1_0.2 q24.2) q29.2 (by omega))⟩ rfl
          · refine ev_loc f_X6_readAll (nx := 65) rfl rfl rfl rfl ?_
            refine ev_getR f_X6_readAll (nx := 68) (v := .ref (ar0 + 1)) rfl p_a0.1 rfl rfl e5 rfl rfl ?_
            refine ev_getR f_X6_readAll (nx := 71) (v := v10) rfl p5.1 rfl rfl e10 (t_KwR k10) rfl ?_
            refine ev_heap f_X6_readAll (nx := 74) rfl rfl rfl rfl ?_
            refine ev_ack f_X6_readAll (t1 := 77) (t2 := 85) rfl rfl rfl (t_knw k10) rfl (fun h35 => ?_) (fun h35 => ?_)
            · refine ev_loc f_X6_readAll (nx := 78) rfl rfl rfl rfl ?_
              refine ev_qI f_X6_readAll (nx := 81) (r := []) rfl rfl rfl rfl rfl rfl rfl (c_s_readFrost hI (ar0) p_a0) rfl hX rfl (fun w36 gi36 gl36 gr36 l36 u36 hI hX hC36 q36 => ?_)
              have q36 : (∀ (b : Nat → Int32) (n q : Nat) (D : s_D), t_CN b n q D gi1 gl1 gr1 ar0 → (w36.toInt = 1 ∧ ∃ q2 D2, s_frost b n q D = s_ok q2 D2 ∧ t_CN b n q2 D2 gi36 gl36 gr36 ar0) ∨ (w36.toInt = 0 ∧ ∃ p x D2, x ≠ 0 ∧ s_frost b n q D = s_bad b n p x D2 ∧ t_FL gi36 (ar0 + 1) (s_fk b n p x) (s_F b n p))) ∧ t_lq ar0 gi1 gl1 gr1 gi36 gl36 gr36 := q36
              replace p_a0 := p_a0.ext hC36.2
              replace p5 := p5.ext hC36.2
              refine ev_loc f_X6_readAll (nx := 82) (lo' := [(2, .int w36), (1, .int y1_1), (0, .ref ar0)]) rfl rfl rfl rfl ?_
              refine ev_jmp f_X6_readAll (nx := 157) rfl rfl rfl ?_
              refine ev_loc f_X6_readAll (nx := 158) rfl rfl rfl rfl ?_
              refine ev_if f_X6_readAll (t1 := 173) (t2 := 161) rfl rfl rfl (fun h37 => ?_) (fun h37 => ?_)
              · have u38 : w36.toInt ≤ 0 := t_equ h37 (by decide : (0:Int32).toInt ≤ (0:Int))
                refine ev_ic f_X6_readAll (nx := 174) (v := 0) rfl (by decide) rfl ?_
                exact ev_ret f_X6_readAll rfl rfl rfl ⟨_, _, _, rfl, hI, hX, ⟨_, rfl, (by decide : (0:Int) ≤ (0:Int32).toInt), (Int.le_trans (by decide : (0:Int32).toInt ≤ (0:Int)) (by decide : (0:Int) ≤ 1)), (show (∀ (b : Nat → Int32) (n q : Nat) (D : s_D), t_CN b n q D gi gl gr ar0 → ((0 : Int) = 1 ∧ ∃ q2 D2, s_rv b n 901 q D = s_ok q2 D2 ∧ t_CN b n q2 D2 gi36 gl36 gr36 ar0) ∨ ((0 : Int) = 0 ∧ ∃ p x D2, x ≠ 0 ∧ s_rv b n 901 q D = s_bad b n p x D2 ∧ t_FL gi36 (ar0 + 1) (s_fk b n p x) (s_F b n p))) ∧ t_lq ar0 gi gl gr gi36 gl36 gr36 from ⟨fun b n q D h => (by
                                                            obtain ⟨q2, D2, h2, hs⟩ := j1_0.1 b n q D h
                                                            have h2 : t_CS b n q2 D2 _ _ gi1 gl1 gr1 ar0 := h2
                                                            have hK : s_K b n q2 ≠ 0 := by have := h2.1.K; omega
                                                            rw [show 901 - y1_1.toNatClampNeg = (900 - y1_1.toNatClampNeg) + 1 from (by have h1 := t_clamp (i := y1_1) (by omega); omega)] at hs
                                                            have hP := s_part_3 (D := D2) (h2.1.kwT e10 h35)
                                                            obtain ⟨_, p, x, D3, hx, hX, hf⟩ := (q36.1 b n q2 D2 h2).resolve_left (fun hh => absurd hh.1 (by omega))
                                                            exact Or.inr ⟨rfl, p, x, D3, hx, hs.trans (s_rv_b1 hK hx (hP.trans hX)), hf⟩), (t_lq.tr j1_0.2 q36.2)⟩)⟩⟩
              · have r39 : w36.toInt ≠ 0 := fun e => h37 (Int32.toInt_inj.mp (e.trans (by decide : (0:Int) = (0 : Int32).toInt)))
                have l40 : 1 ≤ w36.toInt := t_nel h37 l36 rfl rfl
                refine ev_loc f_X6_readAll (nx := 162) rfl rfl rfl rfl ?_
                refine ev_getR f_X6_readAll (nx := 165) (v := .ref (ar0 + 1)) rfl p_a0.1 rfl rfl ((hC36.1 ar0 0 (t_ninO hI.wf p_a0.1 (t_outO hI.wf p_a0.1 rfl) rfl)).2.2.trans e5) rfl rfl ?_
                refine ev_bp f_X6_readAll (nx := 167) (v := 59) rfl (by decide) rfl ?_
                refine ev_qI f_X6_readAll (nx := 170) (r := []) rfl rfl rfl rfl rfl rfl rfl (c_s_takeSign hI ((ar0 + 1)) p5 (59)) rfl hX rfl (fun w41 gi41 gl41 gr41 l41 u41 hI hX hC41 q41 => ?_)
                have q41 : (∀ (b : Nat → Int32) (n q : Nat), t_TC b n q gi36 gl36 gr36 (ar0 + 1) → (w41.toInt = 1 ∧ s_isS b n q 59 ∧ t_TC b n (s_E b n q) gi41 gl41 gr41 (ar0 + 1) ∧ t_nf gi36 gi41 (ar0 + 1)) ∨ (w41.toInt = 0 ∧ ¬ s_isS b n q 59 ∧ t_FL gi41 (ar0 + 1) (s_fk b n q 2) (s_F b n q))) ∧ t_on (ar0 + 1) gi36 gl36 gr36 gi41 gl41 gr41 := q41
                replace p_a0 := p_a0.ext hC41.2
                replace p5 := p5.ext hC41.2
                refine ev_if f_X6_readAll (t1 := 173) (t2 := 175) rfl rfl rfl (fun h42 => ?_) (fun h42 => ?_)
                · have u43 : w41.toInt ≤ 0 := t_equ h42 (by decide : (0:Int32).toInt ≤ (0:Int))
                  refine ev_ic f_X6_readAll (nx := 174) (v := 0) rfl (by decide) rfl ?_
                  exact ev_ret f_X6_readAll rfl rfl rfl ⟨_, _, _, rfl, hI, hX, ⟨_, rfl, (by decide : (0:Int) ≤ (0:Int32).toInt), (Int.le_trans (by decide : (0:Int32).toInt ≤ (0:Int)) (by decide : (0:Int) ≤ 1)), (show (∀ (b : Nat → Int32) (n q : Nat) (D : s_D), t_CN b n q D gi gl gr ar0 → ((0 : Int) = 1 ∧ ∃ q2 D2, s_rv b n 901 q D = s_ok q2 D2 ∧ t_CN b n q2 D2 gi41 gl41 gr41 ar0) ∨ ((0 : Int) = 0 ∧ ∃ p x D2, x ≠ 0 ∧ s_rv b n 901 q D = s_bad b n p x D2 ∧ t_FL gi41 (ar0 + 1) (s_fk b n p x) (s_F b n p))) ∧ t_lq ar0 gi gl gr gi41 gl41 gr41 from ⟨fun b n q D h => (by
                                                            obtain ⟨q2, D2, h2, hs⟩ := j1_0.1 b n q D h
                                                            have h2 : t_CS b n q2 D2 _ _ gi1 gl1 gr1 ar0 := h2
                                                            have hK : s_K b n q2 ≠ 0 := by have := h2.1.K; omega
                                                            rw [show 901 - y1_1.toNatClampNeg = (900 - y1_1.toNatClampNeg) + 1 from (by have h1 := t_clamp (i := y1_1) (by omega); omega)] at hs
                                                            have hP := s_part_3 (D := D2) (h2.1.kwT e10 h35)
                                                            obtain ⟨_, q3, D3, hX, h3⟩ := (q36.1 b n q2 D2 h2).resolve_right (fun hh => absurd hh.1 (by omega))
                                                            obtain ⟨_, hS, hf⟩ := (q41.1 b n q3 h3.1).resolve_left (fun hh => absurd hh.1 (by omega))
                                                            exact Or.inr ⟨rfl, q3, 2, D3, by decide, hs.trans (s_rv_b2 hK (hP.trans hX) hS), hf⟩), (t_lq.on (t_lq.tr j1_0.2 q36.2) q41.2 (by omega))⟩)⟩⟩
                · have r44 : w41.toInt ≠ 0 := fun e => h42 (Int32.toInt_inj.mp (e.trans (by decide : (0:Int) = (0 : Int32).toInt)))
                  have l45 : 1 ≤ w41.toInt := t_nel h42 l41 rfl rfl
                  refine ev_incR f_X6_readAll (nx := 178) (c := 1) (l := 1) (u := 901) rfl rfl (by decide) (by decide) l1_1 u4 rfl rfl (by decide) (by decide) rfl (fun z46 e46 l46 u46 => ?_)
                  refine ev_jmp f_X6_readAll (nx := 2) rfl rfl rfl ?_
                  refine ev_sub (lo := [(1, .int z46), (0, .ref ar0)]) rfl (t_sc rfl (t_sc rfl t_sn)) ?_
                  exact ih1 _ (by omega) gi41 gl41 gr41 (z46) hI hX p_a0 (Int.le_trans (by decide : (0:Int) ≤ 1) l46) u46 ⟨fun b n q D h => (by
                                                            obtain ⟨q2, D2, h2, hs⟩ := j1_0.1 b n q D h
                                                            have h2 : t_CS b n q2 D2 _ _ gi1 gl1 gr1 ar0 := h2
                                                            have hK : s_K b n q2 ≠ 0 := by have := h2.1.K; omega
                                                            have hP := s_part_3 (D := D2) (h2.1.kwT e10 h35)
                                                            obtain ⟨_, q3, D3, hX, h3⟩ := (q36.1 b n q2 D2 h2).resolve_right (fun hh => absurd hh.1 (by omega))
                                                            have h3 : t_CS b n q3 D3 _ _ gi36 gl36 gr36 ar0 := h3
                                                            obtain ⟨_, hS, hT, hF⟩ := (q41.1 b n q3 h3.1).resolve_right (fun hh => absurd hh.1 (by omega))
                                                            have h4 := h3.on hT hF q41.2
                                                            refine ⟨_, D3, h4, hs.trans ?_⟩
                                                            rw [show 901 - y1_1.toNatClampNeg = (901 - z46.toNatClampNeg) + 1 from (by have h1 := t_clamp (i := y1_1) (by omega); have h2 := t_clamp (i := z46) (by omega); omega)]
                                                            exact s_rv_ok hK (hP.trans hX) hS), (t_lq.on (t_lq.tr j1_0.2 q36.2) q41.2 (by omega))⟩ rfl
            · refine ev_loc f_X6_readAll (nx := 86) rfl rfl rfl rfl ?_
              refine ev_getR f_X6_readAll (nx := 89) (v := .ref (ar0 + 1)) rfl p_a0.1 rfl rfl e5 rfl rfl ?_
              refine ev_getR f_X6_readAll (nx := 92) (v := v10) rfl p5.1 rfl rfl e10 (t_KwR k10) rfl ?_
              refine ev_heap f_X6_readAll (nx := 95) rfl rfl rfl rfl ?_
              refine ev_ack f_X6_readAll (t1 := 98) (t2 := 106) rfl rfl rfl (t_knw k10) rfl (fun h47 => ?_) (fun h47 => ?_)
              · refine ev_loc f_X6_readAll (nx := 99) rfl rfl rfl rfl ?_
                refine ev_qI f_X6_readAll (nx := 102) (r := []) rfl rfl rfl rfl rfl rfl rfl (c_s_readEcho hI (ar0) p_a0) rfl hX rfl (fun w48 gi48 gl48 gr48 l48 u48 hI hX hC48 q48 => ?_)
                have q48 : (∀ (b : Nat → Int32) (n q : Nat) (D : s_D), t_CN b n q D gi1 gl1 gr1 ar0 → (w48.toInt = 1 ∧ ∃ q2 D2, s_echo b n q D = s_ok q2 D2 ∧ t_CN b n q2 D2 gi48 gl48 gr48 ar0) ∨ (w48.toInt = 0 ∧ ∃ p x D2, x ≠ 0 ∧ s_echo b n q D = s_bad b n p x D2 ∧ t_FL gi48 (ar0 + 1) (s_fk b n p x) (s_F b n p))) ∧ t_lq ar0 gi1 gl1 gr1 gi48 gl48 gr48 := q48
                replace p_a0 := p_a0.ext hC48.2
                replace p5 := p5.ext hC48.2
                refine ev_loc f_X6_readAll (nx := 103) (lo' := [(2, .int w48), (1, .int y1_1), (0, .ref ar0)]) rfl rfl rfl rfl ?_
                refine ev_jmp f_X6_readAll (nx := 157) rfl rfl rfl ?_
                refine ev_loc f_X6_readAll (nx := 158) rfl rfl rfl rfl ?_
                refine ev_if f_X6_readAll (t1 := 173) (t2 := 161) rfl rfl rfl (fun h49 => ?_) (fun h49 => ?_)
                · have u50 : w48.toInt ≤ 0 := t_equ h49 (by decide : (0:Int32).toInt ≤ (0:Int))
                  refine ev_ic f_X6_readAll (nx := 174) (v := 0) rfl (by decide) rfl ?_
                  exact ev_ret f_X6_readAll rfl rfl rfl ⟨_, _, _, rfl, hI, hX, ⟨_, rfl, (by decide : (0:Int) ≤ (0:Int32).toInt), (Int.le_trans (by decide : (0:Int32).toInt ≤ (0:Int)) (by decide : (0:Int) ≤ 1)), (show (∀ (b : Nat → Int32) (n q : Nat) (D : s_D), t_CN b n q D gi gl gr ar0 → ((0 : Int) = 1 ∧ ∃ q2 D2, s_rv b n 901 q D = s_ok q2 D2 ∧ t_CN b n q2 D2 gi48 gl48 gr48 ar0) ∨ ((0 : Int) = 0 ∧ ∃ p x D2, x ≠ 0 ∧ s_rv b n 901 q D = s_bad b n p x D2 ∧ t_FL gi48 (ar0 + 1) (s_fk b n p x) (s_F b n p))) ∧ t_lq ar0 gi gl gr gi48 gl48 gr48 from ⟨fun b n q D h => (by
                                                            obtain ⟨q2, D2, h2, hs⟩ := j1_0.1 b n q D h
                                                            have h2 : t_CS b n q2 D2 _ _ gi1 gl1 gr1 ar0 := h2
                                                            have hK : s_K b n q2 ≠ 0 := by have := h2.1.K; omega
                                                            rw [show 901 - y1_1.toNatClampNeg = (900 - y1_1.toNatClampNeg) + 1 from (by have h1 := t_clamp (i := y1_1) (by omega); omega)] at hs
                                                            have hP := s_part_5 (D := D2) (h2.1.kwT e10 h47)
                                                            obtain ⟨_, p, x, D3, hx, hX, hf⟩ := (q48.1 b n q2 D2 h2).resolve_left (fun hh => absurd hh.1 (by omega))
                                                            exact Or.inr ⟨rfl, p, x, D3, hx, hs.trans (s_rv_b1 hK hx (hP.trans hX)), hf⟩), (t_lq.tr j1_0.2 q48.2)⟩)⟩⟩
                · have r51 : w48.toInt ≠ 0 := fun e => h49 (Int32.toInt_inj.mp (e.trans (by decide : (0:Int) = (0 : Int32).toInt)))
                  have l52 : 1 ≤ w48.toInt := t_nel h49 l48 rfl rfl
                  refine ev_loc f_X6_readAll (nx := 162) rfl rfl rfl rfl ?_
                  refine ev_getR f_X6_readAll (nx := 165) (v := .ref (ar0 + 1)) rfl p_a0.1 rfl rfl ((hC48.1 ar0 0 (t_ninO hI.wf p_a0.1 (t_outO hI.wf p_a0.1 rfl) rfl)).2.2.trans e5) rfl rfl ?_
                  refine ev_bp f_X6_readAll (nx := 167) (v := 59) rfl (by decide) rfl ?_
                  refine ev_qI f_X6_readAll (nx := 170) (r := []) rfl rfl rfl rfl rfl rfl rfl (c_s_takeSign hI ((ar0 + 1)) p5 (59)) rfl hX rfl (fun w53 gi53 gl53 gr53 l53 u53 hI hX hC53 q53 => ?_)
                  have q53 : (∀ (b : Nat → Int32) (n q : Nat), t_TC b n q gi48 gl48 gr48 (ar0 + 1) → (w53.toInt = 1 ∧ s_isS b n q 59 ∧ t_TC b n (s_E b n q) gi53 gl53 gr53 (ar0 + 1) ∧ t_nf gi48 gi53 (ar0 + 1)) ∨ (w53.toInt = 0 ∧ ¬ s_isS b n q 59 ∧ t_FL gi53 (ar0 + 1) (s_fk b n q 2) (s_F b n q))) ∧ t_on (ar0 + 1) gi48 gl48 gr48 gi53 gl53 gr53 := q53
                  replace p_a0 := p_a0.ext hC53.2
                  replace p5 := p5.ext hC53.2
                  refine ev_if f_X6_readAll (t1 := 173) (t2 := 175) rfl rfl rfl (fun h54 => ?_) (fun h54 => ?_)
                  · have u55 : w53.toInt ≤ 0 := t_equ h54 (by decide : (0:Int32).toInt ≤ (0:Int))
                    refine ev_ic f_X6_readAll (nx := 174) (v := 0) rfl (by decide) rfl ?_
                    exact ev_ret f_X6_readAll rfl rfl rfl ⟨_, _, _, rfl, hI, hX, ⟨_, rfl, (by decide : (0:Int) ≤ (0:Int32).toInt), (Int.le_trans (by decide : (0:Int32).toInt ≤ (0:Int)) (by decide : (0:Int) ≤ 1)), (show (∀ (b : Nat → Int32) (n q : Nat) (D : s_D), t_CN b n q D gi gl gr ar0 → ((0 : Int) = 1 ∧ ∃ q2 D2, s_rv b n 901 q D = s_ok q2 D2 ∧ t_CN b n q2 D2 gi53 gl53 gr53 ar0) ∨ ((0 : Int) = 0 ∧ ∃ p x D2, x ≠ 0 ∧ s_rv b n 901 q D = s_bad b n p x D2 ∧ t_FL gi53 (ar0 + 1) (s_fk b n p x) (s_F b n p))) ∧ t_lq ar0 gi gl gr gi53 gl53 gr53 from ⟨fun b n q D h => (by
                                                            obtain ⟨q2, D2, h2, hs⟩ := j1_0.1 b n q D h
                                                            have h2 : t_CS b n q2 D2 _ _ gi1 gl1 gr1 ar0 := h2
                                                            have hK : s_K b n q2 ≠ 0 := by have := h2.1.K; omega
                                                            rw [show 901 - y1_1.toNatClampNeg = (900 - y1_1.toNatClampNeg) + 1 from (by have h1 := t_clamp (i := y1_1) (by omega); omega)] at hs
                                                            have hP := s_part_5 (D := D2) (h2.1.kwT e10 h47)
                                                            obtain ⟨_, q3, D3, hX, h3⟩ := (q48.1 b n q2 D2 h2).resolve_right (fun hh => absurd hh.1 (by omega))
                                                            obtain ⟨_, hS, hf⟩ := (q53.1 b n q3 h3.1).resolve_left (fun hh => absurd hh.1 (by omega))
                                                            exact Or.inr ⟨rfl, q3, 2, D3, by decide, hs.trans (s_rv_b2 hK (hP.trans hX) hS), hf⟩), (t_lq.on (t_lq.tr j1_0.2 q48.2) q53.2 (by omega))⟩)⟩⟩
                  · have r56 : w53.toInt ≠ 0 := fun e => h54 (Int32.toInt_inj.mp (e.trans (by decide : (0:Int) = (0 : Int32).toInt)))
                    have l57 : 1 ≤ w53.toInt := t_nel h54 l53 rfl rfl
                    refine ev_incR f_X6_readAll (nx := 178) (c := 1) (l := 1) (u := 901) rfl rfl (by decide) (by decide) l1_1 u4 rfl rfl (by decide) (by decide) rfl (fun z58 e58 l58 u58 => ?_)
                    refine ev_jmp f_X6_readAll (nx := 2) rfl rfl rfl ?_
                    refine ev_sub (lo := [(1, .int z58), (0, .ref ar0)]) rfl (t_sc rfl (t_sc rfl t_sn)) ?_
                    exact ih1 _ (by omega) gi53 gl53 gr53 (z58) hI hX p_a0 (Int.le_trans (by decide : (0:Int) ≤ 1) l58) u58 ⟨fun b n q D h => (by
                                                            obtain ⟨q2, D2, h2, hs⟩ := j1_0.1 b n q D h
                                                            have h2 : t_CS b n q2 D2 _ _ gi1 gl1 gr1 ar0 := h2
                                                            have hK : s_K b n q2 ≠ 0 := by have := h2.1.K; omega
                                                            have hP := s_part_5 (D := D2) (h2.1.kwT e10 h47)
                                                            obtain ⟨_, q3, D3, hX, h3⟩ := (q48.1 b n q2 D2 h2).resolve_right (fun hh => absurd hh.1 (by omega))
                                                            have h3 : t_CS b n q3 D3 _ _ gi48 gl48 gr48 ar0 := h3
                                                            obtain ⟨_, hS, hT, hF⟩ := (q53.1 b n q3 h3.1).resolve_right (fun hh => absurd hh.1 (by omega))
                                                            have h4 := h3.on hT hF q53.2
                                                            refine ⟨_, D3, h4, hs.trans ?_⟩
                                                            rw [show 901 - y1_1.toNatClampNeg = (901 - z58.toNatClampNeg) + 1 from (by have h1 := t_clamp (i := y1_1) (by omega); have h2 := t_clamp (i := z58) (by omega); omega)]
                                                            exact s_rv_ok hK (hP.trans hX) hS), (t_lq.on (t_lq.tr j1_0.2 q48.2) q53.2 (by omega))⟩ rfl
              · refine ev_loc f_X6_readAll (nx := 107) rfl rfl rfl rfl ?_
                refine ev_getR f_X6_readAll (nx := 110) (v := .ref (ar0 + 1)) rfl p_a0.1 rfl rfl e5 rfl rfl ?_
                refine ev_getR f_X6_readAll (nx := 113) (v := v10) rfl p5.1 rfl rfl e10 (t_KwR k10) rfl ?_
                refine ev_heap f_X6_readAll (nx := 116) rfl rfl rfl rfl ?_
                refine ev_ack f_X6_readAll (t1 := 119) (t2 := 127) rfl rfl rfl (t_knw k10) rfl (fun h59 => ?_) (fun h59 => ?_)
                · refine ev_loc f_X6_readAll (nx := 120) rfl rfl rfl rfl ?_
                  refine ev_qI f_X6_readAll (nx := 123) (r := []) rfl rfl rfl rfl rfl rfl rfl (c_s_readShip hI (ar0) p_a0) rfl hX rfl (fun w60 gi60 gl60 gr60 l60 u60 hI hX hC60 q60 => ?_)
                  have q60 : (∀ (b : Nat → Int32) (n q : Nat) (D : s_D), t_CN b n q D gi1 gl1 gr1 ar0 → (w60.toInt = 1 ∧ ∃ q2 D2, s_ship b n q D = s_ok q2 D2 ∧ t_CN b n q2 D2 gi60 gl60 gr60 ar0) ∨ (w60.toInt = 0 ∧ ∃ p x D2, x ≠ 0 ∧ s_ship b n q D = s_bad b n p x D2 ∧ t_FL gi60 (ar0 + 1) (s_fk b n p x) (s_F b n p))) ∧ t_lq ar0 gi1 gl1 gr1 gi60 gl60 gr60 := q60
                  replace p_a0 := p_a0.ext hC60.2
                  replace p5 := p5.ext hC60.2
                  refine ev_loc f_X6_readAll (nx := 124) (lo' := [(2, .int w60), (1, .int y1_1), (0, .ref ar0)]) rfl rfl rfl rfl ?_
                  refine ev_jmp f_X6_readAll (nx := 157) rfl rfl rfl ?_
                  refine ev_loc f_X6_readAll (nx := 158) rfl rfl rfl rfl ?_
                  refine ev_if f_X6_readAll (t1 := 173) (t2 := 161) rfl rfl rfl (fun h61 => ?_) (fun h61 => ?_)
                  · have u62 : w60.toInt ≤ 0 := t_equ h61 (by decide : (0:Int32).toInt ≤ (0:Int))
                    refine ev_ic f_X6_readAll (nx := 174) (v := 0) rfl (by decide) rfl ?_
                    exact ev_ret f_X6_readAll rfl rfl rfl ⟨_, _, _, rfl, hI, hX, ⟨_, rfl, (by decide : (0:Int) ≤ (0:Int32).toInt), (Int.le_trans (by decide : (0:Int32).toInt ≤ (0:Int)) (by decide : (0:Int) ≤ 1)), (show (∀ (b : Nat → Int32) (n q : Nat) (D : s_D), t_CN b n q D gi gl gr ar0 → ((0 : Int) = 1 ∧ ∃ q2 D2, s_rv b n 901 q D = s_ok q2 D2 ∧ t_CN b n q2 D2 gi60 gl60 gr60 ar0) ∨ ((0 : Int) = 0 ∧ ∃ p x D2, x ≠ 0 ∧ s_rv b n 901 q D = s_bad b n p x D2 ∧ t_FL gi60 (ar0 + 1) (s_fk b n p x) (s_F b n p))) ∧ t_lq ar0 gi gl gr gi60 gl60 gr60 from ⟨fun b n q D h => (by
                                                            obtain ⟨q2, D2, h2, hs⟩ := j1_0.1 b n q D h
                                                            have h2 : t_CS b n q2 D2 _ _ gi1 gl1 gr1 ar0 := h2
                                                            have hK : s_K b n q2 ≠ 0 := by have := h2.1.K; omega
                                                            rw [show 901 - y1_1.toNatClampNeg = (900 - y1_1.toNatClampNeg) + 1 from (by have h1 := t_clamp (i := y1_1) (by omega); omega)] at hs
                                                            have hP := s_part_6 (D := D2) (h2.1.kwT e10 h59)
                                                            obtain ⟨_, p, x, D3, hx, hX, hf⟩ := (q60.1 b n q2 D2 h2).resolve_left (fun hh => absurd hh.1 (by omega))
                                                            exact Or.inr ⟨rfl, p, x, D3, hx, hs.trans (s_rv_b1 hK hx (hP.trans hX)), hf⟩), (t_lq.tr j1_0.2 q60.2)⟩)⟩⟩
                  · have r63 : w60.toInt ≠ 0 := fun e => h61 (Int32.toInt_inj.mp (e.trans (by decide : (0:Int) = (0 : Int32).toInt)))
                    have l64 : 1 ≤ w60.toInt := t_nel h61 l60 rfl rfl
                    refine ev_loc f_X6_readAll (nx := 162) rfl rfl rfl rfl ?_
                    refine ev_getR f_X6_readAll (nx := 165) (v := .ref (ar0 + 1)) rfl p_a0.1 rfl rfl ((hC60.1 ar0 0 (t_ninO hI.wf p_a0.1 (t_outO hI.wf p_a0.1 rfl) rfl)).2.2.trans e5) rfl rfl ?_
                    refine ev_bp f_X6_readAll (nx := 167) (v := 59) rfl (by decide) rfl ?_
                    refine ev_qI f_X6_readAll (nx := 170) (r := []) rfl rfl rfl rfl rfl rfl rfl (c_s_takeSign hI ((ar0 + 1)) p5 (59)) rfl hX rfl (fun w65 gi65 gl65 gr65 l65 u65 hI hX hC65 q65 => ?_)
                    have q65 : (∀ (b : Nat → Int32) (n q : Nat), t_TC b n q gi60 gl60 gr60 (ar0 + 1) → (w65.toInt = 1 ∧ s_isS b n q 59 ∧ t_TC b n (s_E b n q) gi65 gl65 gr65 (ar0 + 1) ∧ t_nf gi60 gi65 (ar0 + 1)) ∨ (w65.toInt = 0 ∧ ¬ s_isS b n q 59 ∧ t_FL gi65 (ar0 + 1) (s_fk b n q 2) (s_F b n q))) ∧ t_on (ar0 + 1) gi60 gl60 gr60 gi65 gl65 gr65 := q65
                    replace p_a0 := p_a0.ext hC65.2
                    replace p5 := p5.ext hC65.2
                    refine ev_if f_X6_readAll (t1 := 173) (t2 := 175) rfl rfl rfl (fun h66 => ?_) (fun h66 => ?_)
                    · have u67 : w65.toInt ≤ 0 := t_equ h66 (by decide : (0:Int32).toInt ≤ (0:Int))
                      refine ev_ic f_X6_readAll (nx := 174) (v := 0) rfl (by decide) rfl ?_
                      exact ev_ret f_X6_readAll rfl rfl rfl ⟨_, _, _, rfl, hI, hX, ⟨_, rfl, (by decide : (0:Int) ≤ (0:Int32).toInt), (Int.le_trans (by decide : (0:Int32).toInt ≤ (0:Int)) (by decide : (0:Int) ≤ 1)), (show (∀ (b : Nat → Int32) (n q : Nat) (D : s_D), t_CN b n q D gi gl gr ar0 → ((0 : Int) = 1 ∧ ∃ q2 D2, s_rv b n 901 q D = s_ok q2 D2 ∧ t_CN b n q2 D2 gi65 gl65 gr65 ar0) ∨ ((0 : Int) = 0 ∧ ∃ p x D2, x ≠ 0 ∧ s_rv b n 901 q D = s_bad b n p x D2 ∧ t_FL gi65 (ar0 + 1) (s_fk b n p x) (s_F b n p))) ∧ t_lq ar0 gi gl gr gi65 gl65 gr65 from ⟨fun b n q D h => (by
                                                            obtain ⟨q2, D2, h2, hs⟩ := j1_0.1 b n q D h
                                                            have h2 : t_CS b n q2 D2 _ _ gi1 gl1 gr1 ar0 := h2
                                                            have hK : s_K b n q2 ≠ 0 := by have := h2.1.K; omega
                                                            rw [show 901 - y1_1.toNatClampNeg = (900 - y1_1.toNatClampNeg) + 1 from (by have h1 := t_clamp (i := y1_1) (by omega); omega)] at hs
                                                            have hP := s_part_6 (D := D2) (h2.1.kwT e10 h59)
                                                            obtain ⟨_, q3, D3, hX, h3⟩ := (q60.1 b n q2 D2 h2).resolve_right (fun hh => absurd hh.1 (by omega))
                                                            obtain ⟨_, hS, hf⟩ := (q65.1 b n q3 h3.1).resolve_left (fun hh => absurd hh.1 (by omega))
                                                            exact Or.inr ⟨rfl, q3, 2, D3, by decide, hs.trans (s_rv_b2 hK (hP.trans hX) hS), hf⟩), (t_lq.on (t_lq.tr j1_0.2 q60.2) q65.2 (by omega))⟩)⟩⟩
                    · have r68 : w65.toInt ≠ 0 := fun e => h66 (Int32.toInt_inj.mp (e.trans (by decide : (0:Int) = (0 : Int32).toInt)))
                      have l69 : 1 ≤ w65.toInt := t_nel h66 l65 rfl rfl
                      refine ev_incR f_X6_readAll (nx := 178) (c := 1) (l := 1) (u := 901) rfl rfl (by decide) (by decide) l1_1 u4 rfl rfl (by decide) (by decide) rfl (fun z70 e70 l70 u70 => ?_)
                      refine ev_jmp f_X6_readAll (nx := 2) rfl rfl rfl ?_
                      refine ev_sub (lo := [(1, .int z70), (0, .ref ar0)]) rfl (t_sc rfl (t_sc rfl t_sn)) ?_
                      exact ih1 _ (by omega) gi65 gl65 gr65 (z70) hI hX p_a0 (Int.le_trans (by decide : (0:Int) ≤ 1) l70) u70 ⟨fun b n q D h => (by
                                                            obtain ⟨q2, D2, h2, hs⟩ := j1_0.1 b n q D h
                                                            have h2 : t_CS b n q2 D2 _ _ gi1 gl1 gr1 ar0 := h2
                                                            have hK : s_K b n q2 ≠ 0 := by have := h2.1.K; omega
                                                            have hP := s_part_6 (D := D2) (h2.1.kwT e10 h59)
                                                            obtain ⟨_, q3, D3, hX, h3⟩ := (q60.1 b n q2 D2 h2).resolve_right (fun hh => absurd hh.1 (by omega))
                                                            have h3 : t_CS b n q3 D3 _ _ gi60 gl60 gr60 ar0 := h3
                                                            obtain ⟨_, hS, hT, hF⟩ := (q65.1 b n q3 h3.1).resolve_right (fun hh => absurd hh.1 (by omega))
                                                            have h4 := h3.on hT hF q65.2
                                                            refine ⟨_, D3, h4, hs.trans ?_⟩
                                                            rw [show 901 - y1_1.toNatClampNeg = (901 - z70.toNatClampNeg) + 1 from (by have h1 := t_clamp (i := y1_1) (by omega); have h2 := t_clamp (i := z70) (by omega); omega)]
                                                            exact s_rv_ok hK (hP.trans hX) hS), (t_lq.on (t_lq.tr j1_0.2 q60.2) q65.2 (by omega))⟩ rfl
                · refine ev_loc f_X6_readAll (nx := 128) rfl rfl rfl rfl ?_
                  refine ev_getR f_X6_readAll (nx := 131) (v := .ref (ar0 + 1)) rfl p_a0.1 rfl rfl e5 rfl rfl ?_
                  refine ev_getR f_X6_readAll (nx := 134) (v := v10) rfl p5.1 rfl rfl e10 (t_KwR k10) rfl ?_
                  refine ev_heap f_X6_readAll (nx := 137) rfl rfl rfl rfl ?_
                  refine ev_ack f_X6_readAll (t1 := 140) (t2 := 148) rfl rfl rfl (t_knw k10) rfl (fun h71 => ?_) (fun h71 => ?_)
                  · refine ev_loc f_X6_readAll (nx := 141) rfl rfl rfl rfl ?_
                    refine ev_qI f_X6_readAll (nx := 144) (r := []) rfl rfl rfl rfl rfl rfl rfl (c_s_readCart hI (ar0) p_a0) rfl hX rfl (fun w72 gi72 gl72 gr72 l72 u72 hI hX hC72 q72 => ?_)
                    have q72 : (∀ (b : Nat → Int32) (n q : Nat) (D : s_D), t_CN b n q D gi1 gl1 gr1 ar0 → (w72.toInt = 1 ∧ ∃ q2 D2, s_cart b n q D = s_ok q2 D2 ∧ t_CN b n q2 D2 gi72 gl72 gr72 ar0) ∨ (w72.toInt = 0 ∧ ∃ p x D2, x ≠ 0 ∧ s_cart b n q D = s_bad b n p x D2 ∧ t_FL gi72 (ar0 + 1) (s_fk b n p x) (s_F b n p))) ∧ t_lq ar0 gi1 gl1 gr1 gi72 gl72 gr72 := q72
                    replace p_a0 := p_a0.ext hC72.2
                    replace p5 := p5.ext hC72.2
                    refine ev_loc f_X6_readAll (nx := 145) (lo' := [(2, .int w72), (1, .int y1_1), (0, .ref ar0)]) rfl rfl rfl rfl ?_
                    refine ev_jmp f_X6_readAll (nx := 157) rfl rfl rfl ?_
                    refine ev_loc f_X6_readAll (nx := 158) rfl rfl rfl rfl ?_
                    refine ev_if f_X6_readAll (t1 := 173) (t2 := 161) rfl rfl rfl (fun h73 => ?_) (fun h73 => ?_)
                    · have u74 : w72.toInt ≤ 0 := t_equ h73 (by decide : (0:Int32).toInt ≤ (0:Int))
                      refine ev_ic f_X6_readAll (nx := 174) (v := 0) rfl (by decide) rfl ?_
                      exact ev_ret f_X6_readAll rfl rfl rfl ⟨_, _, _, rfl, hI, hX, ⟨_, rfl, (by decide : (0:Int) ≤ (0:Int32).toInt), (Int.le_trans (by decide : (0:Int32).toInt ≤ (0:Int)) (by decide : (0:Int) ≤ 1)), (show (∀ (b : Nat → Int32) (n q : Nat) (D : s_D), t_CN b n q D gi gl gr ar0 → ((0 : Int) = 1 ∧ ∃ q2 D2, s_rv b n 901 q D = s_ok q2 D2 ∧ t_CN b n q2 D2 gi72 gl72 gr72 ar0) ∨ ((0 : Int) = 0 ∧ ∃ p x D2, x ≠ 0 ∧ s_rv b n 901 q D = s_bad b n p x D2 ∧ t_FL gi72 (ar0 + 1) (s_fk b n p x) (s_F b n p))) ∧ t_lq ar0 gi gl gr gi72 gl72 gr72 from ⟨fun b n q D h => (by
                                                            obtain ⟨q2, D2, h2, hs⟩ := j1_0.1 b n q D h
                                                            have h2 : t_CS b n q2 D2 _ _ gi1 gl1 gr1 ar0 := h2
                                                            have hK : s_K b n q2 ≠ 0 := by have := h2.1.K; omega
                                                            rw [show 901 - y1_1.toNatClampNeg = (900 - y1_1.toNatClampNeg) + 1 from (by have h1 := t_clamp (i := y1_1) (by omega); omega)] at hs
                                                            have hP := s_part_12 (D := D2) (h2.1.kwT e10 h71)
                                                            obtain ⟨_, p, x, D3, hx, hX, hf⟩ := (q72.1 b n q2 D2 h2).resolve_left (fun hh => absurd hh.1 (by omega))
                                                            exact Or.inr ⟨rfl, p, x, D3, hx, hs.trans (s_rv_b1 hK hx (hP.trans hX)), hf⟩), (t_lq.tr j1_0.2 q72.2)⟩)⟩⟩
                    · have r75 : w72.toInt ≠ 0 := fun e => h73 (Int32.toInt_inj.mp (e.trans (by decide : (0:Int) = (0 : Int32).toInt)))
                      have l76 : 1 ≤ w72.toInt := t_nel h73 l72 rfl rfl
                      refine ev_loc f_X6_readAll (nx := 162) rfl rfl rfl rfl ?_
                      refine ev_getR f_X6_readAll (nx := 165) (v := .ref (ar0 + 1)) rfl p_a0.1 rfl rfl ((hC72.1 ar0 0 (t_ninO hI.wf p_a0.1 (t_outO hI.wf p_a0.1 rfl) rfl)).2.2.trans e5) rfl rfl ?_
                      refine ev_bp f_X6_readAll (nx := 167) (v := 59) rfl (by decide) rfl ?_
                      refine ev_qI f_X6_readAll (nx := 170) (r := []) rfl rfl rfl rfl rfl rfl rfl (c_s_takeSign hI ((ar0 + 1)) p5 (59)) rfl hX rfl (fun w77 gi77 gl77 gr77 l77 u77 hI hX hC77 q77 => ?_)
                      have q77 : (∀ (b : Nat → Int32) (n q : Nat), t_TC b n q gi72 gl72 gr72 (ar0 + 1) → (w77.toInt = 1 ∧ s_isS b n q 59 ∧ t_TC b n (s_E b n q) gi77 gl77 gr77 (ar0 + 1) ∧ t_nf gi72 gi77 (ar0 + 1)) ∨ (w77.toInt = 0 ∧ ¬ s_isS b n q 59 ∧ t_FL gi77 (ar0 + 1) (s_fk b n q 2) (s_F b n q))) ∧ t_on (ar0 + 1) gi72 gl72 gr72 gi77 gl77 gr77 := q77
                      replace p_a0 := p_a0.ext hC77.2
                      replace p5 := p5.ext hC77.2
                      refine ev_if f_X6_readAll (t1 := 173) (t2 := 175) rfl rfl rfl (fun h78 => ?_) (fun h78 => ?_)
                      · have u79 : w77.toInt ≤ 0 := t_equ h78 (by decide : (0:Int32).toInt ≤ (0:Int))
                        refine ev_ic f_X6_readAll (nx := 174) (v := 0) rfl (by decide) rfl ?_
                        exact ev_ret f_X6_readAll rfl rfl rfl ⟨_, _, _, rfl, hI, hX, ⟨_, rfl, (by decide : (0:Int) ≤ (0:Int32).toInt), (Int.le_trans (by decide : (0:Int32).toInt ≤ (0:Int)) (by decide : (0:Int) ≤ 1)), (show (∀ (b : Nat → Int32) (n q : Nat) (D : s_D), t_CN b n q D gi gl gr ar0 → ((0 : Int) = 1 ∧ ∃ q2 D2, s_rv b n 901 q D = s_ok q2 D2 ∧ t_CN b n q2 D2 gi77 gl77 gr77 ar0) ∨ ((0 : Int) = 0 ∧ ∃ p x D2, x ≠ 0 ∧ s_rv b n 901 q D = s_bad b n p x D2 ∧ t_FL gi77 (ar0 + 1) (s_fk b n p x) (s_F b n p))) ∧ t_lq ar0 gi gl gr gi77 gl77 gr77 from ⟨fun b n q D h => (by
                                                            obtain ⟨q2, D2, h2, hs⟩ := j1_0.1 b n q D h
                                                            have h2 : t_CS b n q2 D2 _ _ gi1 gl1 gr1 ar0 := h2
                                                            have hK : s_K b n q2 ≠ 0 := by have := h2.1.K; omega
                                                            rw [show 901 - y1_1.toNatClampNeg = (900 - y1_1.toNatClampNeg) + 1 from (by have h1 := t_clamp (i := y1_1) (by omega); omega)] at hs
                                                            have hP := s_part_12 (D := D2) (h2.1.kwT e10 h71)
                                                            obtain ⟨_, q3, D3, hX, h3⟩ := (q72.1 b n q2 D2 h2).resolve_right (fun hh => absurd hh.1 (by omega))
                                                            obtain ⟨_, hS, hf⟩ := (q77.1 b n q3 h3.1).resolve_left (fun hh => absurd hh.1 (by omega))
                                                            exact Or.inr ⟨rfl, q3, 2, D3, by decide, hs.trans (s_rv_b2 hK (hP.trans hX) hS), hf⟩), (t_lq.on (t_lq.tr j1_0.2 q72.2) q77.2 (by omega))⟩)⟩⟩
                      · have r80 : w77.toInt ≠ 0 := fun e => h78 (Int32.toInt_inj.mp (e.trans (by decide : (0:Int) = (0 : Int32).toInt)))
                        have l81 : 1 ≤ w77.toInt := t_nel h78 l77 rfl rfl
                        refine ev_incR f_X6_readAll (nx := 178) (c := 1) (l := 1) (u := 901) rfl rfl (by decide) (by decide) l1_1 u4 rfl rfl (by decide) (by decide) rfl (fun z82 e82 l82 u82 => ?_)
                        refine ev_jmp f_X6_readAll (nx := 2) rfl rfl rfl ?_
                        refine ev_sub (lo := [(1, .int z82), (0, .ref ar0)]) rfl (t_sc rfl (t_sc rfl t_sn)) ?_
                        exact ih1 _ (by omega) gi77 gl77 gr77 (z82) hI hX p_a0 (Int.le_trans (by decide : (0:Int) ≤ 1) l82) u82 ⟨fun b n q D h => (by
                                                            obtain ⟨q2, D2, h2, hs⟩ := j1_0.1 b n q D h
                                                            have h2 : t_CS b n q2 D2 _ _ gi1 gl1 gr1 ar0 := h2
                                                            have hK : s_K b n q2 ≠ 0 := by have := h2.1.K; omega
                                                            have hP := s_part_12 (D := D2) (h2.1.kwT e10 h71)
                                                            obtain ⟨_, q3, D3, hX, h3⟩ := (q72.1 b n q2 D2 h2).resolve_right (fun hh => absurd hh.1 (by omega))
                                                            have h3 : t_CS b n q3 D3 _ _ gi72 gl72 gr72 ar0 := h3
                                                            obtain ⟨_, hS, hT, hF⟩ := (q77.1 b n q3 h3.1).resolve_right (fun hh => absurd hh.1 (by omega))
                                                            have h4 := h3.on hT hF q77.2
                                                            refine ⟨_, D3, h4, hs.trans ?_⟩
                                                            rw [show 901 - y1_1.toNatClampNeg = (901 - z82.toNatClampNeg) + 1 from (by have h1 := t_clamp (i := y1_1) (by omega); have h2 := t_clamp (i := z82) (by omega); omega)]
                                                            exact s_rv_ok hK (hP.trans hX) hS), (t_lq.on (t_lq.tr j1_0.2 q72.2) q77.2 (by omega))⟩ rfl
                  · refine ev_loc f_X6_readAll (nx := 149) rfl rfl rfl rfl ?_
                    refine ev_getR f_X6_readAll (nx := 152) (v := .ref (ar0 + 1)) rfl p_a0.1 rfl rfl e5 rfl rfl ?_
                    refine ev_ic f_X6_readAll (nx := 153) (v := 2) rfl (by decide) rfl ?_
                    refine ev_qI f_X6_readAll (nx := 156) (r := []) rfl rfl rfl rfl rfl rfl rfl (c_s_refuse hI ((ar0 + 1)) p5 (2) (by decide : (2:Int) ≤ (2:Int32).toInt) (Int.le_trans (by decide : (2:Int32).toInt ≤ (2:Int)) (by decide : (2:Int) ≤ 7))) rfl hX rfl (fun w83 gi83 gl83 gr83 l83 u83 hI hX hC83 q83 => ?_)
                    have q83 : (∀ (b : Nat → Int32) (n q : Nat), t_TC b n q gi1 gl1 gr1 (ar0 + 1) → t_FL gi83 (ar0 + 1) (s_fk b n q 2) (s_F b n q)) ∧ w83.toInt = 0 ∧ t_on (ar0 + 1) gi1 gl1 gr1 gi83 gl83 gr83 := q83
                    replace p_a0 := p_a0.ext hC83.2
                    replace p5 := p5.ext hC83.2
                    refine ev_alu f_X6_readAll (nx := 157) rfl rfl rfl rfl ?_
                    refine ev_loc f_X6_readAll (nx := 158) rfl rfl rfl rfl ?_
                    refine ev_t f_X6_readAll (t1 := 173) (t2 := 161) rfl rfl rfl (by decide) ?_
                    refine ev_ic f_X6_readAll (nx := 174) (v := 0) rfl (by decide) rfl ?_
                    exact ev_ret f_X6_readAll rfl rfl rfl ⟨_, _, _, rfl, hI, hX, ⟨_, rfl, (by decide : (0:Int) ≤ (0:Int32).toInt), (Int.le_trans (by decide : (0:Int32).toInt ≤ (0:Int)) (by decide : (0:Int) ≤ 1)), (show (∀ (b : Nat → Int32) (n q : Nat) (D : s_D), t_CN b n q D gi gl gr ar0 → ((0 : Int) = 1 ∧ ∃ q2 D2, s_rv b n 901 q D = s_ok q2 D2 ∧ t_CN b n q2 D2 gi83 gl83 gr83 ar0) ∨ ((0 : Int) = 0 ∧ ∃ p x D2, x ≠ 0 ∧ s_rv b n 901 q D = s_bad b n p x D2 ∧ t_FL gi83 (ar0 + 1) (s_fk b n p x) (s_F b n p))) ∧ t_lq ar0 gi gl gr gi83 gl83 gr83 from ⟨fun b n q D h => (by
                                                            obtain ⟨q2, D2, h2, hs⟩ := j1_0.1 b n q D h
                                                            have h2 : t_CS b n q2 D2 _ _ gi1 gl1 gr1 ar0 := h2
                                                            have hK : s_K b n q2 ≠ 0 := by have := h2.1.K; omega
                                                            rw [show 901 - y1_1.toNatClampNeg = (900 - y1_1.toNatClampNeg) + 1 from (by have h1 := t_clamp (i := y1_1) (by omega); omega)] at hs
                                                            have hP := s_part_x (D := D2) (h2.1.kwF e10 h11) (h2.1.kwF e10 h23) (h2.1.kwF e10 h35) (h2.1.kwF e10 h47) (h2.1.kwF e10 h59) (h2.1.kwF e10 h71)
                                                            exact Or.inr ⟨rfl, q2, 2, D2, by decide, hs.trans (s_rv_b1 hK (by decide) hP), q83.1 b n q2 h2.1⟩), (t_lq.on j1_0.2 q83.2.2 (by omega))⟩)⟩⟩
  refine ev_sub (lo := [(1, .int 0), (0, .ref ar0)]) rfl (t_sc rfl (t_sc rfl t_sn)) ?_
  exact L1 _ gi gl gr (0) hI hX p_a0 (by decide : (0:Int) ≤ (0:Int32).toInt) (Int.le_trans (by decide : (0:Int32).toInt ≤ (0:Int)) (by decide : (0:Int) ≤ 901)) ⟨fun b n q D h => ⟨q, D, h, congrArg (fun k => s_rv b n k q D) (by decide : 901 = 901 - (0 : Int32).toNatClampNeg)⟩, t_lq.rf⟩ rfl
