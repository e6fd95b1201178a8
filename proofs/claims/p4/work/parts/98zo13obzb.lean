/-! ===== printed by riv.py: the RULES of the class ===== -/
theorem r_ue_readOne {X : x_Ext} {d : Nat} {sh : List (Nat ⊕ (Nat × Nat))} : ∀ (r : Nat) {gi : Nat → Nat → Int32} {gl : Nat → Nat → Int64} {gr : Nat → Nat → Value} (hI : t_I sh gi gr) (ar0 : Nat) (p_a0 : t_UQ sh gr ar0) (ar1 : Int32) (l_a1 : 0 ≤ ar1.toInt) (u_a1 : ar1.toInt ≤ 6), (6 - ar1.toInt).toNat < r → x_Me X (d + 8 * r + 5) n_X8_readOne [.ref ar0, .int ar1] (sh, gi, gl, gr) (t_PI wl_ue_readOne sh gi gl gr 0 1 (Q_ue_readOne sh gi gl gr ar0 ar1)) := by
  intro r
  induction r with
  | zero => intro gi gl gr hI ar0 p_a0 ar1 l_a1 u_a1 hr; omega
  | succ r ih =>
  intro gi gl gr hI ar0 p_a0 ar1 l_a1 u_a1 hr
  rw [show d + 8 * (r + 1) + 5 = d + 8 * r + 13 by omega]
  have hX : t_X wl_ue_readOne sh gi gl gr gi gl gr := t_X.rf
  refine me_i f_X8_readOne p_a0.1 rfl rfl rfl ?_
  refine ev_loc f_X8_readOne (nx := 1) rfl rfl rfl rfl ?_
  have e1 := p_a0.2.2.1.1
  have p1 := p_a0.2.2.1.2
  refine ev_getR f_X8_readOne (nx := 4) rfl p_a0.1 rfl rfl e1 rfl rfl ?_
  have k2 := hI.2.2.2.1.2.2.2.2.2 (ar0 + 1) p1.1
  obtain ⟨v2, e2⟩ : ∃ v, gr (ar0 + 1) 7 = v := ⟨_, rfl⟩
  rw [e2] at k2
  refine ev_getR f_X8_readOne (nx := 7) rfl p1.1 rfl rfl e2 (t_KwR k2) rfl ?_
  refine ev_heap f_X8_readOne (nx := 10) rfl rfl rfl rfl ?_
  refine ev_ack f_X8_readOne (t1 := 25) (t2 := 13) rfl rfl rfl (t_knw k2) rfl (fun h3 => ?_) (fun h3 => ?_)
  · refine ev_ic f_X8_readOne (nx := 26) (v := 1) rfl (by decide) rfl ?_
    refine ev_jmp f_X8_readOne (nx := 30) rfl rfl rfl ?_
    refine ev_loc f_X8_readOne (nx := 31) (lo' := [(2, .int 1), (0, .ref ar0), (1, .int ar1)]) rfl rfl rfl rfl ?_
    refine ev_loc f_X8_readOne (nx := 32) rfl rfl rfl rfl ?_
    refine ev_qI0 f_X8_readOne (nx := 35) (r := []) rfl rfl rfl rfl rfl rfl rfl (c_ue_factTold hI (ar0) p_a0) rfl (fun w4 l4 u4 q4 => ?_)
    have q4 : ∀ (b : Nat → Int32) (n q : Nat), t_TC b n q gi gl gr (ar0 + 1) → (w4.toInt ≠ -1 ↔ s_fct b n q) ∧ (w4.toInt = 0 ↔ s_opn b n q) ∧ (1 ≤ w4.toInt → s_mi (s_W b n q) = 21 + w4.toInt) := q4
    refine ev_loc f_X8_readOne (nx := 36) (lo' := [(3, .int w4), (2, .int 1), (0, .ref ar0), (1, .int ar1)]) rfl rfl rfl rfl ?_
    refine ev_loc f_X8_readOne (nx := 37) rfl rfl rfl rfl ?_
    refine ev_f f_X8_readOne (t1 := 40) (t2 := 54) rfl rfl rfl (by decide) ?_
    refine ev_loc f_X8_readOne (nx := 55) rfl rfl rfl rfl ?_
    refine ev_f f_X8_readOne (t1 := 58) (t2 := 77) rfl rfl rfl (by decide) ?_
    refine ev_loc f_X8_readOne (nx := 78) rfl rfl rfl rfl ?_
    refine ev_bp f_X8_readOne (nx := 80) (v := 6) rfl (by decide) rfl ?_
    refine ev_if f_X8_readOne (t1 := 93) (t2 := 83) rfl rfl rfl (fun h5 => ?_) (fun h5 => ?_)
    · have u6 : ar1.toInt ≤ 5 := t_ltu h5 (by decide : (6:Int32).toInt ≤ (6:Int)) rfl
      refine ev_loc f_X8_readOne (nx := 94) rfl rfl rfl rfl ?_
      refine ev_f f_X8_readOne (t1 := 105) (t2 := 97) rfl rfl rfl (by decide) ?_
      refine ev_loc f_X8_readOne (nx := 98) rfl rfl rfl rfl ?_
      refine ev_loc f_X8_readOne (nx := 99) rfl rfl rfl rfl ?_
      refine ev_inV2 f_X8_readOne (nx := 102) (lo2 := [(0, .ref ar0), (1, .int ar1)]) rfl rfl rfl rfl f_X8_readNested p_a0.1 rfl rfl rfl rfl rfl ?_
      refine ev_loc f_X8_readNested (nx := 1) rfl rfl rfl rfl ?_
      refine ev_getR f_X8_readNested (nx := 4) (v := .ref (ar0 + 1)) rfl p_a0.1 rfl rfl e1 rfl rfl ?_
      refine ev_getR f_X8_readNested (nx := 7) (v := v2) rfl p1.1 rfl rfl e2 (t_KwR k2) rfl ?_
      refine ev_heap f_X8_readNested (nx := 10) rfl rfl rfl rfl ?_
      refine ev_ackT f_X8_readNested (t1 := 13) (t2 := 17) rfl rfl rfl (t_knw k2) rfl h3 ?_
      refine ev_ic f_X8_readNested (nx := 14) (v := 1) rfl (by decide) rfl ?_
      refine ev_jmp f_X8_readNested (nx := 18) rfl rfl rfl ?_
      refine ev_loc f_X8_readNested (nx := 19) (lo' := [(2, .int 1), (0, .ref ar0), (1, .int ar1)]) rfl rfl rfl rfl ?_
      refine ev_loc f_X8_readNested (nx := 20) rfl rfl rfl rfl ?_
      refine ev_getR f_X8_readNested (nx := 23) (v := .ref (ar0 + 1)) rfl p_a0.1 rfl rfl e1 rfl rfl ?_
      refine ev_qN f_X8_readNested (nx := 26) (r := []) rfl rfl rfl rfl rfl rfl rfl (c_s_step hI ((ar0 + 1)) p1) rfl hX rfl (fun gi7 gl7 gr7 hI hX hC7 q7 => ?_)
      have q7 : (∀ (b : Nat → Int32) (n q : Nat), t_Sp b n q gi (ar0 + 1) → t_TC b n q gi7 gl7 gr7 (ar0 + 1)) ∧ t_nf gi gi7 (ar0 + 1) ∧ t_on (ar0 + 1) gi gl gr gi7 gl7 gr7 := q7
      replace p_a0 := p_a0.ext hC7.2
      replace p1 := p1.ext hC7.2
      refine ev_loc f_X8_readNested (nx := 27) rfl rfl rfl rfl ?_
      refine ev_f f_X8_readNested (t1 := 30) (t2 := 58) rfl rfl rfl (by decide) ?_
      refine ev_loc f_X8_readNested (nx := 59) rfl rfl rfl rfl ?_
      refine ev_loc f_X8_readNested (nx := 60) rfl rfl rfl rfl ?_
      refine ev_ic f_X8_readNested (nx := 61) (v := 1) rfl (by decide) rfl ?_
      refine ev_addC f_X8_readNested (nx := 62) (c := 1) (l := 1) (u := 6) rfl (by decide) l_a1 u6 rfl rfl (by decide) (by decide) rfl (fun z8 e8 l8 u8 => ?_)
      refine ev_qI f_X8_readNested (nx := 65) (r := []) rfl rfl rfl rfl rfl rfl rfl (x_Me.up (ih hI (ar0) p_a0 (z8) (Int.le_trans (by decide : (0:Int) ≤ 1) l8) u8 (by omega)) (by omega)) rfl hX rfl (fun w9 gi9 gl9 gr9 l9 u9 hI hX hC9 q9 => ?_)
      have q9 : (∀ (b : Nat → Int32) (n q c : Nat) (T : List Int), t_US b n q c gi7 gl7 gr7 ar0 → (T.length : Int) = z8.toInt → (w9.toInt = 1 ∧ ∃ q2 c2, s_Cnd b n false q c T = s_Cnd b n true q2 c2 (s_pop T) ∧ q < q2 ∧ t_US b n q2 c2 gi9 gl9 gr9 ar0 ∧ t_UT gi7 gi9 ar0 ∧ ∀ E : List Int, t_UE sh gi7 ar0 n q E → ∃ S : List Int, S.length + q ≤ q2 ∧ t_UE sh gi9 ar0 n q2 (E ++ S) ∧ s_e1 b n q q2 S) ∨ (w9.toInt = 0 ∧ ∃ p x, x ≠ 0 ∧ s_Cnd b n false q c T = s_qb b n p x ∧ t_FL gi9 (ar0 + 1) (s_fk b n p x) (s_F b n p))) ∧ t_lq ar0 gi7 gl7 gr7 gi9 gl9 gr9 := q9
      replace p_a0 := p_a0.ext hC9.2
      replace p1 := p1.ext hC9.2
      refine ev_if f_X8_readNested (t1 := 68) (t2 := 70) rfl rfl rfl (fun h10 => ?_) (fun h10 => ?_)
      · have u11 : w9.toInt ≤ 0 := t_equ h10 (by decide : (0:Int32).toInt ≤ (0:Int))
        refine ev_ic f_X8_readNested (nx := 69) (v := 0) rfl (by decide) rfl ?_
        refine ev_retK1 f_X8_readNested rfl rfl rfl ?_
        refine ev_jmp f_X8_readOne (nx := 110) rfl rfl rfl ?_
        exact ev_ret f_X8_readOne rfl rfl rfl ⟨_, _, _, rfl, hI, hX, ⟨_, rfl, (by decide : (0:Int) ≤ (0:Int32).toInt), (Int.le_trans (by decide : (0:Int32).toInt ≤ (0:Int)) (by decide : (0:Int) ≤ 1)), (show (∀ (b : Nat → Int32) (n q c : Nat) (T : List Int), t_US b n q c gi gl gr ar0 → (T.length : Int) = ar1.toInt → ((0 : Int) = 1 ∧ ∃ q2 c2, s_Cnd b n false q c T = s_Cnd b n true q2 c2 (s_pop T) ∧ q < q2 ∧ t_US b n q2 c2 gi9 gl9 gr9 ar0 ∧ t_UT gi gi9 ar0 ∧ ∀ E : List Int, t_UE sh gi ar0 n q E → ∃ S : List Int, S.length + q ≤ q2 ∧ t_UE sh gi9 ar0 n q2 (E ++ S) ∧ s_e1 b n q q2 S) ∨ ((0 : Int) = 0 ∧ ∃ p x, x ≠ 0 ∧ s_Cnd b n false q c T = s_qb b n p x ∧ t_FL gi9 (ar0 + 1) (s_fk b n p x) (s_F b n p))) ∧ t_lq ar0 gi gl gr gi9 gl9 gr9 from ⟨(by
                                                            intro b n q c T h hT
                                                            have h102 := p_a0.2.1
                                                            have hq := h.qn
                                                            have hcc := h.2.1.2
                                                            have hW := h.1.kwT e2 h3
                                                            have hN : s_nst b n q := Or.inl hW
                                                            have hg := s_nst_gt hN
                                                            have h1 := h.on (q7.1 b n _ h.1.S) q7.2.1 q7.2.2
                                                            have h6 : T.length ≠ 6 := by omega
                                                            have hl : ∀ y : Int, (((y :: T).length : Nat) : Int) = (T.length : Int) + 1 := fun y => by rw [List.length_cons]; omega
                                                            have hB := s_Cnd_n hq hN h6 (c := c)
                                                            rw [s_brk20 hW] at hB
                                                            obtain ⟨_, p, x, hx, hX, hf2⟩ := (q9.1 b n _ c (20 :: T) h1 (by have := hl 20; omega)).resolve_left (fun hh => absurd hh.1 (by omega))
                                                            exact Or.inr ⟨rfl, p, x, hx, hB.trans hX, hf2⟩), (t_lq.tr (t_lq.on t_lq.rf q7.2.2 (by omega)) q9.2)⟩)⟩⟩
      · have r12 : w9.toInt ≠ 0 := fun e => h10 (Int32.toInt_inj.mp (e.trans (by decide : (0:Int) = (0 : Int32).toInt)))
        have l13 : 1 ≤ w9.toInt := t_nel h10 l9 rfl rfl
        refine ev_loc f_X8_readNested (nx := 71) rfl rfl rfl rfl ?_
        have e14 := p_a0.2.2.2.1
        have p14 := p_a0.2.2.2.2
        refine ev_getR f_X8_readNested (nx := 74) rfl p_a0.1 rfl rfl e14 rfl rfl ?_
        refine ev_ic f_X8_readNested (nx := 75) (v := 3) rfl (by decide) rfl ?_
        refine ev_ic f_X8_readNested (nx := 76) (v := 0) rfl (by decide) rfl ?_
        refine ev_ic f_X8_readNested (nx := 77) (v := 0) rfl (by decide) rfl ?_
        refine ev_qN f_X8_readNested (nx := 80) (r := []) rfl rfl rfl rfl rfl rfl rfl (c_ue_addStep hI ((ar0 + 2)) p14 (3) (0) (0)) rfl hX rfl (fun gi15 gl15 gr15 hI hX hC15 q15 => ?_)
        have q15 : t_xc [(ar0 + 2), (ar0 + 2) + 3, (ar0 + 2) + 4, (ar0 + 2) + 5] gi9 gl9 gr9 gi15 gl15 gr15 ∧ gi15 (ar0 + 2) 0 = gi9 (ar0 + 2) 0 ∧ ∀ n : Nat, sh[(ar0 + 2) + 3]? = some (.inr (0, n)) → (gi9 (ar0 + 2) 3).toInt < (n : Int) → t_AS gi9 gi15 (ar0 + 2) (3 : Int32) (0 : Int32) (0 : Int32) := q15
        replace p_a0 := p_a0.ext hC15.2
        replace p1 := p1.ext hC15.2
        replace p14 := p14.ext hC15.2
        refine ev_ic f_X8_readNested (nx := 81) (v := 1) rfl (by decide) rfl ?_
        refine ev_retK1 f_X8_readNested rfl rfl rfl ?_
        refine ev_jmp f_X8_readOne (nx := 110) rfl rfl rfl ?_
        exact ev_ret f_X8_readOne rfl rfl rfl ⟨_, _, _, rfl, hI, hX, ⟨_, rfl, (Int.le_trans (by decide : (0:Int) ≤ 1) (by decide : (1:Int) ≤ (1:Int32).toInt)), (by decide : (1:Int32).toInt ≤ (1:Int)), (show (∀ (b : Nat → Int32) (n q c : Nat) (T : List Int), t_US b n q c gi gl gr ar0 → (T.length : Int) = ar1.toInt → ((1 : Int) = 1 ∧ ∃ q2 c2, s_Cnd b n false q c T = s_Cnd b n true q2 c2 (s_pop T) ∧ q < q2 ∧ t_US b n q2 c2 gi15 gl15 gr15 ar0 ∧ t_UT gi gi15 ar0 ∧ ∀ E : List Int, t_UE sh gi ar0 n q E → ∃ S : List Int, S.length + q ≤ q2 ∧ t_UE sh gi15 ar0 n q2 (E ++ S) ∧ s_e1 b n q q2 S) ∨ ((1 : Int) = 0 ∧ ∃ p x, x ≠ 0 ∧ s_Cnd b n false q c T = s_qb b n p x ∧ t_FL gi15 (ar0 + 1) (s_fk b n p x) (s_F b n p))) ∧ t_lq ar0 gi gl gr gi15 gl15 gr15 from ⟨(by
                                                            intro b n q c T h hT
                                                            have h102 := p_a0.2.1
                                                            have hq := h.qn
                                                            have hcc := h.2.1.2
                                                            have hW := h.1.kwT e2 h3
                                                            have hN : s_nst b n q := Or.inl hW
                                                            have hg := s_nst_gt hN
                                                            have h1 := h.on (q7.1 b n _ h.1.S) q7.2.1 q7.2.2
                                                            have h6 : T.length ≠ 6 := by omega
                                                            have hl : ∀ y : Int, (((y :: T).length : Nat) : Int) = (T.length : Int) + 1 := fun y => by rw [List.length_cons]; omega
                                                            have hB := s_Cnd_n hq hN h6 (c := c)
                                                            rw [s_brk20 hW] at hB
                                                            obtain ⟨_, q2, c2, hX, hlt, h2, hT2, hE2⟩ := (q9.1 b n _ c (20 :: T) h1 (by have := hl 20; omega)).resolve_right (fun hh => absurd hh.1 (by omega))
                                                            rw [s_pop20] at hX
                                                            have h3 := h2.xc q15.1 (by intro x hx; simp only [List.mem_cons, List.not_mem_nil, or_false] at hx; omega)
                                                            have hq2 := h2.qn
                                                            have hUT : t_UT gi gi15 ar0 := ((t_UT.rf.on q7.2.2 (by omega)).tr hT2).xc q15.1
                                                            have hEM : ∀ E : List Int, t_UE sh gi ar0 n q E → ∃ S : List Int, S.length + q ≤ q2 ∧ t_UE sh gi15 ar0 n q2 (E ++ S) ∧ s_e1 b n q q2 S := by
                                                              intro E hE
                                                              obtain ⟨S, s1, s2, s3⟩ := hE2 E (hE.on q7.2.2 (by omega) (Nat.le_of_lt hg.1))
                                                              have hb := hE.2.1.2
                                                              refine ⟨S ++ [20], by rw [List.length_append, List.length_singleton]; omega, ?_, s_e1_n hq hW s3⟩
                                                              rw [← List.append_assoc]
                                                              exact s2.ad2 (by rw [List.length_append]; omega) (by rw [List.length_append]; omega) q15.2.2 (s_cdr_n rfl rfl)
                                                            exact Or.inl ⟨rfl, q2, c2, hB.trans hX, by omega, h3, hUT, hEM⟩), (t_lq.ex (t_lq.tr (t_lq.on t_lq.rf q7.2.2 (by omega)) q9.2) q15.1 (by intro x hx; simp only [List.mem_cons, List.not_mem_nil, or_false] at hx; omega))⟩)⟩⟩
    · have l16 : 6 ≤ ar1.toInt := t_lel (t_nlt h5) (by decide : (6:Int) ≤ (6:Int32).toInt)
      refine ev_loc f_X8_readOne (nx := 84) rfl rfl rfl rfl ?_
      refine ev_getR f_X8_readOne (nx := 87) (v := .ref (ar0 + 1)) rfl p_a0.1 rfl rfl e1 rfl rfl ?_
      refine ev_bp f_X8_readOne (nx := 89) (v := 7) rfl (by decide) rfl ?_
      refine ev_qI f_X8_readOne (nx := 92) (r := []) rfl rfl rfl rfl rfl rfl rfl (c_s_refuse hI ((ar0 + 1)) p1 (7) (Int.le_trans (by decide : (2:Int) ≤ 7) (by decide : (7:Int) ≤ (7:Int32).toInt)) (by decide : (7:Int32).toInt ≤ (7:Int))) rfl hX rfl (fun w17 gi17 gl17 gr17 l17 u17 hI hX hC17 q17 => ?_)
      have q17 : (∀ (b : Nat → Int32) (n q : Nat), t_TC b n q gi gl gr (ar0 + 1) → t_FL gi17 (ar0 + 1) (s_fk b n q 7) (s_F b n q)) ∧ w17.toInt = 0 ∧ t_on (ar0 + 1) gi gl gr gi17 gl17 gr17 := q17
      replace p_a0 := p_a0.ext hC17.2
      replace p1 := p1.ext hC17.2
      exact ev_retZ f_X8_readOne rfl l17 (Int.le_trans u17 (by decide : (0:Int) ≤ 1)) ⟨_, _, _, rfl, hI, hX, ⟨_, rfl, l17, (Int.le_trans u17 (by decide : (0:Int) ≤ 1)), (show (∀ (b : Nat → Int32) (n q c : Nat) (T : List Int), t_US b n q c gi gl gr ar0 → (T.length : Int) = ar1.toInt → (w17.toInt = 1 ∧ ∃ q2 c2, s_Cnd b n false q c T = s_Cnd b n true q2 c2 (s_pop T) ∧ q < q2 ∧ t_US b n q2 c2 gi17 gl17 gr17 ar0 ∧ t_UT gi gi17 ar0 ∧ ∀ E : List Int, t_UE sh gi ar0 n q E → ∃ S : List Int, S.length + q ≤ q2 ∧ t_UE sh gi17 ar0 n q2 (E ++ S) ∧ s_e1 b n q q2 S) ∨ (w17.toInt = 0 ∧ ∃ p x, x ≠ 0 ∧ s_Cnd b n false q c T = s_qb b n p x ∧ t_FL gi17 (ar0 + 1) (s_fk b n p x) (s_F b n p))) ∧ t_lq ar0 gi gl gr gi17 gl17 gr17 from ⟨(by
                                                            intro b n q c T h hT
                                                            have h102 := p_a0.2.1
                                                            have hq := h.qn
                                                            have hcc := h.2.1.2
                                                            have hW := h.1.kwT e2 h3
                                                            have hN : s_nst b n q := Or.inl hW
                                                            exact Or.inr ⟨q17.2.1, q, 7, by decide, s_Cnd_n6 hq hN (by omega), q17.1 b n q h.1⟩), (t_lq.on t_lq.rf q17.2.2 (by omega))⟩)⟩⟩
  · refine ev_loc f_X8_readOne (nx := 14) rfl rfl rfl rfl ?_
    refine ev_getR f_X8_readOne (nx := 17) (v := .ref (ar0 + 1)) rfl p_a0.1 rfl rfl e1 rfl rfl ?_
    refine ev_bp f_X8_readOne (nx := 19) (v := 40) rfl (by decide) rfl ?_
    refine ev_qI0 f_X8_readOne (nx := 22) (r := []) rfl rfl rfl rfl rfl rfl rfl (c_s_isSignOf hI ((ar0 + 1)) p1 (40)) rfl (fun w18 l18 u18 q18 => ?_)
    have q18 : ∀ (b : Nat → Int32) (n q : Nat), t_TC b n q gi gl gr (ar0 + 1) → (w18.toInt = 1 ↔ s_isS b n q 40) := q18
    refine ev_if f_X8_readOne (t1 := 29) (t2 := 25) rfl rfl rfl (fun h19 => ?_) (fun h19 => ?_)
    · have u20 : w18.toInt ≤ 0 := t_equ h19 (by decide : (0:Int32).toInt ≤ (0:Int))
      refine ev_ic f_X8_readOne (nx := 30) (v := 0) rfl (by decide) rfl ?_
      refine ev_loc f_X8_readOne (nx := 31) (lo' := [(2, .int 0), (0, .ref ar0), (1, .int ar1)]) rfl rfl rfl rfl ?_
      refine ev_loc f_X8_readOne (nx := 32) rfl rfl rfl rfl ?_
      refine ev_qI0 f_X8_readOne (nx := 35) (r := []) rfl rfl rfl rfl rfl rfl rfl (c_ue_factTold hI (ar0) p_a0) rfl (fun w21 l21 u21 q21 => ?_)
      have q21 : ∀ (b : Nat → Int32) (n q : Nat), t_TC b n q gi gl gr (ar0 + 1) → (w21.toInt ≠ -1 ↔ s_fct b n q) ∧ (w21.toInt = 0 ↔ s_opn b n q) ∧ (1 ≤ w21.toInt → s_mi (s_W b n q) = 21 + w21.toInt) := q21
      refine ev_loc f_X8_readOne (nx := 36) (lo' := [(3, .int w21), (2, .int 0), (0, .ref ar0), (1, .int ar1)]) rfl rfl rfl rfl ?_
      refine ev_loc f_X8_readOne (nx := 37) rfl rfl rfl rfl ?_
      refine ev_t f_X8_readOne (t1 := 40) (t2 := 54) rfl rfl rfl (by decide) ?_
      refine ev_loc f_X8_readOne (nx := 41) rfl rfl rfl rfl ?_
      refine ev_ic f_X8_readOne (nx := 42) (v := -1) rfl (by decide) rfl ?_
      refine ev_if f_X8_readOne (t1 := 45) (t2 := 54) rfl rfl rfl (fun h22 => ?_) (fun h22 => ?_)
      · have u23 : w21.toInt ≤ (-1) := t_equ h22 (by decide : ((-1):Int32).toInt ≤ ((-1):Int))
        refine ev_loc f_X8_readOne (nx := 46) rfl rfl rfl rfl ?_
        refine ev_getR f_X8_readOne (nx := 49) (v := .ref (ar0 + 1)) rfl p_a0.1 rfl rfl e1 rfl rfl ?_
        refine ev_ic f_X8_readOne (nx := 50) (v := 2) rfl (by decide) rfl ?_
        refine ev_qI f_X8_readOne (nx := 53) (r := []) rfl rfl rfl rfl rfl rfl rfl (c_s_refuse hI ((ar0 + 1)) p1 (2) (by decide : (2:Int) ≤ (2:Int32).toInt) (Int.le_trans (by decide : (2:Int32).toInt ≤ (2:Int)) (by decide : (2:Int) ≤ 7))) rfl hX rfl (fun w24 gi24 gl24 gr24 l24 u24 hI hX hC24 q24 => ?_)
        have q24 : (∀ (b : Nat → Int32) (n q : Nat), t_TC b n q gi gl gr (ar0 + 1) → t_FL gi24 (ar0 + 1) (s_fk b n q 2) (s_F b n q)) ∧ w24.toInt = 0 ∧ t_on (ar0 + 1) gi gl gr gi24 gl24 gr24 := q24
        replace p_a0 := p_a0.ext hC24.2
        replace p1 := p1.ext hC24.2
        exact ev_retZ f_X8_readOne rfl l24 (Int.le_trans u24 (by decide : (0:Int) ≤ 1)) ⟨_, _, _, rfl, hI, hX, ⟨_, rfl, l24, (Int.le_trans u24 (by decide : (0:Int) ≤ 1)), (show (∀ (b : Nat → Int32) (n q c : Nat) (T : List Int), t_US b n q c gi gl gr ar0 → (T.length : Int) = ar1.toInt → (w24.toInt = 1 ∧ ∃ q2 c2, s_Cnd b n false q c T = s_Cnd b n true q2 c2 (s_pop T) ∧ q < q2 ∧ t_US b n q2 c2 gi24 gl24 gr24 ar0 ∧ t_UT gi gi24 ar0 ∧ ∀ E : List Int, t_UE sh gi ar0 n q E → ∃ S : List Int, S.length + q ≤ q2 ∧ t_UE sh gi24 ar0 n q2 (E ++ S) ∧ s_e1 b n q q2 S) ∨ (w24.toInt = 0 ∧ ∃ p x, x ≠ 0 ∧ s_Cnd b n false q c T = s_qb b n p x ∧ t_FL gi24 (ar0 + 1) (s_fk b n p x) (s_F b n p))) ∧ t_lq ar0 gi gl gr gi24 gl24 gr24 from ⟨(by
                                                            intro b n q c T h hT
                                                            have h102 := p_a0.2.1
                                                            have hq := h.qn
                                                            have hcc := h.2.1.2
                                                            have hN : ¬ s_nst b n q := fun hh => hh.elim (h.1.kwF e2 h3) (fun x => absurd ((q18 b n q h.1).mpr x) (by omega))
                                                            have hf : ¬ s_fct b n q := fun hh => (q21 b n q h.1).1.mpr hh (by omega)
                                                            exact Or.inr ⟨q24.2.1, q, 2, by decide, s_Cnd_f hq hN hf, q24.1 b n q h.1⟩), (t_lq.on t_lq.rf q24.2.2 (by omega))⟩)⟩⟩
      · have r25 : w21.toInt ≠ (-1) := fun e => h22 (Int32.toInt_inj.mp (e.trans (by decide : ((-1):Int) = ((-1) : Int32).toInt)))
        have l26 : 0 ≤ w21.toInt := t_nel h22 l21 rfl rfl
        refine ev_loc f_X8_readOne (nx := 55) rfl rfl rfl rfl ?_
        refine ev_t f_X8_readOne (t1 := 58) (t2 := 77) rfl rfl rfl (by decide) ?_
        refine ev_loc f_X8_readOne (nx := 59) rfl rfl rfl rfl ?_
        refine ev_getI f_X8_readOne (nx := 62) rfl p_a0.1 rfl rfl rfl ?_
        refine ev_bp f_X8_readOne (nx := 64) (v := 24) rfl (by decide) rfl ?_
        refine ev_if f_X8_readOne (t1 := 77) (t2 := 67) rfl rfl rfl (fun h27 => ?_) (fun h27 => ?_)
        · have u28 : (gi ar0 2).toInt ≤ 23 := t_ltu h27 (by decide : (24:Int32).toInt ≤ (24:Int)) rfl
          refine ev_loc f_X8_readOne (nx := 78) rfl rfl rfl rfl ?_
          refine ev_bp f_X8_readOne (nx := 80) (v := 6) rfl (by decide) rfl ?_
          refine ev_if f_X8_readOne (t1 := 93) (t2 := 83) rfl rfl rfl (fun h29 => ?_) (fun h29 => ?_)
          · have u30 : ar1.toInt ≤ 5 := t_ltu h29 (by decide : (6:Int32).toInt ≤ (6:Int)) rfl
            refine ev_loc f_X8_readOne (nx := 94) rfl rfl rfl rfl ?_
            refine ev_t f_X8_readOne (t1 := 105) (t2 := 97) rfl rfl rfl (by decide) ?_
            refine ev_loc f_X8_readOne (nx := 106) rfl rfl rfl rfl ?_
            refine ev_loc f_X8_readOne (nx := 107) rfl rfl rfl rfl ?_
            refine ev_qI f_X8_readOne (nx := 110) (r := []) rfl rfl rfl rfl rfl rfl rfl (c_ue_readCase hI (ar0) p_a0 (w21) l26 u21 (by omega)) rfl hX rfl (fun w31 gi31 gl31 gr31 l31 u31 hI hX hC31 q31 => ?_)
            have q31 : (∀ (b : Nat → Int32) (n q c : Nat), t_US b n q c gi gl gr ar0 → (w21.toInt = 0 ↔ s_opn b n q) → s_fct b n q → (w31.toInt = 1 ∧ ∃ q2, (∀ k, s_cse b n q k = k q2) ∧ q < q2 ∧ t_US b n q2 (c + 1) gi31 gl31 gr31 ar0 ∧ s_cok b n q ∧ q2 = s_cx b n q ∧ t_UT gi gi31 ar0 ∧ ∀ E : List Int, (1 ≤ w21.toInt → s_mi (s_W b n q) = 21 + w21.toInt) → t_UE sh gi ar0 n q E → t_UE sh gi31 ar0 n q2 (E ++ [s_ccd b n q])) ∨ (w31.toInt = 0 ∧ ∃ p x, x ≠ 0 ∧ (∀ k, s_cse b n q k = s_qb b n p x) ∧ t_FL gi31 (ar0 + 1) (s_fk b n p x) (s_F b n p))) ∧ t_lq ar0 gi gl gr gi31 gl31 gr31 := q31
            replace p_a0 := p_a0.ext hC31.2
            replace p1 := p1.ext hC31.2
            exact ev_retZ f_X8_readOne rfl l31 u31 ⟨_, _, _, rfl, hI, hX, ⟨_, rfl, l31, u31, (show (∀ (b : Nat → Int32) (n q c : Nat) (T : List Int), t_US b n q c gi gl gr ar0 → (T.length : Int) = ar1.toInt → (w31.toInt = 1 ∧ ∃ q2 c2, s_Cnd b n false q c T = s_Cnd b n true q2 c2 (s_pop T) ∧ q < q2 ∧ t_US b n q2 c2 gi31 gl31 gr31 ar0 ∧ t_UT gi gi31 ar0 ∧ ∀ E : List Int, t_UE sh gi ar0 n q E → ∃ S : List Int, S.length + q ≤ q2 ∧ t_UE sh gi31 ar0 n q2 (E ++ S) ∧ s_e1 b n q q2 S) ∨ (w31.toInt = 0 ∧ ∃ p x, x ≠ 0 ∧ s_Cnd b n false q c T = s_qb b n p x ∧ t_FL gi31 (ar0 + 1) (s_fk b n p x) (s_F b n p))) ∧ t_lq ar0 gi gl gr gi31 gl31 gr31 from ⟨(by
                                                            intro b n q c T h hT
                                                            have h102 := p_a0.2.1
                                                            have hq := h.qn
                                                            have hcc := h.2.1.2
                                                            have hN : ¬ s_nst b n q := fun hh => hh.elim (h.1.kwF e2 h3) (fun x => absurd ((q18 b n q h.1).mpr x) (by omega))
                                                            have hf : s_fct b n q := (q21 b n q h.1).1.mp (by omega)
                                                            rcases q31.1 b n q c h (q21 b n q h.1).2.1 hf with hh | hh
                                                            · obtain ⟨hv, q2, hK, hlt, h2, hk1, hk2, hk4, hk3⟩ := hh
                                                              exact Or.inl ⟨hv, q2, c + 1, (s_Cnd_s hq hN hf (by omega) (by omega)).trans (hK _), hlt, h2, hk4, fun E hE => ⟨[s_ccd b n q], by rw [List.length_singleton]; omega, hk3 E (q21 b n q h.1).2.2 hE, by rw [hk2]; exact s_e1_c hq hN hk1⟩⟩
                                                            · obtain ⟨hv, p, x, hx, hK, hf2⟩ := hh
                                                              exact Or.inr ⟨hv, p, x, hx, (s_Cnd_s hq hN hf (by omega) (by omega)).trans (hK _), hf2⟩), (t_lq.tr t_lq.rf q31.2)⟩)⟩⟩
          · have l32 : 6 ≤ ar1.toInt := t_lel (t_nlt h29) (by decide : (6:Int) ≤ (6:Int32).toInt)
            refine ev_loc f_X8_readOne (nx := 84) rfl rfl rfl rfl ?_
            refine ev_getR f_X8_readOne (nx := 87) (v := .ref (ar0 + 1)) rfl p_a0.1 rfl rfl e1 rfl rfl ?_
            refine ev_bp f_X8_readOne (nx := 89) (v := 7) rfl (by decide) rfl ?_
            refine ev_qI f_X8_readOne (nx := 92) (r := []) rfl rfl rfl rfl rfl rfl rfl (c_s_refuse hI ((ar0 + 1)) p1 (7) (Int.le_trans (by decide : (2:Int) ≤ 7) (by decide : (7:Int) ≤ (7:Int32).toInt)) (by decide : (7:Int32).toInt ≤ (7:Int))) rfl hX rfl (fun w33 gi33 gl33 gr33 l33 u33 hI hX hC33 q33 => ?_)
            have q33 : (∀ (b : Nat → Int32) (n q : Nat), t_TC b n q gi gl gr (ar0 + 1) → t_FL gi33 (ar0 + 1) (s_fk b n q 7) (s_F b n q)) ∧ w33.toInt = 0 ∧ t_on (ar0 + 1) gi gl gr gi33 gl33 gr33 := q33
            replace p_a0 := p_a0.ext hC33.2
            replace p1 := p1.ext hC33.2
            exact ev_retZ f_X8_readOne rfl l33 (Int.le_trans u33 (by decide : (0:Int) ≤ 1)) ⟨_, _, _, rfl, hI, hX, ⟨_, rfl, l33, (Int.le_trans u33 (by decide : (0:Int) ≤ 1)), (show (∀ (b : Nat → Int32) (n q c : Nat) (T : List Int), t_US b n q c gi gl gr ar0 → (T.length : Int) = ar1.toInt → (w33.toInt = 1 ∧ ∃ q2 c2, s_Cnd b n false q c T = s_Cnd b n true q2 c2 (s_pop T) ∧ q < q2 ∧ t_US b n q2 c2 gi33 gl33 gr33 ar0 ∧ t_UT gi gi33 ar0 ∧ ∀ E : List Int, t_UE sh gi ar0 n q E → ∃ S : List Int, S.length + q ≤ q2 ∧ t_UE sh gi33 ar0 n q2 (E ++ S) ∧ s_e1 b n q q2 S) ∨ (w33.toInt = 0 ∧ ∃ p x, x ≠ 0 ∧ s_Cnd b n false q c T = s_qb b n p x ∧ t_FL gi33 (ar0 + 1) (s_fk b n p x) (s_F b n p))) ∧ t_lq ar0 gi gl gr gi33 gl33 gr33 from ⟨(by
                                                            intro b n q c T h hT
                                                            have h102 := p_a0.2.1
                                                            have hq := h.qn
                                                            have hcc := h.2.1.2
                                                            have hN : ¬ s_nst b n q := fun hh => hh.elim (h.1.kwF e2 h3) (fun x => absurd ((q18 b n q h.1).mpr x) (by omega))
                                                            have hf : s_fct b n q := (q21 b n q h.1).1.mp (by omega)
                                                            exact Or.inr ⟨q33.2.1, q, 7, by decide, s_Cnd_d hq hN hf (by omega) (by omega), q33.1 b n q h.1⟩), (t_lq.on t_lq.rf q33.2.2 (by omega))⟩)⟩⟩
        · have l34 : 24 ≤ (gi ar0 2).toInt := t_lel (t_nlt h27) (by decide : (24:Int) ≤ (24:Int32).toInt)
          refine ev_loc f_X8_readOne (nx := 68) rfl rfl rfl rfl ?_
          refine ev_getR f_X8_readOne (nx := 71) (v := .ref (ar0 + 1)) rfl p_a0.1 rfl rfl e1 rfl rfl ?_
          refine ev_bp f_X8_readOne (nx := 73) (v := 6) rfl (by decide) rfl ?_
          refine ev_qI f_X8_readOne (nx := 76) (r := []) rfl rfl rfl rfl rfl rfl rfl (c_s_refuse hI ((ar0 + 1)) p1 (6) (Int.le_trans (by decide : (2:Int) ≤ 6) (by decide : (6:Int) ≤ (6:Int32).toInt)) (Int.le_trans (by decide : (6:Int32).toInt ≤ (6:Int)) (by decide : (6:Int) ≤ 7))) rfl hX rfl (fun w35 gi35 gl35 gr35 l35 u35 hI hX hC35 q35 => ?_)
          have q35 : (∀ (b : Nat → Int32) (n q : Nat), t_TC b n q gi gl gr (ar0 + 1) → t_FL gi35 (ar0 + 1) (s_fk b n q 6) (s_F b n q)) ∧ w35.toInt = 0 ∧ t_on (ar0 + 1) gi gl gr gi35 gl35 gr35 := q35
          replace p_a0 := p_a0.ext hC35.2
          replace p1 := p1.ext hC35.2
          exact ev_retZ f_X8_readOne rfl l35 (Int.le_trans u35 (by decide : (0:Int) ≤ 1)) ⟨_, _, _, rfl, hI, hX, ⟨_, rfl, l35, (Int.le_trans u35 (by decide : (0:Int) ≤ 1)), (show (∀ (b : Nat → Int32) (n q c : Nat) (T : List Int), t_US b n q c gi gl gr ar0 → (T.length : Int) = ar1.toInt → (w35.toInt = 1 ∧ ∃ q2 c2, s_Cnd b n false q c T = s_Cnd b n true q2 c2 (s_pop T) ∧ q < q2 ∧ t_US b n q2 c2 gi35 gl35 gr35 ar0 ∧ t_UT gi gi35 ar0 ∧ ∀ E : List Int, t_UE sh gi ar0 n q E → ∃ S : List Int, S.length + q ≤ q2 ∧ t_UE sh gi35 ar0 n q2 (E ++ S) ∧ s_e1 b n q q2 S) ∨ (w35.toInt = 0 ∧ ∃ p x, x ≠ 0 ∧ s_Cnd b n false q c T = s_qb b n p x ∧ t_FL gi35 (ar0 + 1) (s_fk b n p x) (s_F b n p))) ∧ t_lq ar0 gi gl gr gi35 gl35 gr35 from ⟨(by
                                                            intro b n q c T h hT
                                                            have h102 := p_a0.2.1
                                                            have hq := h.qn
                                                            have hcc := h.2.1.2
                                                            have hN : ¬ s_nst b n q := fun hh => hh.elim (h.1.kwF e2 h3) (fun x => absurd ((q18 b n q h.1).mpr x) (by omega))
                                                            have hf : s_fct b n q := (q21 b n q h.1).1.mp (by omega)
                                                            exact Or.inr ⟨q35.2.1, q, 6, by decide, s_Cnd_m hq hN hf (by omega), q35.1 b n q h.1⟩), (t_lq.on t_lq.rf q35.2.2 (by omega))⟩)⟩⟩
    · have r36 : w18.toInt ≠ 0 := fun e => h19 (Int32.toInt_inj.mp (e.trans (by decide : (0:Int) = (0 : Int32).toInt)))
      have l37 : 1 ≤ w18.toInt := t_nel h19 l18 rfl rfl
      refine ev_ic f_X8_readOne (nx := 26) (v := 1) rfl (by decide) rfl ?_
      refine ev_jmp f_X8_readOne (nx := 30) rfl rfl rfl ?_
      refine ev_loc f_X8_readOne (nx := 31) (lo' := [(2, .int 1), (0, .ref ar0), (1, .int ar1)]) rfl rfl rfl rfl ?_
      refine ev_loc f_X8_readOne (nx := 32) rfl rfl rfl rfl ?_
      refine ev_qI0 f_X8_readOne (nx := 35) (r := []) rfl rfl rfl rfl rfl rfl rfl (c_ue_factTold hI (ar0) p_a0) rfl (fun w38 l38 u38 q38 => ?_)
      have q38 : ∀ (b : Nat → Int32) (n q : Nat), t_TC b n q gi gl gr (ar0 + 1) → (w38.toInt ≠ -1 ↔ s_fct b n q) ∧ (w38.toInt = 0 ↔ s_opn b n q) ∧ (1 ≤ w38.toInt → s_mi (s_W b n q) = 21 + w38.toInt) := q38
      refine ev_loc f_X8_readOne (nx := 36) (lo' := [(3, .int w38), (2, .int 1), (0, .ref ar0), (1, .int ar1)]) rfl rfl rfl rfl ?_
      refine ev_loc f_X8_readOne (nx := 37) rfl rfl rfl rfl ?_
      refine ev_f f_X8_readOne (t1 := 40) (t2 := 54) rfl rfl rfl (by decide) ?_
      refine ev_loc f_X8_readOne (nx := 55) rfl rfl rfl rfl ?_
      refine ev_f f_X8_readOne (t1 := 58) (t2 := 77) rfl rfl rfl (by decide) ?_
      refine ev_loc f_X8_readOne (nx := 78) rfl rfl rfl rfl ?_
      refine ev_bp f_X8_readOne (nx := 80) (v := 6) rfl (by decide) rfl ?_
      refine ev_if f_X8_readOne (t1 := 93) (t2 := 83) rfl rfl rfl (fun h39 => ?_) (fun h39 => ?_)
      · have u40 : ar1.toInt ≤ 5 := t_ltu h39 (by decide : (6:Int32).toInt ≤ (6:Int)) rfl
        refine ev_loc f_X8_readOne (nx := 94) rfl rfl rfl rfl ?_
        refine ev_f f_X8_readOne (t1 := 105) (t2 := 97) rfl rfl rfl (by decide) ?_
        refine ev_loc f_X8_readOne (nx := 98) rfl rfl rfl rfl ?_
        refine ev_loc f_X8_readOne (nx := 99) rfl rfl rfl rfl ?_
        refine ev_inV2 f_X8_readOne (nx := 102) (lo2 := [(0, .ref ar0), (1, .int ar1)]) rfl rfl rfl rfl f_X8_readNested p_a0.1 rfl rfl rfl rfl rfl ?_
        refine ev_loc f_X8_readNested (nx := 1) rfl rfl rfl rfl ?_
        refine ev_getR f_X8_readNested (nx := 4) (v := .ref (ar0 + 1)) rfl p_a0.1 rfl rfl e1 rfl rfl ?_
        refine ev_getR f_X8_readNested (nx := 7) (v := v2) rfl p1.1 rfl rfl e2 (t_KwR k2) rfl ?_
        refine ev_heap f_X8_readNested (nx := 10) rfl rfl rfl rfl ?_
        refine ev_ackF f_X8_readNested (t1 := 13) (t2 := 17) rfl rfl rfl (t_knw k2) rfl h3 ?_
        refine ev_ic f_X8_readNested (nx := 18) (v := 0) rfl (by decide) rfl ?_
        refine ev_loc f_X8_readNested (nx := 19) (lo' := [(2, .int 0), (0, .ref ar0), (1, .int ar1)]) rfl rfl rfl rfl ?_
        refine ev_loc f_X8_readNested (nx := 20) rfl rfl rfl rfl ?_
        refine ev_getR f_X8_readNested (nx := 23) (v := .ref (ar0 + 1)) rfl p_a0.1 rfl rfl e1 rfl rfl ?_
        refine ev_qN f_X8_readNested (nx := 26) (r := []) rfl rfl rfl rfl rfl rfl rfl (c_s_step hI ((ar0 + 1)) p1) rfl hX rfl (fun gi41 gl41 gr41 hI hX hC41 q41 => ?_)
        have q41 : (∀ (b : Nat → Int32) (n q : Nat), t_Sp b n q gi (ar0 + 1) → t_TC b n q gi41 gl41 gr41 (ar0 + 1)) ∧ t_nf gi gi41 (ar0 + 1) ∧ t_on (ar0 + 1) gi gl gr gi41 gl41 gr41 := q41
        replace p_a0 := p_a0.ext hC41.2
        replace p1 := p1.ext hC41.2
        refine ev_loc f_X8_readNested (nx := 27) rfl rfl rfl rfl ?_
        refine ev_t f_X8_readNested (t1 := 30) (t2 := 58) rfl rfl rfl (by decide) ?_
        refine ev_loc f_X8_readNested (nx := 31) rfl rfl rfl rfl ?_
        refine ev_loc f_X8_readNested (nx := 32) rfl rfl rfl rfl ?_
        refine ev_ic f_X8_readNested (nx := 33) (v := 1) rfl (by decide) rfl ?_
        refine ev_addC f_X8_readNested (nx := 34) (c := 1) (l := 1) (u := 6) rfl (by decide) l_a1 u40 rfl rfl (by decide) (by decide) rfl (fun z42 e42 l42 u42 => ?_)
        refine ev_qI f_X8_readNested (nx := 37) (r := []) rfl rfl rfl rfl rfl rfl rfl (c_ue_readEither hI (ar0) p_a0 (z42) (Int.le_trans (by decide : (0:Int) ≤ 1) l42) u42 (fun hI p => x_Me.up (ih hI _ p _ (Int.le_trans (by decide : (0:Int) ≤ 1) l42) u42 (by omega)) (by omega))) rfl hX rfl (fun w43 gi43 gl43 gr43 l43 u43 hI hX hC43 q43 => ?_)
        have q43 : (∀ (b : Nat → Int32) (n q c : Nat) (T : List Int), t_US b n q c gi41 gl41 gr41 ar0 → (T.length : Int) = z42.toInt → s_pop T = T → (w43.toInt = 1 ∧ ∃ q2 c2, s_Cnd b n false q c T = s_Cnd b n true q2 c2 T ∧ q < q2 ∧ t_US b n q2 c2 gi43 gl43 gr43 ar0 ∧ ¬ s_jnd b n q2 ∧ t_UT gi41 gi43 ar0 ∧ ∀ E : List Int, t_UE sh gi41 ar0 n q E → ∃ S : List Int, S.length + q ≤ q2 ∧ t_UE sh gi43 ar0 n q2 (E ++ S) ∧ s_e3 b n q q2 S) ∨ (w43.toInt = 0 ∧ ∃ p x, x ≠ 0 ∧ s_Cnd b n false q c T = s_qb b n p x ∧ t_FL gi43 (ar0 + 1) (s_fk b n p x) (s_F b n p))) ∧ t_lq ar0 gi41 gl41 gr41 gi43 gl43 gr43 := q43
        replace p_a0 := p_a0.ext hC43.2
        replace p1 := p1.ext hC43.2
        refine ev_if f_X8_readNested (t1 := 56) (t2 := 40) rfl rfl rfl (fun h44 => ?_) (fun h44 => ?_)
        · have u45 : w43.toInt ≤ 0 := t_equ h44 (by decide : (0:Int32).toInt ≤ (0:Int))
          refine ev_ic f_X8_readNested (nx := 57) (v := 0) rfl (by decide) rfl ?_
          refine ev_retK1 f_X8_readNested rfl rfl rfl ?_
          refine ev_jmp f_X8_readOne (nx := 110) rfl rfl rfl ?_
          exact ev_ret f_X8_readOne rfl rfl rfl ⟨_, _, _, rfl, hI, hX, ⟨_, rfl, (by decide : (0:Int) ≤ (0:Int32).toInt), (Int.le_trans (by decide : (0:Int32).toInt ≤ (0:Int)) (by decide : (0:Int) ≤ 1)), (show (∀ (b : Nat → Int32) (n q c : Nat) (T : List Int), t_US b n q c gi gl gr ar0 → (T.length : Int) = ar1.toInt → ((0 : Int) = 1 ∧ ∃ q2 c2, s_Cnd b n false q c T = s_Cnd b n true q2 c2 (s_pop T) ∧ q < q2 ∧ t_US b n q2 c2 gi43 gl43 gr43 ar0 ∧ t_UT gi gi43 ar0 ∧ ∀ E : List Int, t_UE sh gi ar0 n q E → ∃ S : List Int, S.length + q ≤ q2 ∧ t_UE sh gi43 ar0 n q2 (E ++ S) ∧ s_e1 b n q q2 S) ∨ ((0 : Int) = 0 ∧ ∃ p x, x ≠ 0 ∧ s_Cnd b n false q c T = s_qb b n p x ∧ t_FL gi43 (ar0 + 1) (s_fk b n p x) (s_F b n p))) ∧ t_lq ar0 gi gl gr gi43 gl43 gr43 from ⟨(by
                                                            intro b n q c T h hT
                                                            have h102 := p_a0.2.1
                                                            have hq := h.qn
                                                            have hcc := h.2.1.2
                                                            have hS := (q18 b n q h.1).mp (by omega)
                                                            have hN : s_nst b n q := Or.inr hS
                                                            have hg := s_nst_gt hN
                                                            have h1 := h.on (q41.1 b n _ h.1.S) q41.2.1 q41.2.2
                                                            have h6 : T.length ≠ 6 := by omega
                                                            have hl : ∀ y : Int, (((y :: T).length : Nat) : Int) = (T.length : Int) + 1 := fun y => by rw [List.length_cons]; omega
                                                            have hB := s_Cnd_n hq hN h6 (c := c)
                                                            rw [s_brk40 hS] at hB
                                                            obtain ⟨_, p, x, hx, hX, hf2⟩ := (q43.1 b n _ c (40 :: T) h1 (by have := hl 40; omega) s_pop40).resolve_left (fun hh => absurd hh.1 (by omega))
                                                            exact Or.inr ⟨rfl, p, x, hx, hB.trans hX, hf2⟩), (t_lq.tr (t_lq.on t_lq.rf q41.2.2 (by omega)) q43.2)⟩)⟩⟩
        · have r46 : w43.toInt ≠ 0 := fun e => h44 (Int32.toInt_inj.mp (e.trans (by decide : (0:Int) = (0 : Int32).toInt)))
          have l47 : 1 ≤ w43.toInt := t_nel h44 l43 rfl rfl
          refine ev_loc f_X8_readNested (nx := 41) rfl rfl rfl rfl ?_
          refine ev_getR f_X8_readNested (nx := 44) (v := .ref (ar0 + 1)) rfl p_a0.1 rfl rfl ((hC43.1 ar0 0 (t_ninO hI.wf p_a0.1 (t_outO hI.wf p_a0.1 rfl) rfl)).2.2.trans ((hC41.1 ar0 0 (t_ninO hI.wf p_a0.1 (t_outO hI.wf p_a0.1 rfl) rfl)).2.2.trans e1)) rfl rfl ?_
          refine ev_bp f_X8_readNested (nx := 46) (v := 41) rfl (by decide) rfl ?_
          refine ev_qI f_X8_readNested (nx := 49) (r := []) rfl rfl rfl rfl rfl rfl rfl (c_s_takeSign hI ((ar0 + 1)) p1 (41)) rfl hX rfl (fun w48 gi48 gl48 gr48 l48 u48 hI hX hC48 q48 => ?_)
          have q48 : (∀ (b : Nat → Int32) (n q : Nat), t_TC b n q gi43 gl43 gr43 (ar0 + 1) → (w48.toInt = 1 ∧ s_isS b n q 41 ∧ t_TC b n (s_E b n q) gi48 gl48 gr48 (ar0 + 1) ∧ t_nf gi43 gi48 (ar0 + 1)) ∨ (w48.toInt = 0 ∧ ¬ s_isS b n q 41 ∧ t_FL gi48 (ar0 + 1) (s_fk b n q 2) (s_F b n q))) ∧ t_on (ar0 + 1) gi43 gl43 gr43 gi48 gl48 gr48 := q48
          replace p_a0 := p_a0.ext hC48.2
          replace p1 := p1.ext hC48.2
          refine ev_if f_X8_readNested (t1 := 56) (t2 := 52) rfl rfl rfl (fun h49 => ?_) (fun h49 => ?_)
          · have u50 : w48.toInt ≤ 0 := t_equ h49 (by decide : (0:Int32).toInt ≤ (0:Int))
            refine ev_ic f_X8_readNested (nx := 57) (v := 0) rfl (by decide) rfl ?_
            refine ev_retK1 f_X8_readNested rfl rfl rfl ?_
            refine ev_jmp f_X8_readOne (nx := 110) rfl rfl rfl ?_
            exact ev_ret f_X8_readOne rfl rfl rfl ⟨_, _, _, rfl, hI, hX, ⟨_, rfl, (by decide : (0:Int) ≤ (0:Int32).toInt), (Int.le_trans (by decide : (0:Int32).toInt ≤ (0:Int)) (by decide : (0:Int) ≤ 1)), (show (∀ (b : Nat → Int32) (n q c : Nat) (T : List Int), t_US b n q c gi gl gr ar0 → (T.length : Int) = ar1.toInt → ((0 : Int) = 1 ∧ ∃ q2 c2, s_Cnd b n false q c T = s_Cnd b n true q2 c2 (s_pop T) ∧ q < q2 ∧ t_US b n q2 c2 gi48 gl48 gr48 ar0 ∧ t_UT gi gi48 ar0 ∧ ∀ E : List Int, t_UE sh gi ar0 n q E → ∃ S : List Int, S.length + q ≤ q2 ∧ t_UE sh gi48 ar0 n q2 (E ++ S) ∧ s_e1 b n q q2 S) ∨ ((0 : Int) = 0 ∧ ∃ p x, x ≠ 0 ∧ s_Cnd b n false q c T = s_qb b n p x ∧ t_FL gi48 (ar0 + 1) (s_fk b n p x) (s_F b n p))) ∧ t_lq ar0 gi gl gr gi48 gl48 gr48 from ⟨(by
                                                            intro b n q c T h hT
                                                            have h102 := p_a0.2.1
                                                            have hq := h.qn
                                                            have hcc := h.2.1.2
                                                            have hS := (q18 b n q h.1).mp (by omega)
                                                            have hN : s_nst b n q := Or.inr hS
                                                            have hg := s_nst_gt hN
                                                            have h1 := h.on (q41.1 b n _ h.1.S) q41.2.1 q41.2.2
                                                            have h6 : T.length ≠ 6 := by omega
                                                            have hl : ∀ y : Int, (((y :: T).length : Nat) : Int) = (T.length : Int) + 1 := fun y => by rw [List.length_cons]; omega
                                                            have hB := s_Cnd_n hq hN h6 (c := c)
                                                            rw [s_brk40 hS] at hB
                                                            obtain ⟨_, q2, c2, hX, hlt, h2, hw, hT2, hE2⟩ := (q43.1 b n _ c (40 :: T) h1 (by have := hl 40; omega) s_pop40).resolve_right (fun hh => absurd hh.1 (by omega))
                                                            obtain ⟨_, hS2, hf2⟩ := (q48.1 b n _ h2.1).resolve_left (fun hh => absurd hh.1 (by omega))
                                                            exact Or.inr ⟨rfl, q2, 2, by decide, (hB.trans hX).trans (s_Cnd_x h2.qn hS2 hw), hf2⟩), (t_lq.on (t_lq.tr (t_lq.on t_lq.rf q41.2.2 (by omega)) q43.2) q48.2 (by omega))⟩)⟩⟩
          · have r51 : w48.toInt ≠ 0 := fun e => h49 (Int32.toInt_inj.mp (e.trans (by decide : (0:Int) = (0 : Int32).toInt)))
            have l52 : 1 ≤ w48.toInt := t_nel h49 l48 rfl rfl
            refine ev_ic f_X8_readNested (nx := 53) (v := 1) rfl (by decide) rfl ?_
            refine ev_jmp f_X8_readNested (nx := 57) rfl rfl rfl ?_
            refine ev_retK1 f_X8_readNested rfl rfl rfl ?_
            refine ev_jmp f_X8_readOne (nx := 110) rfl rfl rfl ?_
            exact ev_ret f_X8_readOne rfl rfl rfl ⟨_, _, _, rfl, hI, hX, ⟨_, rfl, (Int.le_trans (by decide : (0:Int) ≤ 1) (by decide : (1:Int) ≤ (1:Int32).toInt)), (by decide : (1:Int32).toInt ≤ (1:Int)), (show (∀ (b : Nat → Int32) (n q c : Nat) (T : List Int), t_US b n q c gi gl gr ar0 → (T.length : Int) = ar1.toInt → ((1 : Int) = 1 ∧ ∃ q2 c2, s_Cnd b n false q c T = s_Cnd b n true q2 c2 (s_pop T) ∧ q < q2 ∧ t_US b n q2 c2 gi48 gl48 gr48 ar0 ∧ t_UT gi gi48 ar0 ∧ ∀ E : List Int, t_UE sh gi ar0 n q E → ∃ S : List Int, S.length + q ≤ q2 ∧ t_UE sh gi48 ar0 n q2 (E ++ S) ∧ s_e1 b n q q2 S) ∨ ((1 : Int) = 0 ∧ ∃ p x, x ≠ 0 ∧ s_Cnd b n false q c T = s_qb b n p x ∧ t_FL gi48 (ar0 + 1) (s_fk b n p x) (s_F b n p))) ∧ t_lq ar0 gi gl gr gi48 gl48 gr48 from ⟨(by
                                                            intro b n q c T h hT
                                                            have h102 := p_a0.2.1
                                                            have hq := h.qn
                                                            have hcc := h.2.1.2
                                                            have hS := (q18 b n q h.1).mp (by omega)
                                                            have hN : s_nst b n q := Or.inr hS
                                                            have hg := s_nst_gt hN
                                                            have h1 := h.on (q41.1 b n _ h.1.S) q41.2.1 q41.2.2
                                                            have h6 : T.length ≠ 6 := by omega
                                                            have hl : ∀ y : Int, (((y :: T).length : Nat) : Int) = (T.length : Int) + 1 := fun y => by rw [List.length_cons]; omega
                                                            have hB := s_Cnd_n hq hN h6 (c := c)
                                                            rw [s_brk40 hS] at hB
                                                            obtain ⟨_, q2, c2, hX, hlt, h2, hw, hT2, hE2⟩ := (q43.1 b n _ c (40 :: T) h1 (by have := hl 40; omega) s_pop40).resolve_right (fun hh => absurd hh.1 (by omega))
                                                            obtain ⟨_, hS2, ht, hf2⟩ := (q48.1 b n _ h2.1).resolve_right (fun hh => absurd hh.1 (by omega))
                                                            have hg2 := s_isS_gt hS2
                                                            exact Or.inl ⟨rfl, _, c2, (hB.trans hX).trans (s_Cnd_c h2.qn hS2), by omega, h2.on ht hf2 q48.2, (((t_UT.rf.on q41.2.2 (by omega)).tr hT2).on q48.2 (by omega)), fun E hE => (hE2 E (hE.on q41.2.2 (by omega) (Nat.le_of_lt hg.1))).imp (fun S hSS => ⟨by have := hSS.1; omega, hSS.2.1.on q48.2 (by omega) (Nat.le_of_lt hg2.1), s_e1_b hq h2.qn hS hSS.2.2 hS2⟩)⟩), (t_lq.on (t_lq.tr (t_lq.on t_lq.rf q41.2.2 (by omega)) q43.2) q48.2 (by omega))⟩)⟩⟩
      · have l53 : 6 ≤ ar1.toInt := t_lel (t_nlt h39) (by decide : (6:Int) ≤ (6:Int32).toInt)
        refine ev_loc f_X8_readOne (nx := 84) rfl rfl rfl rfl ?_
        refine ev_getR f_X8_readOne (nx := 87) (v := .ref (ar0 + 1)) rfl p_a0.1 rfl rfl e1 rfl rfl ?_
        refine ev_bp f_X8_readOne (nx := 89) (v := 7) rfl (by decide) rfl ?_
        refine ev_qI f_X8_readOne (nx := 92) (r := []) rfl rfl rfl rfl rfl rfl rfl (c_s_refuse hI ((ar0 + 1)) p1 (7) (Int.le_trans (by decide : (2:Int) ≤ 7) (by decide : (7:Int) ≤ (7:Int32).toInt)) (by decide : (7:Int32).toInt ≤ (7:Int))) rfl hX rfl (fun w54 gi54 gl54 gr54 l54 u54 hI hX hC54 q54 => ?_)
        have q54 : (∀ (b : Nat → Int32) (n q : Nat), t_TC b n q gi gl gr (ar0 + 1) → t_FL gi54 (ar0 + 1) (s_fk b n q 7) (s_F b n q)) ∧ w54.toInt = 0 ∧ t_on (ar0 + 1) gi gl gr gi54 gl54 gr54 := q54
        replace p_a0 := p_a0.ext hC54.2
        replace p1 := p1.ext hC54.2
        exact ev_retZ f_X8_readOne rfl l54 (Int.le_trans u54 (by decide : (0:Int) ≤ 1)) ⟨_, _, _, rfl, hI, hX, ⟨_, rfl, l54, (Int.le_trans u54 (by decide : (0:Int) ≤ 1)), (show (∀ (b : Nat → Int32) (n q c : Nat) (T : List Int), t_US b n q c gi gl gr ar0 → (T.length : Int) = ar1.toInt → (w54.toInt = 1 ∧ ∃ q2 c2, s_Cnd b n false q c T = s_Cnd b n true q2 c2 (s_pop T) ∧ q < q2 ∧ t_US b n q2 c2 gi54 gl54 gr54 ar0 ∧ t_UT gi gi54 ar0 ∧ ∀ E : List Int, t_UE sh gi ar0 n q E → ∃ S : List Int, S.length + q ≤ q2 ∧ t_UE sh gi54 ar0 n q2 (E ++ S) ∧ s_e1 b n q q2 S) ∨ (w54.toInt = 0 ∧ ∃ p x, x ≠ 0 ∧ s_Cnd b n false q c T = s_qb b n p x ∧ t_FL gi54 (ar0 + 1) (s_fk b n p x) (s_F b n p))) ∧ t_lq ar0 gi gl gr gi54 gl54 gr54 from ⟨(by
                                                            intro b n q c T h hT
                                                            have h102 := p_a0.2.1
                                                            have hq := h.qn
                                                            have hcc := h.2.1.2
                                                            have hS := (q18 b n q h.1).mp (by omega)
                                                            have hN : s_nst b n q := Or.inr hS
                                                            exact Or.inr ⟨q54.2.1, q, 7, by decide, s_Cnd_n6 hq hN (by omega), q54.1 b n q h.1⟩), (t_lq.on t_lq.rf q54.2.2 (by omega))⟩)⟩⟩
theorem c_ue_readOne {X : x_Ext} {d : Nat} {sh : List (Nat ⊕ (Nat × Nat))} {gi : Nat → Nat → Int32} {gl : Nat → Nat → Int64} {gr : Nat → Nat → Value} (hI : t_I sh gi gr) (ar0 : Nat) (p_a0 : t_UQ sh gr ar0) (ar1 : Int32) (l_a1 : 0 ≤ ar1.toInt) (u_a1 : ar1.toInt ≤ 6) : x_Me X (d + 61) n_X8_readOne [.ref ar0, .int ar1] (sh, gi, gl, gr) (t_PI wl_ue_readOne sh gi gl gr 0 1 (Q_ue_readOne sh gi gl gr ar0 ar1)) := r_ue_readOne 7 hI ar0 p_a0 ar1 l_a1 u_a1 (by omega)
noncomputable def wl_ue_readBoth2 : List (Nat × Nat) := [(116, 3), (117, 2), (118, 2), (118, 3), (118, 4), (118, 5), (118, 6), (118, 7), (118, 8), (118, 9), (118, 10), (118, 11), (130, 9999)]
noncomputable def Q_ue_readBoth2 (sh : List (Nat ⊕ (Nat × Nat))) (gi : Nat → Nat → Int32) (gl : Nat → Nat → Int64) (gr : Nat → Nat → Value) (ar0 : Nat) (ar1 : Int32) : Int32 → (Nat → Nat → Int32) → (Nat → Nat → Int64) → (Nat → Nat → Value) → Prop := fun (v : Int32) (gi2 : Nat → Nat → Int32) (gl2 : Nat → Nat → Int64) (gr2 : Nat → Nat → Value) => (∀ (b : Nat → Int32) (n q c : Nat) (T : List Int), t_US b n q c gi gl gr ar0 → (T.length : Int) = ar1.toInt → s_pop T = T → (v.toInt = 1 ∧ ∃ q2 c2, s_Cnd b n false q c T = s_Cnd b n true q2 c2 T ∧ q < q2 ∧ t_US b n q2 c2 gi2 gl2 gr2 ar0 ∧ s_W b n q2 ≠ some 19 ∧ t_UT gi gi2 ar0 ∧ ∀ E : List Int, t_UE sh gi ar0 n q E → ∃ S : List Int, S.length + q ≤ q2 ∧ t_UE sh gi2 ar0 n q2 (E ++ S) ∧ s_e2 b n q q2 S) ∨ (v.toInt = 0 ∧ ∃ p x, x ≠ 0 ∧ s_Cnd b n false q c T = s_qb b n p x ∧ t_FL gi2 (ar0 + 1) (s_fk b n p x) (s_F b n p))) ∧ t_lq ar0 gi gl gr gi2 gl2 gr2
theorem c_ue_readBoth2 {X : x_Ext} {d : Nat} {sh : List (Nat ⊕ (Nat × Nat))} {gi : Nat → Nat → Int32} {gl : Nat → Nat → Int64} {gr : Nat → Nat → Value} (hI : t_I sh gi gr) (ar0 : Nat) (p_a0 : t_UQ sh gr ar0) (ar1 : Int32) (l_a1 : 0 ≤ ar1.toInt) (u_a1 : ar1.toInt ≤ 6) : x_Me X (d + 62) n_X8_readBoth [.ref ar0, .int ar1] (sh, gi, gl, gr) (t_PI wl_ue_readBoth2 sh gi gl gr 0 1 (Q_ue_readBoth2 sh gi gl gr ar0 ar1)) := by
  have hX : t_X wl_ue_readBoth2 sh gi gl gr gi gl gr := t_X.rf
  refine me_i f_X8_readBoth p_a0.1 rfl rfl rfl ?_
  refine ev_loc f_X8_readBoth (nx := 1) rfl rfl rfl rfl ?_
  refine ev_loc f_X8_readBoth (nx := 2) rfl rfl rfl rfl ?_
  refine ev_qI f_X8_readBoth (nx := 5) (r := []) rfl rfl rfl rfl rfl rfl rfl (c_ue_readOne hI (ar0) p_a0 (ar1) l_a1 u_a1) rfl hX rfl (fun w1 gi1 gl1 gr1 l1 u1 hI hX hC1 q1 => ?_)
  have q1 : (∀ (b : Nat → Int32) (n q c : Nat) (T : List Int), t_US b n q c gi gl gr ar0 → (T.length : Int) = ar1.toInt → (w1.toInt = 1 ∧ ∃ q2 c2, s_Cnd b n false q c T = s_Cnd b n true q2 c2 (s_pop T) ∧ q < q2 ∧ t_US b n q2 c2 gi1 gl1 gr1 ar0 ∧ t_UT gi gi1 ar0 ∧ ∀ E : List Int, t_UE sh gi ar0 n q E → ∃ S : List Int, S.length + q ≤ q2 ∧ t_UE sh gi1 ar0 n q2 (E ++ S) ∧ s_e1 b n q q2 S) ∨ (w1.toInt = 0 ∧ ∃ p x, x ≠ 0 ∧ s_Cnd b n false q c T = s_qb b n p x ∧ t_FL gi1 (ar0 + 1) (s_fk b n p x) (s_F b n p))) ∧ t_lq ar0 gi gl gr gi1 gl1 gr1 := q1
  replace p_a0 := p_a0.ext hC1.2
  refine ev_if f_X8_readBoth (t1 := 8) (t2 := 10) rfl rfl rfl (fun h2 => ?_) (fun h2 => ?_)
  · have u3 : w1.toInt ≤ 0 := t_equ h2 (by decide : (0:Int32).toInt ≤ (0:Int))
    refine ev_ic f_X8_readBoth (nx := 9) (v := 0) rfl (by decide) rfl ?_
    exact ev_ret f_X8_readBoth rfl rfl rfl ⟨_, _, _, rfl, hI, hX, ⟨_, rfl, (by decide : (0:Int) ≤ (0:Int32).toInt), (Int.le_trans (by decide : (0:Int32).toInt ≤ (0:Int)) (by decide : (0:Int) ≤ 1)), (show (∀ (b : Nat → Int32) (n q c : Nat) (T : List Int), t_US b n q c gi gl gr ar0 → (T.length : Int) = ar1.toInt → s_pop T = T → ((0 : Int) = 1 ∧ ∃ q2 c2, s_Cnd b n false q c T = s_Cnd b n true q2 c2 T ∧ q < q2 ∧ t_US b n q2 c2 gi1 gl1 gr1 ar0 ∧ s_W b n q2 ≠ some 19 ∧ t_UT gi gi1 ar0 ∧ ∀ E : List Int, t_UE sh gi ar0 n q E → ∃ S : List Int, S.length + q ≤ q2 ∧ t_UE sh gi1 ar0 n q2 (E ++ S) ∧ s_e2 b n q q2 S) ∨ ((0 : Int) = 0 ∧ ∃ p x, x ≠ 0 ∧ s_Cnd b n false q c T = s_qb b n p x ∧ t_FL gi1 (ar0 + 1) (s_fk b n p x) (s_F b n p))) ∧ t_lq ar0 gi gl gr gi1 gl1 gr1 from ⟨fun b n q c T h hT hp => (by
                                                            obtain ⟨_, p, x, hx, hX, hf⟩ := (q1.1 b n _ _ T h hT).resolve_left (fun hh => absurd hh.1 (by omega))
                                                            exact Or.inr ⟨rfl, p, x, hx, hX, hf⟩), (t_lq.tr t_lq.rf q1.2)⟩)⟩⟩
  · have r4 : w1.toInt ≠ 0 := fun e => h2 (Int32.toInt_inj.mp (e.trans (by decide : (0:Int) = (0 : Int32).toInt)))
    have l5 : 1 ≤ w1.toInt := t_nel h2 l1 rfl rfl
    refine ev_ic f_X8_readBoth (nx := 11) (v := 0) rfl (by decide) rfl ?_
    refine ev_loc f_X8_readBoth (nx := 12) (lo' := [(2, .int 0), (0, .ref ar0), (1, .int ar1)]) rfl rfl rfl rfl ?_
    have L6 : ∀ (m6 : Nat) (gi6 : Nat → Nat → Int32) (gl6 : Nat → Nat → Int64) (gr6 : Nat → Nat → Value) (y6_2 : Int32), t_I sh gi6 gr6 → t_X wl_ue_readBoth2 sh gi gl gr gi6 gl6 gr6 → t_UQ sh gr6 ar0 → 0 ≤ y6_2.toInt → y6_2.toInt ≤ 300 → (∀ (b : Nat → Int32) (n q c : Nat) (T : List Int), t_US b n q c gi gl gr ar0 → (T.length : Int) = ar1.toInt → s_pop T = T → ∃ q2 c2, s_Cnd b n false q c T = s_Cnd b n true q2 c2 T ∧ q < q2 ∧ y6_2.toInt < (q2 : Int) ∧ t_US b n q2 c2 gi6 gl6 gr6 ar0 ∧ t_UT gi gi6 ar0 ∧ ∀ E : List Int, t_UE sh gi ar0 n q E → ∃ S : List Int, S.length + q ≤ q2 ∧ t_UE sh gi6 ar0 n q2 (E ++ S) ∧ s_e2 b n q q2 S) ∧ t_lq ar0 gi gl gr gi6 gl6 gr6 → (300 - y6_2.toInt).toNat = m6 → x_Ev X (d + 62) n_X8_readBoth 12 [(2, .int y6_2), (0, .ref ar0), (1, .int ar1)] [] (sh, gi6, gl6, gr6) (t_PI wl_ue_readBoth2 sh gi gl gr 0 1 (Q_ue_readBoth2 sh gi gl gr ar0 ar1)) := by
      intro m6
      induction m6 using Nat.strongRecOn with
      | _ m6 ih6 =>
      intro gi6 gl6 gr6 y6_2 hI hX p_a0 l6_2 u6_2 j6_0 hm6
      refine ev_loc f_X8_readBoth (nx := 13) rfl rfl rfl rfl ?_
      refine ev_sp f_X8_readBoth (nx := 16) (v := 300) rfl (by decide) rfl ?_
      refine ev_if f_X8_readBoth (t1 := 65) (t2 := 19) rfl rfl rfl (fun h7 => ?_) (fun h7 => ?_)
      · have l8 : 300 ≤ y6_2.toInt := t_lel h7 (by decide : (300:Int) ≤ (300:Int32).toInt)
        refine ev_ic f_X8_readBoth (nx := 66) (v := 1) rfl (by decide) rfl ?_
        exact ev_ret f_X8_readBoth rfl rfl rfl ⟨_, _, _, rfl, hI, hX, ⟨_, rfl, (Int.le_trans (by decide : (0:Int) ≤ 1) (by decide : (1:Int) ≤ (1:Int32).toInt)), (by decide : (1:Int32).toInt ≤ (1:Int)), (show (∀ (b : Nat → Int32) (n q c : Nat) (T : List Int), t_US b n q c gi gl gr ar0 → (T.length : Int) = ar1.toInt → s_pop T = T → ((1 : Int) = 1 ∧ ∃ q2 c2, s_Cnd b n false q c T = s_Cnd b n true q2 c2 T ∧ q < q2 ∧ t_US b n q2 c2 gi6 gl6 gr6 ar0 ∧ s_W b n q2 ≠ some 19 ∧ t_UT gi gi6 ar0 ∧ ∀ E : List Int, t_UE sh gi ar0 n q E → ∃ S : List Int, S.length + q ≤ q2 ∧ t_UE sh gi6 ar0 n q2 (E ++ S) ∧ s_e2 b n q q2 S) ∨ ((1 : Int) = 0 ∧ ∃ p x, x ≠ 0 ∧ s_Cnd b n false q c T = s_qb b n p x ∧ t_FL gi6 (ar0 + 1) (s_fk b n p x) (s_F b n p))) ∧ t_lq ar0 gi gl gr gi6 gl6 gr6 from ⟨fun b n q c T h hT hp => (by
                                                            obtain ⟨q2, c2, hC, hl0, hi, h2, hT2, hE2⟩ := j6_0.1 b n q c T h hT hp
                                                            have h102 := p_a0.2.1
                                                            have hn3 := h2.2.1.1
                                                            have hq2 := h2.qn
                                                            exact absurd hi (by omega)), j6_0.2⟩)⟩⟩
      · have u9 : y6_2.toInt ≤ 299 := t_ltu (t_nle h7) (by decide : (300:Int32).toInt ≤ (300:Int)) rfl
        refine ev_loc f_X8_readBoth (nx := 20) rfl rfl rfl rfl ?_
        have e10 := p_a0.2.2.1.1
        have p10 := p_a0.2.2.1.2
        refine ev_getR f_X8_readBoth (nx := 23) rfl p_a0.1 rfl rfl e10 rfl rfl ?_
        have k11 := hI.2.2.2.1.2.2.2.2.2 (ar0 + 1) p10.1
        obtain ⟨v11, e11⟩ : ∃ v, gr6 (ar0 + 1) 7 = v := ⟨_, rfl⟩
        rw [e11] at k11
        refine ev_getR f_X8_readBoth (nx := 26) rfl p10.1 rfl rfl e11 (t_KwR k11) rfl ?_
        refine ev_heap f_X8_readBoth (nx := 29) rfl rfl rfl rfl ?_
        refine ev_ack f_X8_readBoth (t1 := 32) (t2 := 65) rfl rfl rfl (t_knw k11) rfl (fun h12 => ?_) (fun h12 => ?_)
        · refine ev_loc f_X8_readBoth (nx := 33) rfl rfl rfl rfl ?_
          refine ev_getR f_X8_readBoth (nx := 36) (v := .ref (ar0 + 1)) rfl p_a0.1 rfl rfl e10 rfl rfl ?_
          refine ev_qN f_X8_readBoth (nx := 39) (r := []) rfl rfl rfl rfl rfl rfl rfl (c_s_step hI ((ar0 + 1)) p10) rfl hX rfl (fun gi13 gl13 gr13 hI hX hC13 q13 => ?_)
          have q13 : (∀ (b : Nat → Int32) (n q : Nat), t_Sp b n q gi6 (ar0 + 1) → t_TC b n q gi13 gl13 gr13 (ar0 + 1)) ∧ t_nf gi6 gi13 (ar0 + 1) ∧ t_on (ar0 + 1) gi6 gl6 gr6 gi13 gl13 gr13 := q13
          replace p_a0 := p_a0.ext hC13.2
          replace p10 := p10.ext hC13.2
          refine ev_loc f_X8_readBoth (nx := 40) rfl rfl rfl rfl ?_
          refine ev_loc f_X8_readBoth (nx := 41) rfl rfl rfl rfl ?_
          refine ev_qI f_X8_readBoth (nx := 44) (r := []) rfl rfl rfl rfl rfl rfl rfl (c_ue_readOne hI (ar0) p_a0 (ar1) l_a1 u_a1) rfl hX rfl (fun w14 gi14 gl14 gr14 l14 u14 hI hX hC14 q14 => ?_)
          have q14 : (∀ (b : Nat → Int32) (n q c : Nat) (T : List Int), t_US b n q c gi13 gl13 gr13 ar0 → (T.length : Int) = ar1.toInt → (w14.toInt = 1 ∧ ∃ q2 c2, s_Cnd b n false q c T = s_Cnd b n true q2 c2 (s_pop T) ∧ q < q2 ∧ t_US b n q2 c2 gi14 gl14 gr14 ar0 ∧ t_UT gi13 gi14 ar0 ∧ ∀ E : List Int, t_UE sh gi13 ar0 n q E → ∃ S : List Int, S.length + q ≤ q2 ∧ t_UE sh gi14 ar0 n q2 (E ++ S) ∧ s_e1 b n q q2 S) ∨ (w14.toInt = 0 ∧ ∃ p x, x ≠ 0 ∧ s_Cnd b n false q c T = s_qb b n p x ∧ t_FL gi14 (ar0 + 1) (s_fk b n p x) (s_F b n p))) ∧ t_lq ar0 gi13 gl13 gr13 gi14 gl14 gr14 := q14
          replace p_a0 := p_a0.ext hC14.2
          replace p10 := p10.ext hC14.2
          refine ev_if f_X8_readBoth (t1 := 47) (t2 := 49) rfl rfl rfl (fun h15 => ?_) (fun h15 => ?_)
          · have u16 : w14.toInt ≤ 0 := t_equ h15 (by decide : (0:Int32).toInt ≤ (0:Int))
            refine ev_ic f_X8_readBoth (nx := 48) (v := 0) rfl (by decide) rfl ?_
            exact ev_ret f_X8_readBoth rfl rfl rfl ⟨_, _, _, rfl, hI, hX, ⟨_, rfl, (by decide : (0:Int) ≤ (0:Int32).toInt), (Int.le_trans (by decide : (0:Int32).toInt ≤ (0:Int)) (by decide : (0:Int) ≤ 1)), (show (∀ (b : Nat → Int32) (n q c : Nat) (T : List Int), t_US b n q c gi gl gr ar0 → (T.length : Int) = ar1.toInt → s_pop T = T → ((0 : Int) = 1 ∧ ∃ q2 c2, s_Cnd b n false q c T = s_Cnd b n true q2 c2 T ∧ q < q2 ∧ t_US b n q2 c2 gi14 gl14 gr14 ar0 ∧ s_W b n q2 ≠ some 19 ∧ t_UT gi gi14 ar0 ∧ ∀ E : List Int, t_UE sh gi ar0 n q E → ∃ S : List Int, S.length + q ≤ q2 ∧ t_UE sh gi14 ar0 n q2 (E ++ S) ∧ s_e2 b n q q2 S) ∨ ((0 : Int) = 0 ∧ ∃ p x, x ≠ 0 ∧ s_Cnd b n false q c T = s_qb b n p x ∧ t_FL gi14 (ar0 + 1) (s_fk b n p x) (s_F b n p))) ∧ t_lq ar0 gi gl gr gi14 gl14 gr14 from ⟨fun b n q c T h hT hp => (by
                                                            obtain ⟨q2, c2, hC, hl0, hi, h2, hT2, hE2⟩ := j6_0.1 b n q c T h hT hp
                                                            have h102 := p_a0.2.1
                                                            have hn3 := h2.2.1.1
                                                            have hq2 := h2.qn
                                                            have hW := h2.1.kwT e11 h12
                                                            have hJ : s_jnd b n q2 := Or.inr hW
                                                            have h2a := h2.on (q13.1 b n _ h2.1.S) q13.2.1 q13.2.2
                                                            obtain ⟨_, p, x, hx, hX, hf⟩ := (q14.1 b n _ _ T h2a hT).resolve_left (fun hh => absurd hh.1 (by omega))
                                                            exact Or.inr ⟨rfl, p, x, hx, (hC.trans (s_Cnd_j h2.qn hJ)).trans hX, hf⟩), (t_lq.tr (t_lq.on j6_0.2 q13.2.2 (by omega)) q14.2)⟩)⟩⟩
          · have r17 : w14.toInt ≠ 0 := fun e => h15 (Int32.toInt_inj.mp (e.trans (by decide : (0:Int) = (0 : Int32).toInt)))
            have l18 : 1 ≤ w14.toInt := t_nel h15 l14 rfl rfl
            refine ev_loc f_X8_readBoth (nx := 50) rfl rfl rfl rfl ?_
            have e19 := p_a0.2.2.2.1
            have p19 := p_a0.2.2.2.2
            refine ev_getR f_X8_readBoth (nx := 53) rfl p_a0.1 rfl rfl e19 rfl rfl ?_
            refine ev_ic f_X8_readBoth (nx := 54) (v := 4) rfl (by decide) rfl ?_
            refine ev_ic f_X8_readBoth (nx := 55) (v := 0) rfl (by decide) rfl ?_
            refine ev_ic f_X8_readBoth (nx := 56) (v := 0) rfl (by decide) rfl ?_
            refine ev_qN f_X8_readBoth (nx := 59) (r := []) rfl rfl rfl rfl rfl rfl rfl (c_ue_addStep hI ((ar0 + 2)) p19 (4) (0) (0)) rfl hX rfl (fun gi20 gl20 gr20 hI hX hC20 q20 => ?_)
            have q20 : t_xc [(ar0 + 2), (ar0 + 2) + 3, (ar0 + 2) + 4, (ar0 + 2) + 5] gi14 gl14 gr14 gi20 gl20 gr20 ∧ gi20 (ar0 + 2) 0 = gi14 (ar0 + 2) 0 ∧ ∀ n : Nat, sh[(ar0 + 2) + 3]? = some (.inr (0, n)) → (gi14 (ar0 + 2) 3).toInt < (n : Int) → t_AS gi14 gi20 (ar0 + 2) (4 : Int32) (0 : Int32) (0 : Int32) := q20
            replace p_a0 := p_a0.ext hC20.2
            replace p10 := p10.ext hC20.2
            replace p19 := p19.ext hC20.2
            refine ev_incR f_X8_readBoth (nx := 62) (c := 1) (l := 1) (u := 300) rfl rfl (by decide) (by decide) l6_2 u9 rfl rfl (by decide) (by decide) rfl (fun z21 e21 l21 u21 => ?_)
            refine ev_jmp f_X8_readBoth (nx := 12) rfl rfl rfl ?_
            refine ev_sub (lo := [(2, .int z21), (0, .ref ar0), (1, .int ar1)]) rfl (t_sc rfl (t_sc rfl (t_sc rfl t_sn))) ?_
            exact ih6 _ (by omega) gi20 gl20 gr20 (z21) hI hX p_a0 (Int.le_trans (by decide : (0:Int) ≤ 1) l21) u21 ⟨fun b n q c T h hT hp => (by
                                                            obtain ⟨q2, c2, hC, hl0, hi, h2, hT2, hE2⟩ := j6_0.1 b n q c T h hT hp
                                                            have h102 := p_a0.2.1
                                                            have hW := h2.1.kwT e11 h12
                                                            have hJ : s_jnd b n q2 := Or.inr hW
                                                            have hg := s_jnd_gt hJ
                                                            have h2a := h2.on (q13.1 b n _ h2.1.S) q13.2.1 q13.2.2
                                                            obtain ⟨_, q3, c3, hX, hlt, h3, hT3, hE3⟩ := (q14.1 b n _ _ T h2a hT).resolve_right (fun hh => absurd hh.1 (by omega))
                                                            have h4 := h3.xc q20.1 (by intro x hx; simp only [List.mem_cons, List.not_mem_nil, or_false] at hx; omega)
                                                            have hq3 := h4.qn
                                                            have hUT : t_UT gi gi20 ar0 := ((hT2.on q13.2.2 (by omega)).tr hT3).xc q20.1
                                                            have hEM : ∀ E : List Int, t_UE sh gi ar0 n q E → ∃ S : List Int, S.length + q ≤ q3 ∧ t_UE sh gi20 ar0 n q3 (E ++ S) ∧ s_e2 b n q q3 S := by
                                                              intro E hE
                                                              obtain ⟨S, s1, s2, s3⟩ := hE2 E hE
                                                              obtain ⟨S2, s4, s5, s6⟩ := hE3 _ (s2.on q13.2.2 (by omega) (Nat.le_of_lt hg.1))
                                                              have hb := hE.2.1.2
                                                              refine ⟨S ++ S2 ++ [19], by rw [List.length_append, List.length_append, List.length_singleton]; omega, ?_, s_e2_s h2.qn s3 hW s6⟩
                                                              rw [← List.append_assoc, ← List.append_assoc]
                                                              exact s5.ad2 (by rw [List.length_append, List.length_append]; omega) (by rw [List.length_append, List.length_append]; omega) q20.2.2 (s_cdr_a rfl rfl)
                                                            exact ⟨q3, c3, (hC.trans (s_Cnd_j h2.qn hJ)).trans (by rw [hp] at hX; exact hX), by omega, by omega, h4, hUT, hEM⟩), (t_lq.ex (t_lq.tr (t_lq.on j6_0.2 q13.2.2 (by omega)) q14.2) q20.1 (by intro x hx; simp only [List.mem_cons, List.not_mem_nil, or_false] at hx; omega))⟩ rfl
        · refine ev_ic f_X8_readBoth (nx := 66) (v := 1) rfl (by decide) rfl ?_
          exact ev_ret f_X8_readBoth rfl rfl rfl ⟨_, _, _, rfl, hI, hX, ⟨_, rfl, (Int.le_trans (by decide : (0:Int) ≤ 1) (by decide : (1:Int) ≤ (1:Int32).toInt)), (by decide : (1:Int32).toInt ≤ (1:Int)), (show (∀ (b : Nat → Int32) (n q c : Nat) (T : List Int), t_US b n q c gi gl gr ar0 → (T.length : Int) = ar1.toInt → s_pop T = T → ((1 : Int) = 1 ∧ ∃ q2 c2, s_Cnd b n false q c T = s_Cnd b n true q2 c2 T ∧ q < q2 ∧ t_US b n q2 c2 gi6 gl6 gr6 ar0 ∧ s_W b n q2 ≠ some 19 ∧ t_UT gi gi6 ar0 ∧ ∀ E : List Int, t_UE sh gi ar0 n q E → ∃ S : List Int, S.length + q ≤ q2 ∧ t_UE sh gi6 ar0 n q2 (E ++ S) ∧ s_e2 b n q q2 S) ∨ ((1 : Int) = 0 ∧ ∃ p x, x ≠ 0 ∧ s_Cnd b n false q c T = s_qb b n p x ∧ t_FL gi6 (ar0 + 1) (s_fk b n p x) (s_F b n p))) ∧ t_lq ar0 gi gl gr gi6 gl6 gr6 from ⟨fun b n q c T h hT hp => (by
                                                            obtain ⟨q2, c2, hC, hl0, hi, h2, hT2, hE2⟩ := j6_0.1 b n q c T h hT hp
                                                            have h102 := p_a0.2.1
                                                            have hn3 := h2.2.1.1
                                                            have hq2 := h2.qn
                                                            exact Or.inl ⟨rfl, q2, c2, hC, hl0, h2, (h2.1.kwF e11 h12), hT2, hE2⟩), j6_0.2⟩)⟩⟩
    refine ev_sub (lo := [(2, .int 0), (0, .ref ar0), (1, .int ar1)]) rfl (t_sc rfl (t_sc rfl (t_sc rfl t_sn))) ?_
    exact L6 _ gi1 gl1 gr1 (0) hI hX p_a0 (by decide : (0:Int) ≤ (0:Int32).toInt) (Int.le_trans (by decide : (0:Int32).toInt ≤ (0:Int)) (by decide : (0:Int) ≤ 300)) ⟨fun b n q c T h hT hp => (by
                                                            obtain ⟨_, q3, c3, hX, hlt, h3, hT3, hE3⟩ := (q1.1 b n _ _ T h hT).resolve_right (fun hh => absurd hh.1 (by omega))
                                                            exact ⟨q3, c3, by rw [hp] at hX; exact hX, hlt, by have : (0 : Int32).toInt = 0 := rfl; omega, h3, hT3, fun E hE => (hE3 E hE).imp (fun S hS => ⟨hS.1, hS.2.1, s_e2_1 hS.2.2⟩)⟩), (t_lq.tr t_lq.rf q1.2)⟩ rfl
noncomputable def wl_ue_readEither2 : List (Nat × Nat) := [(116, 3), (117, 2), (118, 2), (118, 3), (118, 4), (118, 5), (118, 6), (118, 7), (118, 8), (118, 9), (118, 10), (118, 11), (130, 9999)]
noncomputable def Q_ue_readEither2 (sh : List (Nat ⊕ (Nat × Nat))) (gi : Nat → Nat → Int32) (gl : Nat → Nat → Int64) (gr : Nat → Nat → Value) (ar0 : Nat) (ar1 : Int32) : Int32 → (Nat → Nat → Int32) → (Nat → Nat → Int64) → (Nat → Nat → Value) → Prop := fun (v : Int32) (gi2 : Nat → Nat → Int32) (gl2 : Nat → Nat → Int64) (gr2 : Nat → Nat → Value) => (∀ (b : Nat → Int32) (n q c : Nat) (T : List Int), t_US b n q c gi gl gr ar0 → (T.length : Int) = ar1.toInt → s_pop T = T → (v.toInt = 1 ∧ ∃ q2 c2, s_Cnd b n false q c T = s_Cnd b n true q2 c2 T ∧ q < q2 ∧ t_US b n q2 c2 gi2 gl2 gr2 ar0 ∧ ¬ s_jnd b n q2 ∧ t_UT gi gi2 ar0 ∧ ∀ E : List Int, t_UE sh gi ar0 n q E → ∃ S : List Int, S.length + q ≤ q2 ∧ t_UE sh gi2 ar0 n q2 (E ++ S) ∧ s_e3 b n q q2 S) ∨ (v.toInt = 0 ∧ ∃ p x, x ≠ 0 ∧ s_Cnd b n false q c T = s_qb b n p x ∧ t_FL gi2 (ar0 + 1) (s_fk b n p x) (s_F b n p))) ∧ t_lq ar0 gi gl gr gi2 gl2 gr2
theorem c_ue_readEither2 {X : x_Ext} {d : Nat} {sh : List (Nat ⊕ (Nat × Nat))} {gi : Nat → Nat → Int32} {gl : Nat → Nat → Int64} {gr : Nat → Nat → Value} (hI : t_I sh gi gr) (ar0 : Nat) (p_a0 : t_UQ sh gr ar0) (ar1 : Int32) (l_a1 : 0 ≤ ar1.toInt) (u_a1 : ar1.toInt ≤ 6) : x_Me X (d + 63) n_X8_readEither [.ref ar0, .int ar1] (sh, gi, gl, gr) (t_PI wl_ue_readEither2 sh gi gl gr 0 1 (Q_ue_readEither2 sh gi gl gr ar0 ar1)) := by
  have hX : t_X wl_ue_readEither2 sh gi gl gr gi gl gr := t_X.rf
  refine me_i f_X8_readEither p_a0.1 rfl rfl rfl ?_
  refine ev_loc f_X8_readEither (nx := 1) rfl rfl rfl rfl ?_
  refine ev_loc f_X8_readEither (nx := 2) rfl rfl rfl rfl ?_
  refine ev_qI f_X8_readEither (nx := 5) (r := []) rfl rfl rfl rfl rfl rfl rfl (c_ue_readBoth2 hI (ar0) p_a0 (ar1) l_a1 u_a1) rfl hX rfl (fun w1 gi1 gl1 gr1 l1 u1 hI hX hC1 q1 => ?_)
  have q1 : (∀ (b : Nat → Int32) (n q c : Nat) (T : List Int), t_US b n q c gi gl gr ar0 → (T.length : Int) = ar1.toInt → s_pop T = T → (w1.toInt = 1 ∧ ∃ q2 c2, s_Cnd b n false q c T = s_Cnd b n true q2 c2 T ∧ q < q2 ∧ t_US b n q2 c2 gi1 gl1 gr1 ar0 ∧ s_W b n q2 ≠ some 19 ∧ t_UT gi gi1 ar0 ∧ ∀ E : List Int, t_UE sh gi ar0 n q E → ∃ S : List Int, S.length + q ≤ q2 ∧ t_UE sh gi1 ar0 n q2 (E ++ S) ∧ s_e2 b n q q2 S) ∨ (w1.toInt = 0 ∧ ∃ p x, x ≠ 0 ∧ s_Cnd b n false q c T = s_qb b n p x ∧ t_FL gi1 (ar0 + 1) (s_fk b n p x) (s_F b n p))) ∧ t_lq ar0 gi gl gr gi1 gl1 gr1 := q1
  replace p_a0 := p_a0.ext hC1.2
  refine ev_if f_X8_readEither (t1 := 8) (t2 := 10) rfl rfl rfl (fun h2 => ?_) (fun h2 => ?_)
  · have u3 : w1.toInt ≤ 0 := t_equ h2 (by decide : (0:Int32).toInt ≤ (0:Int))
    refine ev_ic f_X8_readEither (nx := 9) (v := 0) rfl (by decide) rfl ?_
    exact ev_ret f_X8_readEither rfl rfl rfl ⟨_, _, _, rfl, hI, hX, ⟨_, rfl, (by decide : (0:Int) ≤ (0:Int32).toInt), (Int.le_trans (by decide : (0:Int32).toInt ≤ (0:Int)) (by decide : (0:Int) ≤ 1)), (show (∀ (b : Nat → Int32) (n q c : Nat) (T : List Int), t_US b n q c gi gl gr ar0 → (T.length : Int) = ar1.toInt → s_pop T = T → ((0 : Int) = 1 ∧ ∃ q2 c2, s_Cnd b n false q c T = s_Cnd b n true q2 c2 T ∧ q < q2 ∧ t_US b n q2 c2 gi1 gl1 gr1 ar0 ∧ ¬ s_jnd b n q2 ∧ t_UT gi gi1 ar0 ∧ ∀ E : List Int, t_UE sh gi ar0 n q E → ∃ S : List Int, S.length + q ≤ q2 ∧ t_UE sh gi1 ar0 n q2 (E ++ S) ∧ s_e3 b n q q2 S) ∨ ((0 : Int) = 0 ∧ ∃ p x, x ≠ 0 ∧ s_Cnd b n false q c T = s_qb b n p x ∧ t_FL gi1 (ar0 + 1) (s_fk b n p x) (s_F b n p))) ∧ t_lq ar0 gi gl gr gi1 gl1 gr1 from ⟨fun b n q c T h hT hp => (by
                                                            obtain ⟨_, p, x, hx, hX, hf⟩ := (q1.1 b n _ _ T h hT hp).resolve_left (fun hh => absurd hh.1 (by omega))
                                                            exact Or.inr ⟨rfl, p, x, hx, hX, hf⟩), (t_lq.tr t_lq.rf q1.2)⟩)⟩⟩
  · have r4 : w1.toInt ≠ 0 := fun e => h2 (Int32.toInt_inj.mp (e.trans (by decide : (0:Int) = (0 : Int32).toInt)))
    have l5 : 1 ≤ w1.toInt := t_nel h2 l1 rfl rfl
    refine ev_ic f_X8_readEither (nx := 11) (v := 0) rfl (by decide) rfl ?_
    refine ev_loc f_X8_readEither (nx := 12) (lo' := [(2, .int 0), (0, .ref ar0), (1, .int ar1)]) rfl rfl rfl rfl ?_
    have L6 : ∀ (m6 : Nat) (gi6 : Nat → Nat → Int32) (gl6 : Nat → Nat → Int64) (gr6 : Nat → Nat → Value) (y6_2 : Int32), t_I sh gi6 gr6 → t_X wl_ue_readEither2 sh gi gl gr gi6 gl6 gr6 → t_UQ sh gr6 ar0 → 0 ≤ y6_2.toInt → y6_2.toInt ≤ 300 → (∀ (b : Nat → Int32) (n q c : Nat) (T : List Int), t_US b n q c gi gl gr ar0 → (T.length : Int) = ar1.toInt → s_pop T = T → ∃ q2 c2, s_Cnd b n false q c T = s_Cnd b n true q2 c2 T ∧ q < q2 ∧ y6_2.toInt < (q2 : Int) ∧ t_US b n q2 c2 gi6 gl6 gr6 ar0 ∧ s_W b n q2 ≠ some 19 ∧ t_UT gi gi6 ar0 ∧ ∀ E : List Int, t_UE sh gi ar0 n q E → ∃ S : List Int, S.length + q ≤ q2 ∧ t_UE sh gi6 ar0 n q2 (E ++ S) ∧ s_e3 b n q q2 S) ∧ t_lq ar0 gi gl gr gi6 gl6 gr6 → (300 - y6_2.toInt).toNat = m6 → x_Ev X (d + 63) n_X8_readEither 12 [(2, .int y6_2), (0, .ref ar0), (1, .int ar1)] [] (sh, gi6, gl6, gr6) (t_PI wl_ue_readEither2 sh gi gl gr 0 1 (Q_ue_readEither2 sh gi gl gr ar0 ar1)) := by
      intro m6
      induction m6 using Nat.strongRecOn with
      | _ m6 ih6 =>
      intro gi6 gl6 gr6 y6_2 hI hX p_a0 l6_2 u6_2 j6_0 hm6
      refine ev_loc f_X8_readEither (nx := 13) rfl rfl rfl rfl ?_
      refine ev_sp f_X8_readEither (nx := 16) (v := 300) rfl (by decide) rfl ?_
      refine ev_if f_X8_readEither (t1 := 65) (t2 := 19) rfl rfl rfl (fun h7 => ?_) (fun h7 => ?_)
      · have l8 : 300 ≤ y6_2.toInt := t_lel h7 (by decide : (300:Int) ≤ (300:Int32).toInt)
        refine ev_ic f_X8_readEither (nx := 66) (v := 1) rfl (by decide) rfl ?_
        exact ev_ret f_X8_readEither rfl rfl rfl ⟨_, _, _, rfl, hI, hX, ⟨_, rfl, (Int.le_trans (by decide : (0:Int) ≤ 1) (by decide : (1:Int) ≤ (1:Int32).toInt)), (by decide : (1:Int32).toInt ≤ (1:Int)), (show (∀ (b : Nat → Int32) (n q c : Nat) (T : List Int), t_US b n q c gi gl gr ar0 → (T.length : Int) = ar1.toInt → s_pop T = T → ((1 : Int) = 1 ∧ ∃ q2 c2, s_Cnd b n false q c T = s_Cnd b n true q2 c2 T ∧ q < q2 ∧ t_US b n q2 c2 gi6 gl6 gr6 ar0 ∧ ¬ s_jnd b n q2 ∧ t_UT gi gi6 ar0 ∧ ∀ E : List Int, t_UE sh gi ar0 n q E → ∃ S : List Int, S.length + q ≤ q2 ∧ t_UE sh gi6 ar0 n q2 (E ++ S) ∧ s_e3 b n q q2 S) ∨ ((1 : Int) = 0 ∧ ∃ p x, x ≠ 0 ∧ s_Cnd b n false q c T = s_qb b n p x ∧ t_FL gi6 (ar0 + 1) (s_fk b n p x) (s_F b n p))) ∧ t_lq ar0 gi gl gr gi6 gl6 gr6 from ⟨fun b n q c T h hT hp => (by
                                                            obtain ⟨q2, c2, hC, hl0, hi, h2, hw2, hT2, hE2⟩ := j6_0.1 b n q c T h hT hp
                                                            have h102 := p_a0.2.1
                                                            have hn3 := h2.2.1.1
                                                            have hq2 := h2.qn
                                                            exact absurd hi (by omega)), j6_0.2⟩)⟩⟩
      · have u9 : y6_2.toInt ≤ 299 := t_ltu (t_nle h7) (by decide : (300:Int32).toInt ≤ (300:Int)) rfl
        refine ev_loc f_X8_readEither (nx := 20) rfl rfl rfl rfl ?_
        have e10 := p_a0.2.2.1.1
        have p10 := p_a0.2.2.1.2
        refine ev_getR f_X8_readEither (nx := 23) rfl p_a0.1 rfl rfl e10 rfl rfl ?_
        have k11 := hI.2.2.2.1.2.2.2.2.2 (ar0 + 1) p10.1
        obtain ⟨v11, e11⟩ : ∃ v, gr6 (ar0 + 1) 7 = v := ⟨_, rfl⟩
        rw [e11] at k11
        refine ev_getR f_X8_readEither (nx := 26) rfl p10.1 rfl rfl e11 (t_KwR k11) rfl ?_
        refine ev_heap f_X8_readEither (nx := 29) rfl rfl rfl rfl ?_
        refine ev_ack f_X8_readEither (t1 := 32) (t2 := 65) rfl rfl rfl (t_knw k11) rfl (fun h12 => ?_) (fun h12 => ?_)
        · refine ev_loc f_X8_readEither (nx := 33) rfl rfl rfl rfl ?_
          refine ev_getR f_X8_readEither (nx := 36) (v := .ref (ar0 + 1)) rfl p_a0.1 rfl rfl e10 rfl rfl ?_
          refine ev_qN f_X8_readEither (nx := 39) (r := []) rfl rfl rfl rfl rfl rfl rfl (c_s_step hI ((ar0 + 1)) p10) rfl hX rfl (fun gi13 gl13 gr13 hI hX hC13 q13 => ?_)
          have q13 : (∀ (b : Nat → Int32) (n q : Nat), t_Sp b n q gi6 (ar0 + 1) → t_TC b n q gi13 gl13 gr13 (ar0 + 1)) ∧ t_nf gi6 gi13 (ar0 + 1) ∧ t_on (ar0 + 1) gi6 gl6 gr6 gi13 gl13 gr13 := q13
          replace p_a0 := p_a0.ext hC13.2
          replace p10 := p10.ext hC13.2
          refine ev_loc f_X8_readEither (nx := 40) rfl rfl rfl rfl ?_
          refine ev_loc f_X8_readEither (nx := 41) rfl rfl rfl rfl ?_
          refine ev_qI f_X8_readEither (nx := 44) (r := []) rfl rfl rfl rfl rfl rfl rfl (c_ue_readBoth2 hI (ar0) p_a0 (ar1) l_a1 u_a1) rfl hX rfl (fun w14 gi14 gl14 gr14 l14 u14 hI hX hC14 q14 => ?_)
          have q14 : (∀ (b : Nat → Int32) (n q c : Nat) (T : List Int), t_US b n q c gi13 gl13 gr13 ar0 → (T.length : Int) = ar1.toInt → s_pop T = T → (w14.toInt = 1 ∧ ∃ q2 c2, s_Cnd b n false q c T = s_Cnd b n true q2 c2 T ∧ q < q2 ∧ t_US b n q2 c2 gi14 gl14 gr14 ar0 ∧ s_W b n q2 ≠ some 19 ∧ t_UT gi13 gi14 ar0 ∧ ∀ E : List Int, t_UE sh gi13 ar0 n q E → ∃ S : List Int, S.length + q ≤ q2 ∧ t_UE sh gi14 ar0 n q2 (E ++ S) ∧ s_e2 b n q q2 S) ∨ (w14.toInt = 0 ∧ ∃ p x, x ≠ 0 ∧ s_Cnd b n false q c T = s_qb b n p x ∧ t_FL gi14 (ar0 + 1) (s_fk b n p x) (s_F b n p))) ∧ t_lq ar0 gi13 gl13 gr13 gi14 gl14 gr14 := q14
          replace p_a0 := p_a0.ext hC14.2
          replace p10 := p10.ext hC14.2
          refine ev_if f_X8_readEither (t1 := 47) (t2 := 49) rfl rfl rfl (fun h15 => ?_) (fun h15 => ?_)
          · have u16 : w14.toInt ≤ 0 := t_equ h15 (by decide : (0:Int32).toInt ≤ (0:Int))
            refine ev_ic f_X8_readEither (nx := 48) (v := 0) rfl (by decide) rfl ?_
            exact ev_ret f_X8_readEither rfl rfl rfl ⟨_, _, _, rfl, hI, hX, ⟨_, rfl, (by decide : (0:Int) ≤ (0:Int32).toInt), (Int.le_trans (by decide : (0:Int32).toInt ≤ (0:Int)) (by decide : (0:Int) ≤ 1)), (show (∀ (b : Nat → Int32) (n q c : Nat) (T : List Int), t_US b n q c gi gl gr ar0 → (T.length : Int) = ar1.toInt → s_pop T = T → ((0 : Int) = 1 ∧ ∃ q2 c2, s_Cnd b n false q c T = s_Cnd b n true q2 c2 T ∧ q < q2 ∧ t_US b n q2 c2 gi14 gl14 gr14 ar0 ∧ ¬ s_jnd b n q2 ∧ t_UT gi gi14 ar0 ∧ ∀ E : List Int, t_UE sh gi ar0 n q E → ∃ S : List Int, S.length + q ≤ q2 ∧ t_UE sh gi14 ar0 n q2 (E ++ S) ∧ s_e3 b n q q2 S) ∨ ((0 : Int) = 0 ∧ ∃ p x, x ≠ 0 ∧ s_Cnd b n false q c T = s_qb b n p x ∧ t_FL gi14 (ar0 + 1) (s_fk b n p x) (s_F b n p))) ∧ t_lq ar0 gi gl gr gi14 gl14 gr14 from ⟨fun b n q c T h hT hp => (by
                                                            obtain ⟨q2, c2, hC, hl0, hi, h2, hw2, hT2, hE2⟩ := j6_0.1 b n q c T h hT hp
                                                            have h102 := p_a0.2.1
                                                            have hn3 := h2.2.1.1
                                                            have hq2 := h2.qn
                                                            have hW := h2.1.kwT e11 h12
                                                            have hJ : s_jnd b n q2 := Or.inl hW
                                                            have h2a := h2.on (q13.1 b n _ h2.1.S) q13.2.1 q13.2.2
                                                            obtain ⟨_, p, x, hx, hX, hf⟩ := (q14.1 b n _ _ T h2a hT hp).resolve_left (fun hh => absurd hh.1 (by omega))
                                                            exact Or.inr ⟨rfl, p, x, hx, (hC.trans (s_Cnd_j h2.qn hJ)).trans hX, hf⟩), (t_lq.tr (t_lq.on j6_0.2 q13.2.2 (by omega)) q14.2)⟩)⟩⟩
          · have r17 : w14.toInt ≠ 0 := fun e => h15 (Int32.toInt_inj.mp (e.trans (by decide : (0:Int) = (0 : Int32).toInt)))
            have l18 : 1 ≤ w14.toInt := t_nel h15 l14 rfl rfl
            refine ev_loc f_X8_readEither (nx := 50) rfl rfl rfl rfl ?_
            have e19 := p_a0.2.2.2.1
            have p19 := p_a0.2.2.2.2
            refine ev_getR f_X8_readEither (nx := 53) rfl p_a0.1 rfl rfl e19 rfl rfl ?_
            refine ev_ic f_X8_readEither (nx := 54) (v := 5) rfl (by decide) rfl ?_
            refine ev_ic f_X8_readEither (nx := 55) (v := 0) rfl (by decide) rfl ?_
            refine ev_ic f_X8_readEither (nx := 56) (v := 0) rfl (by decide) rfl ?_
            refine ev_qN f_X8_readEither (nx := 59) (r := []) rfl rfl rfl rfl rfl rfl rfl (c_ue_addStep hI ((ar0 + 2)) p19 (5) (0) (0)) rfl hX rfl (fun gi20 gl20 gr20 hI hX hC20 q20 => ?_)
            have q20 : t_xc [(ar0 + 2), (ar0 + 2) + 3, (ar0 + 2) + 4, (ar0 + 2) + 5] gi14 gl14 gr14 gi20 gl20 gr20 ∧ gi20 (ar0 + 2) 0 = gi14 (ar0 + 2) 0 ∧ ∀ n : Nat, sh[(ar0 + 2) + 3]? = some (.inr (0, n)) → (gi14 (ar0 + 2) 3).toInt < (n : Int) → t_AS gi14 gi20 (ar0 + 2) (5 : Int32) (0 : Int32) (0 : Int32) := q20
            replace p_a0 := p_a0.ext hC20.2
            replace p10 := p10.ext hC20.2
            replace p19 := p19.ext hC20.2
            refine ev_incR f_X8_readEither (nx := 62) (c := 1) (l := 1) (u := 300) rfl rfl (by decide) (by decide) l6_2 u9 rfl rfl (by decide) (by decide) rfl (fun z21 e21 l21 u21 => ?_)
            refine ev_jmp f_X8_readEither (nx := 12) rfl rfl rfl ?_
            refine ev_sub (lo := [(2, .int z21), (0, .ref ar0), (1, .int ar1)]) rfl (t_sc rfl (t_sc rfl (t_sc rfl t_sn))) ?_
            exact ih6 _ (by omega) gi20 gl20 gr20 (z21) hI hX p_a0 (Int.le_trans (by decide : (0:Int) ≤ 1) l21) u21 ⟨fun b n q c T h hT hp => (by
                                                            obtain ⟨q2, c2, hC, hl0, hi, h2, hw2, hT2, hE2⟩ := j6_0.1 b n q c T h hT hp
                                                            have h102 := p_a0.2.1
                                                            have hW := h2.1.kwT e11 h12
                                                            have hJ : s_jnd b n q2 := Or.inl hW
                                                            have hg := s_jnd_gt hJ
                                                            have h2a := h2.on (q13.1 b n _ h2.1.S) q13.2.1 q13.2.2
                                                            obtain ⟨_, q3, c3, hX, hlt, h3, hw3, hT3, hE3⟩ := (q14.1 b n _ _ T h2a hT hp).resolve_right (fun hh => absurd hh.1 (by omega))
                                                            have h4 := h3.xc q20.1 (by intro x hx; simp only [List.mem_cons, List.not_mem_nil, or_false] at hx; omega)
                                                            have hq3 := h4.qn
                                                            have hUT : t_UT gi gi20 ar0 := ((hT2.on q13.2.2 (by omega)).tr hT3).xc q20.1
                                                            have hEM : ∀ E : List Int, t_UE sh gi ar0 n q E → ∃ S : List Int, S.length + q ≤ q3 ∧ t_UE sh gi20 ar0 n q3 (E ++ S) ∧ s_e3 b n q q3 S := by
                                                              intro E hE
                                                              obtain ⟨S, s1, s2, s3⟩ := hE2 E hE
                                                              obtain ⟨S2, s4, s5, s6⟩ := hE3 _ (s2.on q13.2.2 (by omega) (Nat.le_of_lt hg.1))
                                                              have hb := hE.2.1.2
                                                              refine ⟨S ++ S2 ++ [18], by rw [List.length_append, List.length_append, List.length_singleton]; omega, ?_, s_e3_s h2.qn s3 hW s6⟩
                                                              rw [← List.append_assoc, ← List.append_assoc]
                                                              exact s5.ad2 (by rw [List.length_append, List.length_append]; omega) (by rw [List.length_append, List.length_append]; omega) q20.2.2 (s_cdr_r rfl rfl)
                                                            exact ⟨q3, c3, (hC.trans (s_Cnd_j h2.qn hJ)).trans hX, by omega, by omega, h4, hw3, hUT, hEM⟩), (t_lq.ex (t_lq.tr (t_lq.on j6_0.2 q13.2.2 (by omega)) q14.2) q20.1 (by intro x hx; simp only [List.mem_cons, List.not_mem_nil, or_false] at hx; omega))⟩ rfl
        · refine ev_ic f_X8_readEither (nx := 66) (v := 1) rfl (by decide) rfl ?_
          exact ev_ret f_X8_readEither rfl rfl rfl ⟨_, _, _, rfl, hI, hX, ⟨_, rfl, (Int.le_trans (by decide : (0:Int) ≤ 1) (by decide : (1:Int) ≤ (1:Int32).toInt)), (by decide : (1:Int32).toInt ≤ (1:Int)), (show (∀ (b : Nat → Int32) (n q c : Nat) (T : List Int), t_US b n q c gi gl gr ar0 → (T.length : Int) = ar1.toInt → s_pop T = T → ((1 : Int) = 1 ∧ ∃ q2 c2, s_Cnd b n false q c T = s_Cnd b n true q2 c2 T ∧ q < q2 ∧ t_US b n q2 c2 gi6 gl6 gr6 ar0 ∧ ¬ s_jnd b n q2 ∧ t_UT gi gi6 ar0 ∧ ∀ E : List Int, t_UE sh gi ar0 n q E → ∃ S : List Int, S.length + q ≤ q2 ∧ t_UE sh gi6 ar0 n q2 (E ++ S) ∧ s_e3 b n q q2 S) ∨ ((1 : Int) = 0 ∧ ∃ p x, x ≠ 0 ∧ s_Cnd b n false q c T = s_qb b n p x ∧ t_FL gi6 (ar0 + 1) (s_fk b n p x) (s_F b n p))) ∧ t_lq ar0 gi gl gr gi6 gl6 gr6 from ⟨fun b n q c T h hT hp => (by
                                                            obtain ⟨q2, c2, hC, hl0, hi, h2, hw2, hT2, hE2⟩ := j6_0.1 b n q c T h hT hp
                                                            have h102 := p_a0.2.1
                                                            have hn3 := h2.2.1.1
                                                            have hq2 := h2.qn
                                                            exact Or.inl ⟨rfl, q2, c2, hC, hl0, h2, (fun hh => hh.elim (fun x => (h2.1.kwF e11 h12) x) (fun x => hw2 x)), hT2, hE2⟩), j6_0.2⟩)⟩⟩
    refine ev_sub (lo := [(2, .int 0), (0, .ref ar0), (1, .int ar1)]) rfl (t_sc rfl (t_sc rfl (t_sc rfl t_sn))) ?_
    exact L6 _ gi1 gl1 gr1 (0) hI hX p_a0 (by decide : (0:Int) ≤ (0:Int32).toInt) (Int.le_trans (by decide : (0:Int32).toInt ≤ (0:Int)) (by decide : (0:Int) ≤ 300)) ⟨fun b n q c T h hT hp => (by
                                                            obtain ⟨_, q3, c3, hX, hlt, h3, hw3, hT3, hE3⟩ := (q1.1 b n _ _ T h hT hp).resolve_right (fun hh => absurd hh.1 (by omega))
                                                            exact ⟨q3, c3, hX, hlt, by have : (0 : Int32).toInt = 0 := rfl; omega, h3, hw3, hT3, fun E hE => (hE3 E hE).imp (fun S hS => ⟨hS.1, hS.2.1, s_e3_2 hS.2.2⟩)⟩), (t_lq.tr t_lq.rf q1.2)⟩ rfl
