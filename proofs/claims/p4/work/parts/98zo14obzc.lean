/-! ===== printed by riv.py: the RULES of the class ===== -/
noncomputable def wl_ue_readRule : List (Nat × Nat) := [(116, 0), (116, 3), (117, 2), (118, 2), (118, 3), (118, 4), (118, 5), (118, 6), (118, 7), (118, 8), (118, 9), (118, 10), (118, 11), (130, 9999)]
noncomputable def Q_ue_readRule (sh : List (Nat ⊕ (Nat × Nat))) (gi : Nat → Nat → Int32) (gl : Nat → Nat → Int64) (gr : Nat → Nat → Value) (ar0 : Nat) : Int32 → (Nat → Nat → Int32) → (Nat → Nat → Int64) → (Nat → Nat → Value) → Prop := fun (v : Int32) (gi2 : Nat → Nat → Int32) (gl2 : Nat → Nat → Int64) (gr2 : Nat → Nat → Value) => (∀ (b : Nat → Int32) (n q c r : Nat), t_US b n q c gi gl gr ar0 → (gi (ar0 + 2) 0).toInt = (r : Int) → r ≤ 12 → s_K b n q ≠ 0 → (v.toInt = 1 ∧ ∃ q2 c2, (∀ m, s_rls b n (m + 1) q c r = s_rls b n m q2 c2 (r + 1)) ∧ q < q2 ∧ t_US b n q2 c2 gi2 gl2 gr2 ar0 ∧ (gi2 (ar0 + 2) 0).toInt = (r : Int) + 1 ∧ ∀ R : List (List Int × Int), t_UL sh gi ar0 n q R → R.length = r → ∃ x, t_UL sh gi2 ar0 n q2 (R ++ [x]) ∧ ∀ m, s_rle b n (m + 1) q c = x :: s_rle b n m q2 c2) ∨ (v.toInt = 0 ∧ ∃ p x, x ≠ 0 ∧ (∀ m, s_rls b n (m + 1) q c r = ((s_qb b n p x).1, 0)) ∧ t_FL gi2 (ar0 + 1) (s_fk b n p x) (s_F b n p))) ∧ t_lq ar0 gi gl gr gi2 gl2 gr2
theorem c_ue_readRule {X : x_Ext} {d : Nat} {sh : List (Nat ⊕ (Nat × Nat))} {gi : Nat → Nat → Int32} {gl : Nat → Nat → Int64} {gr : Nat → Nat → Value} (hI : t_I sh gi gr) (ar0 : Nat) (p_a0 : t_UQ sh gr ar0) : x_Me X (d + 64) n_X8_readRule [.ref ar0] (sh, gi, gl, gr) (t_PI wl_ue_readRule sh gi gl gr 0 1 (Q_ue_readRule sh gi gl gr ar0)) := by
  have hX : t_X wl_ue_readRule sh gi gl gr gi gl gr := t_X.rf
  refine me_i f_X8_readRule p_a0.1 rfl rfl rfl ?_
  refine ev_loc f_X8_readRule (nx := 1) rfl rfl rfl rfl ?_
  have e1 := p_a0.2.2.1.1
  have p1 := p_a0.2.2.1.2
  refine ev_getR f_X8_readRule (nx := 4) rfl p_a0.1 rfl rfl e1 rfl rfl ?_
  have k2 := hI.2.2.2.1.2.2.2.2.2 (ar0 + 1) p1.1
  obtain ⟨v2, e2⟩ : ∃ v, gr (ar0 + 1) 7 = v := ⟨_, rfl⟩
  rw [e2] at k2
  refine ev_getR f_X8_readRule (nx := 7) rfl p1.1 rfl rfl e2 (t_KwR k2) rfl ?_
  refine ev_heap f_X8_readRule (nx := 10) rfl rfl rfl rfl ?_
  refine ev_ack f_X8_readRule (t1 := 13) (t2 := 35) rfl rfl rfl (t_knw k2) rfl (fun h3 => ?_) (fun h3 => ?_)
  · refine ev_loc f_X8_readRule (nx := 14) rfl rfl rfl rfl ?_
    have e4 := p_a0.2.2.2.1
    have p4 := p_a0.2.2.2.2
    refine ev_getR f_X8_readRule (nx := 17) rfl p_a0.1 rfl rfl e4 rfl rfl ?_
    refine ev_getI f_X8_readRule (nx := 20) rfl p4.1 rfl rfl rfl ?_
    obtain ⟨l5, u5⟩ := hI.b p4.1 (t_bdK rfl : t_bd 6 0 = some (0, 12))
    refine ev_bp f_X8_readRule (nx := 22) (v := 12) rfl (by decide) rfl ?_
    refine ev_if f_X8_readRule (t1 := 35) (t2 := 25) rfl rfl rfl (fun h6 => ?_) (fun h6 => ?_)
    · have u7 : (gi (ar0 + 2) 0).toInt ≤ 11 := t_ltu h6 (by decide : (12:Int32).toInt ≤ (12:Int)) rfl
      refine ev_loc f_X8_readRule (nx := 36) rfl rfl rfl rfl ?_
      refine ev_getR f_X8_readRule (nx := 39) (v := .ref (ar0 + 1)) rfl p_a0.1 rfl rfl e1 rfl rfl ?_
      refine ev_heap f_X8_readRule (nx := 42) rfl rfl rfl rfl ?_
      refine ev_qI f_X8_readRule (nx := 45) (r := []) rfl rfl rfl rfl rfl rfl rfl (c_s_takeIf hI ((ar0 + 1)) p1) rfl hX rfl (fun w8 gi8 gl8 gr8 l8 u8 hI hX hC8 q8 => ?_)
      have q8 : (∀ (b : Nat → Int32) (n q : Nat), t_TC b n q gi gl gr (ar0 + 1) → (w8.toInt = 1 ∧ s_W b n q = some 13 ∧ t_TC b n (s_E b n q) gi8 gl8 gr8 (ar0 + 1) ∧ t_nf gi gi8 (ar0 + 1)) ∨ (w8.toInt = 0 ∧ s_W b n q ≠ some 13 ∧ t_FL gi8 (ar0 + 1) (s_fk b n q 2) (s_F b n q))) ∧ t_on (ar0 + 1) gi gl gr gi8 gl8 gr8 := q8
      replace p_a0 := p_a0.ext hC8.2
      replace p1 := p1.ext hC8.2
      replace p4 := p4.ext hC8.2
      refine ev_if f_X8_readRule (t1 := 69) (t2 := 48) rfl rfl rfl (fun h9 => ?_) (fun h9 => ?_)
      · have u10 : w8.toInt ≤ 0 := t_equ h9 (by decide : (0:Int32).toInt ≤ (0:Int))
        refine ev_ic f_X8_readRule (nx := 70) (v := 0) rfl (by decide) rfl ?_
        exact ev_ret f_X8_readRule rfl rfl rfl ⟨_, _, _, rfl, hI, hX, ⟨_, rfl, (by decide : (0:Int) ≤ (0:Int32).toInt), (Int.le_trans (by decide : (0:Int32).toInt ≤ (0:Int)) (by decide : (0:Int) ≤ 1)), (show (∀ (b : Nat → Int32) (n q c r : Nat), t_US b n q c gi gl gr ar0 → (gi (ar0 + 2) 0).toInt = (r : Int) → r ≤ 12 → s_K b n q ≠ 0 → ((0 : Int) = 1 ∧ ∃ q2 c2, (∀ m, s_rls b n (m + 1) q c r = s_rls b n m q2 c2 (r + 1)) ∧ q < q2 ∧ t_US b n q2 c2 gi8 gl8 gr8 ar0 ∧ (gi8 (ar0 + 2) 0).toInt = (r : Int) + 1 ∧ ∀ R : List (List Int × Int), t_UL sh gi ar0 n q R → R.length = r → ∃ x, t_UL sh gi8 ar0 n q2 (R ++ [x]) ∧ ∀ m, s_rle b n (m + 1) q c = x :: s_rle b n m q2 c2) ∨ ((0 : Int) = 0 ∧ ∃ p x, x ≠ 0 ∧ (∀ m, s_rls b n (m + 1) q c r = ((s_qb b n p x).1, 0)) ∧ t_FL gi8 (ar0 + 1) (s_fk b n p x) (s_F b n p))) ∧ t_lq ar0 gi gl gr gi8 gl8 gr8 from ⟨(by
                                                            intro b n q c r h hm hr12 hK
                                                            have h102 := p_a0.2.1
                                                            have hq := h.qn
                                                            obtain ⟨_, hW, hf⟩ := (q8.1 b n _ h.1).resolve_left (fun hh => absurd hh.1 (by omega))
                                                            exact Or.inr ⟨rfl, q, 2, by decide, fun m => s_rls_i hK hW, hf⟩), (t_lq.on t_lq.rf q8.2 (by omega))⟩)⟩⟩
      · have r11 : w8.toInt ≠ 0 := fun e => h9 (Int32.toInt_inj.mp (e.trans (by decide : (0:Int) = (0 : Int32).toInt)))
        have l12 : 1 ≤ w8.toInt := t_nel h9 l8 rfl rfl
        refine ev_loc f_X8_readRule (nx := 49) rfl rfl rfl rfl ?_
        refine ev_ic f_X8_readRule (nx := 50) (v := 0) rfl (by decide) rfl ?_
        refine ev_qI f_X8_readRule (nx := 53) (r := []) rfl rfl rfl rfl rfl rfl rfl (c_ue_readEither2 hI (ar0) p_a0 (0) (by decide : (0:Int) ≤ (0:Int32).toInt) (Int.le_trans (by decide : (0:Int32).toInt ≤ (0:Int)) (by decide : (0:Int) ≤ 6))) rfl hX rfl (fun w13 gi13 gl13 gr13 l13 u13 hI hX hC13 q13 => ?_)
        have q13 : (∀ (b : Nat → Int32) (n q c : Nat) (T : List Int), t_US b n q c gi8 gl8 gr8 ar0 → (T.length : Int) = 0 → s_pop T = T → (w13.toInt = 1 ∧ ∃ q2 c2, s_Cnd b n false q c T = s_Cnd b n true q2 c2 T ∧ q < q2 ∧ t_US b n q2 c2 gi13 gl13 gr13 ar0 ∧ ¬ s_jnd b n q2 ∧ t_UT gi8 gi13 ar0 ∧ ∀ E : List Int, t_UE sh gi8 ar0 n q E → ∃ S : List Int, S.length + q ≤ q2 ∧ t_UE sh gi13 ar0 n q2 (E ++ S) ∧ s_e3 b n q q2 S) ∨ (w13.toInt = 0 ∧ ∃ p x, x ≠ 0 ∧ s_Cnd b n false q c T = s_qb b n p x ∧ t_FL gi13 (ar0 + 1) (s_fk b n p x) (s_F b n p))) ∧ t_lq ar0 gi8 gl8 gr8 gi13 gl13 gr13 := q13
        replace p_a0 := p_a0.ext hC13.2
        replace p1 := p1.ext hC13.2
        replace p4 := p4.ext hC13.2
        refine ev_if f_X8_readRule (t1 := 69) (t2 := 56) rfl rfl rfl (fun h14 => ?_) (fun h14 => ?_)
        · have u15 : w13.toInt ≤ 0 := t_equ h14 (by decide : (0:Int32).toInt ≤ (0:Int))
          refine ev_ic f_X8_readRule (nx := 70) (v := 0) rfl (by decide) rfl ?_
          exact ev_ret f_X8_readRule rfl rfl rfl ⟨_, _, _, rfl, hI, hX, ⟨_, rfl, (by decide : (0:Int) ≤ (0:Int32).toInt), (Int.le_trans (by decide : (0:Int32).toInt ≤ (0:Int)) (by decide : (0:Int) ≤ 1)), (show (∀ (b : Nat → Int32) (n q c r : Nat), t_US b n q c gi gl gr ar0 → (gi (ar0 + 2) 0).toInt = (r : Int) → r ≤ 12 → s_K b n q ≠ 0 → ((0 : Int) = 1 ∧ ∃ q2 c2, (∀ m, s_rls b n (m + 1) q c r = s_rls b n m q2 c2 (r + 1)) ∧ q < q2 ∧ t_US b n q2 c2 gi13 gl13 gr13 ar0 ∧ (gi13 (ar0 + 2) 0).toInt = (r : Int) + 1 ∧ ∀ R : List (List Int × Int), t_UL sh gi ar0 n q R → R.length = r → ∃ x, t_UL sh gi13 ar0 n q2 (R ++ [x]) ∧ ∀ m, s_rle b n (m + 1) q c = x :: s_rle b n m q2 c2) ∨ ((0 : Int) = 0 ∧ ∃ p x, x ≠ 0 ∧ (∀ m, s_rls b n (m + 1) q c r = ((s_qb b n p x).1, 0)) ∧ t_FL gi13 (ar0 + 1) (s_fk b n p x) (s_F b n p))) ∧ t_lq ar0 gi gl gr gi13 gl13 gr13 from ⟨(by
                                                            intro b n q c r h hm hr12 hK
                                                            have h102 := p_a0.2.1
                                                            have hq := h.qn
                                                            obtain ⟨_, hW, ht1, hf1⟩ := (q8.1 b n _ h.1).resolve_right (fun hh => absurd hh.1 (by omega))
                                                            have h1 := h.on ht1 hf1 q8.2
                                                            have hr : r ≠ 12 := by omega
                                                            obtain ⟨_, p, x, hx, hX, hf⟩ := (q13.1 b n _ c [] h1 rfl rfl).resolve_left (fun hh => absurd hh.1 (by omega))
                                                            exact Or.inr ⟨rfl, p, x, hx, fun m => s_rls_c hK hW hr hX hx, hf⟩), (t_lq.tr (t_lq.on t_lq.rf q8.2 (by omega)) q13.2)⟩)⟩⟩
        · have r16 : w13.toInt ≠ 0 := fun e => h14 (Int32.toInt_inj.mp (e.trans (by decide : (0:Int) = (0 : Int32).toInt)))
          have l17 : 1 ≤ w13.toInt := t_nel h14 l13 rfl rfl
          refine ev_loc f_X8_readRule (nx := 57) rfl rfl rfl rfl ?_
          refine ev_getR f_X8_readRule (nx := 60) (v := .ref (ar0 + 1)) rfl p_a0.1 rfl rfl ((hC13.1 ar0 0 (t_ninO hI.wf p_a0.1 (t_outO hI.wf p_a0.1 rfl) rfl)).2.2.trans ((hC8.1 ar0 0 (t_ninO hI.wf p_a0.1 (t_outO hI.wf p_a0.1 rfl) rfl)).2.2.trans e1)) rfl rfl ?_
          refine ev_heap f_X8_readRule (nx := 63) rfl rfl rfl rfl ?_
          refine ev_qI f_X8_readRule (nx := 66) (r := []) rfl rfl rfl rfl rfl rfl rfl (c_s_takeDo hI ((ar0 + 1)) p1) rfl hX rfl (fun w18 gi18 gl18 gr18 l18 u18 hI hX hC18 q18 => ?_)
          have q18 : (∀ (b : Nat → Int32) (n q : Nat), t_TC b n q gi13 gl13 gr13 (ar0 + 1) → (w18.toInt = 1 ∧ s_W b n q = some 14 ∧ t_TC b n (s_E b n q) gi18 gl18 gr18 (ar0 + 1) ∧ t_nf gi13 gi18 (ar0 + 1)) ∨ (w18.toInt = 0 ∧ s_W b n q ≠ some 14 ∧ t_FL gi18 (ar0 + 1) (s_fk b n q 2) (s_F b n q))) ∧ t_on (ar0 + 1) gi13 gl13 gr13 gi18 gl18 gr18 := q18
          replace p_a0 := p_a0.ext hC18.2
          replace p1 := p1.ext hC18.2
          replace p4 := p4.ext hC18.2
          refine ev_if f_X8_readRule (t1 := 69) (t2 := 71) rfl rfl rfl (fun h19 => ?_) (fun h19 => ?_)
          · have u20 : w18.toInt ≤ 0 := t_equ h19 (by decide : (0:Int32).toInt ≤ (0:Int))
            refine ev_ic f_X8_readRule (nx := 70) (v := 0) rfl (by decide) rfl ?_
            exact ev_ret f_X8_readRule rfl rfl rfl ⟨_, _, _, rfl, hI, hX, ⟨_, rfl, (by decide : (0:Int) ≤ (0:Int32).toInt), (Int.le_trans (by decide : (0:Int32).toInt ≤ (0:Int)) (by decide : (0:Int) ≤ 1)), (show (∀ (b : Nat → Int32) (n q c r : Nat), t_US b n q c gi gl gr ar0 → (gi (ar0 + 2) 0).toInt = (r : Int) → r ≤ 12 → s_K b n q ≠ 0 → ((0 : Int) = 1 ∧ ∃ q2 c2, (∀ m, s_rls b n (m + 1) q c r = s_rls b n m q2 c2 (r + 1)) ∧ q < q2 ∧ t_US b n q2 c2 gi18 gl18 gr18 ar0 ∧ (gi18 (ar0 + 2) 0).toInt = (r : Int) + 1 ∧ ∀ R : List (List Int × Int), t_UL sh gi ar0 n q R → R.length = r → ∃ x, t_UL sh gi18 ar0 n q2 (R ++ [x]) ∧ ∀ m, s_rle b n (m + 1) q c = x :: s_rle b n m q2 c2) ∨ ((0 : Int) = 0 ∧ ∃ p x, x ≠ 0 ∧ (∀ m, s_rls b n (m + 1) q c r = ((s_qb b n p x).1, 0)) ∧ t_FL gi18 (ar0 + 1) (s_fk b n p x) (s_F b n p))) ∧ t_lq ar0 gi gl gr gi18 gl18 gr18 from ⟨(by
                                                            intro b n q c r h hm hr12 hK
                                                            have h102 := p_a0.2.1
                                                            have hq := h.qn
                                                            obtain ⟨_, hW, ht1, hf1⟩ := (q8.1 b n _ h.1).resolve_right (fun hh => absurd hh.1 (by omega))
                                                            have h1 := h.on ht1 hf1 q8.2
                                                            have hr : r ≠ 12 := by omega
                                                            obtain ⟨_, q2, c2, hX, hlt, h2, hw, hT2, hE2⟩ := (q13.1 b n _ c [] h1 rfl rfl).resolve_right (fun hh => absurd hh.1 (by omega))
                                                            have hX := hX.trans (s_Cnd_e h2.qn hw)
                                                            have hg := s_W_gt hW
                                                            have hR := fun m => s_rls_k (m := m) hK hW hr hX
                                                            obtain ⟨_, hD, hf⟩ := (q18.1 b n _ h2.1).resolve_left (fun hh => absurd hh.1 (by omega))
                                                            exact Or.inr ⟨rfl, q2, 2, by decide, fun m => (hR m).trans (s_act_d hD), hf⟩), (t_lq.on (t_lq.tr (t_lq.on t_lq.rf q8.2 (by omega)) q13.2) q18.2 (by omega))⟩)⟩⟩
          · have r21 : w18.toInt ≠ 0 := fun e => h19 (Int32.toInt_inj.mp (e.trans (by decide : (0:Int) = (0 : Int32).toInt)))
            have l22 : 1 ≤ w18.toInt := t_nel h19 l18 rfl rfl
            refine ev_loc f_X8_readRule (nx := 72) rfl rfl rfl rfl ?_
            refine ev_qI0 f_X8_readRule (nx := 75) (r := []) rfl rfl rfl rfl rfl rfl rfl (c_ue_actTold hI (ar0) p_a0) rfl (fun w23 l23 u23 q23 => ?_)
            have q23 : ∀ (b : Nat → Int32) (n q : Nat), t_TC b n q gi18 gl18 gr18 (ar0 + 1) → ((w23.toInt ≠ -1 ↔ (s_W b n q = some 15 ∨ s_W b n q = some 16 ∨ s_W b n q = some 17)) ∧ (0 ≤ w23.toInt → s_mi (s_W b n q) = 15 + w23.toInt)) := q23
            refine ev_loc f_X8_readRule (nx := 76) (lo' := [(1, .int w23), (0, .ref ar0)]) rfl rfl rfl rfl ?_
            refine ev_loc f_X8_readRule (nx := 77) rfl rfl rfl rfl ?_
            refine ev_ic f_X8_readRule (nx := 78) (v := -1) rfl (by decide) rfl ?_
            refine ev_if f_X8_readRule (t1 := 81) (t2 := 90) rfl rfl rfl (fun h24 => ?_) (fun h24 => ?_)
            · have u25 : w23.toInt ≤ (-1) := t_equ h24 (by decide : ((-1):Int32).toInt ≤ ((-1):Int))
              refine ev_loc f_X8_readRule (nx := 82) rfl rfl rfl rfl ?_
              refine ev_getR f_X8_readRule (nx := 85) (v := .ref (ar0 + 1)) rfl p_a0.1 rfl rfl ((hC18.1 ar0 0 (t_ninO hI.wf p_a0.1 (t_outO hI.wf p_a0.1 rfl) rfl)).2.2.trans ((hC13.1 ar0 0 (t_ninO hI.wf p_a0.1 (t_outO hI.wf p_a0.1 rfl) rfl)).2.2.trans ((hC8.1 ar0 0 (t_ninO hI.wf p_a0.1 (t_outO hI.wf p_a0.1 rfl) rfl)).2.2.trans e1))) rfl rfl ?_
              refine ev_ic f_X8_readRule (nx := 86) (v := 2) rfl (by decide) rfl ?_
              refine ev_qI f_X8_readRule (nx := 89) (r := []) rfl rfl rfl rfl rfl rfl rfl (c_s_refuse hI ((ar0 + 1)) p1 (2) (by decide : (2:Int) ≤ (2:Int32).toInt) (Int.le_trans (by decide : (2:Int32).toInt ≤ (2:Int)) (by decide : (2:Int) ≤ 7))) rfl hX rfl (fun w26 gi26 gl26 gr26 l26 u26 hI hX hC26 q26 => ?_)
              have q26 : (∀ (b : Nat → Int32) (n q : Nat), t_TC b n q gi18 gl18 gr18 (ar0 + 1) → t_FL gi26 (ar0 + 1) (s_fk b n q 2) (s_F b n q)) ∧ w26.toInt = 0 ∧ t_on (ar0 + 1) gi18 gl18 gr18 gi26 gl26 gr26 := q26
              replace p_a0 := p_a0.ext hC26.2
              replace p1 := p1.ext hC26.2
              replace p4 := p4.ext hC26.2
              exact ev_retZ f_X8_readRule rfl l26 (Int.le_trans u26 (by decide : (0:Int) ≤ 1)) ⟨_, _, _, rfl, hI, hX, ⟨_, rfl, l26, (Int.le_trans u26 (by decide : (0:Int) ≤ 1)), (show (∀ (b : Nat → Int32) (n q c r : Nat), t_US b n q c gi gl gr ar0 → (gi (ar0 + 2) 0).toInt = (r : Int) → r ≤ 12 → s_K b n q ≠ 0 → (w26.toInt = 1 ∧ ∃ q2 c2, (∀ m, s_rls b n (m + 1) q c r = s_rls b n m q2 c2 (r + 1)) ∧ q < q2 ∧ t_US b n q2 c2 gi26 gl26 gr26 ar0 ∧ (gi26 (ar0 + 2) 0).toInt = (r : Int) + 1 ∧ ∀ R : List (List Int × Int), t_UL sh gi ar0 n q R → R.length = r → ∃ x, t_UL sh gi26 ar0 n q2 (R ++ [x]) ∧ ∀ m, s_rle b n (m + 1) q c = x :: s_rle b n m q2 c2) ∨ (w26.toInt = 0 ∧ ∃ p x, x ≠ 0 ∧ (∀ m, s_rls b n (m + 1) q c r = ((s_qb b n p x).1, 0)) ∧ t_FL gi26 (ar0 + 1) (s_fk b n p x) (s_F b n p))) ∧ t_lq ar0 gi gl gr gi26 gl26 gr26 from ⟨(by
                                                            intro b n q c r h hm hr12 hK
                                                            have h102 := p_a0.2.1
                                                            have hq := h.qn
                                                            obtain ⟨_, hW, ht1, hf1⟩ := (q8.1 b n _ h.1).resolve_right (fun hh => absurd hh.1 (by omega))
                                                            have h1 := h.on ht1 hf1 q8.2
                                                            have hr : r ≠ 12 := by omega
                                                            obtain ⟨_, q2, c2, hX, hlt, h2, hw, hT2, hE2⟩ := (q13.1 b n _ c [] h1 rfl rfl).resolve_right (fun hh => absurd hh.1 (by omega))
                                                            have hX := hX.trans (s_Cnd_e h2.qn hw)
                                                            have hg := s_W_gt hW
                                                            have hR := fun m => s_rls_k (m := m) hK hW hr hX
                                                            obtain ⟨_, hD, ht3, hf3⟩ := (q18.1 b n _ h2.1).resolve_right (fun hh => absurd hh.1 (by omega))
                                                            have h3 := h2.on ht3 hf3 q18.2
                                                            have ha := fun hh => (q23 b n _ h3.1).1.mpr hh (by omega)
                                                            exact Or.inr ⟨q26.2.1, _, 2, by decide, fun m => (hR m).trans (s_act_a hD ha), q26.1 b n _ h3.1⟩), (t_lq.on (t_lq.on (t_lq.tr (t_lq.on t_lq.rf q8.2 (by omega)) q13.2) q18.2 (by omega)) q26.2.2 (by omega))⟩)⟩⟩
            · have r27 : w23.toInt ≠ (-1) := fun e => h24 (Int32.toInt_inj.mp (e.trans (by decide : ((-1):Int) = ((-1) : Int32).toInt)))
              have l28 : 0 ≤ w23.toInt := t_nel h24 l23 rfl rfl
              refine ev_loc f_X8_readRule (nx := 91) rfl rfl rfl rfl ?_
              refine ev_getR f_X8_readRule (nx := 94) (v := .ref (ar0 + 1)) rfl p_a0.1 rfl rfl ((hC18.1 ar0 0 (t_ninO hI.wf p_a0.1 (t_outO hI.wf p_a0.1 rfl) rfl)).2.2.trans ((hC13.1 ar0 0 (t_ninO hI.wf p_a0.1 (t_outO hI.wf p_a0.1 rfl) rfl)).2.2.trans ((hC8.1 ar0 0 (t_ninO hI.wf p_a0.1 (t_outO hI.wf p_a0.1 rfl) rfl)).2.2.trans e1))) rfl rfl ?_
              refine ev_qN f_X8_readRule (nx := 97) (r := []) rfl rfl rfl rfl rfl rfl rfl (c_s_step hI ((ar0 + 1)) p1) rfl hX rfl (fun gi29 gl29 gr29 hI hX hC29 q29 => ?_)
              have q29 : (∀ (b : Nat → Int32) (n q : Nat), t_Sp b n q gi18 (ar0 + 1) → t_TC b n q gi29 gl29 gr29 (ar0 + 1)) ∧ t_nf gi18 gi29 (ar0 + 1) ∧ t_on (ar0 + 1) gi18 gl18 gr18 gi29 gl29 gr29 := q29
              replace p_a0 := p_a0.ext hC29.2
              replace p1 := p1.ext hC29.2
              replace p4 := p4.ext hC29.2
              refine ev_loc f_X8_readRule (nx := 98) rfl rfl rfl rfl ?_
              refine ev_getR f_X8_readRule (nx := 101) (v := .ref (ar0 + 2)) rfl p_a0.1 rfl rfl ((hC29.1 ar0 1 (t_ninO hI.wf p_a0.1 (t_outO hI.wf p_a0.1 rfl) rfl)).2.2.trans ((hC18.1 ar0 1 (t_ninO hI.wf p_a0.1 (t_outO hI.wf p_a0.1 rfl) rfl)).2.2.trans ((hC13.1 ar0 1 (t_ninO hI.wf p_a0.1 (t_outO hI.wf p_a0.1 rfl) rfl)).2.2.trans ((hC8.1 ar0 1 (t_ninO hI.wf p_a0.1 (t_outO hI.wf p_a0.1 rfl) rfl)).2.2.trans e4)))) rfl rfl ?_
              refine ev_loc f_X8_readRule (nx := 102) rfl rfl rfl rfl ?_
              refine ev_qN f_X8_readRule (nx := 105) (r := []) rfl rfl rfl rfl rfl rfl rfl (c_ue_endRule hI ((ar0 + 2)) p4 (w23)) rfl hX rfl (fun gi30 gl30 gr30 hI hX hC30 q30 => ?_)
              have ff31 : (gi29 (ar0 + 2) 0).toInt = (gi (ar0 + 2) 0).toInt := congrArg Int32.toInt ((hC29.1 (ar0 + 2) 0 (t_ninO hI.wf p4.1 (t_outO hI.wf p4.1 rfl) rfl)).1.trans ((hC18.1 (ar0 + 2) 0 (t_ninO hI.wf p4.1 (t_outO hI.wf p4.1 rfl) rfl)).1.trans ((hC13.1 (ar0 + 2) 0 (t_ninO hI.wf p4.1 (t_outO hI.wf p4.1 rfl) rfl)).1.trans ((hC8.1 (ar0 + 2) 0 (t_ninO hI.wf p4.1 (t_outO hI.wf p4.1 rfl) rfl)).1.trans rfl))))
              have q30 : (((gi29 (ar0 + 2) 0).toInt < 12 → (gi30 (ar0 + 2) 0).toInt = (gi29 (ar0 + 2) 0).toInt + 1) ∧ ((gi29 (ar0 + 2) 0).toInt < 12 → t_AR gi29 gi30 (ar0 + 2) w23)) ∧ t_xc [(ar0 + 2), (ar0 + 2) + 1, (ar0 + 2) + 2] gi29 gl29 gr29 gi30 gl30 gr30 := q30
              replace p_a0 := p_a0.ext hC30.2
              replace p1 := p1.ext hC30.2
              replace p4 := p4.ext hC30.2
              refine ev_loc f_X8_readRule (nx := 106) rfl rfl rfl rfl ?_
              refine ev_getR f_X8_readRule (nx := 109) (v := .ref (ar0 + 1)) rfl p_a0.1 rfl rfl ((hC30.1 ar0 0 (t_ninO hI.wf p_a0.1 (t_outO hI.wf p_a0.1 rfl) rfl)).2.2.trans ((hC29.1 ar0 0 (t_ninO hI.wf p_a0.1 (t_outO hI.wf p_a0.1 rfl) rfl)).2.2.trans ((hC18.1 ar0 0 (t_ninO hI.wf p_a0.1 (t_outO hI.wf p_a0.1 rfl) rfl)).2.2.trans ((hC13.1 ar0 0 (t_ninO hI.wf p_a0.1 (t_outO hI.wf p_a0.1 rfl) rfl)).2.2.trans ((hC8.1 ar0 0 (t_ninO hI.wf p_a0.1 (t_outO hI.wf p_a0.1 rfl) rfl)).2.2.trans e1))))) rfl rfl ?_
              refine ev_bp f_X8_readRule (nx := 111) (v := 59) rfl (by decide) rfl ?_
              refine ev_qI f_X8_readRule (nx := 114) (r := []) rfl rfl rfl rfl rfl rfl rfl (c_s_takeSign hI ((ar0 + 1)) p1 (59)) rfl hX rfl (fun w32 gi32 gl32 gr32 l32 u32 hI hX hC32 q32 => ?_)
              have q32 : (∀ (b : Nat → Int32) (n q : Nat), t_TC b n q gi30 gl30 gr30 (ar0 + 1) → (w32.toInt = 1 ∧ s_isS b n q 59 ∧ t_TC b n (s_E b n q) gi32 gl32 gr32 (ar0 + 1) ∧ t_nf gi30 gi32 (ar0 + 1)) ∨ (w32.toInt = 0 ∧ ¬ s_isS b n q 59 ∧ t_FL gi32 (ar0 + 1) (s_fk b n q 2) (s_F b n q))) ∧ t_on (ar0 + 1) gi30 gl30 gr30 gi32 gl32 gr32 := q32
              replace p_a0 := p_a0.ext hC32.2
              replace p1 := p1.ext hC32.2
              replace p4 := p4.ext hC32.2
              exact ev_retZ f_X8_readRule rfl l32 u32 ⟨_, _, _, rfl, hI, hX, ⟨_, rfl, l32, u32, (show (∀ (b : Nat → Int32) (n q c r : Nat), t_US b n q c gi gl gr ar0 → (gi (ar0 + 2) 0).toInt = (r : Int) → r ≤ 12 → s_K b n q ≠ 0 → (w32.toInt = 1 ∧ ∃ q2 c2, (∀ m, s_rls b n (m + 1) q c r = s_rls b n m q2 c2 (r + 1)) ∧ q < q2 ∧ t_US b n q2 c2 gi32 gl32 gr32 ar0 ∧ (gi32 (ar0 + 2) 0).toInt = (r : Int) + 1 ∧ ∀ R : List (List Int × Int), t_UL sh gi ar0 n q R → R.length = r → ∃ x, t_UL sh gi32 ar0 n q2 (R ++ [x]) ∧ ∀ m, s_rle b n (m + 1) q c = x :: s_rle b n m q2 c2) ∨ (w32.toInt = 0 ∧ ∃ p x, x ≠ 0 ∧ (∀ m, s_rls b n (m + 1) q c r = ((s_qb b n p x).1, 0)) ∧ t_FL gi32 (ar0 + 1) (s_fk b n p x) (s_F b n p))) ∧ t_lq ar0 gi gl gr gi32 gl32 gr32 from ⟨(by
                                                            intro b n q c r h hm hr12 hK
                                                            have h102 := p_a0.2.1
                                                            have hq := h.qn
                                                            obtain ⟨_, hW, ht1, hf1⟩ := (q8.1 b n _ h.1).resolve_right (fun hh => absurd hh.1 (by omega))
                                                            have h1 := h.on ht1 hf1 q8.2
                                                            have hr : r ≠ 12 := by omega
                                                            obtain ⟨_, q2, c2, hX, hlt, h2, hw, hT2, hE2⟩ := (q13.1 b n _ c [] h1 rfl rfl).resolve_right (fun hh => absurd hh.1 (by omega))
                                                            have hX := hX.trans (s_Cnd_e h2.qn hw)
                                                            have hg := s_W_gt hW
                                                            have hR := fun m => s_rls_k (m := m) hK hW hr hX
                                                            obtain ⟨_, hD, ht3, hf3⟩ := (q18.1 b n _ h2.1).resolve_right (fun hh => absurd hh.1 (by omega))
                                                            have h3 := h2.on ht3 hf3 q18.2
                                                            have ha := (q23 b n _ h3.1).1.mp (by omega)
                                                            have h4 := h3.on (q29.1 b n _ h3.1.S) q29.2.1 q29.2.2
                                                            have h5 := h4.xc q30.2 (by intro x hx; simp only [List.mem_cons, List.not_mem_nil, or_false] at hx; omega)
                                                            have m8 : (gi8 (ar0 + 2) 0) = (gi (ar0 + 2) 0) := (hC8.1 (ar0 + 2) 0 (by rw [t_cdO p_a0.2.2.2.2.1 (by omega)]; rfl)).1
                                                            have m13 : (gi13 (ar0 + 2) 0) = (gi8 (ar0 + 2) 0) := (hC13.1 (ar0 + 2) 0 (by rw [t_cdO p_a0.2.2.2.2.1 (by omega)]; rfl)).1
                                                            have m18 : (gi18 (ar0 + 2) 0) = (gi13 (ar0 + 2) 0) := (hC18.1 (ar0 + 2) 0 (by rw [t_cdO p_a0.2.2.2.2.1 (by omega)]; rfl)).1
                                                            have m29 : (gi29 (ar0 + 2) 0) = (gi18 (ar0 + 2) 0) := (hC29.1 (ar0 + 2) 0 (by rw [t_cdO p_a0.2.2.2.2.1 (by omega)]; rfl)).1
                                                            have m5 := q30.1.1 (by rw [m29, m18, m13, m8]; omega)
                                                            rw [m29, m18, m13, m8, hm] at m5
                                                            have m32 := (hC32.1 (ar0 + 2) 0 (by rw [t_cdO p_a0.2.2.2.2.1 (by omega)]; rfl)).1
                                                            have hg2 := s_W_gt hD
                                                            rcases q32.1 b n _ h5.1 with hh | hh
                                                            · have hg3 := s_isS_gt hh.2.1
                                                              have hg4 : s_E b n q2 < s_E b n (s_E b n q2) := by rcases ha with x | x | x <;> exact (s_W_gt x).1
                                                              have hact := (q23 b n _ h3.1).2 (by omega)
                                                              have hU4 : t_UT gi gi29 ar0 := (((t_UT.rf.on q8.2 (by omega)).tr hT2).on q18.2 (by omega)).on q29.2.2 (by omega)
                                                              have h04 : (gi29 (ar0 + 2) 0).toInt = (r : Int) := by rw [m29, m18, m13, m8]; exact hm
                                                              have hEM : ∀ R : List (List Int × Int), t_UL sh gi ar0 n q R → R.length = r → ∃ x, t_UL sh gi32 ar0 n (s_E b n (s_E b n (s_E b n q2))) (R ++ [x]) ∧ ∀ m, s_rle b n (m + 1) q c = x :: s_rle b n m (s_E b n (s_E b n (s_E b n q2))) c2 := by
                                                                intro R hU hRl
                                                                obtain ⟨S, s1, s2, s3⟩ := hE2 (s_flr R) (hU.1.on q8.2 (by omega) (Nat.le_of_lt hg.1))
                                                                have u4 := (s2.on q18.2 (by omega) (Nat.le_of_lt hg2.1)).on q29.2.2 (by omega) (Nat.le_of_lt hg4)
                                                                refine ⟨(S, w23.toInt), (hU.add hU4 (by rw [h04, hRl]) u4 (q30.1.2 (by omega)) q30.2).on q32.2 (by omega) (Nat.le_of_lt hg3.1), fun m => s_rle_k hK hX (s_e3_e h2.qn s3 hw) hact⟩
                                                              exact Or.inl ⟨hh.1, _, c2, fun m => (hR m).trans (s_act_k hD ha hh.2.1), by omega, h5.on hh.2.2.1 hh.2.2.2 q32.2, by rw [m32]; exact m5, hEM⟩
                                                            · exact Or.inr ⟨hh.1, _, 2, by decide, fun m => (hR m).trans (s_act_s hD ha hh.2.1), hh.2.2⟩), (t_lq.on (t_lq.ex (t_lq.on (t_lq.on (t_lq.tr (t_lq.on t_lq.rf q8.2 (by omega)) q13.2) q18.2 (by omega)) q29.2.2 (by omega)) q30.2 (by intro x hx; simp only [List.mem_cons, List.not_mem_nil, or_false] at hx; omega)) q32.2 (by omega))⟩)⟩⟩
    · have l33 : 12 ≤ (gi (ar0 + 2) 0).toInt := t_lel (t_nlt h6) (by decide : (12:Int) ≤ (12:Int32).toInt)
      refine ev_loc f_X8_readRule (nx := 26) rfl rfl rfl rfl ?_
      refine ev_getR f_X8_readRule (nx := 29) (v := .ref (ar0 + 1)) rfl p_a0.1 rfl rfl e1 rfl rfl ?_
      refine ev_bp f_X8_readRule (nx := 31) (v := 6) rfl (by decide) rfl ?_
      refine ev_qI f_X8_readRule (nx := 34) (r := []) rfl rfl rfl rfl rfl rfl rfl (c_s_refuse hI ((ar0 + 1)) p1 (6) (Int.le_trans (by decide : (2:Int) ≤ 6) (by decide : (6:Int) ≤ (6:Int32).toInt)) (Int.le_trans (by decide : (6:Int32).toInt ≤ (6:Int)) (by decide : (6:Int) ≤ 7))) rfl hX rfl (fun w34 gi34 gl34 gr34 l34 u34 hI hX hC34 q34 => ?_)
      have q34 : (∀ (b : Nat → Int32) (n q : Nat), t_TC b n q gi gl gr (ar0 + 1) → t_FL gi34 (ar0 + 1) (s_fk b n q 6) (s_F b n q)) ∧ w34.toInt = 0 ∧ t_on (ar0 + 1) gi gl gr gi34 gl34 gr34 := q34
      replace p_a0 := p_a0.ext hC34.2
      replace p1 := p1.ext hC34.2
      replace p4 := p4.ext hC34.2
      exact ev_retZ f_X8_readRule rfl l34 (Int.le_trans u34 (by decide : (0:Int) ≤ 1)) ⟨_, _, _, rfl, hI, hX, ⟨_, rfl, l34, (Int.le_trans u34 (by decide : (0:Int) ≤ 1)), (show (∀ (b : Nat → Int32) (n q c r : Nat), t_US b n q c gi gl gr ar0 → (gi (ar0 + 2) 0).toInt = (r : Int) → r ≤ 12 → s_K b n q ≠ 0 → (w34.toInt = 1 ∧ ∃ q2 c2, (∀ m, s_rls b n (m + 1) q c r = s_rls b n m q2 c2 (r + 1)) ∧ q < q2 ∧ t_US b n q2 c2 gi34 gl34 gr34 ar0 ∧ (gi34 (ar0 + 2) 0).toInt = (r : Int) + 1 ∧ ∀ R : List (List Int × Int), t_UL sh gi ar0 n q R → R.length = r → ∃ x, t_UL sh gi34 ar0 n q2 (R ++ [x]) ∧ ∀ m, s_rle b n (m + 1) q c = x :: s_rle b n m q2 c2) ∨ (w34.toInt = 0 ∧ ∃ p x, x ≠ 0 ∧ (∀ m, s_rls b n (m + 1) q c r = ((s_qb b n p x).1, 0)) ∧ t_FL gi34 (ar0 + 1) (s_fk b n p x) (s_F b n p))) ∧ t_lq ar0 gi gl gr gi34 gl34 gr34 from ⟨(by
                                                            intro b n q c r h hm hr12 hK
                                                            have h102 := p_a0.2.1
                                                            have hq := h.qn
                                                            exact Or.inr ⟨q34.2.1, q, 6, by decide, fun m => s_rls_m hK (h.1.kwT e2 h3) (by omega), q34.1 b n q h.1⟩), (t_lq.on t_lq.rf q34.2.2 (by omega))⟩)⟩⟩
  · refine ev_loc f_X8_readRule (nx := 36) rfl rfl rfl rfl ?_
    refine ev_getR f_X8_readRule (nx := 39) (v := .ref (ar0 + 1)) rfl p_a0.1 rfl rfl e1 rfl rfl ?_
    refine ev_heap f_X8_readRule (nx := 42) rfl rfl rfl rfl ?_
    refine ev_qI f_X8_readRule (nx := 45) (r := []) rfl rfl rfl rfl rfl rfl rfl (c_s_takeIf hI ((ar0 + 1)) p1) rfl hX rfl (fun w35 gi35 gl35 gr35 l35 u35 hI hX hC35 q35 => ?_)
    have q35 : (∀ (b : Nat → Int32) (n q : Nat), t_TC b n q gi gl gr (ar0 + 1) → (w35.toInt = 1 ∧ s_W b n q = some 13 ∧ t_TC b n (s_E b n q) gi35 gl35 gr35 (ar0 + 1) ∧ t_nf gi gi35 (ar0 + 1)) ∨ (w35.toInt = 0 ∧ s_W b n q ≠ some 13 ∧ t_FL gi35 (ar0 + 1) (s_fk b n q 2) (s_F b n q))) ∧ t_on (ar0 + 1) gi gl gr gi35 gl35 gr35 := q35
    replace p_a0 := p_a0.ext hC35.2
    replace p1 := p1.ext hC35.2
    refine ev_if f_X8_readRule (t1 := 69) (t2 := 48) rfl rfl rfl (fun h36 => ?_) (fun h36 => ?_)
    · have u37 : w35.toInt ≤ 0 := t_equ h36 (by decide : (0:Int32).toInt ≤ (0:Int))
      refine ev_ic f_X8_readRule (nx := 70) (v := 0) rfl (by decide) rfl ?_
      exact ev_ret f_X8_readRule rfl rfl rfl ⟨_, _, _, rfl, hI, hX, ⟨_, rfl, (by decide : (0:Int) ≤ (0:Int32).toInt), (Int.le_trans (by decide : (0:Int32).toInt ≤ (0:Int)) (by decide : (0:Int) ≤ 1)), (show (∀ (b : Nat → Int32) (n q c r : Nat), t_US b n q c gi gl gr ar0 → (gi (ar0 + 2) 0).toInt = (r : Int) → r ≤ 12 → s_K b n q ≠ 0 → ((0 : Int) = 1 ∧ ∃ q2 c2, (∀ m, s_rls b n (m + 1) q c r = s_rls b n m q2 c2 (r + 1)) ∧ q < q2 ∧ t_US b n q2 c2 gi35 gl35 gr35 ar0 ∧ (gi35 (ar0 + 2) 0).toInt = (r : Int) + 1 ∧ ∀ R : List (List Int × Int), t_UL sh gi ar0 n q R → R.length = r → ∃ x, t_UL sh gi35 ar0 n q2 (R ++ [x]) ∧ ∀ m, s_rle b n (m + 1) q c = x :: s_rle b n m q2 c2) ∨ ((0 : Int) = 0 ∧ ∃ p x, x ≠ 0 ∧ (∀ m, s_rls b n (m + 1) q c r = ((s_qb b n p x).1, 0)) ∧ t_FL gi35 (ar0 + 1) (s_fk b n p x) (s_F b n p))) ∧ t_lq ar0 gi gl gr gi35 gl35 gr35 from ⟨(by
                                                            intro b n q c r h hm hr12 hK
                                                            have h102 := p_a0.2.1
                                                            have hq := h.qn
                                                            obtain ⟨_, hW, hf⟩ := (q35.1 b n _ h.1).resolve_left (fun hh => absurd hh.1 (by omega))
                                                            exact Or.inr ⟨rfl, q, 2, by decide, fun m => s_rls_i hK hW, hf⟩), (t_lq.on t_lq.rf q35.2 (by omega))⟩)⟩⟩
    · have r38 : w35.toInt ≠ 0 := fun e => h36 (Int32.toInt_inj.mp (e.trans (by decide : (0:Int) = (0 : Int32).toInt)))
      have l39 : 1 ≤ w35.toInt := t_nel h36 l35 rfl rfl
      refine ev_loc f_X8_readRule (nx := 49) rfl rfl rfl rfl ?_
      refine ev_ic f_X8_readRule (nx := 50) (v := 0) rfl (by decide) rfl ?_
      refine ev_qI f_X8_readRule (nx := 53) (r := []) rfl rfl rfl rfl rfl rfl rfl (c_ue_readEither2 hI (ar0) p_a0 (0) (by decide : (0:Int) ≤ (0:Int32).toInt) (Int.le_trans (by decide : (0:Int32).toInt ≤ (0:Int)) (by decide : (0:Int) ≤ 6))) rfl hX rfl (fun w40 gi40 gl40 gr40 l40 u40 hI hX hC40 q40 => ?_)
      have q40 : (∀ (b : Nat → Int32) (n q c : Nat) (T : List Int), t_US b n q c gi35 gl35 gr35 ar0 → (T.length : Int) = 0 → s_pop T = T → (w40.toInt = 1 ∧ ∃ q2 c2, s_Cnd b n false q c T = s_Cnd b n true q2 c2 T ∧ q < q2 ∧ t_US b n q2 c2 gi40 gl40 gr40 ar0 ∧ ¬ s_jnd b n q2 ∧ t_UT gi35 gi40 ar0 ∧ ∀ E : List Int, t_UE sh gi35 ar0 n q E → ∃ S : List Int, S.length + q ≤ q2 ∧ t_UE sh gi40 ar0 n q2 (E ++ S) ∧ s_e3 b n q q2 S) ∨ (w40.toInt = 0 ∧ ∃ p x, x ≠ 0 ∧ s_Cnd b n false q c T = s_qb b n p x ∧ t_FL gi40 (ar0 + 1) (s_fk b n p x) (s_F b n p))) ∧ t_lq ar0 gi35 gl35 gr35 gi40 gl40 gr40 := q40
      replace p_a0 := p_a0.ext hC40.2
      replace p1 := p1.ext hC40.2
      refine ev_if f_X8_readRule (t1 := 69) (t2 := 56) rfl rfl rfl (fun h41 => ?_) (fun h41 => ?_)
      · have u42 : w40.toInt ≤ 0 := t_equ h41 (by decide : (0:Int32).toInt ≤ (0:Int))
        refine ev_ic f_X8_readRule (nx := 70) (v := 0) rfl (by decide) rfl ?_
        exact ev_ret f_X8_readRule rfl rfl rfl ⟨_, _, _, rfl, hI, hX, ⟨_, rfl, (by decide : (0:Int) ≤ (0:Int32).toInt), (Int.le_trans (by decide : (0:Int32).toInt ≤ (0:Int)) (by decide : (0:Int) ≤ 1)), (show (∀ (b : Nat → Int32) (n q c r : Nat), t_US b n q c gi gl gr ar0 → (gi (ar0 + 2) 0).toInt = (r : Int) → r ≤ 12 → s_K b n q ≠ 0 → ((0 : Int) = 1 ∧ ∃ q2 c2, (∀ m, s_rls b n (m + 1) q c r = s_rls b n m q2 c2 (r + 1)) ∧ q < q2 ∧ t_US b n q2 c2 gi40 gl40 gr40 ar0 ∧ (gi40 (ar0 + 2) 0).toInt = (r : Int) + 1 ∧ ∀ R : List (List Int × Int), t_UL sh gi ar0 n q R → R.length = r → ∃ x, t_UL sh gi40 ar0 n q2 (R ++ [x]) ∧ ∀ m, s_rle b n (m + 1) q c = x :: s_rle b n m q2 c2) ∨ ((0 : Int) = 0 ∧ ∃ p x, x ≠ 0 ∧ (∀ m, s_rls b n (m + 1) q c r = ((s_qb b n p x).1, 0)) ∧ t_FL gi40 (ar0 + 1) (s_fk b n p x) (s_F b n p))) ∧ t_lq ar0 gi gl gr gi40 gl40 gr40 from ⟨(by
                                                            intro b n q c r h hm hr12 hK
                                                            have h102 := p_a0.2.1
                                                            have hq := h.qn
                                                            obtain ⟨_, hW, ht1, hf1⟩ := (q35.1 b n _ h.1).resolve_right (fun hh => absurd hh.1 (by omega))
                                                            exact absurd hW (h.1.kwF e2 h3)), (t_lq.tr (t_lq.on t_lq.rf q35.2 (by omega)) q40.2)⟩)⟩⟩
      · have r43 : w40.toInt ≠ 0 := fun e => h41 (Int32.toInt_inj.mp (e.trans (by decide : (0:Int) = (0 : Int32).toInt)))
        have l44 : 1 ≤ w40.toInt := t_nel h41 l40 rfl rfl
        refine ev_loc f_X8_readRule (nx := 57) rfl rfl rfl rfl ?_
        refine ev_getR f_X8_readRule (nx := 60) (v := .ref (ar0 + 1)) rfl p_a0.1 rfl rfl ((hC40.1 ar0 0 (t_ninO hI.wf p_a0.1 (t_outO hI.wf p_a0.1 rfl) rfl)).2.2.trans ((hC35.1 ar0 0 (t_ninO hI.wf p_a0.1 (t_outO hI.wf p_a0.1 rfl) rfl)).2.2.trans e1)) rfl rfl ?_
        refine ev_heap f_X8_readRule (nx := 63) rfl rfl rfl rfl ?_
        refine ev_qI f_X8_readRule (nx := 66) (r := []) rfl rfl rfl rfl rfl rfl rfl (c_s_takeDo hI ((ar0 + 1)) p1) rfl hX rfl (fun w45 gi45 gl45 gr45 l45 u45 hI hX hC45 q45 => ?_)
        have q45 : (∀ (b : Nat → Int32) (n q : Nat), t_TC b n q gi40 gl40 gr40 (ar0 + 1) → (w45.toInt = 1 ∧ s_W b n q = some 14 ∧ t_TC b n (s_E b n q) gi45 gl45 gr45 (ar0 + 1) ∧ t_nf gi40 gi45 (ar0 + 1)) ∨ (w45.toInt = 0 ∧ s_W b n q ≠ some 14 ∧ t_FL gi45 (ar0 + 1) (s_fk b n q 2) (s_F b n q))) ∧ t_on (ar0 + 1) gi40 gl40 gr40 gi45 gl45 gr45 := q45
        replace p_a0 := p_a0.ext hC45.2
        replace p1 := p1.ext hC45.2
        refine ev_if f_X8_readRule (t1 := 69) (t2 := 71) rfl rfl rfl (fun h46 => ?_) (fun h46 => ?_)
        · have u47 : w45.toInt ≤ 0 := t_equ h46 (by decide : (0:Int32).toInt ≤ (0:Int))
          refine ev_ic f_X8_readRule (nx := 70) (v := 0) rfl (by decide) rfl ?_
          exact ev_ret f_X8_readRule rfl rfl rfl ⟨_, _, _, rfl, hI, hX, ⟨_, rfl, (by decide : (0:Int) ≤ (0:Int32).toInt), (Int.le_trans (by decide : (0:Int32).toInt ≤ (0:Int)) (by decide : (0:Int) ≤ 1)), (show (∀ (b : Nat → Int32) (n q c r : Nat), t_US b n q c gi gl gr ar0 → (gi (ar0 + 2) 0).toInt = (r : Int) → r ≤ 12 → s_K b n q ≠ 0 → ((0 : Int) = 1 ∧ ∃ q2 c2, (∀ m, s_rls b n (m + 1) q c r = s_rls b n m q2 c2 (r + 1)) ∧ q < q2 ∧ t_US b n q2 c2 gi45 gl45 gr45 ar0 ∧ (gi45 (ar0 + 2) 0).toInt = (r : Int) + 1 ∧ ∀ R : List (List Int × Int), t_UL sh gi ar0 n q R → R.length = r → ∃ x, t_UL sh gi45 ar0 n q2 (R ++ [x]) ∧ ∀ m, s_rle b n (m + 1) q c = x :: s_rle b n m q2 c2) ∨ ((0 : Int) = 0 ∧ ∃ p x, x ≠ 0 ∧ (∀ m, s_rls b n (m + 1) q c r = ((s_qb b n p x).1, 0)) ∧ t_FL gi45 (ar0 + 1) (s_fk b n p x) (s_F b n p))) ∧ t_lq ar0 gi gl gr gi45 gl45 gr45 from ⟨(by
                                                            intro b n q c r h hm hr12 hK
                                                            have h102 := p_a0.2.1
                                                            have hq := h.qn
                                                            obtain ⟨_, hW, ht1, hf1⟩ := (q35.1 b n _ h.1).resolve_right (fun hh => absurd hh.1 (by omega))
                                                            exact absurd hW (h.1.kwF e2 h3)), (t_lq.on (t_lq.tr (t_lq.on t_lq.rf q35.2 (by omega)) q40.2) q45.2 (by omega))⟩)⟩⟩
        · have r48 : w45.toInt ≠ 0 := fun e => h46 (Int32.toInt_inj.mp (e.trans (by decide : (0:Int) = (0 : Int32).toInt)))
          have l49 : 1 ≤ w45.toInt := t_nel h46 l45 rfl rfl
          refine ev_loc f_X8_readRule (nx := 72) rfl rfl rfl rfl ?_
          refine ev_qI0 f_X8_readRule (nx := 75) (r := []) rfl rfl rfl rfl rfl rfl rfl (c_ue_actTold hI (ar0) p_a0) rfl (fun w50 l50 u50 q50 => ?_)
          have q50 : ∀ (b : Nat → Int32) (n q : Nat), t_TC b n q gi45 gl45 gr45 (ar0 + 1) → ((w50.toInt ≠ -1 ↔ (s_W b n q = some 15 ∨ s_W b n q = some 16 ∨ s_W b n q = some 17)) ∧ (0 ≤ w50.toInt → s_mi (s_W b n q) = 15 + w50.toInt)) := q50
          refine ev_loc f_X8_readRule (nx := 76) (lo' := [(1, .int w50), (0, .ref ar0)]) rfl rfl rfl rfl ?_
          refine ev_loc f_X8_readRule (nx := 77) rfl rfl rfl rfl ?_
          refine ev_ic f_X8_readRule (nx := 78) (v := -1) rfl (by decide) rfl ?_
          refine ev_if f_X8_readRule (t1 := 81) (t2 := 90) rfl rfl rfl (fun h51 => ?_) (fun h51 => ?_)
          · have u52 : w50.toInt ≤ (-1) := t_equ h51 (by decide : ((-1):Int32).toInt ≤ ((-1):Int))
            refine ev_loc f_X8_readRule (nx := 82) rfl rfl rfl rfl ?_
            refine ev_getR f_X8_readRule (nx := 85) (v := .ref (ar0 + 1)) rfl p_a0.1 rfl rfl ((hC45.1 ar0 0 (t_ninO hI.wf p_a0.1 (t_outO hI.wf p_a0.1 rfl) rfl)).2.2.trans ((hC40.1 ar0 0 (t_ninO hI.wf p_a0.1 (t_outO hI.wf p_a0.1 rfl) rfl)).2.2.trans ((hC35.1 ar0 0 (t_ninO hI.wf p_a0.1 (t_outO hI.wf p_a0.1 rfl) rfl)).2.2.trans e1))) rfl rfl ?_
            refine ev_ic f_X8_readRule (nx := 86) (v := 2) rfl (by decide) rfl ?_
            refine ev_qI f_X8_readRule (nx := 89) (r := []) rfl rfl rfl rfl rfl rfl rfl (c_s_refuse hI ((ar0 + 1)) p1 (2) (by decide : (2:Int) ≤ (2:Int32).toInt) (Int.le_trans (by decide : (2:Int32).toInt ≤ (2:Int)) (by decide : (2:Int) ≤ 7))) rfl hX rfl (fun w53 gi53 gl53 gr53 l53 u53 hI hX hC53 q53 => ?_)
            have q53 : (∀ (b : Nat → Int32) (n q : Nat), t_TC b n q gi45 gl45 gr45 (ar0 + 1) → t_FL gi53 (ar0 + 1) (s_fk b n q 2) (s_F b n q)) ∧ w53.toInt = 0 ∧ t_on (ar0 + 1) gi45 gl45 gr45 gi53 gl53 gr53 := q53
            replace p_a0 := p_a0.ext hC53.2
            replace p1 := p1.ext hC53.2
            exact ev_retZ f_X8_readRule rfl l53 (Int.le_trans u53 (by decide : (0:Int) ≤ 1)) ⟨_, _, _, rfl, hI, hX, ⟨_, rfl, l53, (Int.le_trans u53 (by decide : (0:Int) ≤ 1)), (show (∀ (b : Nat → Int32) (n q c r : Nat), t_US b n q c gi gl gr ar0 → (gi (ar0 + 2) 0).toInt = (r : Int) → r ≤ 12 → s_K b n q ≠ 0 → (w53.toInt = 1 ∧ ∃ q2 c2, (∀ m, s_rls b n (m + 1) q c r = s_rls b n m q2 c2 (r + 1)) ∧ q < q2 ∧ t_US b n q2 c2 gi53 gl53 gr53 ar0 ∧ (gi53 (ar0 + 2) 0).toInt = (r : Int) + 1 ∧ ∀ R : List (List Int × Int), t_UL sh gi ar0 n q R → R.length = r → ∃ x, t_UL sh gi53 ar0 n q2 (R ++ [x]) ∧ ∀ m, s_rle b n (m + 1) q c = x :: s_rle b n m q2 c2) ∨ (w53.toInt = 0 ∧ ∃ p x, x ≠ 0 ∧ (∀ m, s_rls b n (m + 1) q c r = ((s_qb b n p x).1, 0)) ∧ t_FL gi53 (ar0 + 1) (s_fk b n p x) (s_F b n p))) ∧ t_lq ar0 gi gl gr gi53 gl53 gr53 from ⟨(by
                                                            intro b n q c r h hm hr12 hK
                                                            have h102 := p_a0.2.1
                                                            have hq := h.qn
                                                            obtain ⟨_, hW, ht1, hf1⟩ := (q35.1 b n _ h.1).resolve_right (fun hh => absurd hh.1 (by omega))
                                                            exact absurd hW (h.1.kwF e2 h3)), (t_lq.on (t_lq.on (t_lq.tr (t_lq.on t_lq.rf q35.2 (by omega)) q40.2) q45.2 (by omega)) q53.2.2 (by omega))⟩)⟩⟩
          · have r54 : w50.toInt ≠ (-1) := fun e => h51 (Int32.toInt_inj.mp (e.trans (by decide : ((-1):Int) = ((-1) : Int32).toInt)))
            have l55 : 0 ≤ w50.toInt := t_nel h51 l50 rfl rfl
            refine ev_loc f_X8_readRule (nx := 91) rfl rfl rfl rfl ?_
            refine ev_getR f_X8_readRule (nx := 94) (v := .ref (ar0 + 1)) rfl p_a0.1 rfl rfl ((hC45.1 ar0 0 (t_ninO hI.wf p_a0.1 (t_outO hI.wf p_a0.1 rfl) rfl)).2.2.trans ((hC40.1 ar0 0 (t_ninO hI.wf p_a0.1 (t_outO hI.wf p_a0.1 rfl) rfl)).2.2.trans ((hC35.1 ar0 0 (t_ninO hI.wf p_a0.1 (t_outO hI.wf p_a0.1 rfl) rfl)).2.2.trans e1))) rfl rfl ?_
            refine ev_qN f_X8_readRule (nx := 97) (r := []) rfl rfl rfl rfl rfl rfl rfl (c_s_step hI ((ar0 + 1)) p1) rfl hX rfl (fun gi56 gl56 gr56 hI hX hC56 q56 => ?_)
            have q56 : (∀ (b : Nat → Int32) (n q : Nat), t_Sp b n q gi45 (ar0 + 1) → t_TC b n q gi56 gl56 gr56 (ar0 + 1)) ∧ t_nf gi45 gi56 (ar0 + 1) ∧ t_on (ar0 + 1) gi45 gl45 gr45 gi56 gl56 gr56 := q56
            replace p_a0 := p_a0.ext hC56.2
            replace p1 := p1.ext hC56.2
            refine ev_loc f_X8_readRule (nx := 98) rfl rfl rfl rfl ?_
            have e57 := p_a0.2.2.2.1
            have p57 := p_a0.2.2.2.2
            refine ev_getR f_X8_readRule (nx := 101) rfl p_a0.1 rfl rfl e57 rfl rfl ?_
            refine ev_loc f_X8_readRule (nx := 102) rfl rfl rfl rfl ?_
            refine ev_qN f_X8_readRule (nx := 105) (r := []) rfl rfl rfl rfl rfl rfl rfl (c_ue_endRule hI ((ar0 + 2)) p57 (w50)) rfl hX rfl (fun gi58 gl58 gr58 hI hX hC58 q58 => ?_)
            have q58 : (((gi56 (ar0 + 2) 0).toInt < 12 → (gi58 (ar0 + 2) 0).toInt = (gi56 (ar0 + 2) 0).toInt + 1) ∧ ((gi56 (ar0 + 2) 0).toInt < 12 → t_AR gi56 gi58 (ar0 + 2) w50)) ∧ t_xc [(ar0 + 2), (ar0 + 2) + 1, (ar0 + 2) + 2] gi56 gl56 gr56 gi58 gl58 gr58 := q58
            replace p_a0 := p_a0.ext hC58.2
            replace p1 := p1.ext hC58.2
            replace p57 := p57.ext hC58.2
            refine ev_loc f_X8_readRule (nx := 106) rfl rfl rfl rfl ?_
            refine ev_getR f_X8_readRule (nx := 109) (v := .ref (ar0 + 1)) rfl p_a0.1 rfl rfl ((hC58.1 ar0 0 (t_ninO hI.wf p_a0.1 (t_outO hI.wf p_a0.1 rfl) rfl)).2.2.trans ((hC56.1 ar0 0 (t_ninO hI.wf p_a0.1 (t_outO hI.wf p_a0.1 rfl) rfl)).2.2.trans ((hC45.1 ar0 0 (t_ninO hI.wf p_a0.1 (t_outO hI.wf p_a0.1 rfl) rfl)).2.2.trans ((hC40.1 ar0 0 (t_ninO hI.wf p_a0.1 (t_outO hI.wf p_a0.1 rfl) rfl)).2.2.trans ((hC35.1 ar0 0 (t_ninO hI.wf p_a0.1 (t_outO hI.wf p_a0.1 rfl) rfl)).2.2.trans e1))))) rfl rfl ?_
            refine ev_bp f_X8_readRule (nx := 111) (v := 59) rfl (by decide) rfl ?_
            refine ev_qI f_X8_readRule (nx := 114) (r := []) rfl rfl rfl rfl rfl rfl rfl (c_s_takeSign hI ((ar0 + 1)) p1 (59)) rfl hX rfl (fun w59 gi59 gl59 gr59 l59 u59 hI hX hC59 q59 => ?_)
            have q59 : (∀ (b : Nat → Int32) (n q : Nat), t_TC b n q gi58 gl58 gr58 (ar0 + 1) → (w59.toInt = 1 ∧ s_isS b n q 59 ∧ t_TC b n (s_E b n q) gi59 gl59 gr59 (ar0 + 1) ∧ t_nf gi58 gi59 (ar0 + 1)) ∨ (w59.toInt = 0 ∧ ¬ s_isS b n q 59 ∧ t_FL gi59 (ar0 + 1) (s_fk b n q 2) (s_F b n q))) ∧ t_on (ar0 + 1) gi58 gl58 gr58 gi59 gl59 gr59 := q59
            replace p_a0 := p_a0.ext hC59.2
            replace p1 := p1.ext hC59.2
            replace p57 := p57.ext hC59.2
            exact ev_retZ f_X8_readRule rfl l59 u59 ⟨_, _, _, rfl, hI, hX, ⟨_, rfl, l59, u59, (show (∀ (b : Nat → Int32) (n q c r : Nat), t_US b n q c gi gl gr ar0 → (gi (ar0 + 2) 0).toInt = (r : Int) → r ≤ 12 → s_K b n q ≠ 0 → (w59.toInt = 1 ∧ ∃ q2 c2, (∀ m, s_rls b n (m + 1) q c r = s_rls b n m q2 c2 (r + 1)) ∧ q < q2 ∧ t_US b n q2 c2 gi59 gl59 gr59 ar0 ∧ (gi59 (ar0 + 2) 0).toInt = (r : Int) + 1 ∧ ∀ R : List (List Int × Int), t_UL sh gi ar0 n q R → R.length = r → ∃ x, t_UL sh gi59 ar0 n q2 (R ++ [x]) ∧ ∀ m, s_rle b n (m + 1) q c = x :: s_rle b n m q2 c2) ∨ (w59.toInt = 0 ∧ ∃ p x, x ≠ 0 ∧ (∀ m, s_rls b n (m + 1) q c r = ((s_qb b n p x).1, 0)) ∧ t_FL gi59 (ar0 + 1) (s_fk b n p x) (s_F b n p))) ∧ t_lq ar0 gi gl gr gi59 gl59 gr59 from ⟨(by
                                                            intro b n q c r h hm hr12 hK
                                                            have h102 := p_a0.2.1
                                                            have hq := h.qn
                                                            obtain ⟨_, hW, ht1, hf1⟩ := (q35.1 b n _ h.1).resolve_right (fun hh => absurd hh.1 (by omega))
                                                            exact absurd hW (h.1.kwF e2 h3)), (t_lq.on (t_lq.ex (t_lq.on (t_lq.on (t_lq.tr (t_lq.on t_lq.rf q35.2 (by omega)) q40.2) q45.2 (by omega)) q56.2.2 (by omega)) q58.2 (by intro x hx; simp only [List.mem_cons, List.not_mem_nil, or_false] at hx; omega)) q59.2 (by omega))⟩)⟩⟩
noncomputable def wl_ue_rulesAll : List (Nat × Nat) := [(116, 0), (116, 3), (117, 2), (118, 2), (118, 3), (118, 4), (118, 5), (118, 6), (118, 7), (118, 8), (118, 9), (118, 10), (118, 11), (130, 9999)]
noncomputable def Q_ue_rulesAll (sh : List (Nat ⊕ (Nat × Nat))) (gi : Nat → Nat → Int32) (gl : Nat → Nat → Int64) (gr : Nat → Nat → Value) (ar0 : Nat) : Int32 → (Nat → Nat → Int32) → (Nat → Nat → Int64) → (Nat → Nat → Value) → Prop := fun (v : Int32) (gi2 : Nat → Nat → Int32) (gl2 : Nat → Nat → Int64) (gr2 : Nat → Nat → Value) => (∀ (b : Nat → Int32) (n q c : Nat), t_US b n q c gi gl gr ar0 → (gi (ar0 + 2) 0).toInt = 0 → (v.toInt = 1 ∧ ∃ r : Nat, s_rls b n 301 q c 0 = ((0, 0), r) ∧ (gi2 (ar0 + 2) 0).toInt = (r : Int) ∧ t_FL gi2 (ar0 + 1) 0 (-1) ∧ (t_UL sh gi ar0 n q [] → ∃ q2, t_UL sh gi2 ar0 n q2 (s_rle b n 301 q c) ∧ (s_rle b n 301 q c).length = r)) ∨ (v.toInt = 0 ∧ ∃ p x, x ≠ 0 ∧ s_rls b n 301 q c 0 = ((s_qb b n p x).1, 0) ∧ t_FL gi2 (ar0 + 1) (s_fk b n p x) (s_F b n p))) ∧ t_lq ar0 gi gl gr gi2 gl2 gr2
theorem c_ue_rulesAll {X : x_Ext} {d : Nat} {sh : List (Nat ⊕ (Nat × Nat))} {gi : Nat → Nat → Int32} {gl : Nat → Nat → Int64} {gr : Nat → Nat → Value} (hI : t_I sh gi gr) (ar0 : Nat) (p_a0 : t_UQ sh gr ar0) : x_Me X (d + 65) n_X8_readAll [.ref ar0] (sh, gi, gl, gr) (t_PI wl_ue_rulesAll sh gi gl gr 0 1 (Q_ue_rulesAll sh gi gl gr ar0)) := by
  have hX : t_X wl_ue_rulesAll sh gi gl gr gi gl gr := t_X.rf
  refine me_i f_X8_readAll p_a0.1 rfl rfl rfl ?_
  refine ev_ic f_X8_readAll (nx := 1) (v := 0) rfl (by decide) rfl ?_
  refine ev_loc f_X8_readAll (nx := 2) (lo' := [(1, .int 0), (0, .ref ar0)]) rfl rfl rfl rfl ?_
  have L1 : ∀ (m1 : Nat) (gi1 : Nat → Nat → Int32) (gl1 : Nat → Nat → Int64) (gr1 : Nat → Nat → Value) (y1_1 : Int32), t_I sh gi1 gr1 → t_X wl_ue_rulesAll sh gi gl gr gi1 gl1 gr1 → t_UQ sh gr1 ar0 → 0 ≤ y1_1.toInt → y1_1.toInt ≤ 13 → (∀ (b : Nat → Int32) (n q c : Nat), t_US b n q c gi gl gr ar0 → (gi (ar0 + 2) 0).toInt = 0 → ∃ q2 c2, s_rls b n 301 q c 0 = s_rls b n (301 - y1_1.toNatClampNeg) q2 c2 y1_1.toNatClampNeg ∧ (gi1 (ar0 + 2) 0).toInt = y1_1.toInt ∧ t_US b n q2 c2 gi1 gl1 gr1 ar0 ∧ (t_UL sh gi ar0 n q [] → ∃ R : List (List Int × Int), R.length = y1_1.toNatClampNeg ∧ t_UL sh gi1 ar0 n q2 R ∧ s_rle b n 301 q c = R ++ s_rle b n (301 - y1_1.toNatClampNeg) q2 c2)) ∧ t_lq ar0 gi gl gr gi1 gl1 gr1 → (13 - y1_1.toInt).toNat = m1 → x_Ev X (d + 65) n_X8_readAll 2 [(1, .int y1_1), (0, .ref ar0)] [] (sh, gi1, gl1, gr1) (t_PI wl_ue_rulesAll sh gi gl gr 0 1 (Q_ue_rulesAll sh gi gl gr ar0)) := by
    intro m1
    induction m1 using Nat.strongRecOn with
    | _ m1 ih1 =>
    intro gi1 gl1 gr1 y1_1 hI hX p_a0 l1_1 u1_1 j1_0 hm1
    refine ev_loc f_X8_readAll (nx := 3) rfl rfl rfl rfl ?_
    refine ev_bp f_X8_readAll (nx := 5) (v := 12) rfl (by decide) rfl ?_
    refine ev_if f_X8_readAll (t1 := 34) (t2 := 8) rfl rfl rfl (fun h2 => ?_) (fun h2 => ?_)
    · have l3 : 13 ≤ y1_1.toInt := t_ltl h2 (by decide : (12:Int) ≤ (12:Int32).toInt) rfl
      refine ev_ic f_X8_readAll (nx := 35) (v := 1) rfl (by decide) rfl ?_
      exact ev_ret f_X8_readAll rfl rfl rfl ⟨_, _, _, rfl, hI, hX, ⟨_, rfl, (Int.le_trans (by decide : (0:Int) ≤ 1) (by decide : (1:Int) ≤ (1:Int32).toInt)), (by decide : (1:Int32).toInt ≤ (1:Int)), (show (∀ (b : Nat → Int32) (n q c : Nat), t_US b n q c gi gl gr ar0 → (gi (ar0 + 2) 0).toInt = 0 → ((1 : Int) = 1 ∧ ∃ r : Nat, s_rls b n 301 q c 0 = ((0, 0), r) ∧ (gi1 (ar0 + 2) 0).toInt = (r : Int) ∧ t_FL gi1 (ar0 + 1) 0 (-1) ∧ (t_UL sh gi ar0 n q [] → ∃ q2, t_UL sh gi1 ar0 n q2 (s_rle b n 301 q c) ∧ (s_rle b n 301 q c).length = r)) ∨ ((1 : Int) = 0 ∧ ∃ p x, x ≠ 0 ∧ s_rls b n 301 q c 0 = ((s_qb b n p x).1, 0) ∧ t_FL gi1 (ar0 + 1) (s_fk b n p x) (s_F b n p))) ∧ t_lq ar0 gi gl gr gi1 gl1 gr1 from ⟨fun b n q c h hm => (by
                                                            obtain ⟨q2, c2, hs, hm2, h2, hU2⟩ := j1_0.1 b n q c h hm
                                                            have k1 := t_clamp (i := y1_1) (by omega)
                                                            have hb := hI.b (k := ar0 + 2) p_a0.2.2.2.2.1 (t_bdK rfl : t_bd 6 0 = some (0, 12))
                                                            exact absurd hb.2 (by omega)), j1_0.2⟩)⟩⟩
    · have u4 : y1_1.toInt ≤ 12 := t_leu (t_nlt h2) (by decide : (12:Int32).toInt ≤ (12:Int))
      refine ev_loc f_X8_readAll (nx := 9) rfl rfl rfl rfl ?_
      have e5 := p_a0.2.2.1.1
      have p5 := p_a0.2.2.1.2
      refine ev_getR f_X8_readAll (nx := 12) rfl p_a0.1 rfl rfl e5 rfl rfl ?_
      refine ev_getI f_X8_readAll (nx := 15) rfl p5.1 rfl rfl rfl ?_
      refine ev_ic f_X8_readAll (nx := 16) (v := 3) rfl (by decide) rfl ?_
      refine ev_if f_X8_readAll (t1 := 34) (t2 := 19) rfl rfl rfl (fun h6 => ?_) (fun h6 => ?_)
      · have u7 : (gi1 (ar0 + 1) 3).toInt ≤ 3 := t_equ h6 (by decide : (3:Int32).toInt ≤ (3:Int))
        have l8 : 3 ≤ (gi1 (ar0 + 1) 3).toInt := t_eql h6 (by decide : (3:Int) ≤ (3:Int32).toInt)
        refine ev_ic f_X8_readAll (nx := 35) (v := 1) rfl (by decide) rfl ?_
        exact ev_ret f_X8_readAll rfl rfl rfl ⟨_, _, _, rfl, hI, hX, ⟨_, rfl, (Int.le_trans (by decide : (0:Int) ≤ 1) (by decide : (1:Int) ≤ (1:Int32).toInt)), (by decide : (1:Int32).toInt ≤ (1:Int)), (show (∀ (b : Nat → Int32) (n q c : Nat), t_US b n q c gi gl gr ar0 → (gi (ar0 + 2) 0).toInt = 0 → ((1 : Int) = 1 ∧ ∃ r : Nat, s_rls b n 301 q c 0 = ((0, 0), r) ∧ (gi1 (ar0 + 2) 0).toInt = (r : Int) ∧ t_FL gi1 (ar0 + 1) 0 (-1) ∧ (t_UL sh gi ar0 n q [] → ∃ q2, t_UL sh gi1 ar0 n q2 (s_rle b n 301 q c) ∧ (s_rle b n 301 q c).length = r)) ∨ ((1 : Int) = 0 ∧ ∃ p x, x ≠ 0 ∧ s_rls b n 301 q c 0 = ((s_qb b n p x).1, 0) ∧ t_FL gi1 (ar0 + 1) (s_fk b n p x) (s_F b n p))) ∧ t_lq ar0 gi gl gr gi1 gl1 gr1 from ⟨fun b n q c h hm => (by
                                                            obtain ⟨q2, c2, hs, hm2, h2, hU2⟩ := j1_0.1 b n q c h hm
                                                            have k1 := t_clamp (i := y1_1) (by omega)
                                                            have hb := hI.b (k := ar0 + 2) p_a0.2.2.2.2.1 (t_bdK rfl : t_bd 6 0 = some (0, 12))
                                                            rw [show 301 - y1_1.toNatClampNeg = (300 - y1_1.toNatClampNeg) + 1 from (by omega)] at hs
                                                            have hK : s_K b n q2 = 0 := by have := h2.1.K; omega
                                                            exact Or.inl ⟨rfl, y1_1.toNatClampNeg, hs.trans (s_rls_e hK), by omega, h2.2.2, fun hU => (hU2 hU).elim (fun R hR => ⟨q2, by have r3 := hR.2.2; rw [show 301 - y1_1.toNatClampNeg = (300 - y1_1.toNatClampNeg) + 1 by omega, s_rle_e hK, List.append_nil] at r3; rw [r3]; exact ⟨hR.2.1, hR.1⟩⟩)⟩), j1_0.2⟩)⟩⟩
      · have r9 : (gi1 (ar0 + 1) 3).toInt ≠ 3 := fun e => h6 (Int32.toInt_inj.mp (e.trans (by decide : (3:Int) = (3 : Int32).toInt)))
        refine ev_loc f_X8_readAll (nx := 20) rfl rfl rfl rfl ?_
        refine ev_qI f_X8_readAll (nx := 23) (r := []) rfl rfl rfl rfl rfl rfl rfl (c_ue_readRule hI (ar0) p_a0) rfl hX rfl (fun w10 gi10 gl10 gr10 l10 u10 hI hX hC10 q10 => ?_)
        have q10 : (∀ (b : Nat → Int32) (n q c r : Nat), t_US b n q c gi1 gl1 gr1 ar0 → (gi1 (ar0 + 2) 0).toInt = (r : Int) → r ≤ 12 → s_K b n q ≠ 0 → (w10.toInt = 1 ∧ ∃ q2 c2, (∀ m, s_rls b n (m + 1) q c r = s_rls b n m q2 c2 (r + 1)) ∧ q < q2 ∧ t_US b n q2 c2 gi10 gl10 gr10 ar0 ∧ (gi10 (ar0 + 2) 0).toInt = (r : Int) + 1 ∧ ∀ R : List (List Int × Int), t_UL sh gi1 ar0 n q R → R.length = r → ∃ x, t_UL sh gi10 ar0 n q2 (R ++ [x]) ∧ ∀ m, s_rle b n (m + 1) q c = x :: s_rle b n m q2 c2) ∨ (w10.toInt = 0 ∧ ∃ p x, x ≠ 0 ∧ (∀ m, s_rls b n (m + 1) q c r = ((s_qb b n p x).1, 0)) ∧ t_FL gi10 (ar0 + 1) (s_fk b n p x) (s_F b n p))) ∧ t_lq ar0 gi1 gl1 gr1 gi10 gl10 gr10 := q10
        replace p_a0 := p_a0.ext hC10.2
        replace p5 := p5.ext hC10.2
        refine ev_if f_X8_readAll (t1 := 26) (t2 := 28) rfl rfl rfl (fun h11 => ?_) (fun h11 => ?_)
        · have u12 : w10.toInt ≤ 0 := t_equ h11 (by decide : (0:Int32).toInt ≤ (0:Int))
          refine ev_ic f_X8_readAll (nx := 27) (v := 0) rfl (by decide) rfl ?_
          exact ev_ret f_X8_readAll rfl rfl rfl ⟨_, _, _, rfl, hI, hX, ⟨_, rfl, (by decide : (0:Int) ≤ (0:Int32).toInt), (Int.le_trans (by decide : (0:Int32).toInt ≤ (0:Int)) (by decide : (0:Int) ≤ 1)), (show (∀ (b : Nat → Int32) (n q c : Nat), t_US b n q c gi gl gr ar0 → (gi (ar0 + 2) 0).toInt = 0 → ((0 : Int) = 1 ∧ ∃ r : Nat, s_rls b n 301 q c 0 = ((0, 0), r) ∧ (gi10 (ar0 + 2) 0).toInt = (r : Int) ∧ t_FL gi10 (ar0 + 1) 0 (-1) ∧ (t_UL sh gi ar0 n q [] → ∃ q2, t_UL sh gi10 ar0 n q2 (s_rle b n 301 q c) ∧ (s_rle b n 301 q c).length = r)) ∨ ((0 : Int) = 0 ∧ ∃ p x, x ≠ 0 ∧ s_rls b n 301 q c 0 = ((s_qb b n p x).1, 0) ∧ t_FL gi10 (ar0 + 1) (s_fk b n p x) (s_F b n p))) ∧ t_lq ar0 gi gl gr gi10 gl10 gr10 from ⟨fun b n q c h hm => (by
                                                            obtain ⟨q2, c2, hs, hm2, h2, hU2⟩ := j1_0.1 b n q c h hm
                                                            have k1 := t_clamp (i := y1_1) (by omega)
                                                            skip
                                                            have hlt : y1_1.toNatClampNeg ≤ 12 := by omega
                                                            rw [show 301 - y1_1.toNatClampNeg = (300 - y1_1.toNatClampNeg) + 1 from (by omega)] at hs
                                                            have hK : s_K b n q2 ≠ 0 := by have := h2.1.K; omega
                                                            obtain ⟨_, p, x, hx, hX, hf⟩ := (q10.1 b n q2 c2 y1_1.toNatClampNeg h2 (by omega) (by omega) hK).resolve_left (fun hh => absurd hh.1 (by omega))
                                                            exact Or.inr ⟨rfl, p, x, hx, hs.trans (hX _), hf⟩), (t_lq.tr j1_0.2 q10.2)⟩)⟩⟩
        · have r13 : w10.toInt ≠ 0 := fun e => h11 (Int32.toInt_inj.mp (e.trans (by decide : (0:Int) = (0 : Int32).toInt)))
          have l14 : 1 ≤ w10.toInt := t_nel h11 l10 rfl rfl
          refine ev_incR f_X8_readAll (nx := 31) (c := 1) (l := 1) (u := 13) rfl rfl (by decide) (by decide) l1_1 u4 rfl rfl (by decide) (by decide) rfl (fun z15 e15 l15 u15 => ?_)
          refine ev_jmp f_X8_readAll (nx := 2) rfl rfl rfl ?_
          refine ev_sub (lo := [(1, .int z15), (0, .ref ar0)]) rfl (t_sc rfl (t_sc rfl t_sn)) ?_
          exact ih1 _ (by omega) gi10 gl10 gr10 (z15) hI hX p_a0 (Int.le_trans (by decide : (0:Int) ≤ 1) l15) u15 ⟨fun b n q c h hm => (by
                                                            obtain ⟨q2, c2, hs, hm2, h2, hU2⟩ := j1_0.1 b n q c h hm
                                                            have k1 := t_clamp (i := y1_1) (by omega)
                                                            have k2 := t_clamp (i := z15) (by omega)
                                                            have hK : s_K b n q2 ≠ 0 := by have := h2.1.K; omega
                                                            obtain ⟨_, q3, c3, hX, hlt, h3, hm3, hE3⟩ := (q10.1 b n q2 c2 y1_1.toNatClampNeg h2 (by omega) (by omega) hK).resolve_right (fun hh => absurd hh.1 (by omega))
                                                            refine ⟨q3, c3, hs.trans ?_, by omega, h3, fun hU => ?_⟩
                                                            rotate_left
                                                            · obtain ⟨R, r1, r2, r3⟩ := hU2 hU
                                                              obtain ⟨x, x1, x2⟩ := hE3 R r2 r1
                                                              refine ⟨R ++ [x], by rw [List.length_append, List.length_singleton]; omega, x1, ?_⟩
                                                              rw [r3, show 301 - y1_1.toNatClampNeg = (301 - z15.toNatClampNeg) + 1 by omega, x2, List.append_assoc]; rfl
                                                            rw [show 301 - y1_1.toNatClampNeg = (301 - z15.toNatClampNeg) + 1 by omega, show z15.toNatClampNeg = y1_1.toNatClampNeg + 1 by omega]
                                                            have hX := hX (301 - (y1_1.toNatClampNeg + 1))
                                                            exact hX), (t_lq.tr j1_0.2 q10.2)⟩ rfl
  refine ev_sub (lo := [(1, .int 0), (0, .ref ar0)]) rfl (t_sc rfl (t_sc rfl t_sn)) ?_
  exact L1 _ gi gl gr (0) hI hX p_a0 (by decide : (0:Int) ≤ (0:Int32).toInt) (Int.le_trans (by decide : (0:Int32).toInt ≤ (0:Int)) (by decide : (0:Int) ≤ 13)) ⟨fun b n q c h hm => ⟨q, c, rfl, by rw [hm]; rfl, h, fun hU => ⟨[], rfl, hU, rfl⟩⟩, t_lq.rf⟩ rfl
