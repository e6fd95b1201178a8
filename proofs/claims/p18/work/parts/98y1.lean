/-! ===== printed by riv.py: TOKENS of the class ===== -/
noncomputable def wl_s_isSign : List (Nat × Nat) := []
noncomputable def Q_s_isSign (gi : Nat → Nat → Int32) (gl : Nat → Nat → Int64) (gr : Nat → Nat → Value) (ar0 : Int32) : Int32 → (Nat → Nat → Int32) → (Nat → Nat → Int64) → (Nat → Nat → Value) → Prop := fun (v : Int32) (gi2 : Nat → Nat → Int32) (gl2 : Nat → Nat → Int64) (gr2 : Nat → Nat → Value) => v.toInt = (if s_sg ar0.toInt = true then 1 else 0)
theorem c_s_isSign {X : x_Ext} {d : Nat} {sh : List (Nat ⊕ (Nat × Nat))} {gi : Nat → Nat → Int32} {gl : Nat → Nat → Int64} {gr : Nat → Nat → Value} (hI : t_I sh gi gr) (ar0 : Int32) : x_Me X (d + 1) n_X9_isSign [.int ar0] (sh, gi, gl, gr) (t_PI wl_s_isSign sh gi gl gr 0 1 (Q_s_isSign gi gl gr ar0)) := by
  have hX : t_X wl_s_isSign sh gi gl gr gi gl gr := t_X.rf
  refine me_s f_X9_isSign rfl rfl ?_
  refine ev_loc f_X9_isSign (nx := 1) rfl rfl rfl rfl ?_
  refine ev_bp f_X9_isSign (nx := 3) (v := 59) rfl (by decide) rfl ?_
  refine ev_if f_X9_isSign (t1 := 36) (t2 := 6) rfl rfl rfl (fun h1 => ?_) (fun h1 => ?_)
  · have u2 : ar0.toInt ≤ 59 := t_equ h1 (by decide : (59:Int32).toInt ≤ (59:Int))
    have l3 : 59 ≤ ar0.toInt := t_eql h1 (by decide : (59:Int) ≤ (59:Int32).toInt)
    refine ev_ic f_X9_isSign (nx := 37) (v := 1) rfl (by decide) rfl ?_
    refine ev_jmp f_X9_isSign (nx := 41) rfl rfl rfl ?_
    exact ev_ret f_X9_isSign rfl rfl rfl ⟨_, _, _, rfl, hI, hX, ⟨_, rfl, (Int.le_trans (by decide : (0:Int) ≤ 1) (by decide : (1:Int) ≤ (1:Int32).toInt)), (by decide : (1:Int32).toInt ≤ (1:Int)), (show (1 : Int) = (if s_sg ar0.toInt = true then 1 else 0) from (by rw [if_pos (s_sgT (by omega))]))⟩⟩
  · have r4 : ar0.toInt ≠ 59 := fun e => h1 (Int32.toInt_inj.mp (e.trans (by decide : (59:Int) = (59 : Int32).toInt)))
    refine ev_loc f_X9_isSign (nx := 7) rfl rfl rfl rfl ?_
    refine ev_bp f_X9_isSign (nx := 9) (v := 60) rfl (by decide) rfl ?_
    refine ev_if f_X9_isSign (t1 := 36) (t2 := 12) rfl rfl rfl (fun h5 => ?_) (fun h5 => ?_)
    · have u6 : ar0.toInt ≤ 60 := t_equ h5 (by decide : (60:Int32).toInt ≤ (60:Int))
      have l7 : 60 ≤ ar0.toInt := t_eql h5 (by decide : (60:Int) ≤ (60:Int32).toInt)
      refine ev_ic f_X9_isSign (nx := 37) (v := 1) rfl (by decide) rfl ?_
      refine ev_jmp f_X9_isSign (nx := 41) rfl rfl rfl ?_
      exact ev_ret f_X9_isSign rfl rfl rfl ⟨_, _, _, rfl, hI, hX, ⟨_, rfl, (Int.le_trans (by decide : (0:Int) ≤ 1) (by decide : (1:Int) ≤ (1:Int32).toInt)), (by decide : (1:Int32).toInt ≤ (1:Int)), (show (1 : Int) = (if s_sg ar0.toInt = true then 1 else 0) from (by rw [if_pos (s_sgT (by omega))]))⟩⟩
    · have r8 : ar0.toInt ≠ 60 := fun e => h5 (Int32.toInt_inj.mp (e.trans (by decide : (60:Int) = (60 : Int32).toInt)))
      refine ev_loc f_X9_isSign (nx := 13) rfl rfl rfl rfl ?_
      refine ev_bp f_X9_isSign (nx := 15) (v := 62) rfl (by decide) rfl ?_
      refine ev_if f_X9_isSign (t1 := 36) (t2 := 18) rfl rfl rfl (fun h9 => ?_) (fun h9 => ?_)
      · have u10 : ar0.toInt ≤ 62 := t_equ h9 (by decide : (62:Int32).toInt ≤ (62:Int))
        have l11 : 62 ≤ ar0.toInt := t_eql h9 (by decide : (62:Int) ≤ (62:Int32).toInt)
        refine ev_ic f_X9_isSign (nx := 37) (v := 1) rfl (by decide) rfl ?_
        refine ev_jmp f_X9_isSign (nx := 41) rfl rfl rfl ?_
        exact ev_ret f_X9_isSign rfl rfl rfl ⟨_, _, _, rfl, hI, hX, ⟨_, rfl, (Int.le_trans (by decide : (0:Int) ≤ 1) (by decide : (1:Int) ≤ (1:Int32).toInt)), (by decide : (1:Int32).toInt ≤ (1:Int)), (show (1 : Int) = (if s_sg ar0.toInt = true then 1 else 0) from (by rw [if_pos (s_sgT (by omega))]))⟩⟩
      · have r12 : ar0.toInt ≠ 62 := fun e => h9 (Int32.toInt_inj.mp (e.trans (by decide : (62:Int) = (62 : Int32).toInt)))
        refine ev_loc f_X9_isSign (nx := 19) rfl rfl rfl rfl ?_
        refine ev_bp f_X9_isSign (nx := 21) (v := 61) rfl (by decide) rfl ?_
        refine ev_if f_X9_isSign (t1 := 36) (t2 := 24) rfl rfl rfl (fun h13 => ?_) (fun h13 => ?_)
        · have u14 : ar0.toInt ≤ 61 := t_equ h13 (by decide : (61:Int32).toInt ≤ (61:Int))
          have l15 : 61 ≤ ar0.toInt := t_eql h13 (by decide : (61:Int) ≤ (61:Int32).toInt)
          refine ev_ic f_X9_isSign (nx := 37) (v := 1) rfl (by decide) rfl ?_
          refine ev_jmp f_X9_isSign (nx := 41) rfl rfl rfl ?_
          exact ev_ret f_X9_isSign rfl rfl rfl ⟨_, _, _, rfl, hI, hX, ⟨_, rfl, (Int.le_trans (by decide : (0:Int) ≤ 1) (by decide : (1:Int) ≤ (1:Int32).toInt)), (by decide : (1:Int32).toInt ≤ (1:Int)), (show (1 : Int) = (if s_sg ar0.toInt = true then 1 else 0) from (by rw [if_pos (s_sgT (by omega))]))⟩⟩
        · have r16 : ar0.toInt ≠ 61 := fun e => h13 (Int32.toInt_inj.mp (e.trans (by decide : (61:Int) = (61 : Int32).toInt)))
          refine ev_loc f_X9_isSign (nx := 25) rfl rfl rfl rfl ?_
          refine ev_bp f_X9_isSign (nx := 27) (v := 40) rfl (by decide) rfl ?_
          refine ev_if f_X9_isSign (t1 := 36) (t2 := 30) rfl rfl rfl (fun h17 => ?_) (fun h17 => ?_)
          · have u18 : ar0.toInt ≤ 40 := t_equ h17 (by decide : (40:Int32).toInt ≤ (40:Int))
            have l19 : 40 ≤ ar0.toInt := t_eql h17 (by decide : (40:Int) ≤ (40:Int32).toInt)
            refine ev_ic f_X9_isSign (nx := 37) (v := 1) rfl (by decide) rfl ?_
            refine ev_jmp f_X9_isSign (nx := 41) rfl rfl rfl ?_
            exact ev_ret f_X9_isSign rfl rfl rfl ⟨_, _, _, rfl, hI, hX, ⟨_, rfl, (Int.le_trans (by decide : (0:Int) ≤ 1) (by decide : (1:Int) ≤ (1:Int32).toInt)), (by decide : (1:Int32).toInt ≤ (1:Int)), (show (1 : Int) = (if s_sg ar0.toInt = true then 1 else 0) from (by rw [if_pos (s_sgT (by omega))]))⟩⟩
          · have r20 : ar0.toInt ≠ 40 := fun e => h17 (Int32.toInt_inj.mp (e.trans (by decide : (40:Int) = (40 : Int32).toInt)))
            refine ev_loc f_X9_isSign (nx := 31) rfl rfl rfl rfl ?_
            refine ev_bp f_X9_isSign (nx := 33) (v := 41) rfl (by decide) rfl ?_
            refine ev_if f_X9_isSign (t1 := 36) (t2 := 40) rfl rfl rfl (fun h21 => ?_) (fun h21 => ?_)
            · have u22 : ar0.toInt ≤ 41 := t_equ h21 (by decide : (41:Int32).toInt ≤ (41:Int))
              have l23 : 41 ≤ ar0.toInt := t_eql h21 (by decide : (41:Int) ≤ (41:Int32).toInt)
              refine ev_ic f_X9_isSign (nx := 37) (v := 1) rfl (by decide) rfl ?_
              refine ev_jmp f_X9_isSign (nx := 41) rfl rfl rfl ?_
              exact ev_ret f_X9_isSign rfl rfl rfl ⟨_, _, _, rfl, hI, hX, ⟨_, rfl, (Int.le_trans (by decide : (0:Int) ≤ 1) (by decide : (1:Int) ≤ (1:Int32).toInt)), (by decide : (1:Int32).toInt ≤ (1:Int)), (show (1 : Int) = (if s_sg ar0.toInt = true then 1 else 0) from (by rw [if_pos (s_sgT (by omega))]))⟩⟩
            · have r24 : ar0.toInt ≠ 41 := fun e => h21 (Int32.toInt_inj.mp (e.trans (by decide : (41:Int) = (41 : Int32).toInt)))
              refine ev_ic f_X9_isSign (nx := 41) (v := 0) rfl (by decide) rfl ?_
              exact ev_ret f_X9_isSign rfl rfl rfl ⟨_, _, _, rfl, hI, hX, ⟨_, rfl, (by decide : (0:Int) ≤ (0:Int32).toInt), (Int.le_trans (by decide : (0:Int32).toInt ≤ (0:Int)) (by decide : (0:Int) ≤ 1)), (show (0 : Int) = (if s_sg ar0.toInt = true then 1 else 0) from (by rw [if_neg (s_sgF (by omega))]))⟩⟩
noncomputable def wl_s_stepWord : List (Nat × Nat) := [(118, 2), (118, 3), (118, 5), (118, 6), (118, 7)]
noncomputable def Q_s_stepWord (gi : Nat → Nat → Int32) (gl : Nat → Nat → Int64) (gr : Nat → Nat → Value) (ar0 : Nat) : (Nat → Nat → Int32) → (Nat → Nat → Int64) → (Nat → Nat → Value) → Prop := fun (gi2 : Nat → Nat → Int32) (gl2 : Nat → Nat → Int64) (gr2 : Nat → Nat → Value) => (∀ (b : Nat → Int32) (n q : Nat), t_S0 b n q gi gr ar0 → t_SX b n q 27 gi2 gl2 gr2 ar0) ∧ t_on ar0 gi gl gr gi2 gl2 gr2
theorem c_s_stepWord {X : x_Ext} {d : Nat} {sh : List (Nat ⊕ (Nat × Nat))} {gi : Nat → Nat → Int32} {gl : Nat → Nat → Int64} {gr : Nat → Nat → Value} (hI : t_I sh gi gr) (ar0 : Nat) (p_a0 : t_Tk sh gr ar0) : x_Me X (d + 1) n_X9_stepWord [.ref ar0] (sh, gi, gl, gr) (t_PN wl_s_stepWord sh gi gl gr (Q_s_stepWord gi gl gr ar0)) := by
  have hX : t_X wl_s_stepWord sh gi gl gr gi gl gr := t_X.rf
  refine me_i f_X9_stepWord p_a0.1 rfl rfl rfl ?_
  have L1 : ∀ (gi1 : Nat → Nat → Int32) (gl1 : Nat → Nat → Int64) (gr1 : Nat → Nat → Value), t_I sh gi1 gr1 → t_X wl_s_stepWord sh gi gl gr gi1 gl1 gr1 → t_Tk sh gr1 ar0 → (∀ (b : Nat → Int32) (n q : Nat), t_S0 b n q gi gr ar0 → ∃ i : Nat, t_SW b n q i gi1 gl1 gr1 ar0 ∧ i = s_rn s_sm b n q) ∧ t_on ar0 gi gl gr gi1 gl1 gr1 → x_Ev X (d + 1) n_X9_stepWord 90 [(0, .ref ar0)] [] (sh, gi1, gl1, gr1) (t_PN wl_s_stepWord sh gi gl gr (Q_s_stepWord gi gl gr ar0)) := by
    intro gi1 gl1 gr1 hI hX p_a0 j1_0
    refine ev_loc f_X9_stepWord (nx := 91) rfl rfl rfl rfl ?_
    refine ev_loc f_X9_stepWord (nx := 92) rfl rfl rfl rfl ?_
    refine ev_getI f_X9_stepWord (nx := 95) rfl p_a0.1 rfl rfl rfl ?_
    obtain ⟨l2, u2⟩ := hI.b p_a0.1 (t_bdK rfl : t_bd 8 2 = some (0, 900))
    refine ev_loc f_X9_stepWord (nx := 96) rfl rfl rfl rfl ?_
    refine ev_getI f_X9_stepWord (nx := 99) rfl p_a0.1 rfl rfl rfl ?_
    obtain ⟨l3, u3⟩ := hI.b p_a0.1 (t_bdK rfl : t_bd 8 4 = some (0, 900))
    refine ev_subR f_X9_stepWord (nx := 100) (l := (-900)) (u := 900) rfl l2 u2 l3 u3 rfl rfl (by decide) (by decide) rfl (fun z4 e4 l4 u4 => ?_)
    refine ev_putIT f_X9_stepWord (nx := 103) rfl p_a0.1 rfl rfl rfl (hI.put0 p_a0.1 rfl rfl) (hX.upI (t_inO hI.wf p_a0.1 (t_outO hI.wf p_a0.1 rfl) rfl)) (fun g5 e5 hI hX => ?_)
    refine ev_ic f_X9_stepWord (nx := 104) (v := 0) rfl (by decide) rfl ?_
    refine ev_loc f_X9_stepWord (nx := 105) (lo' := [(1, .int 0), (0, .ref ar0)]) rfl rfl rfl rfl ?_
    have L6 : ∀ (m6 : Nat) (gi6 : Nat → Nat → Int32) (gl6 : Nat → Nat → Int64) (gr6 : Nat → Nat → Value) (y6_1 : Int32), t_I sh gi6 gr6 → t_X wl_s_stepWord sh gi gl gr gi6 gl6 gr6 → t_Tk sh gr6 ar0 → 0 ≤ y6_1.toInt → y6_1.toInt ≤ 27 → gi6 ar0 2 = (gi1 ar0 2) → gi6 ar0 4 = (gi1 ar0 4) → gi6 ar0 5 = z4 → (∀ (b : Nat → Int32) (n q : Nat), t_S0 b n q gi gr ar0 → t_SX b n q y6_1.toNatClampNeg gi6 gl6 gr6 ar0) ∧ t_on ar0 gi gl gr gi6 gl6 gr6 → (27 - y6_1.toInt).toNat = m6 → x_Ev X (d + 1) n_X9_stepWord 105 [(1, .int y6_1), (0, .ref ar0)] [] (sh, gi6, gl6, gr6) (t_PN wl_s_stepWord sh gi gl gr (Q_s_stepWord gi gl gr ar0)) := by
      intro m6
      induction m6 using Nat.strongRecOn with
      | _ m6 ih6 =>
      intro gi6 gl6 gr6 y6_1 hI hX p_a0 l6_1 u6_1 c6_1 c6_3 c6_4 j6_0 hm6
      refine ev_loc f_X9_stepWord (nx := 106) rfl rfl rfl rfl ?_
      refine ev_heap f_X9_stepWord (nx := 109) rfl rfl rfl rfl ?_
      refine ev_heap f_X9_stepWord (nx := 110) (st' := .int 27 :: [.int y6_1]) rfl rfl rfl rfl ?_
      refine ev_if f_X9_stepWord (t1 := 153) (t2 := 113) rfl rfl rfl (fun h7 => ?_) (fun h7 => ?_)
      · have l8 : 27 ≤ y6_1.toInt := t_lel h7 (by decide : (27:Int) ≤ (27:Int32).toInt)
        exact ev_ret f_X9_stepWord rfl rfl rfl ⟨_, _, _, rfl, hI, hX, ⟨rfl, (show (∀ (b : Nat → Int32) (n q : Nat), t_S0 b n q gi gr ar0 → t_SX b n q 27 gi6 gl6 gr6 ar0) ∧ t_on ar0 gi gl gr gi6 gl6 gr6 from ⟨fun b n q h => t_SX_e (j6_0.1 b n q h) (by have hc := t_clamp (i := y6_1) (by omega); have ff0 : (gi6 ar0 2).toInt = (gi1 ar0 2).toInt := congrArg Int32.toInt c6_1; have ff1 : (gi6 ar0 4).toInt = (gi1 ar0 4).toInt := congrArg Int32.toInt c6_3; have ff2 : (gi6 ar0 5).toInt = z4.toInt := congrArg Int32.toInt c6_4; omega) (by have hc := t_clamp (i := y6_1) (by omega); omega), j6_0.2⟩)⟩⟩
      · have u9 : y6_1.toInt ≤ 26 := t_ltu (t_nle h7) (by decide : (27:Int32).toInt ≤ (27:Int)) rfl
        refine ev_loc f_X9_stepWord (nx := 114) rfl rfl rfl rfl ?_
        refine ev_gvI f_X9_stepWord (nx := 117) (w := z4) rfl p_a0.1 rfl rfl c6_4 rfl ?_
        refine ev_bp f_X9_stepWord (nx := 119) (v := 8) rfl (by decide) rfl ?_
        refine ev_if f_X9_stepWord (t1 := 153) (t2 := 122) rfl rfl rfl (fun h10 => ?_) (fun h10 => ?_)
        · have l11 : 9 ≤ z4.toInt := t_ltl h10 (by decide : (8:Int) ≤ (8:Int32).toInt) rfl
          have u12 : (gi1 ar0 4).toInt ≤ 891 := by have := u2; omega
          exact ev_ret f_X9_stepWord rfl rfl rfl ⟨_, _, _, rfl, hI, hX, ⟨rfl, (show (∀ (b : Nat → Int32) (n q : Nat), t_S0 b n q gi gr ar0 → t_SX b n q 27 gi6 gl6 gr6 ar0) ∧ t_on ar0 gi gl gr gi6 gl6 gr6 from ⟨fun b n q h => t_SX_e (j6_0.1 b n q h) (by have hc := t_clamp (i := y6_1) (by omega); have ff0 : (gi6 ar0 2).toInt = (gi1 ar0 2).toInt := congrArg Int32.toInt c6_1; have ff1 : (gi6 ar0 4).toInt = (gi1 ar0 4).toInt := congrArg Int32.toInt c6_3; have ff2 : (gi6 ar0 5).toInt = z4.toInt := congrArg Int32.toInt c6_4; omega) (by have hc := t_clamp (i := y6_1) (by omega); omega), j6_0.2⟩)⟩⟩
        · have u13 : z4.toInt ≤ 8 := t_leu (t_nlt h10) (by decide : (8:Int32).toInt ≤ (8:Int))
          refine ev_heap f_X9_stepWord (nx := 125) rfl rfl rfl rfl ?_
          refine ev_loc f_X9_stepWord (nx := 126) rfl rfl rfl rfl ?_
          refine t_kwaE f_X9_stepWord (nx := 127) rfl l6_1 (by decide) u9 (by decide) rfl (fun k14 e14 lt14 => ?_)
          refine t_kwlE f_X9_stepWord (nx := 130) rfl lt14 rfl (fun w15 e15 => ?_)
          refine ev_loc f_X9_stepWord (nx := 131) rfl rfl rfl rfl ?_
          refine ev_getL f_X9_stepWord (nx := 134) rfl p_a0.1 rfl rfl rfl ?_
          refine ev_anyIE f_X9_stepWord (nx := 135) rfl rfl rfl rfl (fun z16 e16 => ?_)
          refine ev_if f_X9_stepWord (t1 := 138) (t2 := 147) rfl rfl rfl (fun h17 => ?_) (fun h17 => ?_)
          · have u18 : z16.toInt ≤ 0 := t_equ h17 (by decide : (0:Int32).toInt ≤ (0:Int))
            have l19 : 0 ≤ z16.toInt := t_eql h17 (by decide : (0:Int) ≤ (0:Int32).toInt)
            refine ev_loc f_X9_stepWord (nx := 139) rfl rfl rfl rfl ?_
            refine ev_heap f_X9_stepWord (nx := 142) rfl rfl rfl rfl ?_
            refine ev_loc f_X9_stepWord (nx := 143) rfl rfl rfl rfl ?_
            refine t_kwaE f_X9_stepWord (nx := 144) rfl l6_1 (by decide) u9 (by decide) rfl (fun k20 e20 lt20 => ?_)
            have hE21 := t_eqf_up (gr := gr6) (j := 7) (v := .retAddr k20) p_a0.1 rfl
            have hT21 := t_keyw hI (v := .retAddr k20) p_a0.1 (Or.inr ⟨_, rfl, lt20⟩)
            replace p_a0 := p_a0.ext hE21
            refine ev_putRT f_X9_stepWord (nx := 147) rfl p_a0.1 rfl rfl rfl rfl hT21 (hX.upR (t_inO hI.wf p_a0.1 (t_outO hI.wf p_a0.1 rfl) rfl) hE21) (fun g21 e21 hI hX => ?_)
            rw [← e21] at p_a0
            refine ev_incR f_X9_stepWord (nx := 150) (c := 1) (l := 1) (u := 27) rfl rfl (by decide) (by decide) l6_1 u9 rfl rfl (by decide) (by decide) rfl (fun z22 e22 l22 u22 => ?_)
            refine ev_jmp f_X9_stepWord (nx := 105) rfl rfl rfl ?_
            refine ev_sub (lo := [(1, .int z22), (0, .ref ar0)]) rfl (t_sc rfl (t_sc rfl t_sn)) ?_
            exact ih6 _ (by omega) gi6 gl6 g21 (z22) hI hX p_a0 (Int.le_trans (by decide : (0:Int) ≤ 1) l22) u22 c6_1 c6_3 c6_4 ⟨fun b n q h => (by rw [show z22.toNatClampNeg = y6_1.toNatClampNeg + 1 from (by have h1 := t_clamp (i := z22) (by omega); have h2 := t_clamp (i := y6_1) (by omega); omega)]; exact t_SX_y (j6_0.1 b n q h) (by have ff0 : (gi6 ar0 2).toInt = (gi1 ar0 2).toInt := congrArg Int32.toInt c6_1; have ff1 : (gi6 ar0 4).toInt = (gi1 ar0 4).toInt := congrArg Int32.toInt c6_3; have ff2 : (gi6 ar0 5).toInt = z4.toInt := congrArg Int32.toInt c6_4; omega) (by rw [← e14, ← e15]; exact (lg_cmp_eq _ _).mp (e16.symm.trans h17)) (by rw [← e20]; exact e21)), (t_on.R j6_0.2 e21)⟩ rfl
          · have r23 : z16.toInt ≠ 0 := fun e => h17 (Int32.toInt_inj.mp (e.trans (by decide : (0:Int) = (0 : Int32).toInt)))
            refine ev_incR f_X9_stepWord (nx := 150) (c := 1) (l := 1) (u := 27) rfl rfl (by decide) (by decide) l6_1 u9 rfl rfl (by decide) (by decide) rfl (fun z24 e24 l24 u24 => ?_)
            refine ev_jmp f_X9_stepWord (nx := 105) rfl rfl rfl ?_
            refine ev_sub (lo := [(1, .int z24), (0, .ref ar0)]) rfl (t_sc rfl (t_sc rfl t_sn)) ?_
            exact ih6 _ (by omega) gi6 gl6 gr6 (z24) hI hX p_a0 (Int.le_trans (by decide : (0:Int) ≤ 1) l24) u24 c6_1 c6_3 c6_4 ⟨fun b n q h => (by rw [show z24.toNatClampNeg = y6_1.toNatClampNeg + 1 from (by have h1 := t_clamp (i := z24) (by omega); have h2 := t_clamp (i := y6_1) (by omega); omega)]; exact t_SX_n (j6_0.1 b n q h) (by have ff0 : (gi6 ar0 2).toInt = (gi1 ar0 2).toInt := congrArg Int32.toInt c6_1; have ff1 : (gi6 ar0 4).toInt = (gi1 ar0 4).toInt := congrArg Int32.toInt c6_3; have ff2 : (gi6 ar0 5).toInt = z4.toInt := congrArg Int32.toInt c6_4; omega) (by rw [← e14, ← e15]; exact fun hh => h17 (e16.trans ((lg_cmp_eq _ _).mpr hh)))), j6_0.2⟩ rfl
    refine ev_sub (lo := [(1, .int 0), (0, .ref ar0)]) rfl (t_sc rfl (t_sc rfl t_sn)) ?_
    exact L6 _ g5 gl1 gr1 (0) hI hX p_a0 (by decide : (0:Int) ≤ (0:Int32).toInt) (Int.le_trans (by decide : (0:Int32).toInt ≤ (0:Int)) (by decide : (0:Int) ≤ 27)) ((by rw [e5]; exact x_up2_off (Or.inr (by decide)) : g5 ar0 2 = gi1 ar0 2).trans rfl) ((by rw [e5]; exact x_up2_off (Or.inr (by decide)) : g5 ar0 4 = gi1 ar0 4).trans rfl) (by rw [e5]; exact x_up2_at _ _ _ _ : g5 ar0 5 = z4) ⟨fun b n q h => (j1_0.1 b n q h).elim (fun i hi => t_SX_0 hi.1 (t_noobj (hI.wf.s (k := 2) rfl) p_a0.1) hi.2 (by omega) e5), (t_on.I j1_0.2 e5)⟩ rfl
  refine ev_loc f_X9_stepWord (nx := 1) rfl rfl rfl rfl ?_
  refine ev_ic f_X9_stepWord (nx := 2) (v := 0) rfl (by decide) rfl ?_
  refine ev_putIT f_X9_stepWord (nx := 5) rfl p_a0.1 rfl rfl rfl (hI.put0 p_a0.1 rfl rfl) (hX.upI (t_inO hI.wf p_a0.1 (t_outO hI.wf p_a0.1 rfl) rfl)) (fun g25 e25 hI hX => ?_)
  refine ev_loc f_X9_stepWord (nx := 6) rfl rfl rfl rfl ?_
  refine ev_lc f_X9_stepWord (nx := 7) (v := 0) rfl (by decide) rfl ?_
  refine ev_putLT f_X9_stepWord (nx := 10) rfl p_a0.1 rfl rfl rfl (hX.upL (t_inO hI.wf p_a0.1 (t_outO hI.wf p_a0.1 rfl) rfl)) (fun g26 e26 hX => ?_)
  have L27 : ∀ (m27 : Nat) (gi27 : Nat → Nat → Int32) (gl27 : Nat → Nat → Int64) (gr27 : Nat → Nat → Value), t_I sh gi27 gr27 → t_X wl_s_stepWord sh gi gl gr gi27 gl27 gr27 → t_Tk sh gr27 ar0 → gi27 ar0 3 = 0 → (∀ (b : Nat → Int32) (n q : Nat), t_S0 b n q gi gr ar0 → ∃ i : Nat, t_SW b n q i gi27 gl27 gr27 ar0) ∧ t_on ar0 gi gl gr gi27 gl27 gr27 → (900 - (gi27 ar0 2).toInt).toNat = m27 → x_Ev X (d + 1) n_X9_stepWord 10 [(0, .ref ar0)] [] (sh, gi27, gl27, gr27) (t_PN wl_s_stepWord sh gi gl gr (Q_s_stepWord gi gl gr ar0)) := by
    intro m27
    induction m27 using Nat.strongRecOn with
    | _ m27 ih27 =>
    intro gi27 gl27 gr27 hI hX p_a0 c27_0 j27_0 hm27
    refine ev_loc f_X9_stepWord (nx := 11) rfl rfl rfl rfl ?_
    refine ev_getI f_X9_stepWord (nx := 14) rfl p_a0.1 rfl rfl rfl ?_
    obtain ⟨l28, u28⟩ := hI.b p_a0.1 (t_bdK rfl : t_bd 8 2 = some (0, 900))
    refine ev_loc f_X9_stepWord (nx := 15) rfl rfl rfl rfl ?_
    refine ev_getI f_X9_stepWord (nx := 18) rfl p_a0.1 rfl rfl rfl ?_
    obtain ⟨l29, u29⟩ := hI.b p_a0.1 (t_bdK rfl : t_bd 8 1 = some (0, 900))
    refine ev_if f_X9_stepWord (t1 := 90) (t2 := 21) rfl rfl rfl (fun h30 => ?_) (fun h30 => ?_)
    · have r31 : (gi27 ar0 1).toInt ≤ (gi27 ar0 2).toInt := Int32.le_iff_toInt_le.mp h30
      refine ev_sub (lo := [(0, .ref ar0)]) rfl (t_sc rfl t_sn) ?_
      exact L1 gi27 gl27 gr27  hI hX p_a0 ⟨fun b n q h => (j27_0.1 b n q h).elim (fun i hi => ⟨i, hi, t_SW_e hi (Or.inl (by omega))⟩), j27_0.2⟩
    · have r32 : (gi27 ar0 2).toInt < (gi27 ar0 1).toInt := Int32.lt_iff_toInt_lt.mp (t_nle h30)
      have u33 : (gi27 ar0 2).toInt ≤ 899 := t_ltu (t_nle h30) u29 rfl
      have l34 : 1 ≤ (gi27 ar0 1).toInt := t_ltl (t_nle h30) l28 rfl
      refine ev_loc f_X9_stepWord (nx := 22) rfl rfl rfl rfl ?_
      have e35 := p_a0.2
      refine ev_getR f_X9_stepWord (nx := 25) rfl p_a0.1 rfl rfl e35 rfl rfl ?_
      refine ev_loc f_X9_stepWord (nx := 26) rfl rfl rfl rfl ?_
      refine ev_gvI f_X9_stepWord (nx := 29) (w := (gi27 ar0 2)) rfl p_a0.1 rfl rfl rfl rfl ?_
      refine ev_baldT f_X9_stepWord (nx := 30) rfl (hI.wf.s rfl) rfl l28 (by decide) u33 (by decide) rfl (fun w36 e36 => ?_)
      refine ev_bp f_X9_stepWord (nx := 32) (v := 97) rfl (by decide) rfl ?_
      refine ev_if f_X9_stepWord (t1 := 90) (t2 := 35) rfl rfl rfl (fun h37 => ?_) (fun h37 => ?_)
      · have u38 : w36.toInt ≤ 96 := t_ltu h37 (by decide : (97:Int32).toInt ≤ (97:Int)) rfl
        refine ev_sub (lo := [(0, .ref ar0)]) rfl (t_sc rfl t_sn) ?_
        exact L1 gi27 gl27 gr27  hI hX p_a0 ⟨fun b n q h => (j27_0.1 b n q h).elim (fun i hi => ⟨i, hi, t_SW_e hi (Or.inr (fun w hw => by rw [hw.trans e36.symm]; omega))⟩), j27_0.2⟩
      · have l39 : 97 ≤ w36.toInt := t_lel (t_nlt h37) (by decide : (97:Int) ≤ (97:Int32).toInt)
        refine ev_loc f_X9_stepWord (nx := 36) rfl rfl rfl rfl ?_
        refine ev_getR f_X9_stepWord (nx := 39) (v := .ref 2) rfl p_a0.1 rfl rfl e35 rfl rfl ?_
        refine ev_loc f_X9_stepWord (nx := 40) rfl rfl rfl rfl ?_
        refine ev_gvI f_X9_stepWord (nx := 43) (w := (gi27 ar0 2)) rfl p_a0.1 rfl rfl rfl rfl ?_
        refine ev_baldT f_X9_stepWord (nx := 44) rfl (hI.wf.s rfl) rfl l28 (by decide) u33 (by decide) rfl (fun w40 e40 => ?_)
        rw [e40.trans e36.symm]
        refine ev_bp f_X9_stepWord (nx := 46) (v := 122) rfl (by decide) rfl ?_
        refine ev_if f_X9_stepWord (t1 := 90) (t2 := 49) rfl rfl rfl (fun h41 => ?_) (fun h41 => ?_)
        · have l42 : 123 ≤ w36.toInt := t_ltl h41 (by decide : (122:Int) ≤ (122:Int32).toInt) rfl
          refine ev_sub (lo := [(0, .ref ar0)]) rfl (t_sc rfl t_sn) ?_
          exact L1 gi27 gl27 gr27  hI hX p_a0 ⟨fun b n q h => (j27_0.1 b n q h).elim (fun i hi => ⟨i, hi, t_SW_e hi (Or.inr (fun w hw => by rw [hw.trans e36.symm]; omega))⟩), j27_0.2⟩
        · have u43 : w36.toInt ≤ 122 := t_leu (t_nlt h41) (by decide : (122:Int32).toInt ≤ (122:Int))
          refine ev_loc f_X9_stepWord (nx := 50) rfl rfl rfl rfl ?_
          refine ev_loc f_X9_stepWord (nx := 51) rfl rfl rfl rfl ?_
          refine ev_getL f_X9_stepWord (nx := 54) rfl p_a0.1 rfl rfl rfl ?_
          refine ev_ldL f_X9_stepWord (nx := 57) (v := 32) rfl (by decide) rfl ?_
          refine ev_anyLE f_X9_stepWord (nx := 58) rfl rfl rfl rfl (fun z44 e44 => ?_)
          refine ev_loc f_X9_stepWord (nx := 59) rfl rfl rfl rfl ?_
          refine ev_getR f_X9_stepWord (nx := 62) (v := .ref 2) rfl p_a0.1 rfl rfl e35 rfl rfl ?_
          refine ev_loc f_X9_stepWord (nx := 63) rfl rfl rfl rfl ?_
          refine ev_gvI f_X9_stepWord (nx := 66) (w := (gi27 ar0 2)) rfl p_a0.1 rfl rfl rfl rfl ?_
          refine ev_baldT f_X9_stepWord (nx := 67) rfl (hI.wf.s rfl) rfl l28 (by decide) u33 (by decide) rfl (fun w45 e45 => ?_)
          rw [e45.trans e36.symm]
          refine ev_bp f_X9_stepWord (nx := 69) (v := 97) rfl (by decide) rfl ?_
          refine ev_subC f_X9_stepWord (nx := 70) (c := 97) (l := 0) (u := 25) rfl (by decide) l39 u43 rfl rfl (by decide) (by decide) rfl (fun z46 e46 l46 u46 => ?_)
          refine ev_ic f_X9_stepWord (nx := 71) (v := 1) rfl (by decide) rfl ?_
          refine ev_addC f_X9_stepWord (nx := 72) (c := 1) (l := 1) (u := 26) rfl (by decide) l46 u46 rfl rfl (by decide) (by decide) rfl (fun z47 e47 l47 u47 => ?_)
          refine ev_anyLE f_X9_stepWord (nx := 73) rfl rfl rfl rfl (fun z48 e48 => ?_)
          have i48 : z48.toInt = z47.toInt := by rw [e48]; exact Int32.toInt_toInt64 _
          refine ev_anyLE f_X9_stepWord (nx := 74) rfl rfl rfl rfl (fun z49 e49 => ?_)
          refine ev_putLT f_X9_stepWord (nx := 77) rfl p_a0.1 rfl rfl rfl (hX.upL (t_inO hI.wf p_a0.1 (t_outO hI.wf p_a0.1 rfl) rfl)) (fun g50 e50 hX => ?_)
          refine ev_loc f_X9_stepWord (nx := 78) rfl rfl rfl rfl ?_
          refine ev_alu f_X9_stepWord (nx := 79) rfl rfl rfl rfl ?_
          refine ev_gvI f_X9_stepWord (nx := 82) (w := (gi27 ar0 2)) rfl p_a0.1 rfl rfl rfl rfl ?_
          refine ev_ic f_X9_stepWord (nx := 83) (v := 1) rfl (by decide) rfl ?_
          refine ev_addC f_X9_stepWord (nx := 84) (c := 1) (l := 1) (u := 900) rfl (by decide) l28 u33 rfl rfl (by decide) (by decide) rfl (fun z51 e51 l51 u51 => ?_)
          refine ev_putIT f_X9_stepWord (nx := 87) rfl p_a0.1 rfl rfl rfl (hI.putB p_a0.1 rfl rfl l51 (by decide) u51 (by decide)) (hX.upI (t_inO hI.wf p_a0.1 (t_outO hI.wf p_a0.1 rfl) rfl)) (fun g52 e52 hI hX => ?_)
          refine ev_jmp f_X9_stepWord (nx := 10) rfl rfl rfl ?_
          refine ev_sub (lo := [(0, .ref ar0)]) rfl (t_sc rfl t_sn) ?_
          have hq27 := ((by rw [e52]; exact x_up2_at _ _ _ _ : g52 ar0 2 = z51) : g52 ar0 2 = z51)
          exact ih27 _ (by rw [hq27]; omega) g52 g50 gr27  hI hX p_a0 ((by rw [e52]; exact x_up2_off (Or.inr (by decide)) : g52 ar0 3 = gi27 ar0 3).trans c27_0) ⟨fun b n q h => (j27_0.1 b n q h).elim (fun i hi => ⟨i + 1, t_SW_s hi (t_noobj (hI.wf.s (k := 2) rfl) p_a0.1) (by omega) e36 (by omega) (by omega) (by omega) (by rw [e49, e44]) (by omega) e50 e52⟩), (t_on.I (t_on.L j27_0.2 e50) e52)⟩ rfl
  refine ev_sub (lo := [(0, .ref ar0)]) rfl (t_sc rfl t_sn) ?_
  exact L27 _ g25 g26 gr  hI hX p_a0 (by rw [e25]; exact x_up2_at _ _ _ _ : g25 ar0 3 = 0) ⟨fun b n q h => ⟨q, t_SW_0 h (t_noobj (hI.wf.s (k := 2) rfl) p_a0.1) e25 e26⟩, (t_on.L (t_on.I t_on.rf e25) e26)⟩ rfl
noncomputable def wl_s_stepNumber : List (Nat × Nat) := [(118, 2), (118, 3), (118, 8)]
noncomputable def Q_s_stepNumber (gi : Nat → Nat → Int32) (gl : Nat → Nat → Int64) (gr : Nat → Nat → Value) (ar0 : Nat) : (Nat → Nat → Int32) → (Nat → Nat → Int64) → (Nat → Nat → Value) → Prop := fun (gi2 : Nat → Nat → Int32) (gl2 : Nat → Nat → Int64) (gr2 : Nat → Nat → Value) => (∀ (b : Nat → Int32) (n q : Nat), t_S0 b n q gi gr ar0 → t_SM b n q gi2 gr2 ar0) ∧ t_on ar0 gi gl gr gi2 gl2 gr2
theorem c_s_stepNumber {X : x_Ext} {d : Nat} {sh : List (Nat ⊕ (Nat × Nat))} {gi : Nat → Nat → Int32} {gl : Nat → Nat → Int64} {gr : Nat → Nat → Value} (hI : t_I sh gi gr) (ar0 : Nat) (p_a0 : t_Tk sh gr ar0) : x_Me X (d + 1) n_X9_stepNumber [.ref ar0] (sh, gi, gl, gr) (t_PN wl_s_stepNumber sh gi gl gr (Q_s_stepNumber gi gl gr ar0)) := by
  have hX : t_X wl_s_stepNumber sh gi gl gr gi gl gr := t_X.rf
  refine me_i f_X9_stepNumber p_a0.1 rfl rfl rfl ?_
  have L1 : ∀ (gi1 : Nat → Nat → Int32) (gl1 : Nat → Nat → Int64) (gr1 : Nat → Nat → Value), t_I sh gi1 gr1 → t_X wl_s_stepNumber sh gi gl gr gi1 gl1 gr1 → t_Tk sh gr1 ar0 → (∀ (b : Nat → Int32) (n q : Nat), t_S0 b n q gi gr ar0 → ∃ i : Nat, t_SN b n q i gi1 gr1 ar0 ∧ i = s_rn s_dg b n q) ∧ t_on ar0 gi gl gr gi1 gl1 gr1 → x_Ev X (d + 1) n_X9_stepNumber 81 [(0, .ref ar0)] [] (sh, gi1, gl1, gr1) (t_PN wl_s_stepNumber sh gi gl gr (Q_s_stepNumber gi gl gr ar0)) := by
    intro gi1 gl1 gr1 hI hX p_a0 j1_0
    refine ev_loc f_X9_stepNumber (nx := 82) rfl rfl rfl rfl ?_
    refine ev_loc f_X9_stepNumber (nx := 83) rfl rfl rfl rfl ?_
    refine ev_getI f_X9_stepNumber (nx := 86) rfl p_a0.1 rfl rfl rfl ?_
    obtain ⟨l2, u2⟩ := hI.b p_a0.1 (t_bdK rfl : t_bd 8 2 = some (0, 900))
    refine ev_loc f_X9_stepNumber (nx := 87) rfl rfl rfl rfl ?_
    refine ev_getI f_X9_stepNumber (nx := 90) rfl p_a0.1 rfl rfl rfl ?_
    obtain ⟨l3, u3⟩ := hI.b p_a0.1 (t_bdK rfl : t_bd 8 4 = some (0, 900))
    refine ev_subR f_X9_stepNumber (nx := 91) (l := (-900)) (u := 900) rfl l2 u2 l3 u3 rfl rfl (by decide) (by decide) rfl (fun z4 e4 l4 u4 => ?_)
    refine ev_ic f_X9_stepNumber (nx := 92) (v := 4) rfl (by decide) rfl ?_
    refine ev_if f_X9_stepNumber (t1 := 99) (t2 := 95) rfl rfl rfl (fun h5 => ?_) (fun h5 => ?_)
    · have u6 : z4.toInt ≤ 4 := t_leu h5 (by decide : (4:Int32).toInt ≤ (4:Int))
      refine ev_ic f_X9_stepNumber (nx := 100) (v := 1) rfl (by decide) rfl ?_
      refine ev_putIT f_X9_stepNumber (nx := 103) rfl p_a0.1 rfl rfl rfl (hI.put0 p_a0.1 rfl rfl) (hX.upI (t_inO hI.wf p_a0.1 (t_outO hI.wf p_a0.1 rfl) rfl)) (fun g7 e7 hI hX => ?_)
      exact ev_ret f_X9_stepNumber rfl rfl rfl ⟨_, _, _, rfl, hI, hX, ⟨rfl, (show (∀ (b : Nat → Int32) (n q : Nat), t_S0 b n q gi gr ar0 → t_SM b n q g7 gr1 ar0) ∧ t_on ar0 gi gl gr g7 gl1 gr1 from ⟨fun b n q h => (j1_0.1 b n q h).elim (fun i hi => t_SM_0 hi.1 (t_noobj (hI.wf.s (k := 2) rfl) p_a0.1) hi.2 (by rw [if_neg (by omega)]; rfl) e7), (t_on.I j1_0.2 e7)⟩)⟩⟩
    · have l8 : 5 ≤ z4.toInt := t_ltl (t_nle h5) (by decide : (4:Int) ≤ (4:Int32).toInt) rfl
      have u9 : (gi1 ar0 4).toInt ≤ 895 := by have := u2; omega
      refine ev_ic f_X9_stepNumber (nx := 96) (v := 4) rfl (by decide) rfl ?_
      refine ev_jmp f_X9_stepNumber (nx := 100) rfl rfl rfl ?_
      refine ev_putIT f_X9_stepNumber (nx := 103) rfl p_a0.1 rfl rfl rfl (hI.put0 p_a0.1 rfl rfl) (hX.upI (t_inO hI.wf p_a0.1 (t_outO hI.wf p_a0.1 rfl) rfl)) (fun g10 e10 hI hX => ?_)
      exact ev_ret f_X9_stepNumber rfl rfl rfl ⟨_, _, _, rfl, hI, hX, ⟨rfl, (show (∀ (b : Nat → Int32) (n q : Nat), t_S0 b n q gi gr ar0 → t_SM b n q g10 gr1 ar0) ∧ t_on ar0 gi gl gr g10 gl1 gr1 from ⟨fun b n q h => (j1_0.1 b n q h).elim (fun i hi => t_SM_0 hi.1 (t_noobj (hI.wf.s (k := 2) rfl) p_a0.1) hi.2 (by rw [if_pos (by omega)]; rfl) e10), (t_on.I j1_0.2 e10)⟩)⟩⟩
  refine ev_loc f_X9_stepNumber (nx := 1) rfl rfl rfl rfl ?_
  refine ev_ic f_X9_stepNumber (nx := 2) (v := 0) rfl (by decide) rfl ?_
  refine ev_putIT f_X9_stepNumber (nx := 5) rfl p_a0.1 rfl rfl rfl (hI.put0 p_a0.1 rfl rfl) (hX.upI (t_inO hI.wf p_a0.1 (t_outO hI.wf p_a0.1 rfl) rfl)) (fun g11 e11 hI hX => ?_)
  have L12 : ∀ (m12 : Nat) (gi12 : Nat → Nat → Int32) (gl12 : Nat → Nat → Int64) (gr12 : Nat → Nat → Value), t_I sh gi12 gr12 → t_X wl_s_stepNumber sh gi gl gr gi12 gl12 gr12 → t_Tk sh gr12 ar0 → (∀ (b : Nat → Int32) (n q : Nat), t_S0 b n q gi gr ar0 → ∃ i : Nat, t_SN b n q i gi12 gr12 ar0) ∧ t_on ar0 gi gl gr gi12 gl12 gr12 → (900 - (gi12 ar0 2).toInt).toNat = m12 → x_Ev X (d + 1) n_X9_stepNumber 5 [(0, .ref ar0)] [] (sh, gi12, gl12, gr12) (t_PN wl_s_stepNumber sh gi gl gr (Q_s_stepNumber gi gl gr ar0)) := by
    intro m12
    induction m12 using Nat.strongRecOn with
    | _ m12 ih12 =>
    intro gi12 gl12 gr12 hI hX p_a0 j12_0 hm12
    refine ev_loc f_X9_stepNumber (nx := 6) rfl rfl rfl rfl ?_
    refine ev_getI f_X9_stepNumber (nx := 9) rfl p_a0.1 rfl rfl rfl ?_
    obtain ⟨l13, u13⟩ := hI.b p_a0.1 (t_bdK rfl : t_bd 8 2 = some (0, 900))
    refine ev_loc f_X9_stepNumber (nx := 10) rfl rfl rfl rfl ?_
    refine ev_getI f_X9_stepNumber (nx := 13) rfl p_a0.1 rfl rfl rfl ?_
    obtain ⟨l14, u14⟩ := hI.b p_a0.1 (t_bdK rfl : t_bd 8 1 = some (0, 900))
    refine ev_if f_X9_stepNumber (t1 := 81) (t2 := 16) rfl rfl rfl (fun h15 => ?_) (fun h15 => ?_)
    · have r16 : (gi12 ar0 1).toInt ≤ (gi12 ar0 2).toInt := Int32.le_iff_toInt_le.mp h15
      refine ev_sub (lo := [(0, .ref ar0)]) rfl (t_sc rfl t_sn) ?_
      exact L1 gi12 gl12 gr12  hI hX p_a0 ⟨fun b n q h => (j12_0.1 b n q h).elim (fun i hi => ⟨i, hi, t_SN_e hi (Or.inl (by omega))⟩), j12_0.2⟩
    · have r17 : (gi12 ar0 2).toInt < (gi12 ar0 1).toInt := Int32.lt_iff_toInt_lt.mp (t_nle h15)
      have u18 : (gi12 ar0 2).toInt ≤ 899 := t_ltu (t_nle h15) u14 rfl
      have l19 : 1 ≤ (gi12 ar0 1).toInt := t_ltl (t_nle h15) l13 rfl
      refine ev_loc f_X9_stepNumber (nx := 17) rfl rfl rfl rfl ?_
      have e20 := p_a0.2
      refine ev_getR f_X9_stepNumber (nx := 20) rfl p_a0.1 rfl rfl e20 rfl rfl ?_
      refine ev_loc f_X9_stepNumber (nx := 21) rfl rfl rfl rfl ?_
      refine ev_gvI f_X9_stepNumber (nx := 24) (w := (gi12 ar0 2)) rfl p_a0.1 rfl rfl rfl rfl ?_
      refine ev_baldT f_X9_stepNumber (nx := 25) rfl (hI.wf.s rfl) rfl l13 (by decide) u18 (by decide) rfl (fun w21 e21 => ?_)
      refine ev_bp f_X9_stepNumber (nx := 27) (v := 48) rfl (by decide) rfl ?_
      refine ev_if f_X9_stepNumber (t1 := 81) (t2 := 30) rfl rfl rfl (fun h22 => ?_) (fun h22 => ?_)
      · have u23 : w21.toInt ≤ 47 := t_ltu h22 (by decide : (48:Int32).toInt ≤ (48:Int)) rfl
        refine ev_sub (lo := [(0, .ref ar0)]) rfl (t_sc rfl t_sn) ?_
        exact L1 gi12 gl12 gr12  hI hX p_a0 ⟨fun b n q h => (j12_0.1 b n q h).elim (fun i hi => ⟨i, hi, t_SN_e hi (Or.inr (fun w hw => by rw [hw.trans e21.symm]; omega))⟩), j12_0.2⟩
      · have l24 : 48 ≤ w21.toInt := t_lel (t_nlt h22) (by decide : (48:Int) ≤ (48:Int32).toInt)
        refine ev_loc f_X9_stepNumber (nx := 31) rfl rfl rfl rfl ?_
        refine ev_getR f_X9_stepNumber (nx := 34) (v := .ref 2) rfl p_a0.1 rfl rfl e20 rfl rfl ?_
        refine ev_loc f_X9_stepNumber (nx := 35) rfl rfl rfl rfl ?_
        refine ev_gvI f_X9_stepNumber (nx := 38) (w := (gi12 ar0 2)) rfl p_a0.1 rfl rfl rfl rfl ?_
        refine ev_baldT f_X9_stepNumber (nx := 39) rfl (hI.wf.s rfl) rfl l13 (by decide) u18 (by decide) rfl (fun w25 e25 => ?_)
        rw [e25.trans e21.symm]
        refine ev_bp f_X9_stepNumber (nx := 41) (v := 57) rfl (by decide) rfl ?_
        refine ev_if f_X9_stepNumber (t1 := 81) (t2 := 44) rfl rfl rfl (fun h26 => ?_) (fun h26 => ?_)
        · have l27 : 58 ≤ w21.toInt := t_ltl h26 (by decide : (57:Int) ≤ (57:Int32).toInt) rfl
          refine ev_sub (lo := [(0, .ref ar0)]) rfl (t_sc rfl t_sn) ?_
          exact L1 gi12 gl12 gr12  hI hX p_a0 ⟨fun b n q h => (j12_0.1 b n q h).elim (fun i hi => ⟨i, hi, t_SN_e hi (Or.inr (fun w hw => by rw [hw.trans e21.symm]; omega))⟩), j12_0.2⟩
        · have u28 : w21.toInt ≤ 57 := t_leu (t_nlt h26) (by decide : (57:Int32).toInt ≤ (57:Int))
          refine ev_loc f_X9_stepNumber (nx := 45) rfl rfl rfl rfl ?_
          refine ev_loc f_X9_stepNumber (nx := 46) rfl rfl rfl rfl ?_
          refine ev_getI f_X9_stepNumber (nx := 49) rfl p_a0.1 rfl rfl rfl ?_
          refine ev_bp f_X9_stepNumber (nx := 51) (v := 10) rfl (by decide) rfl ?_
          refine ev_anyIE f_X9_stepNumber (nx := 52) rfl rfl rfl rfl (fun z29 e29 => ?_)
          refine ev_loc f_X9_stepNumber (nx := 53) rfl rfl rfl rfl ?_
          refine ev_getR f_X9_stepNumber (nx := 56) (v := .ref 2) rfl p_a0.1 rfl rfl e20 rfl rfl ?_
          refine ev_loc f_X9_stepNumber (nx := 57) rfl rfl rfl rfl ?_
          refine ev_gvI f_X9_stepNumber (nx := 60) (w := (gi12 ar0 2)) rfl p_a0.1 rfl rfl rfl rfl ?_
          refine ev_baldT f_X9_stepNumber (nx := 61) rfl (hI.wf.s rfl) rfl l13 (by decide) u18 (by decide) rfl (fun w30 e30 => ?_)
          rw [e30.trans e21.symm]
          refine ev_bp f_X9_stepNumber (nx := 63) (v := 48) rfl (by decide) rfl ?_
          refine ev_subC f_X9_stepNumber (nx := 64) (c := 48) (l := 0) (u := 9) rfl (by decide) l24 u28 rfl rfl (by decide) (by decide) rfl (fun z31 e31 l31 u31 => ?_)
          refine ev_anyIE f_X9_stepNumber (nx := 65) rfl rfl rfl rfl (fun z32 e32 => ?_)
          refine ev_putIT f_X9_stepNumber (nx := 68) rfl p_a0.1 rfl rfl rfl (hI.put0 p_a0.1 rfl rfl) (hX.upI (t_inO hI.wf p_a0.1 (t_outO hI.wf p_a0.1 rfl) rfl)) (fun g33 e33 hI hX => ?_)
          refine ev_loc f_X9_stepNumber (nx := 69) rfl rfl rfl rfl ?_
          refine ev_alu f_X9_stepNumber (nx := 70) rfl rfl rfl rfl ?_
          refine ev_gvI f_X9_stepNumber (nx := 73) (w := (gi12 ar0 2)) rfl p_a0.1 rfl rfl ((by rw [e33]; exact x_up2_off (Or.inr (by decide)) : g33 ar0 2 = gi12 ar0 2).trans rfl) rfl ?_
          refine ev_ic f_X9_stepNumber (nx := 74) (v := 1) rfl (by decide) rfl ?_
          refine ev_addC f_X9_stepNumber (nx := 75) (c := 1) (l := 1) (u := 900) rfl (by decide) l13 u18 rfl rfl (by decide) (by decide) rfl (fun z34 e34 l34 u34 => ?_)
          refine ev_putIT f_X9_stepNumber (nx := 78) rfl p_a0.1 rfl rfl rfl (hI.putB p_a0.1 rfl rfl l34 (by decide) u34 (by decide)) (hX.upI (t_inO hI.wf p_a0.1 (t_outO hI.wf p_a0.1 rfl) rfl)) (fun g35 e35 hI hX => ?_)
          refine ev_jmp f_X9_stepNumber (nx := 5) rfl rfl rfl ?_
          refine ev_sub (lo := [(0, .ref ar0)]) rfl (t_sc rfl t_sn) ?_
          have hq12 := ((by rw [e35]; exact x_up2_at _ _ _ _ : g35 ar0 2 = z34) : g35 ar0 2 = z34)
          exact ih12 _ (by rw [hq12]; omega) g35 gl12 gr12  hI hX p_a0 ⟨fun b n q h => (j12_0.1 b n q h).elim (fun i hi => ⟨i + 1, t_SN_s hi (t_noobj (hI.wf.s (k := 2) rfl) p_a0.1) (by omega) e21 (by omega) (by omega) (by omega) (by rw [e32, e29]) (by omega) e33 e35⟩), (t_on.I (t_on.I j12_0.2 e33) e35)⟩ rfl
  refine ev_sub (lo := [(0, .ref ar0)]) rfl (t_sc rfl t_sn) ?_
  exact L12 _ g11 gl gr  hI hX p_a0 ⟨fun b n q h => ⟨q, t_SN_0 h (t_noobj (hI.wf.s (k := 2) rfl) p_a0.1) e11⟩, (t_on.I t_on.rf e11)⟩ rfl
noncomputable def wl_s_step : List (Nat × Nat) := [(118, 2), (118, 3), (118, 4), (118, 5), (118, 6), (118, 7), (118, 8), (118, 9)]
noncomputable def Q_s_step (gi : Nat → Nat → Int32) (gl : Nat → Nat → Int64) (gr : Nat → Nat → Value) (ar0 : Nat) : (Nat → Nat → Int32) → (Nat → Nat → Int64) → (Nat → Nat → Value) → Prop := fun (gi2 : Nat → Nat → Int32) (gl2 : Nat → Nat → Int64) (gr2 : Nat → Nat → Value) => (∀ (b : Nat → Int32) (n q : Nat), t_Sp b n q gi ar0 → t_TC b n q gi2 gl2 gr2 ar0) ∧ t_nf gi gi2 ar0 ∧ t_on ar0 gi gl gr gi2 gl2 gr2
theorem c_s_step {X : x_Ext} {d : Nat} {sh : List (Nat ⊕ (Nat × Nat))} {gi : Nat → Nat → Int32} {gl : Nat → Nat → Int64} {gr : Nat → Nat → Value} (hI : t_I sh gi gr) (ar0 : Nat) (p_a0 : t_Tk sh gr ar0) : x_Me X (d + 2) n_X9_step [.ref ar0] (sh, gi, gl, gr) (t_PN wl_s_step sh gi gl gr (Q_s_step gi gl gr ar0)) := by
  have hX : t_X wl_s_step sh gi gl gr gi gl gr := t_X.rf
  refine me_i f_X9_step p_a0.1 rfl rfl rfl ?_
  have L1 : ∀ (gi1 : Nat → Nat → Int32) (gl1 : Nat → Nat → Int64) (gr1 : Nat → Nat → Value), t_I sh gi1 gr1 → t_X wl_s_step sh gi gl gr gi1 gl1 gr1 → t_Tk sh gr1 ar0 → (∀ (b : Nat → Int32) (n q : Nat), t_Sp b n q gi ar0 → ∃ i : Nat, t_Sp b n i gi1 ar0 ∧ q ≤ n ∧ s_F b n q = i) ∧ t_on ar0 gi gl gr gi1 gl1 gr1 → x_Ev X (d + 2) n_X9_step 52 [(0, .ref ar0)] [] (sh, gi1, gl1, gr1) (t_PN wl_s_step sh gi gl gr (Q_s_step gi gl gr ar0)) := by
    intro gi1 gl1 gr1 hI hX p_a0 j1_0
    refine ev_loc f_X9_step (nx := 53) rfl rfl rfl rfl ?_
    refine ev_loc f_X9_step (nx := 54) rfl rfl rfl rfl ?_
    refine ev_getI f_X9_step (nx := 57) rfl p_a0.1 rfl rfl rfl ?_
    obtain ⟨l2, u2⟩ := hI.b p_a0.1 (t_bdK rfl : t_bd 8 2 = some (0, 900))
    refine ev_putIT f_X9_step (nx := 60) rfl p_a0.1 rfl rfl rfl (hI.putB p_a0.1 rfl rfl l2 (by decide) u2 (by decide)) (hX.upI (t_inO hI.wf p_a0.1 (t_outO hI.wf p_a0.1 rfl) rfl)) (fun g3 e3 hI hX => ?_)
    refine ev_loc f_X9_step (nx := 61) rfl rfl rfl rfl ?_
    refine ev_alu f_X9_step (nx := 62) rfl rfl rfl rfl ?_
    have hE4 := t_eqf_up (gr := gr1) (j := 7) (v := .null) p_a0.1 rfl
    have hT4 := t_keyw hI (v := .null) p_a0.1 (Or.inl rfl)
    replace p_a0 := p_a0.ext hE4
    refine ev_putRT f_X9_step (nx := 65) rfl p_a0.1 rfl rfl rfl rfl hT4 (hX.upR (t_inO hI.wf p_a0.1 (t_outO hI.wf p_a0.1 rfl) rfl) hE4) (fun g4 e4 hI hX => ?_)
    rw [← e4] at p_a0
    refine ev_loc f_X9_step (nx := 66) rfl rfl rfl rfl ?_
    refine ev_gvI f_X9_step (nx := 69) (w := (gi1 ar0 2)) rfl p_a0.1 rfl rfl ((by rw [e3]; exact x_up2_off (Or.inr (by decide)) : g3 ar0 2 = gi1 ar0 2).trans rfl) rfl ?_
    refine ev_loc f_X9_step (nx := 70) rfl rfl rfl rfl ?_
    refine ev_getI f_X9_step (nx := 73) rfl p_a0.1 rfl rfl rfl ?_
    obtain ⟨l5, u5⟩ := hI.b p_a0.1 (t_bdK rfl : t_bd 8 1 = some (0, 900))
    refine ev_if f_X9_step (t1 := 82) (t2 := 76) rfl rfl rfl (fun h6 => ?_) (fun h6 => ?_)
    · have r7 : (gi1 ar0 2).toInt < (g3 ar0 1).toInt := Int32.lt_iff_toInt_lt.mp h6
      have u8 : (gi1 ar0 2).toInt ≤ 899 := t_ltu h6 u5 rfl
      have l9 : 1 ≤ (g3 ar0 1).toInt := t_ltl h6 l2 rfl
      refine ev_loc f_X9_step (nx := 83) rfl rfl rfl rfl ?_
      have e10 := p_a0.2
      refine ev_getR f_X9_step (nx := 86) rfl p_a0.1 rfl rfl e10 rfl rfl ?_
      refine ev_loc f_X9_step (nx := 87) rfl rfl rfl rfl ?_
      refine ev_gvI f_X9_step (nx := 90) (w := (gi1 ar0 2)) rfl p_a0.1 rfl rfl ((by rw [e3]; exact x_up2_off (Or.inr (by decide)) : g3 ar0 2 = gi1 ar0 2).trans rfl) rfl ?_
      refine ev_baldT f_X9_step (nx := 91) rfl (hI.wf.s rfl) rfl l2 (by decide) u8 (by decide) rfl (fun w11 e11 => ?_)
      refine ev_loc f_X9_step (nx := 92) (lo' := [(1, .int w11), (0, .ref ar0)]) rfl rfl rfl rfl ?_
      refine ev_loc f_X9_step (nx := 93) rfl rfl rfl rfl ?_
      refine ev_bp f_X9_step (nx := 95) (v := 97) rfl (by decide) rfl ?_
      refine ev_if f_X9_step (t1 := 111) (t2 := 98) rfl rfl rfl (fun h12 => ?_) (fun h12 => ?_)
      · have u13 : w11.toInt ≤ 96 := t_ltu h12 (by decide : (97:Int32).toInt ≤ (97:Int)) rfl
        refine ev_loc f_X9_step (nx := 112) rfl rfl rfl rfl ?_
        refine ev_bp f_X9_step (nx := 114) (v := 48) rfl (by decide) rfl ?_
        refine ev_if f_X9_step (t1 := 130) (t2 := 117) rfl rfl rfl (fun h14 => ?_) (fun h14 => ?_)
        · have u15 : w11.toInt ≤ 47 := t_ltu h14 (by decide : (48:Int32).toInt ≤ (48:Int)) rfl
          refine ev_loc f_X9_step (nx := 131) rfl rfl rfl rfl ?_
          refine ev_loc f_X9_step (nx := 132) rfl rfl rfl rfl ?_
          refine ev_qI0 f_X9_step (nx := 135) (r := [.ref ar0]) rfl rfl rfl rfl rfl rfl rfl (c_s_isSign hI (w11)) rfl (fun w16 l16 u16 q16 => ?_)
          have q16 : w16.toInt = (if s_sg w11.toInt = true then 1 else 0) := q16
          refine ev_if f_X9_step (t1 := 142) (t2 := 138) rfl rfl rfl (fun h17 => ?_) (fun h17 => ?_)
          · have u18 : w16.toInt ≤ 0 := t_equ h17 (by decide : (0:Int32).toInt ≤ (0:Int))
            refine ev_ic f_X9_step (nx := 143) (v := 4) rfl (by decide) rfl ?_
            refine ev_putIT f_X9_step (nx := 146) rfl p_a0.1 rfl rfl rfl (hI.put0 p_a0.1 rfl rfl) (hX.upI (t_inO hI.wf p_a0.1 (t_outO hI.wf p_a0.1 rfl) rfl)) (fun g19 e19 hI hX => ?_)
            refine ev_loc f_X9_step (nx := 147) rfl rfl rfl rfl ?_
            refine ev_loc f_X9_step (nx := 148) rfl rfl rfl rfl ?_
            refine ev_putIT f_X9_step (nx := 151) rfl p_a0.1 rfl rfl rfl (hI.put0 p_a0.1 rfl rfl) (hX.upI (t_inO hI.wf p_a0.1 (t_outO hI.wf p_a0.1 rfl) rfl)) (fun g20 e20 hI hX => ?_)
            refine ev_loc f_X9_step (nx := 152) rfl rfl rfl rfl ?_
            refine ev_alu f_X9_step (nx := 153) rfl rfl rfl rfl ?_
            refine ev_gvI f_X9_step (nx := 156) (w := (gi1 ar0 2)) rfl p_a0.1 rfl rfl ((by rw [e20]; exact x_up2_off (Or.inr (by decide)) : g20 ar0 2 = g19 ar0 2).trans ((by rw [e19]; exact x_up2_off (Or.inr (by decide)) : g19 ar0 2 = g3 ar0 2).trans ((by rw [e3]; exact x_up2_off (Or.inr (by decide)) : g3 ar0 2 = gi1 ar0 2).trans rfl))) rfl ?_
            refine ev_ic f_X9_step (nx := 157) (v := 1) rfl (by decide) rfl ?_
            refine ev_addC f_X9_step (nx := 158) (c := 1) (l := 1) (u := 900) rfl (by decide) l2 u8 rfl rfl (by decide) (by decide) rfl (fun z21 e21 l21 u21 => ?_)
            refine ev_putIT f_X9_step (nx := 161) rfl p_a0.1 rfl rfl rfl (hI.putB p_a0.1 rfl rfl l21 (by decide) u21 (by decide)) (hX.upI (t_inO hI.wf p_a0.1 (t_outO hI.wf p_a0.1 rfl) rfl)) (fun g22 e22 hI hX => ?_)
            exact ev_ret f_X9_step rfl rfl rfl ⟨_, _, _, rfl, hI, hX, ⟨rfl, (show (∀ (b : Nat → Int32) (n q : Nat), t_Sp b n q gi ar0 → t_TC b n q g22 gl1 g4 ar0) ∧ t_nf gi g22 ar0 ∧ t_on ar0 gi gl gr g22 gl1 g4 from ⟨fun b n q h => (j1_0.1 b n q h).elim (fun i hi => t_TC_s hi.2.2 hi.2.1 (t_S_up hi.1 (t_noobj (hI.wf.s (k := 2) rfl) p_a0.1) (by decide) e3) (t_noobj (hI.wf.s (k := 2) rfl) p_a0.1) (by have h2 := hi.1.2.1; have h3 := hi.1.2.2.1; have h4 := (t_S_up hi.1 (t_noobj (hI.wf.s (k := 2) rfl) p_a0.1) (by decide) e3).2.1; have h5 := (t_S_up hi.1 (t_noobj (hI.wf.s (k := 2) rfl) p_a0.1) (by decide) e3).2.2.1; omega) (x := (gi1 ar0 2)) hi.1.2.2.1 e11 (by omega) (by omega) (by rw [e3, x_up2_at]; exact hi.1.2.2.1) (by rw [e4]; exact x_up2_at _ _ _ _) (by by_cases hs : s_sg w11.toInt = true; (rw [if_pos hs] at q16; omega); (rw [if_neg hs]; rfl)) (by have h3 := hi.1.2.2.1; omega) e19 e20 e22), ⟨(hX.1 ar0 10 (t_ninO hI.wf p_a0.1 (t_outO hI.wf p_a0.1 rfl) rfl)).1, (hX.1 ar0 11 (t_ninO hI.wf p_a0.1 (t_outO hI.wf p_a0.1 rfl) rfl)).1⟩, (t_on.I (t_on.I (t_on.I (t_on.R (t_on.I j1_0.2 e3) e4) e19) e20) e22)⟩)⟩⟩
          · have r23 : w16.toInt ≠ 0 := fun e => h17 (Int32.toInt_inj.mp (e.trans (by decide : (0:Int) = (0 : Int32).toInt)))
            have l24 : 1 ≤ w16.toInt := t_nel h17 l16 rfl rfl
            refine ev_ic f_X9_step (nx := 139) (v := 2) rfl (by decide) rfl ?_
            refine ev_jmp f_X9_step (nx := 143) rfl rfl rfl ?_
            refine ev_putIT f_X9_step (nx := 146) rfl p_a0.1 rfl rfl rfl (hI.put0 p_a0.1 rfl rfl) (hX.upI (t_inO hI.wf p_a0.1 (t_outO hI.wf p_a0.1 rfl) rfl)) (fun g25 e25 hI hX => ?_)
            refine ev_loc f_X9_step (nx := 147) rfl rfl rfl rfl ?_
            refine ev_loc f_X9_step (nx := 148) rfl rfl rfl rfl ?_
            refine ev_putIT f_X9_step (nx := 151) rfl p_a0.1 rfl rfl rfl (hI.put0 p_a0.1 rfl rfl) (hX.upI (t_inO hI.wf p_a0.1 (t_outO hI.wf p_a0.1 rfl) rfl)) (fun g26 e26 hI hX => ?_)
            refine ev_loc f_X9_step (nx := 152) rfl rfl rfl rfl ?_
            refine ev_alu f_X9_step (nx := 153) rfl rfl rfl rfl ?_
            refine ev_gvI f_X9_step (nx := 156) (w := (gi1 ar0 2)) rfl p_a0.1 rfl rfl ((by rw [e26]; exact x_up2_off (Or.inr (by decide)) : g26 ar0 2 = g25 ar0 2).trans ((by rw [e25]; exact x_up2_off (Or.inr (by decide)) : g25 ar0 2 = g3 ar0 2).trans ((by rw [e3]; exact x_up2_off (Or.inr (by decide)) : g3 ar0 2 = gi1 ar0 2).trans rfl))) rfl ?_
            refine ev_ic f_X9_step (nx := 157) (v := 1) rfl (by decide) rfl ?_
            refine ev_addC f_X9_step (nx := 158) (c := 1) (l := 1) (u := 900) rfl (by decide) l2 u8 rfl rfl (by decide) (by decide) rfl (fun z27 e27 l27 u27 => ?_)
            refine ev_putIT f_X9_step (nx := 161) rfl p_a0.1 rfl rfl rfl (hI.putB p_a0.1 rfl rfl l27 (by decide) u27 (by decide)) (hX.upI (t_inO hI.wf p_a0.1 (t_outO hI.wf p_a0.1 rfl) rfl)) (fun g28 e28 hI hX => ?_)
            exact ev_ret f_X9_step rfl rfl rfl ⟨_, _, _, rfl, hI, hX, ⟨rfl, (show (∀ (b : Nat → Int32) (n q : Nat), t_Sp b n q gi ar0 → t_TC b n q g28 gl1 g4 ar0) ∧ t_nf gi g28 ar0 ∧ t_on ar0 gi gl gr g28 gl1 g4 from ⟨fun b n q h => (j1_0.1 b n q h).elim (fun i hi => t_TC_s hi.2.2 hi.2.1 (t_S_up hi.1 (t_noobj (hI.wf.s (k := 2) rfl) p_a0.1) (by decide) e3) (t_noobj (hI.wf.s (k := 2) rfl) p_a0.1) (by have h2 := hi.1.2.1; have h3 := hi.1.2.2.1; have h4 := (t_S_up hi.1 (t_noobj (hI.wf.s (k := 2) rfl) p_a0.1) (by decide) e3).2.1; have h5 := (t_S_up hi.1 (t_noobj (hI.wf.s (k := 2) rfl) p_a0.1) (by decide) e3).2.2.1; omega) (x := (gi1 ar0 2)) hi.1.2.2.1 e11 (by omega) (by omega) (by rw [e3, x_up2_at]; exact hi.1.2.2.1) (by rw [e4]; exact x_up2_at _ _ _ _) (by by_cases hs : s_sg w11.toInt = true; (rw [if_pos hs]; rfl); (rw [if_neg hs] at q16; omega)) (by have h3 := hi.1.2.2.1; omega) e25 e26 e28), ⟨(hX.1 ar0 10 (t_ninO hI.wf p_a0.1 (t_outO hI.wf p_a0.1 rfl) rfl)).1, (hX.1 ar0 11 (t_ninO hI.wf p_a0.1 (t_outO hI.wf p_a0.1 rfl) rfl)).1⟩, (t_on.I (t_on.I (t_on.I (t_on.R (t_on.I j1_0.2 e3) e4) e25) e26) e28)⟩)⟩⟩
        · have l29 : 48 ≤ w11.toInt := t_lel (t_nlt h14) (by decide : (48:Int) ≤ (48:Int32).toInt)
          refine ev_loc f_X9_step (nx := 118) rfl rfl rfl rfl ?_
          refine ev_bp f_X9_step (nx := 120) (v := 57) rfl (by decide) rfl ?_
          refine ev_if f_X9_step (t1 := 130) (t2 := 123) rfl rfl rfl (fun h30 => ?_) (fun h30 => ?_)
          · have l31 : 58 ≤ w11.toInt := t_ltl h30 (by decide : (57:Int) ≤ (57:Int32).toInt) rfl
            refine ev_loc f_X9_step (nx := 131) rfl rfl rfl rfl ?_
            refine ev_loc f_X9_step (nx := 132) rfl rfl rfl rfl ?_
            refine ev_qI0 f_X9_step (nx := 135) (r := [.ref ar0]) rfl rfl rfl rfl rfl rfl rfl (c_s_isSign hI (w11)) rfl (fun w32 l32 u32 q32 => ?_)
            have q32 : w32.toInt = (if s_sg w11.toInt = true then 1 else 0) := q32
            refine ev_if f_X9_step (t1 := 142) (t2 := 138) rfl rfl rfl (fun h33 => ?_) (fun h33 => ?_)
            · have u34 : w32.toInt ≤ 0 := t_equ h33 (by decide : (0:Int32).toInt ≤ (0:Int))
              refine ev_ic f_X9_step (nx := 143) (v := 4) rfl (by decide) rfl ?_
              refine ev_putIT f_X9_step (nx := 146) rfl p_a0.1 rfl rfl rfl (hI.put0 p_a0.1 rfl rfl) (hX.upI (t_inO hI.wf p_a0.1 (t_outO hI.wf p_a0.1 rfl) rfl)) (fun g35 e35 hI hX => ?_)
              refine ev_loc f_X9_step (nx := 147) rfl rfl rfl rfl ?_
              refine ev_loc f_X9_step (nx := 148) rfl rfl rfl rfl ?_
              refine ev_putIT f_X9_step (nx := 151) rfl p_a0.1 rfl rfl rfl (hI.put0 p_a0.1 rfl rfl) (hX.upI (t_inO hI.wf p_a0.1 (t_outO hI.wf p_a0.1 rfl) rfl)) (fun g36 e36 hI hX => ?_)
              refine ev_loc f_X9_step (nx := 152) rfl rfl rfl rfl ?_
              refine ev_alu f_X9_step (nx := 153) rfl rfl rfl rfl ?_
              refine ev_gvI f_X9_step (nx := 156) (w := (gi1 ar0 2)) rfl p_a0.1 rfl rfl ((by rw [e36]; exact x_up2_off (Or.inr (by decide)) : g36 ar0 2 = g35 ar0 2).trans ((by rw [e35]; exact x_up2_off (Or.inr (by decide)) : g35 ar0 2 = g3 ar0 2).trans ((by rw [e3]; exact x_up2_off (Or.inr (by decide)) : g3 ar0 2 = gi1 ar0 2).trans rfl))) rfl ?_
              refine ev_ic f_X9_step (nx := 157) (v := 1) rfl (by decide) rfl ?_
              refine ev_addC f_X9_step (nx := 158) (c := 1) (l := 1) (u := 900) rfl (by decide) l2 u8 rfl rfl (by decide) (by decide) rfl (fun z37 e37 l37 u37 => ?_)
              refine ev_putIT f_X9_step (nx := 161) rfl p_a0.1 rfl rfl rfl (hI.putB p_a0.1 rfl rfl l37 (by decide) u37 (by decide)) (hX.upI (t_inO hI.wf p_a0.1 (t_outO hI.wf p_a0.1 rfl) rfl)) (fun g38 e38 hI hX => ?_)
              exact ev_ret f_X9_step rfl rfl rfl ⟨_, _, _, rfl, hI, hX, ⟨rfl, (show (∀ (b : Nat → Int32) (n q : Nat), t_Sp b n q gi ar0 → t_TC b n q g38 gl1 g4 ar0) ∧ t_nf gi g38 ar0 ∧ t_on ar0 gi gl gr g38 gl1 g4 from ⟨fun b n q h => (j1_0.1 b n q h).elim (fun i hi => t_TC_s hi.2.2 hi.2.1 (t_S_up hi.1 (t_noobj (hI.wf.s (k := 2) rfl) p_a0.1) (by decide) e3) (t_noobj (hI.wf.s (k := 2) rfl) p_a0.1) (by have h2 := hi.1.2.1; have h3 := hi.1.2.2.1; have h4 := (t_S_up hi.1 (t_noobj (hI.wf.s (k := 2) rfl) p_a0.1) (by decide) e3).2.1; have h5 := (t_S_up hi.1 (t_noobj (hI.wf.s (k := 2) rfl) p_a0.1) (by decide) e3).2.2.1; omega) (x := (gi1 ar0 2)) hi.1.2.2.1 e11 (by omega) (by omega) (by rw [e3, x_up2_at]; exact hi.1.2.2.1) (by rw [e4]; exact x_up2_at _ _ _ _) (by by_cases hs : s_sg w11.toInt = true; (rw [if_pos hs] at q32; omega); (rw [if_neg hs]; rfl)) (by have h3 := hi.1.2.2.1; omega) e35 e36 e38), ⟨(hX.1 ar0 10 (t_ninO hI.wf p_a0.1 (t_outO hI.wf p_a0.1 rfl) rfl)).1, (hX.1 ar0 11 (t_ninO hI.wf p_a0.1 (t_outO hI.wf p_a0.1 rfl) rfl)).1⟩, (t_on.I (t_on.I (t_on.I (t_on.R (t_on.I j1_0.2 e3) e4) e35) e36) e38)⟩)⟩⟩
            · have r39 : w32.toInt ≠ 0 := fun e => h33 (Int32.toInt_inj.mp (e.trans (by decide : (0:Int) = (0 : Int32).toInt)))
              have l40 : 1 ≤ w32.toInt := t_nel h33 l32 rfl rfl
              refine ev_ic f_X9_step (nx := 139) (v := 2) rfl (by decide) rfl ?_
              refine ev_jmp f_X9_step (nx := 143) rfl rfl rfl ?_
              refine ev_putIT f_X9_step (nx := 146) rfl p_a0.1 rfl rfl rfl (hI.put0 p_a0.1 rfl rfl) (hX.upI (t_inO hI.wf p_a0.1 (t_outO hI.wf p_a0.1 rfl) rfl)) (fun g41 e41 hI hX => ?_)
              refine ev_loc f_X9_step (nx := 147) rfl rfl rfl rfl ?_
              refine ev_loc f_X9_step (nx := 148) rfl rfl rfl rfl ?_
              refine ev_putIT f_X9_step (nx := 151) rfl p_a0.1 rfl rfl rfl (hI.put0 p_a0.1 rfl rfl) (hX.upI (t_inO hI.wf p_a0.1 (t_outO hI.wf p_a0.1 rfl) rfl)) (fun g42 e42 hI hX => ?_)
              refine ev_loc f_X9_step (nx := 152) rfl rfl rfl rfl ?_
              refine ev_alu f_X9_step (nx := 153) rfl rfl rfl rfl ?_
              refine ev_gvI f_X9_step (nx := 156) (w := (gi1 ar0 2)) rfl p_a0.1 rfl rfl ((by rw [e42]; exact x_up2_off (Or.inr (by decide)) : g42 ar0 2 = g41 ar0 2).trans ((by rw [e41]; exact x_up2_off (Or.inr (by decide)) : g41 ar0 2 = g3 ar0 2).trans ((by rw [e3]; exact x_up2_off (Or.inr (by decide)) : g3 ar0 2 = gi1 ar0 2).trans rfl))) rfl ?_
              refine ev_ic f_X9_step (nx := 157) (v := 1) rfl (by decide) rfl ?_
              refine ev_addC f_X9_step (nx := 158) (c := 1) (l := 1) (u := 900) rfl (by decide) l2 u8 rfl rfl (by decide) (by decide) rfl (fun z43 e43 l43 u43 => ?_)
              refine ev_putIT f_X9_step (nx := 161) rfl p_a0.1 rfl rfl rfl (hI.putB p_a0.1 rfl rfl l43 (by decide) u43 (by decide)) (hX.upI (t_inO hI.wf p_a0.1 (t_outO hI.wf p_a0.1 rfl) rfl)) (fun g44 e44 hI hX => ?_)
              exact ev_ret f_X9_step rfl rfl rfl ⟨_, _, _, rfl, hI, hX, ⟨rfl, (show (∀ (b : Nat → Int32) (n q : Nat), t_Sp b n q gi ar0 → t_TC b n q g44 gl1 g4 ar0) ∧ t_nf gi g44 ar0 ∧ t_on ar0 gi gl gr g44 gl1 g4 from ⟨fun b n q h => (j1_0.1 b n q h).elim (fun i hi => t_TC_s hi.2.2 hi.2.1 (t_S_up hi.1 (t_noobj (hI.wf.s (k := 2) rfl) p_a0.1) (by decide) e3) (t_noobj (hI.wf.s (k := 2) rfl) p_a0.1) (by have h2 := hi.1.2.1; have h3 := hi.1.2.2.1; have h4 := (t_S_up hi.1 (t_noobj (hI.wf.s (k := 2) rfl) p_a0.1) (by decide) e3).2.1; have h5 := (t_S_up hi.1 (t_noobj (hI.wf.s (k := 2) rfl) p_a0.1) (by decide) e3).2.2.1; omega) (x := (gi1 ar0 2)) hi.1.2.2.1 e11 (by omega) (by omega) (by rw [e3, x_up2_at]; exact hi.1.2.2.1) (by rw [e4]; exact x_up2_at _ _ _ _) (by by_cases hs : s_sg w11.toInt = true; (rw [if_pos hs]; rfl); (rw [if_neg hs] at q32; omega)) (by have h3 := hi.1.2.2.1; omega) e41 e42 e44), ⟨(hX.1 ar0 10 (t_ninO hI.wf p_a0.1 (t_outO hI.wf p_a0.1 rfl) rfl)).1, (hX.1 ar0 11 (t_ninO hI.wf p_a0.1 (t_outO hI.wf p_a0.1 rfl) rfl)).1⟩, (t_on.I (t_on.I (t_on.I (t_on.R (t_on.I j1_0.2 e3) e4) e41) e42) e44)⟩)⟩⟩
          · have u45 : w11.toInt ≤ 57 := t_leu (t_nlt h30) (by decide : (57:Int32).toInt ≤ (57:Int))
            refine ev_loc f_X9_step (nx := 124) rfl rfl rfl rfl ?_
            refine ev_qN f_X9_step (nx := 127) (r := []) rfl rfl rfl rfl rfl rfl rfl (c_s_stepNumber hI (ar0) p_a0) rfl hX rfl (fun gi46 gl46 gr46 hI hX hC46 q46 => ?_)
            have q46 : (∀ (b : Nat → Int32) (n q : Nat), t_S0 b n q g3 g4 ar0 → t_SM b n q gi46 gr46 ar0) ∧ t_on ar0 g3 gl1 g4 gi46 gl46 gr46 := q46
            replace p_a0 := p_a0.ext hC46.2
            refine ev_jmp f_X9_step (nx := 161) rfl rfl rfl ?_
            exact ev_ret f_X9_step rfl rfl rfl ⟨_, _, _, rfl, hI, hX, ⟨rfl, (show (∀ (b : Nat → Int32) (n q : Nat), t_Sp b n q gi ar0 → t_TC b n q gi46 gl46 gr46 ar0) ∧ t_nf gi gi46 ar0 ∧ t_on ar0 gi gl gr gi46 gl46 gr46 from ⟨fun b n q h => (j1_0.1 b n q h).elim (fun i hi => t_TC_n hi.2.2 hi.2.1 (by have h2 := hi.1.2.1; have h3 := hi.1.2.2.1; have h4 := (t_S_up hi.1 (t_noobj (hI.wf.s (k := 2) rfl) p_a0.1) (by decide) e3).2.1; have h5 := (t_S_up hi.1 (t_noobj (hI.wf.s (k := 2) rfl) p_a0.1) (by decide) e3).2.2.1; omega) (by rw [(t_S_w (t_S_up hi.1 (t_noobj (hI.wf.s (k := 2) rfl) p_a0.1) (by decide) e3) (x := (gi1 ar0 2)) hi.1.2.2.1 e11)]; omega) (by rw [(t_S_w (t_S_up hi.1 (t_noobj (hI.wf.s (k := 2) rfl) p_a0.1) (by decide) e3) (x := (gi1 ar0 2)) hi.1.2.2.1 e11)]; omega) (q46.1 b n i ⟨(t_S_up hi.1 (t_noobj (hI.wf.s (k := 2) rfl) p_a0.1) (by decide) e3), (by rw [e3, x_up2_at]; exact hi.1.2.2.1), (by rw [e4]; exact x_up2_at _ _ _ _)⟩)), ⟨(hX.1 ar0 10 (t_ninO hI.wf p_a0.1 (t_outO hI.wf p_a0.1 rfl) rfl)).1, (hX.1 ar0 11 (t_ninO hI.wf p_a0.1 (t_outO hI.wf p_a0.1 rfl) rfl)).1⟩, (t_on.tr (t_on.R (t_on.I j1_0.2 e3) e4) q46.2)⟩)⟩⟩
      · have l47 : 97 ≤ w11.toInt := t_lel (t_nlt h12) (by decide : (97:Int) ≤ (97:Int32).toInt)
        refine ev_loc f_X9_step (nx := 99) rfl rfl rfl rfl ?_
        refine ev_bp f_X9_step (nx := 101) (v := 122) rfl (by decide) rfl ?_
        refine ev_if f_X9_step (t1 := 111) (t2 := 104) rfl rfl rfl (fun h48 => ?_) (fun h48 => ?_)
        · have l49 : 123 ≤ w11.toInt := t_ltl h48 (by decide : (122:Int) ≤ (122:Int32).toInt) rfl
          refine ev_loc f_X9_step (nx := 112) rfl rfl rfl rfl ?_
          refine ev_bp f_X9_step (nx := 114) (v := 48) rfl (by decide) rfl ?_
          refine ev_f f_X9_step (t1 := 130) (t2 := 117) rfl rfl rfl (t_ltF (by decide : (48:Int32).toInt ≤ (48:Int)) l49 (by decide)) ?_
          refine ev_loc f_X9_step (nx := 118) rfl rfl rfl rfl ?_
          refine ev_bp f_X9_step (nx := 120) (v := 57) rfl (by decide) rfl ?_
          refine ev_t f_X9_step (t1 := 130) (t2 := 123) rfl rfl rfl (t_ltT (by decide : (57:Int32).toInt ≤ (57:Int)) l49 (by decide)) ?_
          refine ev_loc f_X9_step (nx := 131) rfl rfl rfl rfl ?_
          refine ev_loc f_X9_step (nx := 132) rfl rfl rfl rfl ?_
          refine ev_qI0 f_X9_step (nx := 135) (r := [.ref ar0]) rfl rfl rfl rfl rfl rfl rfl (c_s_isSign hI (w11)) rfl (fun w50 l50 u50 q50 => ?_)
          have q50 : w50.toInt = (if s_sg w11.toInt = true then 1 else 0) := q50
          refine ev_if f_X9_step (t1 := 142) (t2 := 138) rfl rfl rfl (fun h51 => ?_) (fun h51 => ?_)
          · have u52 : w50.toInt ≤ 0 := t_equ h51 (by decide : (0:Int32).toInt ≤ (0:Int))
            refine ev_ic f_X9_step (nx := 143) (v := 4) rfl (by decide) rfl ?_
            refine ev_putIT f_X9_step (nx := 146) rfl p_a0.1 rfl rfl rfl (hI.put0 p_a0.1 rfl rfl) (hX.upI (t_inO hI.wf p_a0.1 (t_outO hI.wf p_a0.1 rfl) rfl)) (fun g53 e53 hI hX => ?_)
            refine ev_loc f_X9_step (nx := 147) rfl rfl rfl rfl ?_
            refine ev_loc f_X9_step (nx := 148) rfl rfl rfl rfl ?_
            refine ev_putIT f_X9_step (nx := 151) rfl p_a0.1 rfl rfl rfl (hI.put0 p_a0.1 rfl rfl) (hX.upI (t_inO hI.wf p_a0.1 (t_outO hI.wf p_a0.1 rfl) rfl)) (fun g54 e54 hI hX => ?_)
            refine ev_loc f_X9_step (nx := 152) rfl rfl rfl rfl ?_
            refine ev_alu f_X9_step (nx := 153) rfl rfl rfl rfl ?_
            refine ev_gvI f_X9_step (nx := 156) (w := (gi1 ar0 2)) rfl p_a0.1 rfl rfl ((by rw [e54]; exact x_up2_off (Or.inr (by decide)) : g54 ar0 2 = g53 ar0 2).trans ((by rw [e53]; exact x_up2_off (Or.inr (by decide)) : g53 ar0 2 = g3 ar0 2).trans ((by rw [e3]; exact x_up2_off (Or.inr (by decide)) : g3 ar0 2 = gi1 ar0 2).trans rfl))) rfl ?_
            refine ev_ic f_X9_step (nx := 157) (v := 1) rfl (by decide) rfl ?_
            refine ev_addC f_X9_step (nx := 158) (c := 1) (l := 1) (u := 900) rfl (by decide) l2 u8 rfl rfl (by decide) (by decide) rfl (fun z55 e55 l55 u55 => ?_)
            refine ev_putIT f_X9_step (nx := 161) rfl p_a0.1 rfl rfl rfl (hI.putB p_a0.1 rfl rfl l55 (by decide) u55 (by decide)) (hX.upI (t_inO hI.wf p_a0.1 (t_outO hI.wf p_a0.1 rfl) rfl)) (fun g56 e56 hI hX => ?_)
            exact ev_ret f_X9_step rfl rfl rfl ⟨_, _, _, rfl, hI, hX, ⟨rfl, (show (∀ (b : Nat → Int32) (n q : Nat), t_Sp b n q gi ar0 → t_TC b n q g56 gl1 g4 ar0) ∧ t_nf gi g56 ar0 ∧ t_on ar0 gi gl gr g56 gl1 g4 from ⟨fun b n q h => (j1_0.1 b n q h).elim (fun i hi => t_TC_s hi.2.2 hi.2.1 (t_S_up hi.1 (t_noobj (hI.wf.s (k := 2) rfl) p_a0.1) (by decide) e3) (t_noobj (hI.wf.s (k := 2) rfl) p_a0.1) (by have h2 := hi.1.2.1; have h3 := hi.1.2.2.1; have h4 := (t_S_up hi.1 (t_noobj (hI.wf.s (k := 2) rfl) p_a0.1) (by decide) e3).2.1; have h5 := (t_S_up hi.1 (t_noobj (hI.wf.s (k := 2) rfl) p_a0.1) (by decide) e3).2.2.1; omega) (x := (gi1 ar0 2)) hi.1.2.2.1 e11 (by omega) (by omega) (by rw [e3, x_up2_at]; exact hi.1.2.2.1) (by rw [e4]; exact x_up2_at _ _ _ _) (by by_cases hs : s_sg w11.toInt = true; (rw [if_pos hs] at q50; omega); (rw [if_neg hs]; rfl)) (by have h3 := hi.1.2.2.1; omega) e53 e54 e56), ⟨(hX.1 ar0 10 (t_ninO hI.wf p_a0.1 (t_outO hI.wf p_a0.1 rfl) rfl)).1, (hX.1 ar0 11 (t_ninO hI.wf p_a0.1 (t_outO hI.wf p_a0.1 rfl) rfl)).1⟩, (t_on.I (t_on.I (t_on.I (t_on.R (t_on.I j1_0.2 e3) e4) e53) e54) e56)⟩)⟩⟩
          · have r57 : w50.toInt ≠ 0 := fun e => h51 (Int32.toInt_inj.mp (e.trans (by decide : (0:Int) = (0 : Int32).toInt)))
            have l58 : 1 ≤ w50.toInt := t_nel h51 l50 rfl rfl
            refine ev_ic f_X9_step (nx := 139) (v := 2) rfl (by decide) rfl ?_
            refine ev_jmp f_X9_step (nx := 143) rfl rfl rfl ?_
            refine ev_putIT f_X9_step (nx := 146) rfl p_a0.1 rfl rfl rfl (hI.put0 p_a0.1 rfl rfl) (hX.upI (t_inO hI.wf p_a0.1 (t_outO hI.wf p_a0.1 rfl) rfl)) (fun g59 e59 hI hX => ?_)
            refine ev_loc f_X9_step (nx := 147) rfl rfl rfl rfl ?_
            refine ev_loc f_X9_step (nx := 148) rfl rfl rfl rfl ?_
            refine ev_putIT f_X9_step (nx := 151) rfl p_a0.1 rfl rfl rfl (hI.put0 p_a0.1 rfl rfl) (hX.upI (t_inO hI.wf p_a0.1 (t_outO hI.wf p_a0.1 rfl) rfl)) (fun g60 e60 hI hX => ?_)
            refine ev_loc f_X9_step (nx := 152) rfl rfl rfl rfl ?_
            refine ev_alu f_X9_step (nx := 153) rfl rfl rfl rfl ?_
            refine ev_gvI f_X9_step (nx := 156) (w := (gi1 ar0 2)) rfl p_a0.1 rfl rfl ((by rw [e60]; exact x_up2_off (Or.inr (by decide)) : g60 ar0 2 = g59 ar0 2).trans ((by rw [e59]; exact x_up2_off (Or.inr (by decide)) : g59 ar0 2 = g3 ar0 2).trans ((by rw [e3]; exact x_up2_off (Or.inr (by decide)) : g3 ar0 2 = gi1 ar0 2).trans rfl))) rfl ?_
            refine ev_ic f_X9_step (nx := 157) (v := 1) rfl (by decide) rfl ?_
            refine ev_addC f_X9_step (nx := 158) (c := 1) (l := 1) (u := 900) rfl (by decide) l2 u8 rfl rfl (by decide) (by decide) rfl (fun z61 e61 l61 u61 => ?_)
            refine ev_putIT f_X9_step (nx := 161) rfl p_a0.1 rfl rfl rfl (hI.putB p_a0.1 rfl rfl l61 (by decide) u61 (by decide)) (hX.upI (t_inO hI.wf p_a0.1 (t_outO hI.wf p_a0.1 rfl) rfl)) (fun g62 e62 hI hX => ?_)
            exact ev_ret f_X9_step rfl rfl rfl ⟨_, _, _, rfl, hI, hX, ⟨rfl, (show (∀ (b : Nat → Int32) (n q : Nat), t_Sp b n q gi ar0 → t_TC b n q g62 gl1 g4 ar0) ∧ t_nf gi g62 ar0 ∧ t_on ar0 gi gl gr g62 gl1 g4 from ⟨fun b n q h => (j1_0.1 b n q h).elim (fun i hi => t_TC_s hi.2.2 hi.2.1 (t_S_up hi.1 (t_noobj (hI.wf.s (k := 2) rfl) p_a0.1) (by decide) e3) (t_noobj (hI.wf.s (k := 2) rfl) p_a0.1) (by have h2 := hi.1.2.1; have h3 := hi.1.2.2.1; have h4 := (t_S_up hi.1 (t_noobj (hI.wf.s (k := 2) rfl) p_a0.1) (by decide) e3).2.1; have h5 := (t_S_up hi.1 (t_noobj (hI.wf.s (k := 2) rfl) p_a0.1) (by decide) e3).2.2.1; omega) (x := (gi1 ar0 2)) hi.1.2.2.1 e11 (by omega) (by omega) (by rw [e3, x_up2_at]; exact hi.1.2.2.1) (by rw [e4]; exact x_up2_at _ _ _ _) (by by_cases hs : s_sg w11.toInt = true; (rw [if_pos hs]; rfl); (rw [if_neg hs] at q50; omega)) (by have h3 := hi.1.2.2.1; omega) e59 e60 e62), ⟨(hX.1 ar0 10 (t_ninO hI.wf p_a0.1 (t_outO hI.wf p_a0.1 rfl) rfl)).1, (hX.1 ar0 11 (t_ninO hI.wf p_a0.1 (t_outO hI.wf p_a0.1 rfl) rfl)).1⟩, (t_on.I (t_on.I (t_on.I (t_on.R (t_on.I j1_0.2 e3) e4) e59) e60) e62)⟩)⟩⟩
        · have u63 : w11.toInt ≤ 122 := t_leu (t_nlt h48) (by decide : (122:Int32).toInt ≤ (122:Int))
          refine ev_loc f_X9_step (nx := 105) rfl rfl rfl rfl ?_
          refine ev_qN f_X9_step (nx := 108) (r := []) rfl rfl rfl rfl rfl rfl rfl (c_s_stepWord hI (ar0) p_a0) rfl hX rfl (fun gi64 gl64 gr64 hI hX hC64 q64 => ?_)
          have q64 : (∀ (b : Nat → Int32) (n q : Nat), t_S0 b n q g3 g4 ar0 → t_SX b n q 27 gi64 gl64 gr64 ar0) ∧ t_on ar0 g3 gl1 g4 gi64 gl64 gr64 := q64
          replace p_a0 := p_a0.ext hC64.2
          refine ev_jmp f_X9_step (nx := 161) rfl rfl rfl ?_
          exact ev_ret f_X9_step rfl rfl rfl ⟨_, _, _, rfl, hI, hX, ⟨rfl, (show (∀ (b : Nat → Int32) (n q : Nat), t_Sp b n q gi ar0 → t_TC b n q gi64 gl64 gr64 ar0) ∧ t_nf gi gi64 ar0 ∧ t_on ar0 gi gl gr gi64 gl64 gr64 from ⟨fun b n q h => (j1_0.1 b n q h).elim (fun i hi => t_TC_w hi.2.2 hi.2.1 (by have h2 := hi.1.2.1; have h3 := hi.1.2.2.1; have h4 := (t_S_up hi.1 (t_noobj (hI.wf.s (k := 2) rfl) p_a0.1) (by decide) e3).2.1; have h5 := (t_S_up hi.1 (t_noobj (hI.wf.s (k := 2) rfl) p_a0.1) (by decide) e3).2.2.1; omega) (by rw [(t_S_w (t_S_up hi.1 (t_noobj (hI.wf.s (k := 2) rfl) p_a0.1) (by decide) e3) (x := (gi1 ar0 2)) hi.1.2.2.1 e11)]; omega) (by rw [(t_S_w (t_S_up hi.1 (t_noobj (hI.wf.s (k := 2) rfl) p_a0.1) (by decide) e3) (x := (gi1 ar0 2)) hi.1.2.2.1 e11)]; omega) (q64.1 b n i ⟨(t_S_up hi.1 (t_noobj (hI.wf.s (k := 2) rfl) p_a0.1) (by decide) e3), (by rw [e3, x_up2_at]; exact hi.1.2.2.1), (by rw [e4]; exact x_up2_at _ _ _ _)⟩)), ⟨(hX.1 ar0 10 (t_ninO hI.wf p_a0.1 (t_outO hI.wf p_a0.1 rfl) rfl)).1, (hX.1 ar0 11 (t_ninO hI.wf p_a0.1 (t_outO hI.wf p_a0.1 rfl) rfl)).1⟩, (t_on.tr (t_on.R (t_on.I j1_0.2 e3) e4) q64.2)⟩)⟩⟩
    · have r65 : (g3 ar0 1).toInt ≤ (gi1 ar0 2).toInt := Int32.le_iff_toInt_le.mp (t_nlt h6)
      refine ev_loc f_X9_step (nx := 77) rfl rfl rfl rfl ?_
      refine ev_ic f_X9_step (nx := 78) (v := 3) rfl (by decide) rfl ?_
      refine ev_putIT f_X9_step (nx := 81) rfl p_a0.1 rfl rfl rfl (hI.put0 p_a0.1 rfl rfl) (hX.upI (t_inO hI.wf p_a0.1 (t_outO hI.wf p_a0.1 rfl) rfl)) (fun g66 e66 hI hX => ?_)
      exact ev_ret f_X9_step rfl rfl rfl ⟨_, _, _, rfl, hI, hX, ⟨rfl, (show (∀ (b : Nat → Int32) (n q : Nat), t_Sp b n q gi ar0 → t_TC b n q g66 gl1 g4 ar0) ∧ t_nf gi g66 ar0 ∧ t_on ar0 gi gl gr g66 gl1 g4 from ⟨fun b n q h => (j1_0.1 b n q h).elim (fun i hi => t_TC_end hi.2.2 hi.2.1 (t_S_up (t_S_up hi.1 (t_noobj (hI.wf.s (k := 2) rfl) p_a0.1) (by decide) e3) (t_noobj (hI.wf.s (k := 2) rfl) p_a0.1) (by decide) e66) (by have h2 := hi.1.2.1; have h3 := hi.1.2.2.1; have h4 := (t_S_up hi.1 (t_noobj (hI.wf.s (k := 2) rfl) p_a0.1) (by decide) e3).2.1; have h5 := (t_S_up hi.1 (t_noobj (hI.wf.s (k := 2) rfl) p_a0.1) (by decide) e3).2.2.1; omega) (by rw [e66, x_up2_off (Or.inr (by decide))]; exact (by rw [e3, x_up2_at]; exact hi.1.2.2.1)) (by rw [e4]; exact x_up2_at _ _ _ _) (by rw [e66, x_up2_at]; rfl)), ⟨(hX.1 ar0 10 (t_ninO hI.wf p_a0.1 (t_outO hI.wf p_a0.1 rfl) rfl)).1, (hX.1 ar0 11 (t_ninO hI.wf p_a0.1 (t_outO hI.wf p_a0.1 rfl) rfl)).1⟩, (t_on.I (t_on.R (t_on.I j1_0.2 e3) e4) e66)⟩)⟩⟩
  have L67 : ∀ (m67 : Nat) (gi67 : Nat → Nat → Int32) (gl67 : Nat → Nat → Int64) (gr67 : Nat → Nat → Value), t_I sh gi67 gr67 → t_X wl_s_step sh gi gl gr gi67 gl67 gr67 → t_Tk sh gr67 ar0 → (∀ (b : Nat → Int32) (n q : Nat), t_Sp b n q gi ar0 → ∃ i : Nat, t_Sp b n i gi67 ar0 ∧ q ≤ n ∧ s_F b n i = s_F b n q) ∧ t_on ar0 gi gl gr gi67 gl67 gr67 → (900 - (gi67 ar0 2).toInt).toNat = m67 → x_Ev X (d + 2) n_X9_step 0 [(0, .ref ar0)] [] (sh, gi67, gl67, gr67) (t_PN wl_s_step sh gi gl gr (Q_s_step gi gl gr ar0)) := by
    intro m67
    induction m67 using Nat.strongRecOn with
    | _ m67 ih67 =>
    intro gi67 gl67 gr67 hI hX p_a0 j67_0 hm67
    refine ev_loc f_X9_step (nx := 1) rfl rfl rfl rfl ?_
    refine ev_getI f_X9_step (nx := 4) rfl p_a0.1 rfl rfl rfl ?_
    obtain ⟨l68, u68⟩ := hI.b p_a0.1 (t_bdK rfl : t_bd 8 2 = some (0, 900))
    refine ev_loc f_X9_step (nx := 5) rfl rfl rfl rfl ?_
    refine ev_getI f_X9_step (nx := 8) rfl p_a0.1 rfl rfl rfl ?_
    obtain ⟨l69, u69⟩ := hI.b p_a0.1 (t_bdK rfl : t_bd 8 1 = some (0, 900))
    refine ev_if f_X9_step (t1 := 52) (t2 := 11) rfl rfl rfl (fun h70 => ?_) (fun h70 => ?_)
    · have r71 : (gi67 ar0 1).toInt ≤ (gi67 ar0 2).toInt := Int32.le_iff_toInt_le.mp h70
      refine ev_sub (lo := [(0, .ref ar0)]) rfl (t_sc rfl t_sn) ?_
      exact L1 gi67 gl67 gr67  hI hX p_a0 ⟨fun b n q h => (j67_0.1 b n q h).elim (fun i hi => ⟨i, hi.1, hi.2.1, hi.2.2.symm.trans (s_blk hi.1 (Or.inl (by omega)))⟩), j67_0.2⟩
    · have r72 : (gi67 ar0 2).toInt < (gi67 ar0 1).toInt := Int32.lt_iff_toInt_lt.mp (t_nle h70)
      have u73 : (gi67 ar0 2).toInt ≤ 899 := t_ltu (t_nle h70) u69 rfl
      have l74 : 1 ≤ (gi67 ar0 1).toInt := t_ltl (t_nle h70) l68 rfl
      refine ev_loc f_X9_step (nx := 12) rfl rfl rfl rfl ?_
      have e75 := p_a0.2
      refine ev_getR f_X9_step (nx := 15) rfl p_a0.1 rfl rfl e75 rfl rfl ?_
      refine ev_loc f_X9_step (nx := 16) rfl rfl rfl rfl ?_
      refine ev_gvI f_X9_step (nx := 19) (w := (gi67 ar0 2)) rfl p_a0.1 rfl rfl rfl rfl ?_
      refine ev_baldT f_X9_step (nx := 20) rfl (hI.wf.s rfl) rfl l68 (by decide) u73 (by decide) rfl (fun w76 e76 => ?_)
      refine ev_bp f_X9_step (nx := 22) (v := 32) rfl (by decide) rfl ?_
      refine ev_if f_X9_step (t1 := 39) (t2 := 25) rfl rfl rfl (fun h77 => ?_) (fun h77 => ?_)
      · have u78 : w76.toInt ≤ 32 := t_equ h77 (by decide : (32:Int32).toInt ≤ (32:Int))
        have l79 : 32 ≤ w76.toInt := t_eql h77 (by decide : (32:Int) ≤ (32:Int32).toInt)
        refine ev_loc f_X9_step (nx := 40) rfl rfl rfl rfl ?_
        refine ev_alu f_X9_step (nx := 41) rfl rfl rfl rfl ?_
        refine ev_gvI f_X9_step (nx := 44) (w := (gi67 ar0 2)) rfl p_a0.1 rfl rfl rfl rfl ?_
        refine ev_ic f_X9_step (nx := 45) (v := 1) rfl (by decide) rfl ?_
        refine ev_addC f_X9_step (nx := 46) (c := 1) (l := 1) (u := 900) rfl (by decide) l68 u73 rfl rfl (by decide) (by decide) rfl (fun z80 e80 l80 u80 => ?_)
        refine ev_putIT f_X9_step (nx := 49) rfl p_a0.1 rfl rfl rfl (hI.putB p_a0.1 rfl rfl l80 (by decide) u80 (by decide)) (hX.upI (t_inO hI.wf p_a0.1 (t_outO hI.wf p_a0.1 rfl) rfl)) (fun g81 e81 hI hX => ?_)
        refine ev_jmp f_X9_step (nx := 0) rfl rfl rfl ?_
        refine ev_sub (lo := [(0, .ref ar0)]) rfl (t_sc rfl t_sn) ?_
        have hq67 := ((by rw [e81]; exact x_up2_at _ _ _ _ : g81 ar0 2 = z80) : g81 ar0 2 = z80)
        exact ih67 _ (by rw [hq67]; omega) g81 gl67 gr67  hI hX p_a0 ⟨fun b n q h => (j67_0.1 b n q h).elim (fun i hi => ⟨i + 1, t_S_nx hi.1 (t_noobj (hI.wf.s (k := 2) rfl) p_a0.1) (by have h3 := hi.1.2.2.1; omega) (by have h2 := hi.1.2.1; have h3 := hi.1.2.2.1; omega) e81, hi.2.1, (s_blk1 hi.1 (by omega) e76 (by omega)).trans hi.2.2⟩), (t_on.I j67_0.2 e81)⟩ rfl
      · have r82 : w76.toInt ≠ 32 := fun e => h77 (Int32.toInt_inj.mp (e.trans (by decide : (32:Int) = (32 : Int32).toInt)))
        refine ev_loc f_X9_step (nx := 26) rfl rfl rfl rfl ?_
        refine ev_getR f_X9_step (nx := 29) (v := .ref 2) rfl p_a0.1 rfl rfl e75 rfl rfl ?_
        refine ev_loc f_X9_step (nx := 30) rfl rfl rfl rfl ?_
        refine ev_gvI f_X9_step (nx := 33) (w := (gi67 ar0 2)) rfl p_a0.1 rfl rfl rfl rfl ?_
        refine ev_baldT f_X9_step (nx := 34) rfl (hI.wf.s rfl) rfl l68 (by decide) u73 (by decide) rfl (fun w83 e83 => ?_)
        rw [e83.trans e76.symm]
        refine ev_bp f_X9_step (nx := 36) (v := 10) rfl (by decide) rfl ?_
        refine ev_if f_X9_step (t1 := 39) (t2 := 52) rfl rfl rfl (fun h84 => ?_) (fun h84 => ?_)
        · have u85 : w76.toInt ≤ 10 := t_equ h84 (by decide : (10:Int32).toInt ≤ (10:Int))
          have l86 : 10 ≤ w76.toInt := t_eql h84 (by decide : (10:Int) ≤ (10:Int32).toInt)
          refine ev_loc f_X9_step (nx := 40) rfl rfl rfl rfl ?_
          refine ev_alu f_X9_step (nx := 41) rfl rfl rfl rfl ?_
          refine ev_gvI f_X9_step (nx := 44) (w := (gi67 ar0 2)) rfl p_a0.1 rfl rfl rfl rfl ?_
          refine ev_ic f_X9_step (nx := 45) (v := 1) rfl (by decide) rfl ?_
          refine ev_addC f_X9_step (nx := 46) (c := 1) (l := 1) (u := 900) rfl (by decide) l68 u73 rfl rfl (by decide) (by decide) rfl (fun z87 e87 l87 u87 => ?_)
          refine ev_putIT f_X9_step (nx := 49) rfl p_a0.1 rfl rfl rfl (hI.putB p_a0.1 rfl rfl l87 (by decide) u87 (by decide)) (hX.upI (t_inO hI.wf p_a0.1 (t_outO hI.wf p_a0.1 rfl) rfl)) (fun g88 e88 hI hX => ?_)
          refine ev_jmp f_X9_step (nx := 0) rfl rfl rfl ?_
          refine ev_sub (lo := [(0, .ref ar0)]) rfl (t_sc rfl t_sn) ?_
          have hq67 := ((by rw [e88]; exact x_up2_at _ _ _ _ : g88 ar0 2 = z87) : g88 ar0 2 = z87)
          exact ih67 _ (by rw [hq67]; omega) g88 gl67 gr67  hI hX p_a0 ⟨fun b n q h => (j67_0.1 b n q h).elim (fun i hi => ⟨i + 1, t_S_nx hi.1 (t_noobj (hI.wf.s (k := 2) rfl) p_a0.1) (by have h3 := hi.1.2.2.1; omega) (by have h2 := hi.1.2.1; have h3 := hi.1.2.2.1; omega) e88, hi.2.1, (s_blk1 hi.1 (by omega) e76 (by omega)).trans hi.2.2⟩), (t_on.I j67_0.2 e88)⟩ rfl
        · have r89 : w76.toInt ≠ 10 := fun e => h84 (Int32.toInt_inj.mp (e.trans (by decide : (10:Int) = (10 : Int32).toInt)))
          refine ev_sub (lo := [(0, .ref ar0)]) rfl (t_sc rfl t_sn) ?_
          exact L1 gi67 gl67 gr67  hI hX p_a0 ⟨fun b n q h => (j67_0.1 b n q h).elim (fun i hi => ⟨i, hi.1, hi.2.1, hi.2.2.symm.trans (s_blk hi.1 (Or.inr (fun w hw => by have hh := hw; rw [hw.trans e76.symm]; omega)))⟩), j67_0.2⟩
  refine ev_sub (lo := [(0, .ref ar0)]) rfl (t_sc rfl t_sn) ?_
  exact L67 _ gi gl gr  hI hX p_a0 ⟨fun b n q h => ⟨q, h, h.2.2.2, rfl⟩, t_on.rf⟩ rfl
