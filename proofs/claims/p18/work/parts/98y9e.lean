/-! ===== printed by riv.py: the RIVER of the other side ===== -/
noncomputable def wl_n_aCart : List (Nat × Nat) := [(69, 12), (69, 13), (69, 14), (69, 15), (69, 17), (69, 18), (70, 140211402), (70, 148211500), (70, 148311501), (70, 148411502), (71, 7210089)]
noncomputable def Q_n_aCart (gi : Nat → Nat → Int32) (gl : Nat → Nat → Int64) (gr : Nat → Nat → Value) : Int32 → (Nat → Nat → Int32) → (Nat → Nat → Int64) → (Nat → Nat → Value) → Prop := fun (v : Int32) (gi2 : Nat → Nat → Int32) (gl2 : Nat → Nat → Int64) (gr2 : Nat → Nat → Value) => ∀ (b : Nat → Int32) (n q : Nat) (D : s_D), t_MS b n q D gi gl → (v.toInt = 1 ∧ ∃ q2 D2, s_cart b n q D = s_ok q2 D2 ∧ t_MS b n q2 D2 gi2 gl2) ∨ (v.toInt = 0 ∧ ∃ p x D2, x ≠ 0 ∧ s_cart b n q D = s_bad b n p x D2 ∧ t_MF gi2 (s_fk b n p x) (s_F b n p))
theorem c_n_aCart {X : x_Ext} {d : Nat} {sh : List (Nat ⊕ (Nat × Nat))} {gi : Nat → Nat → Int32} {gl : Nat → Nat → Int64} {gr : Nat → Nat → Value} (hI : t_I sh gi gr) : x_Me X (d + 8) n_X12_aCart [.ref 69] (sh, gi, gl, gr) (t_PI wl_n_aCart sh gi gl gr 0 1 (Q_n_aCart gi gl gr)) := by
  have hX : t_X wl_n_aCart sh gi gl gr gi gl gr := t_X.rf
  refine me_i f_X12_aCart (hI.wf.s rfl) rfl rfl rfl ?_
  refine ev_sp f_X12_aCart (nx := 3) (v := 1482) rfl (by decide) rfl ?_
  refine ev_ic f_X12_aCart (nx := 4) (v := 3) rfl (by decide) rfl ?_
  refine ev_loc f_X12_aCart (nx := 5) rfl rfl rfl rfl ?_
  refine ev_getR f_X12_aCart (nx := 8) rfl (hI.wf.s rfl) rfl rfl (hI.wf.r rfl) rfl rfl ?_
  refine ev_sp f_X12_aCart (nx := 11) (v := 1402) rfl (by decide) rfl ?_
  obtain ⟨l1, u1⟩ := hI.ab (by decide +kernel : t_abr 70 1402 1402 0 6 = true) (Nat.le_refl _) (Nat.le_refl _)
  refine ev_ialdv f_X12_aCart (nx := 12) (w := (gi 70 1402)) rfl (hI.wf.s rfl) (by decide) (rfl : (1402 : Int32).toNatClampNeg = 1402) (by decide) rfl rfl ?_
  refine ev_mulL f_X12_aCart (nx := 13) (c := 3) (l := 0) (u := 18) rfl (by decide) (by decide) l1 u1 rfl rfl (by decide) (by decide) rfl (fun z2 e2 l2 u2 => ?_)
  refine ev_addK f_X12_aCart (nx := 14) (c := 1482) (l := 1482) (u := 1500) rfl (by decide) l2 u2 rfl rfl (by decide) (by decide) rfl (fun z3 e3 l3 u3 => ?_)
  refine ev_loc f_X12_aCart (nx := 15) (lo' := [(1, .int z3), (0, .ref 69)]) rfl rfl rfl rfl ?_
  refine ev_loc f_X12_aCart (nx := 16) rfl rfl rfl rfl ?_
  refine ev_getR f_X12_aCart (nx := 19) rfl (hI.wf.s rfl) rfl rfl (hI.wf.r rfl) rfl rfl ?_
  refine ev_sp f_X12_aCart (nx := 22) (v := 1402) rfl (by decide) rfl ?_
  refine ev_ialdv f_X12_aCart (nx := 23) (w := (gi 70 1402)) rfl (hI.wf.s rfl) (by decide) (rfl : (1402 : Int32).toNatClampNeg = 1402) (by decide) rfl rfl ?_
  refine ev_bp f_X12_aCart (nx := 25) (v := 6) rfl (by decide) rfl ?_
  refine ev_if f_X12_aCart (t1 := 28) (t2 := 35) rfl rfl rfl (fun h5 => ?_) (fun h5 => ?_)
  · have l6 : 6 ≤ (gi 70 1402).toInt := t_eql h5 (by decide : (6:Int) ≤ (6:Int32).toInt)
    refine ev_loc f_X12_aCart (nx := 29) rfl rfl rfl rfl ?_
    refine ev_bp f_X12_aCart (nx := 31) (v := 6) rfl (by decide) rfl ?_
    refine ev_qI f_X12_aCart (nx := 34) (r := []) rfl rfl rfl rfl rfl rfl rfl (c_n_fails hI (6) (Int.le_trans (by decide : (2:Int) ≤ 6) (by decide : (6:Int) ≤ (6:Int32).toInt)) (Int.le_trans (by decide : (6:Int32).toInt ≤ (6:Int)) (by decide : (6:Int) ≤ 7))) rfl hX rfl (fun w7 gi7 gl7 gr7 l7 u7 hI hX hC7 q7 => ?_)
    have q7 : (∀ (b : Nat → Int32) (n q : Nat), t_TM b n q gi → (gi 69 18).toInt = 0 → t_MF gi7 (s_fk b n q 6) (s_F b n q)) ∧ w7.toInt = 0 := q7
    exact ev_retZ f_X12_aCart rfl l7 (Int.le_trans u7 (by decide : (0:Int) ≤ 1)) ⟨_, _, _, rfl, hI, hX, ⟨_, rfl, l7, (Int.le_trans u7 (by decide : (0:Int) ≤ 1)), (show ∀ (b : Nat → Int32) (n q : Nat) (D : s_D), t_MS b n q D gi gl → (w7.toInt = 1 ∧ ∃ q2 D2, s_cart b n q D = s_ok q2 D2 ∧ t_MS b n q2 D2 gi7 gl7) ∨ (w7.toInt = 0 ∧ ∃ p x D2, x ≠ 0 ∧ s_cart b n q D = s_bad b n p x D2 ∧ t_MF gi7 (s_fk b n p x) (s_F b n p)) from (by
                                                            intro b n q D h
                                                            have d0 : (gi 70 1402).toInt = D 2 := h.2.1.2.1.1.1.2.2
                                                            have b0 := h.2.1.1.2.2
                                                            have hc0 := t_clamp (i := gi 70 1402) (by omega)
                                                            exact Or.inr ⟨q7.2, q, 6, D, by decide, by simp only [s_cart, s_ifT (show D 2 = 6 by omega)], q7.1 b n q h.1 h.2.2.1⟩))⟩⟩
  · have r8 : (gi 70 1402).toInt ≠ 6 := fun e => h5 (Int32.toInt_inj.mp (e.trans (by decide : (6:Int) = (6 : Int32).toInt)))
    have u9 : (gi 70 1402).toInt ≤ 5 := t_neu h5 u1 rfl rfl
    refine ev_loc f_X12_aCart (nx := 36) rfl rfl rfl rfl ?_
    refine ev_bp f_X12_aCart (nx := 38) (v := 12) rfl (by decide) rfl ?_
    refine ev_loc f_X12_aCart (nx := 39) rfl rfl rfl rfl ?_
    refine ev_getR f_X12_aCart (nx := 42) rfl (hI.wf.s rfl) rfl rfl (hI.wf.r rfl) rfl rfl ?_
    refine ev_sp f_X12_aCart (nx := 45) (v := 1402) rfl (by decide) rfl ?_
    refine ev_ialdv f_X12_aCart (nx := 46) (w := (gi 70 1402)) rfl (hI.wf.s rfl) (by decide) (rfl : (1402 : Int32).toNatClampNeg = 1402) (by decide) rfl rfl ?_
    refine ev_addK f_X12_aCart (nx := 47) (c := 12) (l := 12) (u := 17) rfl (by decide) l1 u9 rfl rfl (by decide) (by decide) rfl (fun z11 e11 l11 u11 => ?_)
    refine ev_qI f_X12_aCart (nx := 50) (r := []) rfl rfl rfl rfl rfl rfl rfl (c_n_aNewName hI (z11) (Int.le_trans (by decide : (0:Int) ≤ 12) l11) u11) rfl hX rfl (fun w12 gi12 gl12 gr12 l12 u12 hI hX hC12 q12 => ?_)
    have q12 : ∀ (b : Nat → Int32) (n q : Nat) (D : s_D), t_MS b n q D gi gl → (w12.toInt = 1 ∧ s_isN b n (s_E b n q) ∧ ¬ s_used D (s_L b n (s_E b n q)).toInt ∧ t_TM b n (s_E b n (s_E b n q)) gi12 ∧ t_mf gi gi12 ∧ ∀ j : Nat, gl12 71 j = if j = 72 + z11.toNatClampNeg then s_m8 b (s_F b n (s_E b n q)) (s_E b n (s_E b n q) - s_F b n (s_E b n q)) else gl 71 j) ∨ (w12.toInt = 0 ∧ ¬ s_isN b n (s_E b n q) ∧ t_MF gi12 (s_fk b n (s_E b n q) 2) (s_F b n (s_E b n q))) ∨ (w12.toInt = 0 ∧ s_isN b n (s_E b n q) ∧ s_used D (s_L b n (s_E b n q)).toInt ∧ t_MF gi12 (s_fk b n (s_E b n q) 3) (s_F b n (s_E b n q))) := q12
    refine ev_if f_X12_aCart (t1 := 61) (t2 := 53) rfl rfl rfl (fun h13 => ?_) (fun h13 => ?_)
    · have u14 : w12.toInt ≤ 0 := t_equ h13 (by decide : (0:Int32).toInt ≤ (0:Int))
      refine ev_ic f_X12_aCart (nx := 62) (v := 0) rfl (by decide) rfl ?_
      exact ev_ret f_X12_aCart rfl rfl rfl ⟨_, _, _, rfl, hI, hX, ⟨_, rfl, (by decide : (0:Int) ≤ (0:Int32).toInt), (Int.le_trans (by decide : (0:Int32).toInt ≤ (0:Int)) (by decide : (0:Int) ≤ 1)), (show ∀ (b : Nat → Int32) (n q : Nat) (D : s_D), t_MS b n q D gi gl → ((0 : Int) = 1 ∧ ∃ q2 D2, s_cart b n q D = s_ok q2 D2 ∧ t_MS b n q2 D2 gi12 gl12) ∨ ((0 : Int) = 0 ∧ ∃ p x D2, x ≠ 0 ∧ s_cart b n q D = s_bad b n p x D2 ∧ t_MF gi12 (s_fk b n p x) (s_F b n p)) from (by
                                                            intro b n q D h
                                                            have d0 : (gi 70 1402).toInt = D 2 := h.2.1.2.1.1.1.2.2
                                                            have b0 := h.2.1.1.2.2
                                                            have hc0 := t_clamp (i := gi 70 1402) (by omega)
                                                            rcases q12 b n q D h with hh | hh | hh
                                                            · exact absurd hh.1 (by omega)
                                                            · exact Or.inr ⟨rfl, _, 2, D, by decide, by simp only [s_cart, s_name, s_kw, s_come, s_num, s_ifF (show ¬ D 2 = 6 by omega), s_ifF hh.2.1], hh.2.2⟩
                                                            · exact Or.inr ⟨rfl, _, 3, D, by decide, by simp only [s_cart, s_name, s_kw, s_come, s_num, s_ifF (show ¬ D 2 = 6 by omega), s_ifT hh.2.1, s_ifT hh.2.2.1], hh.2.2.2⟩))⟩⟩
    · have r15 : w12.toInt ≠ 0 := fun e => h13 (Int32.toInt_inj.mp (e.trans (by decide : (0:Int) = (0 : Int32).toInt)))
      have l16 : 1 ≤ w12.toInt := t_nel h13 l12 rfl rfl
      refine ev_loc f_X12_aCart (nx := 54) rfl rfl rfl rfl ?_
      refine ev_loc f_X12_aCart (nx := 55) rfl rfl rfl rfl ?_
      refine ev_inV2 f_X12_aCart (nx := 58) (lo2 := [(0, .ref 69), (1, .int z3)]) rfl rfl rfl rfl f_X12_passes (hI.wf.s rfl) rfl rfl rfl rfl rfl ?_
      refine ev_loc f_X12_passes (nx := 1) rfl rfl rfl rfl ?_
      refine ev_heap f_X12_passes (nx := 3) rfl rfl rfl rfl ?_
      refine ev_bp f_X12_passes (nx := 5) (v := 9) rfl (by decide) rfl ?_
      refine ev_qI f_X12_passes (nx := 8) (r := []) rfl rfl rfl rfl rfl rfl rfl (c_n_wantWord hI (9)) rfl hX rfl (fun w17 gi17 gl17 gr17 l17 u17 hI hX hC17 q17 => ?_)
      have q17 : ∀ (b : Nat → Int32) (n q : Nat), t_TM b n q gi12 → (w17.toInt = 1 ∧ s_mi (s_W b n q) = 9 ∧ t_TM b n (s_E b n q) gi17 ∧ t_mf gi12 gi17) ∨ (w17.toInt = 0 ∧ ¬ s_mi (s_W b n q) = 9 ∧ ((gi12 69 18).toInt = 0 → t_MF gi17 (s_fk b n q 2) (s_F b n q))) := q17
      refine ev_if f_X12_passes (t1 := 74) (t2 := 11) rfl rfl rfl (fun h18 => ?_) (fun h18 => ?_)
      · have u19 : w17.toInt ≤ 0 := t_equ h18 (by decide : (0:Int32).toInt ≤ (0:Int))
        refine ev_ic f_X12_passes (nx := 75) (v := 0) rfl (by decide) rfl ?_
        refine ev_retK1 f_X12_passes rfl rfl rfl ?_
        refine ev_t f_X12_aCart (t1 := 61) (t2 := 63) rfl rfl rfl (by decide) ?_
        refine ev_ic f_X12_aCart (nx := 62) (v := 0) rfl (by decide) rfl ?_
        exact ev_ret f_X12_aCart rfl rfl rfl ⟨_, _, _, rfl, hI, hX, ⟨_, rfl, (by decide : (0:Int) ≤ (0:Int32).toInt), (Int.le_trans (by decide : (0:Int32).toInt ≤ (0:Int)) (by decide : (0:Int) ≤ 1)), (show ∀ (b : Nat → Int32) (n q : Nat) (D : s_D), t_MS b n q D gi gl → ((0 : Int) = 1 ∧ ∃ q2 D2, s_cart b n q D = s_ok q2 D2 ∧ t_MS b n q2 D2 gi17 gl17) ∨ ((0 : Int) = 0 ∧ ∃ p x D2, x ≠ 0 ∧ s_cart b n q D = s_bad b n p x D2 ∧ t_MF gi17 (s_fk b n p x) (s_F b n p)) from (by
                                                            intro b n q D h
                                                            have d0 : (gi 70 1402).toInt = D 2 := h.2.1.2.1.1.1.2.2
                                                            have b0 := h.2.1.1.2.2
                                                            have hc0 := t_clamp (i := gi 70 1402) (by omega)
                                                            obtain ⟨_, hN, hU, t1, m1, n1⟩ := (q12 b n q D h).resolve_right (fun hh => by rcases hh with hh | hh <;> exact absurd hh.1 (by omega))
                                                            have m0 := m1
                                                            rcases q17 b n _ t1 with hh | hh
                                                            · exact absurd hh.1 (by omega)
                                                            · exact Or.inr ⟨rfl, _, 2, D, by decide, by simp only [s_cart, s_name, s_kw, s_come, s_num, s_ifF (show ¬ D 2 = 6 by omega), s_ifT hN, s_ifF hU, s_ifF (fun hw => hh.2.1 ((s_mi_W (i := 8) (by decide)).mpr hw))], hh.2.2 (by rw [m0.1]; exact h.2.2.1)⟩))⟩⟩
      · have r20 : w17.toInt ≠ 0 := fun e => h18 (Int32.toInt_inj.mp (e.trans (by decide : (0:Int) = (0 : Int32).toInt)))
        have l21 : 1 ≤ w17.toInt := t_nel h18 l17 rfl rfl
        refine ev_loc f_X12_passes (nx := 12) rfl rfl rfl rfl ?_
        refine ev_loc f_X12_passes (nx := 13) rfl rfl rfl rfl ?_
        refine ev_ic f_X12_passes (nx := 14) (v := 0) rfl (by decide) rfl ?_
        refine ev_bp f_X12_passes (nx := 16) (v := 120) rfl (by decide) rfl ?_
        refine ev_inV4 f_X12_passes (nx := 19) (lo2 := [(0, .ref 69), (1, .int z3), (2, .int 0), (3, .int 120)]) rfl rfl rfl rfl f_X12_number (hI.wf.s rfl) rfl rfl rfl rfl rfl ?_
        refine ev_loc f_X12_number (nx := 1) rfl rfl rfl rfl ?_
        refine ev_getI f_X12_number (nx := 4) rfl (hI.wf.s rfl) rfl rfl rfl ?_
        obtain ⟨l22, u22⟩ := hI.b (hI.wf.s (k := 69) rfl) (t_bdK rfl : t_bd 11 12 = some (0, 4))
        refine ev_ic f_X12_number (nx := 5) (v := 3) rfl (by decide) rfl ?_
        refine ev_if f_X12_number (t1 := 14) (t2 := 8) rfl rfl rfl (fun h23 => ?_) (fun h23 => ?_)
        · have u24 : (gi17 69 12).toInt ≤ 3 := t_equ h23 (by decide : (3:Int32).toInt ≤ (3:Int))
          have l25 : 3 ≤ (gi17 69 12).toInt := t_eql h23 (by decide : (3:Int) ≤ (3:Int32).toInt)
          refine ev_loc f_X12_number (nx := 15) rfl rfl rfl rfl ?_
          refine ev_getI f_X12_number (nx := 18) rfl (hI.wf.s rfl) rfl rfl rfl ?_
          refine ev_loc f_X12_number (nx := 19) rfl rfl rfl rfl ?_
          refine ev_if f_X12_number (t1 := 30) (t2 := 22) rfl rfl rfl (fun h26 => ?_) (fun h26 => ?_)
          · have u27 : (gi17 69 15).toInt ≤ (-1) := t_ltu h26 (by decide : (0:Int32).toInt ≤ (0:Int)) rfl
            refine ev_loc f_X12_number (nx := 31) rfl rfl rfl rfl ?_
            refine ev_ic f_X12_number (nx := 32) (v := 4) rfl (by decide) rfl ?_
            refine ev_qI f_X12_number (nx := 35) (r := []) rfl rfl rfl rfl rfl rfl rfl (c_n_fails hI (4) (Int.le_trans (by decide : (2:Int) ≤ 4) (by decide : (4:Int) ≤ (4:Int32).toInt)) (Int.le_trans (by decide : (4:Int32).toInt ≤ (4:Int)) (by decide : (4:Int) ≤ 7))) rfl hX rfl (fun w28 gi28 gl28 gr28 l28 u28 hI hX hC28 q28 => ?_)
            have q28 : (∀ (b : Nat → Int32) (n q : Nat), t_TM b n q gi17 → (gi17 69 18).toInt = 0 → t_MF gi28 (s_fk b n q 4) (s_F b n q)) ∧ w28.toInt = 0 := q28
            refine ev_retK1 f_X12_number rfl rfl (t_rz l28 (Int.le_trans u28 (by decide : (0:Int) ≤ 1))) ?_
            refine ev_t f_X12_passes (t1 := 74) (t2 := 22) rfl rfl rfl (t_eqT u28 l28 (by decide : (0:Int32).toInt ≤ (0:Int)) (by decide : (0:Int) ≤ (0:Int32).toInt)) ?_
            refine ev_ic f_X12_passes (nx := 75) (v := 0) rfl (by decide) rfl ?_
            refine ev_retK1 f_X12_passes rfl rfl rfl ?_
            refine ev_t f_X12_aCart (t1 := 61) (t2 := 63) rfl rfl rfl (by decide) ?_
            refine ev_ic f_X12_aCart (nx := 62) (v := 0) rfl (by decide) rfl ?_
            exact ev_ret f_X12_aCart rfl rfl rfl ⟨_, _, _, rfl, hI, hX, ⟨_, rfl, (by decide : (0:Int) ≤ (0:Int32).toInt), (Int.le_trans (by decide : (0:Int32).toInt ≤ (0:Int)) (by decide : (0:Int) ≤ 1)), (show ∀ (b : Nat → Int32) (n q : Nat) (D : s_D), t_MS b n q D gi gl → ((0 : Int) = 1 ∧ ∃ q2 D2, s_cart b n q D = s_ok q2 D2 ∧ t_MS b n q2 D2 gi28 gl28) ∨ ((0 : Int) = 0 ∧ ∃ p x D2, x ≠ 0 ∧ s_cart b n q D = s_bad b n p x D2 ∧ t_MF gi28 (s_fk b n p x) (s_F b n p)) from (by
                                                            intro b n q D h
                                                            have d0 : (gi 70 1402).toInt = D 2 := h.2.1.2.1.1.1.2.2
                                                            have b0 := h.2.1.1.2.2
                                                            have hc0 := t_clamp (i := gi 70 1402) (by omega)
                                                            obtain ⟨_, hN, hU, t1, m1, n1⟩ := (q12 b n q D h).resolve_right (fun hh => by rcases hh with hh | hh <;> exact absurd hh.1 (by omega))
                                                            have m0 := m1
                                                            obtain ⟨_, w1, t1_, m1⟩ := (q17 b n _ t1).resolve_right (fun hh => absurd hh.1 (by omega))
                                                            have k1 := (s_mi_W (i := 8) (by decide)).mp w1
                                                            have hv := t1_.vF (lo := 0) (hi := 120) (by omega) (by omega)
                                                            exact Or.inr ⟨rfl, _, 4, D, by decide, by simp only [s_cart, s_name, s_kw, s_come, s_num, s_ifF (show ¬ D 2 = 6 by omega), s_ifT hN, s_ifF hU, s_ifT k1, s_ifT hv.1, s_ifF hv.2], q28.1 b n _ t1_ (by rw [m1.1, m0.1]; exact h.2.2.1)⟩))⟩⟩
          · have l29 : 0 ≤ (gi17 69 15).toInt := t_lel (t_nlt h26) (by decide : (0:Int) ≤ (0:Int32).toInt)
            refine ev_loc f_X12_number (nx := 23) rfl rfl rfl rfl ?_
            refine ev_gvI f_X12_number (nx := 26) (w := (gi17 69 15)) rfl (hI.wf.s rfl) rfl rfl rfl rfl ?_
            refine ev_loc f_X12_number (nx := 27) rfl rfl rfl rfl ?_
            refine ev_if f_X12_number (t1 := 36) (t2 := 30) rfl rfl rfl (fun h30 => ?_) (fun h30 => ?_)
            · have u31 : (gi17 69 15).toInt ≤ 120 := t_leu h30 (by decide : (120:Int32).toInt ≤ (120:Int))
              refine ev_loc f_X12_number (nx := 37) rfl rfl rfl rfl ?_
              refine ev_getR f_X12_number (nx := 40) rfl (hI.wf.s rfl) rfl rfl (hI.wf.r rfl) rfl rfl ?_
              refine ev_loc f_X12_number (nx := 41) rfl rfl rfl rfl ?_
              refine ev_loc f_X12_number (nx := 42) rfl rfl rfl rfl ?_
              refine ev_gvI f_X12_number (nx := 45) (w := (gi17 69 15)) rfl (hI.wf.s rfl) rfl rfl rfl rfl ?_
              refine ev_iastT f_X12_number (nx := 46) rfl (hI.wf.s rfl) l3 (by decide) u3 (by decide) rfl (hI.astA (x := (gi 70 1402)) (hI.wf.s rfl) (by decide +kernel : t_abwa 70 1482 3 0 5 0 120 = true) (by omega) (by omega) (by omega) l29 u31 rfl) (hX.upI (t_inR (p := 1482) (m := 1500) rfl l3 (by decide) u3 (by decide) (by decide))) (fun g32 e32 hI hX => ?_)
              refine ev_loc f_X12_number (nx := 47) rfl rfl rfl rfl ?_
              refine ev_qN f_X12_number (nx := 50) (r := []) rfl rfl rfl rfl rfl rfl rfl (c_n_ahead hI ) rfl hX rfl (fun gi33 gl33 gr33 hI hX hC33 q33 => ?_)
              have q33 : ∀ (b : Nat → Int32) (n q : Nat), t_Sm b n q g32 → t_TM b n q gi33 := q33
              refine ev_ic f_X12_number (nx := 51) (v := 1) rfl (by decide) rfl ?_
              refine ev_retK1 f_X12_number rfl rfl rfl ?_
              refine ev_f f_X12_passes (t1 := 74) (t2 := 22) rfl rfl rfl (by decide) ?_
              refine ev_loc f_X12_passes (nx := 23) rfl rfl rfl rfl ?_
              refine ev_heap f_X12_passes (nx := 25) rfl rfl rfl rfl ?_
              refine ev_bp f_X12_passes (nx := 27) (v := 10) rfl (by decide) rfl ?_
              refine ev_qI f_X12_passes (nx := 30) (r := []) rfl rfl rfl rfl rfl rfl rfl (c_n_wantWord hI (10)) rfl hX rfl (fun w34 gi34 gl34 gr34 l34 u34 hI hX hC34 q34 => ?_)
              have q34 : ∀ (b : Nat → Int32) (n q : Nat), t_TM b n q gi33 → (w34.toInt = 1 ∧ s_mi (s_W b n q) = 10 ∧ t_TM b n (s_E b n q) gi34 ∧ t_mf gi33 gi34) ∨ (w34.toInt = 0 ∧ ¬ s_mi (s_W b n q) = 10 ∧ ((gi33 69 18).toInt = 0 → t_MF gi34 (s_fk b n q 2) (s_F b n q))) := q34
              refine ev_if f_X12_passes (t1 := 74) (t2 := 33) rfl rfl rfl (fun h35 => ?_) (fun h35 => ?_)
              · have u36 : w34.toInt ≤ 0 := t_equ h35 (by decide : (0:Int32).toInt ≤ (0:Int))
                refine ev_ic f_X12_passes (nx := 75) (v := 0) rfl (by decide) rfl ?_
                refine ev_retK1 f_X12_passes rfl rfl rfl ?_
                refine ev_t f_X12_aCart (t1 := 61) (t2 := 63) rfl rfl rfl (by decide) ?_
                refine ev_ic f_X12_aCart (nx := 62) (v := 0) rfl (by decide) rfl ?_
                exact ev_ret f_X12_aCart rfl rfl rfl ⟨_, _, _, rfl, hI, hX, ⟨_, rfl, (by decide : (0:Int) ≤ (0:Int32).toInt), (Int.le_trans (by decide : (0:Int32).toInt ≤ (0:Int)) (by decide : (0:Int) ≤ 1)), (show ∀ (b : Nat → Int32) (n q : Nat) (D : s_D), t_MS b n q D gi gl → ((0 : Int) = 1 ∧ ∃ q2 D2, s_cart b n q D = s_ok q2 D2 ∧ t_MS b n q2 D2 gi34 gl34) ∨ ((0 : Int) = 0 ∧ ∃ p x D2, x ≠ 0 ∧ s_cart b n q D = s_bad b n p x D2 ∧ t_MF gi34 (s_fk b n p x) (s_F b n p)) from (by
                                                            intro b n q D h
                                                            have d0 : (gi 70 1402).toInt = D 2 := h.2.1.2.1.1.1.2.2
                                                            have b0 := h.2.1.1.2.2
                                                            have hc0 := t_clamp (i := gi 70 1402) (by omega)
                                                            obtain ⟨_, hN, hU, t1, m1, n1⟩ := (q12 b n q D h).resolve_right (fun hh => by rcases hh with hh | hh <;> exact absurd hh.1 (by omega))
                                                            have m0 := m1
                                                            obtain ⟨_, w1, t1_, m1⟩ := (q17 b n _ t1).resolve_right (fun hh => absurd hh.1 (by omega))
                                                            have k1 := (s_mi_W (i := 8) (by decide)).mp w1
                                                            have v2 := t1_.vT (lo := 0) (hi := 120) (by omega) (by omega) (by omega)
                                                            have t2_ := q33 b n _ (t1_.st e32).S
                                                            rcases q34 b n _ t2_ with hh | hh
                                                            · exact absurd hh.1 (by omega)
                                                            · exact Or.inr ⟨rfl, _, 2, D, by decide, by simp only [s_cart, s_name, s_kw, s_come, s_num, s_ifF (show ¬ D 2 = 6 by omega), s_ifT hN, s_ifF hU, s_ifT k1, s_ifT v2.1.1, s_ifT v2.1, s_ifF (fun hw => hh.2.1 ((s_mi_W (i := 9) (by decide)).mpr hw))], hh.2.2 (by rw [(hC33.1 69 18 rfl).1, e32, x_up2_ne (by decide), m1.1, m0.1]; exact h.2.2.1)⟩))⟩⟩
              · have r37 : w34.toInt ≠ 0 := fun e => h35 (Int32.toInt_inj.mp (e.trans (by decide : (0:Int) = (0 : Int32).toInt)))
                have l38 : 1 ≤ w34.toInt := t_nel h35 l34 rfl rfl
                refine ev_loc f_X12_passes (nx := 34) rfl rfl rfl rfl ?_
                refine ev_loc f_X12_passes (nx := 35) rfl rfl rfl rfl ?_
                refine ev_ic f_X12_passes (nx := 36) (v := 1) rfl (by decide) rfl ?_
                refine ev_addC f_X12_passes (nx := 37) (c := 1) (l := 1483) (u := 1501) rfl (by decide) l3 u3 rfl rfl (by decide) (by decide) rfl (fun z39 e39 l39 u39 => ?_)
                refine ev_ic f_X12_passes (nx := 38) (v := 1) rfl (by decide) rfl ?_
                refine ev_bp f_X12_passes (nx := 40) (v := 20) rfl (by decide) rfl ?_
                refine ev_inV4 f_X12_passes (nx := 43) (lo2 := [(0, .ref 69), (1, .int z39), (2, .int 1), (3, .int 20)]) rfl rfl rfl rfl f_X12_number (hI.wf.s rfl) rfl rfl rfl rfl rfl ?_
                refine ev_loc f_X12_number (nx := 1) rfl rfl rfl rfl ?_
                refine ev_getI f_X12_number (nx := 4) rfl (hI.wf.s rfl) rfl rfl rfl ?_
                obtain ⟨l40, u40⟩ := hI.b (hI.wf.s (k := 69) rfl) (t_bdK rfl : t_bd 11 12 = some (0, 4))
                refine ev_ic f_X12_number (nx := 5) (v := 3) rfl (by decide) rfl ?_
                refine ev_if f_X12_number (t1 := 14) (t2 := 8) rfl rfl rfl (fun h41 => ?_) (fun h41 => ?_)
                · have u42 : (gi34 69 12).toInt ≤ 3 := t_equ h41 (by decide : (3:Int32).toInt ≤ (3:Int))
                  have l43 : 3 ≤ (gi34 69 12).toInt := t_eql h41 (by decide : (3:Int) ≤ (3:Int32).toInt)
                  refine ev_loc f_X12_number (nx := 15) rfl rfl rfl rfl ?_
                  refine ev_getI f_X12_number (nx := 18) rfl (hI.wf.s rfl) rfl rfl rfl ?_
                  refine ev_loc f_X12_number (nx := 19) rfl rfl rfl rfl ?_
                  refine ev_if f_X12_number (t1 := 30) (t2 := 22) rfl rfl rfl (fun h44 => ?_) (fun h44 => ?_)
                  · have u45 : (gi34 69 15).toInt ≤ 0 := t_ltu h44 (by decide : (1:Int32).toInt ≤ (1:Int)) rfl
                    refine ev_loc f_X12_number (nx := 31) rfl rfl rfl rfl ?_
                    refine ev_ic f_X12_number (nx := 32) (v := 4) rfl (by decide) rfl ?_
                    refine ev_qI f_X12_number (nx := 35) (r := []) rfl rfl rfl rfl rfl rfl rfl (c_n_fails hI (4) (Int.le_trans (by decide : (2:Int) ≤ 4) (by decide : (4:Int) ≤ (4:Int32).toInt)) (Int.le_trans (by decide : (4:Int32).toInt ≤ (4:Int)) (by decide : (4:Int) ≤ 7))) rfl hX rfl (fun w46 gi46 gl46 gr46 l46 u46 hI hX hC46 q46 => ?_)
                    have q46 : (∀ (b : Nat → Int32) (n q : Nat), t_TM b n q gi34 → (gi34 69 18).toInt = 0 → t_MF gi46 (s_fk b n q 4) (s_F b n q)) ∧ w46.toInt = 0 := q46
                    refine ev_retK1 f_X12_number rfl rfl (t_rz l46 (Int.le_trans u46 (by decide : (0:Int) ≤ 1))) ?_
                    refine ev_t f_X12_passes (t1 := 74) (t2 := 46) rfl rfl rfl (t_eqT u46 l46 (by decide : (0:Int32).toInt ≤ (0:Int)) (by decide : (0:Int) ≤ (0:Int32).toInt)) ?_
                    refine ev_ic f_X12_passes (nx := 75) (v := 0) rfl (by decide) rfl ?_
                    refine ev_retK1 f_X12_passes rfl rfl rfl ?_
                    refine ev_t f_X12_aCart (t1 := 61) (t2 := 63) rfl rfl rfl (by decide) ?_
                    refine ev_ic f_X12_aCart (nx := 62) (v := 0) rfl (by decide) rfl ?_
                    exact ev_ret f_X12_aCart rfl rfl rfl ⟨_, _, _, rfl, hI, hX, ⟨_, rfl, (by decide : (0:Int) ≤ (0:Int32).toInt), (Int.le_trans (by decide : (0:Int32).toInt ≤ (0:Int)) (by decide : (0:Int) ≤ 1)), (show ∀ (b : Nat → Int32) (n q : Nat) (D : s_D), t_MS b n q D gi gl → ((0 : Int) = 1 ∧ ∃ q2 D2, s_cart b n q D = s_ok q2 D2 ∧ t_MS b n q2 D2 gi46 gl46) ∨ ((0 : Int) = 0 ∧ ∃ p x D2, x ≠ 0 ∧ s_cart b n q D = s_bad b n p x D2 ∧ t_MF gi46 (s_fk b n p x) (s_F b n p)) from (by
                                                            intro b n q D h
                                                            have d0 : (gi 70 1402).toInt = D 2 := h.2.1.2.1.1.1.2.2
                                                            have b0 := h.2.1.1.2.2
                                                            have hc0 := t_clamp (i := gi 70 1402) (by omega)
                                                            obtain ⟨_, hN, hU, t1, m1, n1⟩ := (q12 b n q D h).resolve_right (fun hh => by rcases hh with hh | hh <;> exact absurd hh.1 (by omega))
                                                            have m0 := m1
                                                            obtain ⟨_, w1, t1_, m1⟩ := (q17 b n _ t1).resolve_right (fun hh => absurd hh.1 (by omega))
                                                            have k1 := (s_mi_W (i := 8) (by decide)).mp w1
                                                            have v2 := t1_.vT (lo := 0) (hi := 120) (by omega) (by omega) (by omega)
                                                            have t2_ := q33 b n _ (t1_.st e32).S
                                                            obtain ⟨_, w3, t3_, m3⟩ := (q34 b n _ t2_).resolve_right (fun hh => absurd hh.1 (by omega))
                                                            have k3 := (s_mi_W (i := 9) (by decide)).mp w3
                                                            have hv := t3_.vF (lo := 1) (hi := 20) (by omega) (by omega)
                                                            exact Or.inr ⟨rfl, _, 4, D, by decide, by simp only [s_cart, s_name, s_kw, s_come, s_num, s_ifF (show ¬ D 2 = 6 by omega), s_ifT hN, s_ifF hU, s_ifT k1, s_ifT v2.1.1, s_ifT v2.1, s_ifT k3, s_ifT hv.1, s_ifF hv.2], q46.1 b n _ t3_ (by rw [m3.1, (hC33.1 69 18 rfl).1, e32, x_up2_ne (by decide), m1.1, m0.1]; exact h.2.2.1)⟩))⟩⟩
                  · have l47 : 1 ≤ (gi34 69 15).toInt := t_lel (t_nlt h44) (by decide : (1:Int) ≤ (1:Int32).toInt)
                    refine ev_loc f_X12_number (nx := 23) rfl rfl rfl rfl ?_
                    refine ev_gvI f_X12_number (nx := 26) (w := (gi34 69 15)) rfl (hI.wf.s rfl) rfl rfl rfl rfl ?_
                    refine ev_loc f_X12_number (nx := 27) rfl rfl rfl rfl ?_
                    refine ev_if f_X12_number (t1 := 36) (t2 := 30) rfl rfl rfl (fun h48 => ?_) (fun h48 => ?_)
                    · have u49 : (gi34 69 15).toInt ≤ 20 := t_leu h48 (by decide : (20:Int32).toInt ≤ (20:Int))
                      refine ev_loc f_X12_number (nx := 37) rfl rfl rfl rfl ?_
                      refine ev_getR f_X12_number (nx := 40) rfl (hI.wf.s rfl) rfl rfl (hI.wf.r rfl) rfl rfl ?_
                      refine ev_loc f_X12_number (nx := 41) rfl rfl rfl rfl ?_
                      refine ev_loc f_X12_number (nx := 42) rfl rfl rfl rfl ?_
                      refine ev_gvI f_X12_number (nx := 45) (w := (gi34 69 15)) rfl (hI.wf.s rfl) rfl rfl rfl rfl ?_
                      refine ev_iastT f_X12_number (nx := 46) rfl (hI.wf.s rfl) l39 (by decide) u39 (by decide) rfl (hI.astA (x := (gi 70 1402)) (hI.wf.s rfl) (by decide +kernel : t_abwa 70 1483 3 0 5 1 20 = true) (by omega) (by omega) (by omega) l47 u49 rfl) (hX.upI (t_inR (p := 1483) (m := 1501) rfl l39 (by decide) u39 (by decide) (by decide))) (fun g50 e50 hI hX => ?_)
                      refine ev_loc f_X12_number (nx := 47) rfl rfl rfl rfl ?_
                      refine ev_qN f_X12_number (nx := 50) (r := []) rfl rfl rfl rfl rfl rfl rfl (c_n_ahead hI ) rfl hX rfl (fun gi51 gl51 gr51 hI hX hC51 q51 => ?_)
                      have q51 : ∀ (b : Nat → Int32) (n q : Nat), t_Sm b n q g50 → t_TM b n q gi51 := q51
                      refine ev_ic f_X12_number (nx := 51) (v := 1) rfl (by decide) rfl ?_
                      refine ev_retK1 f_X12_number rfl rfl rfl ?_
                      refine ev_f f_X12_passes (t1 := 74) (t2 := 46) rfl rfl rfl (by decide) ?_
                      refine ev_loc f_X12_passes (nx := 47) rfl rfl rfl rfl ?_
                      refine ev_heap f_X12_passes (nx := 49) rfl rfl rfl rfl ?_
                      refine ev_bp f_X12_passes (nx := 51) (v := 11) rfl (by decide) rfl ?_
                      refine ev_qI f_X12_passes (nx := 54) (r := []) rfl rfl rfl rfl rfl rfl rfl (c_n_wantWord hI (11)) rfl hX rfl (fun w52 gi52 gl52 gr52 l52 u52 hI hX hC52 q52 => ?_)
                      have q52 : ∀ (b : Nat → Int32) (n q : Nat), t_TM b n q gi51 → (w52.toInt = 1 ∧ s_mi (s_W b n q) = 11 ∧ t_TM b n (s_E b n q) gi52 ∧ t_mf gi51 gi52) ∨ (w52.toInt = 0 ∧ ¬ s_mi (s_W b n q) = 11 ∧ ((gi51 69 18).toInt = 0 → t_MF gi52 (s_fk b n q 2) (s_F b n q))) := q52
                      refine ev_if f_X12_passes (t1 := 74) (t2 := 57) rfl rfl rfl (fun h53 => ?_) (fun h53 => ?_)
                      · have u54 : w52.toInt ≤ 0 := t_equ h53 (by decide : (0:Int32).toInt ≤ (0:Int))
                        refine ev_ic f_X12_passes (nx := 75) (v := 0) rfl (by decide) rfl ?_
                        refine ev_retK1 f_X12_passes rfl rfl rfl ?_
                        refine ev_t f_X12_aCart (t1 := 61) (t2 := 63) rfl rfl rfl (by decide) ?_
                        refine ev_ic f_X12_aCart (nx := 62) (v := 0) rfl (by decide) rfl ?_
                        exact ev_ret f_X12_aCart rfl rfl rfl ⟨_, _, _, rfl, hI, hX, ⟨_, rfl, (by decide : (0:Int) ≤ (0:Int32).toInt), (Int.le_trans (by decide : (0:Int32).toInt ≤ (0:Int)) (by decide : (0:Int) ≤ 1)), (show ∀ (b : Nat → Int32) (n q : Nat) (D : s_D), t_MS b n q D gi gl → ((0 : Int) = 1 ∧ ∃ q2 D2, s_cart b n q D = s_ok q2 D2 ∧ t_MS b n q2 D2 gi52 gl52) ∨ ((0 : Int) = 0 ∧ ∃ p x D2, x ≠ 0 ∧ s_cart b n q D = s_bad b n p x D2 ∧ t_MF gi52 (s_fk b n p x) (s_F b n p)) from (by
                                                            intro b n q D h
                                                            have d0 : (gi 70 1402).toInt = D 2 := h.2.1.2.1.1.1.2.2
                                                            have b0 := h.2.1.1.2.2
                                                            have hc0 := t_clamp (i := gi 70 1402) (by omega)
                                                            obtain ⟨_, hN, hU, t1, m1, n1⟩ := (q12 b n q D h).resolve_right (fun hh => by rcases hh with hh | hh <;> exact absurd hh.1 (by omega))
                                                            have m0 := m1
                                                            obtain ⟨_, w1, t1_, m1⟩ := (q17 b n _ t1).resolve_right (fun hh => absurd hh.1 (by omega))
                                                            have k1 := (s_mi_W (i := 8) (by decide)).mp w1
                                                            have v2 := t1_.vT (lo := 0) (hi := 120) (by omega) (by omega) (by omega)
                                                            have t2_ := q33 b n _ (t1_.st e32).S
                                                            obtain ⟨_, w3, t3_, m3⟩ := (q34 b n _ t2_).resolve_right (fun hh => absurd hh.1 (by omega))
                                                            have k3 := (s_mi_W (i := 9) (by decide)).mp w3
                                                            have v4 := t3_.vT (lo := 1) (hi := 20) (by omega) (by omega) (by omega)
                                                            have t4_ := q51 b n _ (t3_.st e50).S
                                                            rcases q52 b n _ t4_ with hh | hh
                                                            · exact absurd hh.1 (by omega)
                                                            · exact Or.inr ⟨rfl, _, 2, D, by decide, by simp only [s_cart, s_name, s_kw, s_come, s_num, s_ifF (show ¬ D 2 = 6 by omega), s_ifT hN, s_ifF hU, s_ifT k1, s_ifT v2.1.1, s_ifT v2.1, s_ifT k3, s_ifT v4.1.1, s_ifT v4.1, s_ifF (fun hw => hh.2.1 ((s_mi_W (i := 10) (by decide)).mpr hw))], hh.2.2 (by rw [(hC51.1 69 18 rfl).1, e50, x_up2_ne (by decide), m3.1, (hC33.1 69 18 rfl).1, e32, x_up2_ne (by decide), m1.1, m0.1]; exact h.2.2.1)⟩))⟩⟩
                      · have r55 : w52.toInt ≠ 0 := fun e => h53 (Int32.toInt_inj.mp (e.trans (by decide : (0:Int) = (0 : Int32).toInt)))
                        have l56 : 1 ≤ w52.toInt := t_nel h53 l52 rfl rfl
                        refine ev_loc f_X12_passes (nx := 58) rfl rfl rfl rfl ?_
                        refine ev_loc f_X12_passes (nx := 59) rfl rfl rfl rfl ?_
                        refine ev_ic f_X12_passes (nx := 60) (v := 2) rfl (by decide) rfl ?_
                        refine ev_addC f_X12_passes (nx := 61) (c := 2) (l := 1484) (u := 1502) rfl (by decide) l3 u3 rfl rfl (by decide) (by decide) rfl (fun z57 e57 l57 u57 => ?_)
                        refine ev_ic f_X12_passes (nx := 62) (v := 0) rfl (by decide) rfl ?_
                        refine ev_bp f_X12_passes (nx := 64) (v := 99) rfl (by decide) rfl ?_
                        refine ev_inV4 f_X12_passes (nx := 67) (lo2 := [(0, .ref 69), (1, .int z57), (2, .int 0), (3, .int 99)]) rfl rfl rfl rfl f_X12_number (hI.wf.s rfl) rfl rfl rfl rfl rfl ?_
                        refine ev_loc f_X12_number (nx := 1) rfl rfl rfl rfl ?_
                        refine ev_getI f_X12_number (nx := 4) rfl (hI.wf.s rfl) rfl rfl rfl ?_
                        obtain ⟨l58, u58⟩ := hI.b (hI.wf.s (k := 69) rfl) (t_bdK rfl : t_bd 11 12 = some (0, 4))
                        refine ev_ic f_X12_number (nx := 5) (v := 3) rfl (by decide) rfl ?_
                        refine ev_if f_X12_number (t1 := 14) (t2 := 8) rfl rfl rfl (fun h59 => ?_) (fun h59 => ?_)
                        · have u60 : (gi52 69 12).toInt ≤ 3 := t_equ h59 (by decide : (3:Int32).toInt ≤ (3:Int))
                          have l61 : 3 ≤ (gi52 69 12).toInt := t_eql h59 (by decide : (3:Int) ≤ (3:Int32).toInt)
                          refine ev_loc f_X12_number (nx := 15) rfl rfl rfl rfl ?_
                          refine ev_getI f_X12_number (nx := 18) rfl (hI.wf.s rfl) rfl rfl rfl ?_
                          refine ev_loc f_X12_number (nx := 19) rfl rfl rfl rfl ?_
                          refine ev_if f_X12_number (t1 := 30) (t2 := 22) rfl rfl rfl (fun h62 => ?_) (fun h62 => ?_)
                          · have u63 : (gi52 69 15).toInt ≤ (-1) := t_ltu h62 (by decide : (0:Int32).toInt ≤ (0:Int)) rfl
                            refine ev_loc f_X12_number (nx := 31) rfl rfl rfl rfl ?_
                            refine ev_ic f_X12_number (nx := 32) (v := 4) rfl (by decide) rfl ?_
                            refine ev_qI f_X12_number (nx := 35) (r := []) rfl rfl rfl rfl rfl rfl rfl (c_n_fails hI (4) (Int.le_trans (by decide : (2:Int) ≤ 4) (by decide : (4:Int) ≤ (4:Int32).toInt)) (Int.le_trans (by decide : (4:Int32).toInt ≤ (4:Int)) (by decide : (4:Int) ≤ 7))) rfl hX rfl (fun w64 gi64 gl64 gr64 l64 u64 hI hX hC64 q64 => ?_)
                            have q64 : (∀ (b : Nat → Int32) (n q : Nat), t_TM b n q gi52 → (gi52 69 18).toInt = 0 → t_MF gi64 (s_fk b n q 4) (s_F b n q)) ∧ w64.toInt = 0 := q64
                            refine ev_retK1 f_X12_number rfl rfl (t_rz l64 (Int.le_trans u64 (by decide : (0:Int) ≤ 1))) ?_
                            refine ev_t f_X12_passes (t1 := 74) (t2 := 70) rfl rfl rfl (t_eqT u64 l64 (by decide : (0:Int32).toInt ≤ (0:Int)) (by decide : (0:Int) ≤ (0:Int32).toInt)) ?_
                            refine ev_ic f_X12_passes (nx := 75) (v := 0) rfl (by decide) rfl ?_
                            refine ev_retK1 f_X12_passes rfl rfl rfl ?_
                            refine ev_t f_X12_aCart (t1 := 61) (t2 := 63) rfl rfl rfl (by decide) ?_
                            refine ev_ic f_X12_aCart (nx := 62) (v := 0) rfl (by decide) rfl ?_
                            exact ev_ret f_X12_aCart rfl rfl rfl ⟨_, _, _, rfl, hI, hX, ⟨_, rfl, (by decide : (0:Int) ≤ (0:Int32).toInt), (Int.le_trans (by decide : (0:Int32).toInt ≤ (0:Int)) (by decide : (0:Int) ≤ 1)), (show ∀ (b : Nat → Int32) (n q : Nat) (D : s_D), t_MS b n q D gi gl → ((0 : Int) = 1 ∧ ∃ q2 D2, s_cart b n q D = s_ok q2 D2 ∧ t_MS b n q2 D2 gi64 gl64) ∨ ((0 : Int) = 0 ∧ ∃ p x D2, x ≠ 0 ∧ s_cart b n q D = s_bad b n p x D2 ∧ t_MF gi64 (s_fk b n p x) (s_F b n p)) from (by
                                                            intro b n q D h
                                                            have d0 : (gi 70 1402).toInt = D 2 := h.2.1.2.1.1.1.2.2
                                                            have b0 := h.2.1.1.2.2
                                                            have hc0 := t_clamp (i := gi 70 1402) (by omega)
                                                            obtain ⟨_, hN, hU, t1, m1, n1⟩ := (q12 b n q D h).resolve_right (fun hh => by rcases hh with hh | hh <;> exact absurd hh.1 (by omega))
                                                            have m0 := m1
                                                            obtain ⟨_, w1, t1_, m1⟩ := (q17 b n _ t1).resolve_right (fun hh => absurd hh.1 (by omega))
                                                            have k1 := (s_mi_W (i := 8) (by decide)).mp w1
                                                            have v2 := t1_.vT (lo := 0) (hi := 120) (by omega) (by omega) (by omega)
                                                            have t2_ := q33 b n _ (t1_.st e32).S
                                                            obtain ⟨_, w3, t3_, m3⟩ := (q34 b n _ t2_).resolve_right (fun hh => absurd hh.1 (by omega))
                                                            have k3 := (s_mi_W (i := 9) (by decide)).mp w3
                                                            have v4 := t3_.vT (lo := 1) (hi := 20) (by omega) (by omega) (by omega)
                                                            have t4_ := q51 b n _ (t3_.st e50).S
                                                            obtain ⟨_, w5, t5_, m5⟩ := (q52 b n _ t4_).resolve_right (fun hh => absurd hh.1 (by omega))
                                                            have k5 := (s_mi_W (i := 10) (by decide)).mp w5
                                                            have hv := t5_.vF (lo := 0) (hi := 99) (by omega) (by omega)
                                                            exact Or.inr ⟨rfl, _, 4, D, by decide, by simp only [s_cart, s_name, s_kw, s_come, s_num, s_ifF (show ¬ D 2 = 6 by omega), s_ifT hN, s_ifF hU, s_ifT k1, s_ifT v2.1.1, s_ifT v2.1, s_ifT k3, s_ifT v4.1.1, s_ifT v4.1, s_ifT k5, s_ifT hv.1, s_ifF hv.2], q64.1 b n _ t5_ (by rw [m5.1, (hC51.1 69 18 rfl).1, e50, x_up2_ne (by decide), m3.1, (hC33.1 69 18 rfl).1, e32, x_up2_ne (by decide), m1.1, m0.1]; exact h.2.2.1)⟩))⟩⟩
                          · have l65 : 0 ≤ (gi52 69 15).toInt := t_lel (t_nlt h62) (by decide : (0:Int) ≤ (0:Int32).toInt)
                            refine ev_loc f_X12_number (nx := 23) rfl rfl rfl rfl ?_
                            refine ev_gvI f_X12_number (nx := 26) (w := (gi52 69 15)) rfl (hI.wf.s rfl) rfl rfl rfl rfl ?_
                            refine ev_loc f_X12_number (nx := 27) rfl rfl rfl rfl ?_
                            refine ev_if f_X12_number (t1 := 36) (t2 := 30) rfl rfl rfl (fun h66 => ?_) (fun h66 => ?_)
                            · have u67 : (gi52 69 15).toInt ≤ 99 := t_leu h66 (by decide : (99:Int32).toInt ≤ (99:Int))
                              refine ev_loc f_X12_number (nx := 37) rfl rfl rfl rfl ?_
                              refine ev_getR f_X12_number (nx := 40) rfl (hI.wf.s rfl) rfl rfl (hI.wf.r rfl) rfl rfl ?_
                              refine ev_loc f_X12_number (nx := 41) rfl rfl rfl rfl ?_
                              refine ev_loc f_X12_number (nx := 42) rfl rfl rfl rfl ?_
                              refine ev_gvI f_X12_number (nx := 45) (w := (gi52 69 15)) rfl (hI.wf.s rfl) rfl rfl rfl rfl ?_
                              refine ev_iastT f_X12_number (nx := 46) rfl (hI.wf.s rfl) l57 (by decide) u57 (by decide) rfl (hI.astA (x := (gi 70 1402)) (hI.wf.s rfl) (by decide +kernel : t_abwa 70 1484 3 0 5 0 99 = true) (by omega) (by omega) (by omega) l65 u67 rfl) (hX.upI (t_inR (p := 1484) (m := 1502) rfl l57 (by decide) u57 (by decide) (by decide))) (fun g68 e68 hI hX => ?_)
                              refine ev_loc f_X12_number (nx := 47) rfl rfl rfl rfl ?_
                              refine ev_qN f_X12_number (nx := 50) (r := []) rfl rfl rfl rfl rfl rfl rfl (c_n_ahead hI ) rfl hX rfl (fun gi69 gl69 gr69 hI hX hC69 q69 => ?_)
                              have q69 : ∀ (b : Nat → Int32) (n q : Nat), t_Sm b n q g68 → t_TM b n q gi69 := q69
                              refine ev_ic f_X12_number (nx := 51) (v := 1) rfl (by decide) rfl ?_
                              refine ev_retK1 f_X12_number rfl rfl rfl ?_
                              refine ev_f f_X12_passes (t1 := 74) (t2 := 70) rfl rfl rfl (by decide) ?_
                              refine ev_ic f_X12_passes (nx := 71) (v := 1) rfl (by decide) rfl ?_
                              refine ev_jmp f_X12_passes (nx := 75) rfl rfl rfl ?_
                              refine ev_retK1 f_X12_passes rfl rfl rfl ?_
                              refine ev_f f_X12_aCart (t1 := 61) (t2 := 63) rfl rfl rfl (by decide) ?_
                              refine ev_loc f_X12_aCart (nx := 64) rfl rfl rfl rfl ?_
                              refine ev_getR f_X12_aCart (nx := 67) rfl (hI.wf.s rfl) rfl rfl (hI.wf.r rfl) rfl rfl ?_
                              refine ev_sp f_X12_aCart (nx := 70) (v := 1402) rfl (by decide) rfl ?_
                              refine ev_alu f_X12_aCart (nx := 71) rfl rfl rfl rfl ?_
                              refine ev_ialdv f_X12_aCart (nx := 72) (w := (gi 70 1402)) rfl (hI.wf.s rfl) (by decide) (rfl : (1402 : Int32).toNatClampNeg = 1402) (by decide) ((hC69.1 70 1402 rfl).1.trans ((by rw [e68]; exact x_up2_off (Or.inr (t_neCl l57 (by decide))) : g68 70 1402 = gi52 70 1402).trans ((hC52.1 70 1402 rfl).1.trans ((hC51.1 70 1402 rfl).1.trans ((by rw [e50]; exact x_up2_off (Or.inr (t_neCl l39 (by decide))) : g50 70 1402 = gi34 70 1402).trans ((hC34.1 70 1402 rfl).1.trans ((hC33.1 70 1402 rfl).1.trans ((by rw [e32]; exact x_up2_off (Or.inr (t_neCl l3 (by decide))) : g32 70 1402 = gi17 70 1402).trans ((hC17.1 70 1402 rfl).1.trans ((hC12.1 70 1402 rfl).1.trans rfl)))))))))) rfl ?_
                              refine ev_ic f_X12_aCart (nx := 73) (v := 1) rfl (by decide) rfl ?_
                              refine ev_addC f_X12_aCart (nx := 74) (c := 1) (l := 1) (u := 6) rfl (by decide) l1 u9 rfl rfl (by decide) (by decide) rfl (fun z71 e71 l71 u71 => ?_)
                              refine ev_iastT f_X12_aCart (nx := 75) rfl (hI.wf.s rfl) (by decide : (1402:Int) ≤ (1402:Int32).toInt) (by decide) (by decide : (1402:Int32).toInt ≤ (1402:Int)) (by decide) rfl (hI.astL (hI.wf.s rfl) (by decide +kernel : t_abw 70 1402 1402 1 6 = true) (t_cl1 (by decide : (1402:Int) ≤ (1402:Int32).toInt) (by decide)) (t_cl2 (by decide : (1402:Int) ≤ (1402:Int32).toInt) (by decide : (1402:Int32).toInt ≤ (1402:Int)) (by decide) (by decide)) l71 u71 rfl) (hX.upI (t_inR (p := 1402) (m := 1402) rfl (by decide : (1402:Int) ≤ (1402:Int32).toInt) (by decide) (by decide : (1402:Int32).toInt ≤ (1402:Int)) (by decide) (by decide))) (fun g72 e72 hI hX => ?_)
                              refine ev_ic f_X12_aCart (nx := 76) (v := 1) rfl (by decide) rfl ?_
                              exact ev_ret f_X12_aCart rfl rfl rfl ⟨_, _, _, rfl, hI, hX, ⟨_, rfl, (Int.le_trans (by decide : (0:Int) ≤ 1) (by decide : (1:Int) ≤ (1:Int32).toInt)), (by decide : (1:Int32).toInt ≤ (1:Int)), (show ∀ (b : Nat → Int32) (n q : Nat) (D : s_D), t_MS b n q D gi gl → ((1 : Int) = 1 ∧ ∃ q2 D2, s_cart b n q D = s_ok q2 D2 ∧ t_MS b n q2 D2 g72 gl69) ∨ ((1 : Int) = 0 ∧ ∃ p x D2, x ≠ 0 ∧ s_cart b n q D = s_bad b n p x D2 ∧ t_MF g72 (s_fk b n p x) (s_F b n p)) from (by
                                                            intro b n q D h
                                                            have d0 : (gi 70 1402).toInt = D 2 := h.2.1.2.1.1.1.2.2
                                                            have b0 := h.2.1.1.2.2
                                                            have hc0 := t_clamp (i := gi 70 1402) (by omega)
                                                            obtain ⟨_, hN, hU, t1, m1, n1⟩ := (q12 b n q D h).resolve_right (fun hh => by rcases hh with hh | hh <;> exact absurd hh.1 (by omega))
                                                            have m0 := m1
                                                            obtain ⟨_, w1, t1_, m1⟩ := (q17 b n _ t1).resolve_right (fun hh => absurd hh.1 (by omega))
                                                            have k1 := (s_mi_W (i := 8) (by decide)).mp w1
                                                            have v2 := t1_.vT (lo := 0) (hi := 120) (by omega) (by omega) (by omega)
                                                            have t2_ := q33 b n _ (t1_.st e32).S
                                                            obtain ⟨_, w3, t3_, m3⟩ := (q34 b n _ t2_).resolve_right (fun hh => absurd hh.1 (by omega))
                                                            have k3 := (s_mi_W (i := 9) (by decide)).mp w3
                                                            have v4 := t3_.vT (lo := 1) (hi := 20) (by omega) (by omega) (by omega)
                                                            have t4_ := q51 b n _ (t3_.st e50).S
                                                            obtain ⟨_, w5, t5_, m5⟩ := (q52 b n _ t4_).resolve_right (fun hh => absurd hh.1 (by omega))
                                                            have k5 := (s_mi_W (i := 10) (by decide)).mp w5
                                                            have v6 := t5_.vT (lo := 0) (hi := 99) (by omega) (by omega) (by omega)
                                                            have t6_ := q69 b n _ (t5_.st e68).S
                                                            have cl0_ := t_clamp (i := z3) (by omega)
                                                            have cl1_ := t_clamp (i := z39) (by omega)
                                                            have cl2_ := t_clamp (i := z57) (by omega)
                                                            have kc1402_ : (1402 : Int32).toNatClampNeg = 1402 := rfl
                                                            have hz0 := t_clamp (i := z11) (by omega)
                                                            have y0 : g72 70 (1482 + 3 * (gi 70 1402).toNatClampNeg) = (gi17 69 15) := by
                                                              rw [e72, x_up2_off (Or.inr (by omega)), (hC69.1 70 _ rfl).1, e68, x_up2_off (Or.inr (by omega)), (hC52.1 70 _ rfl).1, (hC51.1 70 _ rfl).1, e50, x_up2_off (Or.inr (by omega)), (hC34.1 70 _ rfl).1, (hC33.1 70 _ rfl).1, e32]
                                                              rw [show 1482 + 3 * (gi 70 1402).toNatClampNeg = z3.toNatClampNeg from (by omega), x_up2_at]
                                                            have y1 : g72 70 (1483 + 3 * (gi 70 1402).toNatClampNeg) = (gi34 69 15) := by
                                                              rw [e72, x_up2_off (Or.inr (by omega)), (hC69.1 70 _ rfl).1, e68, x_up2_off (Or.inr (by omega)), (hC52.1 70 _ rfl).1, (hC51.1 70 _ rfl).1, e50]
                                                              rw [show 1483 + 3 * (gi 70 1402).toNatClampNeg = z39.toNatClampNeg from (by omega), x_up2_at]
                                                            have y2 : g72 70 (1484 + 3 * (gi 70 1402).toNatClampNeg) = (gi52 69 15) := by
                                                              rw [e72, x_up2_off (Or.inr (by omega)), (hC69.1 70 _ rfl).1, e68]
                                                              rw [show 1484 + 3 * (gi 70 1402).toNatClampNeg = z57.toNatClampNeg from (by omega), x_up2_at]
                                                            have yr : ∀ j, j ≠ 1402 → (j < 1482 + 3 * (gi 70 1402).toNatClampNeg ∨ 1485 + 3 * (gi 70 1402).toNatClampNeg ≤ j) → g72 70 j = gi 70 j := fun j j1 j2 => by
                                                              rw [e72, x_up2_off (Or.inr (by omega)), (hC69.1 70 _ rfl).1, e68, x_up2_off (Or.inr (by omega)), (hC52.1 70 _ rfl).1, (hC51.1 70 _ rfl).1, e50, x_up2_off (Or.inr (by omega)), (hC34.1 70 _ rfl).1, (hC33.1 70 _ rfl).1, e32, x_up2_off (Or.inr (by omega)), (hC17.1 70 _ rfl).1, (hC12.1 70 _ rfl).1]
                                                            have yc : (g72 70 1402).toInt = D 2 + 1 := by
                                                              rw [e72, kc1402_, x_up2_at]; omega
                                                            have yl : ∀ j : Nat, gl69 71 j = gl12 71 j := fun j => by rw [(hC69.1 71 j rfl).2.1, (hC52.1 71 j rfl).2.1, (hC51.1 71 j rfl).2.1, (hC34.1 71 j rfl).2.1, (hC33.1 71 j rfl).2.1, (hC17.1 71 j rfl).2.1]
                                                            exact Or.inl ⟨rfl, _, _, by simp only [s_cart, s_name, s_kw, s_come, s_num, s_ifF (show ¬ D 2 = 6 by omega), s_ifT hN, s_ifF hU, s_ifT k1, s_ifT v2.1.1, s_ifT v2.1, s_ifT k3, s_ifT v4.1.1, s_ifT v4.1, s_ifT k5, s_ifT v6.1.1, s_ifT v6.1], t_MS_cart h (by omega) hN (t6_.st e72) ⟨by rw [e72, x_up2_ne (by decide), (hC69.1 69 18 rfl).1, e68, x_up2_ne (by decide), m5.1, (hC51.1 69 18 rfl).1, e50, x_up2_ne (by decide), m3.1, (hC33.1 69 18 rfl).1, e32, x_up2_ne (by decide), m1.1, m0.1], by rw [e72, x_up2_ne (by decide), (hC69.1 69 17 rfl).1, e68, x_up2_ne (by decide), m5.2, (hC51.1 69 17 rfl).1, e50, x_up2_ne (by decide), m3.2, (hC33.1 69 17 rfl).1, e32, x_up2_ne (by decide), m1.2, m0.2]⟩ (d := (gi 70 1402).toNatClampNeg) (by omega) yr yc ((congrArg Int32.toInt y0).trans v2.2) ((congrArg Int32.toInt y1).trans v4.2) ((congrArg Int32.toInt y2).trans v6.2) (fun j => by rw [yl, n1 j, show 72 + z11.toNatClampNeg = 84 + (gi 70 1402).toNatClampNeg from (by omega)]) (by rw [e72, x_up2_ne (by decide), (hC69.1 69 20 rfl).1, e68, x_up2_ne (by decide), (hC52.1 69 20 rfl).1, (hC51.1 69 20 rfl).1, e50, x_up2_ne (by decide), (hC34.1 69 20 rfl).1, (hC33.1 69 20 rfl).1, e32, x_up2_ne (by decide), (hC17.1 69 20 rfl).1, (hC12.1 69 20 rfl).1])⟩))⟩⟩
                            · have l73 : 100 ≤ (gi52 69 15).toInt := t_ltl (t_nle h66) (by decide : (99:Int) ≤ (99:Int32).toInt) rfl
                              refine ev_loc f_X12_number (nx := 31) rfl rfl rfl rfl ?_
                              refine ev_ic f_X12_number (nx := 32) (v := 4) rfl (by decide) rfl ?_
                              refine ev_qI f_X12_number (nx := 35) (r := []) rfl rfl rfl rfl rfl rfl rfl (c_n_fails hI (4) (Int.le_trans (by decide : (2:Int) ≤ 4) (by decide : (4:Int) ≤ (4:Int32).toInt)) (Int.le_trans (by decide : (4:Int32).toInt ≤ (4:Int)) (by decide : (4:Int) ≤ 7))) rfl hX rfl (fun w74 gi74 gl74 gr74 l74 u74 hI hX hC74 q74 => ?_)
                              have q74 : (∀ (b : Nat → Int32) (n q : Nat), t_TM b n q gi52 → (gi52 69 18).toInt = 0 → t_MF gi74 (s_fk b n q 4) (s_F b n q)) ∧ w74.toInt = 0 := q74
                              refine ev_retK1 f_X12_number rfl rfl (t_rz l74 (Int.le_trans u74 (by decide : (0:Int) ≤ 1))) ?_
                              refine ev_t f_X12_passes (t1 := 74) (t2 := 70) rfl rfl rfl (t_eqT u74 l74 (by decide : (0:Int32).toInt ≤ (0:Int)) (by decide : (0:Int) ≤ (0:Int32).toInt)) ?_
                              refine ev_ic f_X12_passes (nx := 75) (v := 0) rfl (by decide) rfl ?_
                              refine ev_retK1 f_X12_passes rfl rfl rfl ?_
                              refine ev_t f_X12_aCart (t1 := 61) (t2 := 63) rfl rfl rfl (by decide) ?_
                              refine ev_ic f_X12_aCart (nx := 62) (v := 0) rfl (by decide) rfl ?_
                              exact ev_ret f_X12_aCart rfl rfl rfl ⟨_, _, _, rfl, hI, hX, ⟨_, rfl, (by decide : (0:Int) ≤ (0:Int32).toInt), (Int.le_trans (by decide : (0:Int32).toInt ≤ (0:Int)) (by decide : (0:Int) ≤ 1)), (show ∀ (b : Nat → Int32) (n q : Nat) (D : s_D), t_MS b n q D gi gl → ((0 : Int) = 1 ∧ ∃ q2 D2, s_cart b n q D = s_ok q2 D2 ∧ t_MS b n q2 D2 gi74 gl74) ∨ ((0 : Int) = 0 ∧ ∃ p x D2, x ≠ 0 ∧ s_cart b n q D = s_bad b n p x D2 ∧ t_MF gi74 (s_fk b n p x) (s_F b n p)) from (by
                                                            intro b n q D h
                                                            have d0 : (gi 70 1402).toInt = D 2 := h.2.1.2.1.1.1.2.2
                                                            have b0 := h.2.1.1.2.2
                                                            have hc0 := t_clamp (i := gi 70 1402) (by omega)
                                                            obtain ⟨_, hN, hU, t1, m1, n1⟩ := (q12 b n q D h).resolve_right (fun hh => by rcases hh with hh | hh <;> exact absurd hh.1 (by omega))
                                                            have m0 := m1
                                                            obtain ⟨_, w1, t1_, m1⟩ := (q17 b n _ t1).resolve_right (fun hh => absurd hh.1 (by omega))
                                                            have k1 := (s_mi_W (i := 8) (by decide)).mp w1
                                                            have v2 := t1_.vT (lo := 0) (hi := 120) (by omega) (by omega) (by omega)
                                                            have t2_ := q33 b n _ (t1_.st e32).S
                                                            obtain ⟨_, w3, t3_, m3⟩ := (q34 b n _ t2_).resolve_right (fun hh => absurd hh.1 (by omega))
                                                            have k3 := (s_mi_W (i := 9) (by decide)).mp w3
                                                            have v4 := t3_.vT (lo := 1) (hi := 20) (by omega) (by omega) (by omega)
                                                            have t4_ := q51 b n _ (t3_.st e50).S
                                                            obtain ⟨_, w5, t5_, m5⟩ := (q52 b n _ t4_).resolve_right (fun hh => absurd hh.1 (by omega))
                                                            have k5 := (s_mi_W (i := 10) (by decide)).mp w5
                                                            have hv := t5_.vF (lo := 0) (hi := 99) (by omega) (by omega)
                                                            exact Or.inr ⟨rfl, _, 4, D, by decide, by simp only [s_cart, s_name, s_kw, s_come, s_num, s_ifF (show ¬ D 2 = 6 by omega), s_ifT hN, s_ifF hU, s_ifT k1, s_ifT v2.1.1, s_ifT v2.1, s_ifT k3, s_ifT v4.1.1, s_ifT v4.1, s_ifT k5, s_ifT hv.1, s_ifF hv.2], q74.1 b n _ t5_ (by rw [m5.1, (hC51.1 69 18 rfl).1, e50, x_up2_ne (by decide), m3.1, (hC33.1 69 18 rfl).1, e32, x_up2_ne (by decide), m1.1, m0.1]; exact h.2.2.1)⟩))⟩⟩
                        · have r75 : (gi52 69 12).toInt ≠ 3 := fun e => h59 (Int32.toInt_inj.mp (e.trans (by decide : (3:Int) = (3 : Int32).toInt)))
                          refine ev_loc f_X12_number (nx := 9) rfl rfl rfl rfl ?_
                          refine ev_ic f_X12_number (nx := 10) (v := 2) rfl (by decide) rfl ?_
                          refine ev_qI f_X12_number (nx := 13) (r := []) rfl rfl rfl rfl rfl rfl rfl (c_n_fails hI (2) (by decide : (2:Int) ≤ (2:Int32).toInt) (Int.le_trans (by decide : (2:Int32).toInt ≤ (2:Int)) (by decide : (2:Int) ≤ 7))) rfl hX rfl (fun w76 gi76 gl76 gr76 l76 u76 hI hX hC76 q76 => ?_)
                          have q76 : (∀ (b : Nat → Int32) (n q : Nat), t_TM b n q gi52 → (gi52 69 18).toInt = 0 → t_MF gi76 (s_fk b n q 2) (s_F b n q)) ∧ w76.toInt = 0 := q76
                          refine ev_retK1 f_X12_number rfl rfl (t_rz l76 (Int.le_trans u76 (by decide : (0:Int) ≤ 1))) ?_
                          refine ev_t f_X12_passes (t1 := 74) (t2 := 70) rfl rfl rfl (t_eqT u76 l76 (by decide : (0:Int32).toInt ≤ (0:Int)) (by decide : (0:Int) ≤ (0:Int32).toInt)) ?_
                          refine ev_ic f_X12_passes (nx := 75) (v := 0) rfl (by decide) rfl ?_
                          refine ev_retK1 f_X12_passes rfl rfl rfl ?_
                          refine ev_t f_X12_aCart (t1 := 61) (t2 := 63) rfl rfl rfl (by decide) ?_
                          refine ev_ic f_X12_aCart (nx := 62) (v := 0) rfl (by decide) rfl ?_
                          exact ev_ret f_X12_aCart rfl rfl rfl ⟨_, _, _, rfl, hI, hX, ⟨_, rfl, (by decide : (0:Int) ≤ (0:Int32).toInt), (Int.le_trans (by decide : (0:Int32).toInt ≤ (0:Int)) (by decide : (0:Int) ≤ 1)), (show ∀ (b : Nat → Int32) (n q : Nat) (D : s_D), t_MS b n q D gi gl → ((0 : Int) = 1 ∧ ∃ q2 D2, s_cart b n q D = s_ok q2 D2 ∧ t_MS b n q2 D2 gi76 gl76) ∨ ((0 : Int) = 0 ∧ ∃ p x D2, x ≠ 0 ∧ s_cart b n q D = s_bad b n p x D2 ∧ t_MF gi76 (s_fk b n p x) (s_F b n p)) from (by
                                                            intro b n q D h
                                                            have d0 : (gi 70 1402).toInt = D 2 := h.2.1.2.1.1.1.2.2
                                                            have b0 := h.2.1.1.2.2
                                                            have hc0 := t_clamp (i := gi 70 1402) (by omega)
                                                            obtain ⟨_, hN, hU, t1, m1, n1⟩ := (q12 b n q D h).resolve_right (fun hh => by rcases hh with hh | hh <;> exact absurd hh.1 (by omega))
                                                            have m0 := m1
                                                            obtain ⟨_, w1, t1_, m1⟩ := (q17 b n _ t1).resolve_right (fun hh => absurd hh.1 (by omega))
                                                            have k1 := (s_mi_W (i := 8) (by decide)).mp w1
                                                            have v2 := t1_.vT (lo := 0) (hi := 120) (by omega) (by omega) (by omega)
                                                            have t2_ := q33 b n _ (t1_.st e32).S
                                                            obtain ⟨_, w3, t3_, m3⟩ := (q34 b n _ t2_).resolve_right (fun hh => absurd hh.1 (by omega))
                                                            have k3 := (s_mi_W (i := 9) (by decide)).mp w3
                                                            have v4 := t3_.vT (lo := 1) (hi := 20) (by omega) (by omega) (by omega)
                                                            have t4_ := q51 b n _ (t3_.st e50).S
                                                            obtain ⟨_, w5, t5_, m5⟩ := (q52 b n _ t4_).resolve_right (fun hh => absurd hh.1 (by omega))
                                                            have k5 := (s_mi_W (i := 10) (by decide)).mp w5
                                                            exact Or.inr ⟨rfl, _, 2, D, by decide, by simp only [s_cart, s_name, s_kw, s_come, s_num, s_ifF (show ¬ D 2 = 6 by omega), s_ifT hN, s_ifF hU, s_ifT k1, s_ifT v2.1.1, s_ifT v2.1, s_ifT k3, s_ifT v4.1.1, s_ifT v4.1, s_ifT k5, s_ifF (t5_.vK (by omega))], q76.1 b n _ t5_ (by rw [m5.1, (hC51.1 69 18 rfl).1, e50, x_up2_ne (by decide), m3.1, (hC33.1 69 18 rfl).1, e32, x_up2_ne (by decide), m1.1, m0.1]; exact h.2.2.1)⟩))⟩⟩
                    · have l77 : 21 ≤ (gi34 69 15).toInt := t_ltl (t_nle h48) (by decide : (20:Int) ≤ (20:Int32).toInt) rfl
                      refine ev_loc f_X12_number (nx := 31) rfl rfl rfl rfl ?_
                      refine ev_ic f_X12_number (nx := 32) (v := 4) rfl (by decide) rfl ?_
                      refine ev_qI f_X12_number (nx := 35) (r := []) rfl rfl rfl rfl rfl rfl rfl (c_n_fails hI (4) (Int.le_trans (by decide : (2:Int) ≤ 4) (by decide : (4:Int) ≤ (4:Int32).toInt)) (Int.le_trans (by decide : (4:Int32).toInt ≤ (4:Int)) (by decide : (4:Int) ≤ 7))) rfl hX rfl (fun w78 gi78 gl78 gr78 l78 u78 hI hX hC78 q78 => ?_)
                      have q78 : (∀ (b : Nat → Int32) (n q : Nat), t_TM b n q gi34 → (gi34 69 18).toInt = 0 → t_MF gi78 (s_fk b n q 4) (s_F b n q)) ∧ w78.toInt = 0 := q78
                      refine ev_retK1 f_X12_number rfl rfl (t_rz l78 (Int.le_trans u78 (by decide : (0:Int) ≤ 1))) ?_
                      refine ev_t f_X12_passes (t1 := 74) (t2 := 46) rfl rfl rfl (t_eqT u78 l78 (by decide : (0:Int32).toInt ≤ (0:Int)) (by decide : (0:Int) ≤ (0:Int32).toInt)) ?_
                      refine ev_ic f_X12_passes (nx := 75) (v := 0) rfl (by decide) rfl ?_
                      refine ev_retK1 f_X12_passes rfl rfl rfl ?_
                      refine ev_t f_X12_aCart (t1 := 61) (t2 := 63) rfl rfl rfl (by decide) ?_
                      refine ev_ic f_X12_aCart (nx := 62) (v := 0) rfl (by decide) rfl ?_
                      exact ev_ret f_X12_aCart rfl rfl rfl ⟨_, _, _, rfl, hI, hX, ⟨_, rfl, (by decide : (0:Int) ≤ (0:Int32).toInt), (Int.le_trans (by decide : (0:Int32).toInt ≤ (0:Int)) (by decide : (0:Int) ≤ 1)), (show ∀ (b : Nat → Int32) (n q : Nat) (D : s_D), t_MS b n q D gi gl → ((0 : Int) = 1 ∧ ∃ q2 D2, s_cart b n q D = s_ok q2 D2 ∧ t_MS b n q2 D2 gi78 gl78) ∨ ((0 : Int) = 0 ∧ ∃ p x D2, x ≠ 0 ∧ s_cart b n q D = s_bad b n p x D2 ∧ t_MF gi78 (s_fk b n p x) (s_F b n p)) from (by
                                                            intro b n q D h
                                                            have d0 : (gi 70 1402).toInt = D 2 := h.2.1.2.1.1.1.2.2
                                                            have b0 := h.2.1.1.2.2
                                                            have hc0 := t_clamp (i := gi 70 1402) (by omega)
                                                            obtain ⟨_, hN, hU, t1, m1, n1⟩ := (q12 b n q D h).resolve_right (fun hh => by rcases hh with hh | hh <;> exact absurd hh.1 (by omega))
                                                            have m0 := m1
                                                            obtain ⟨_, w1, t1_, m1⟩ := (q17 b n _ t1).resolve_right (fun hh => absurd hh.1 (by omega))
                                                            have k1 := (s_mi_W (i := 8) (by decide)).mp w1
                                                            have v2 := t1_.vT (lo := 0) (hi := 120) (by omega) (by omega) (by omega)
                                                            have t2_ := q33 b n _ (t1_.st e32).S
                                                            obtain ⟨_, w3, t3_, m3⟩ := (q34 b n _ t2_).resolve_right (fun hh => absurd hh.1 (by omega))
                                                            have k3 := (s_mi_W (i := 9) (by decide)).mp w3
                                                            have hv := t3_.vF (lo := 1) (hi := 20) (by omega) (by omega)
                                                            exact Or.inr ⟨rfl, _, 4, D, by decide, by simp only [s_cart, s_name, s_kw, s_come, s_num, s_ifF (show ¬ D 2 = 6 by omega), s_ifT hN, s_ifF hU, s_ifT k1, s_ifT v2.1.1, s_ifT v2.1, s_ifT k3, s_ifT hv.1, s_ifF hv.2], q78.1 b n _ t3_ (by rw [m3.1, (hC33.1 69 18 rfl).1, e32, x_up2_ne (by decide), m1.1, m0.1]; exact h.2.2.1)⟩))⟩⟩
                · have r79 : (gi34 69 12).toInt ≠ 3 := fun e => h41 (Int32.toInt_inj.mp (e.trans (by decide : (3:Int) = (3 : Int32).toInt)))
                  refine ev_loc f_X12_number (nx := 9) rfl rfl rfl rfl ?_
                  refine ev_ic f_X12_number (nx := 10) (v := 2) rfl (by decide) rfl ?_
                  refine ev_qI f_X12_number (nx := 13) (r := []) rfl rfl rfl rfl rfl rfl rfl (c_n_fails hI (2) (by decide : (2:Int) ≤ (2:Int32).toInt) (Int.le_trans (by decide : (2:Int32).toInt ≤ (2:Int)) (by decide : (2:Int) ≤ 7))) rfl hX rfl (fun w80 gi80 gl80 gr80 l80 u80 hI hX hC80 q80 => ?_)
                  have q80 : (∀ (b : Nat → Int32) (n q : Nat), t_TM b n q gi34 → (gi34 69 18).toInt = 0 → t_MF gi80 (s_fk b n q 2) (s_F b n q)) ∧ w80.toInt = 0 := q80
                  refine ev_retK1 f_X12_number rfl rfl (t_rz l80 (Int.le_trans u80 (by decide : (0:Int) ≤ 1))) ?_
                  refine ev_t f_X12_passes (t1 := 74) (t2 := 46) rfl rfl rfl (t_eqT u80 l80 (by decide : (0:Int32).toInt ≤ (0:Int)) (by decide : (0:Int) ≤ (0:Int32).toInt)) ?_
                  refine ev_ic f_X12_passes (nx := 75) (v := 0) rfl (by decide) rfl ?_
                  refine ev_retK1 f_X12_passes rfl rfl rfl ?_
                  refine ev_t f_X12_aCart (t1 := 61) (t2 := 63) rfl rfl rfl (by decide) ?_
                  refine ev_ic f_X12_aCart (nx := 62) (v := 0) rfl (by decide) rfl ?_
                  exact ev_ret f_X12_aCart rfl rfl rfl ⟨_, _, _, rfl, hI, hX, ⟨_, rfl, (by decide : (0:Int) ≤ (0:Int32).toInt), (Int.le_trans (by decide : (0:Int32).toInt ≤ (0:Int)) (by decide : (0:Int) ≤ 1)), (show ∀ (b : Nat → Int32) (n q : Nat) (D : s_D), t_MS b n q D gi gl → ((0 : Int) = 1 ∧ ∃ q2 D2, s_cart b n q D = s_ok q2 D2 ∧ t_MS b n q2 D2 gi80 gl80) ∨ ((0 : Int) = 0 ∧ ∃ p x D2, x ≠ 0 ∧ s_cart b n q D = s_bad b n p x D2 ∧ t_MF gi80 (s_fk b n p x) (s_F b n p)) from (by
                                                            intro b n q D h
                                                            have d0 : (gi 70 1402).toInt = D 2 := h.2.1.2.1.1.1.2.2
                                                            have b0 := h.2.1.1.2.2
                                                            have hc0 := t_clamp (i := gi 70 1402) (by omega)
                                                            obtain ⟨_, hN, hU, t1, m1, n1⟩ := (q12 b n q D h).resolve_right (fun hh => by rcases hh with hh | hh <;> exact absurd hh.1 (by omega))
                                                            have m0 := m1
                                                            obtain ⟨_, w1, t1_, m1⟩ := (q17 b n _ t1).resolve_right (fun hh => absurd hh.1 (by omega))
                                                            have k1 := (s_mi_W (i := 8) (by decide)).mp w1
                                                            have v2 := t1_.vT (lo := 0) (hi := 120) (by omega) (by omega) (by omega)
                                                            have t2_ := q33 b n _ (t1_.st e32).S
                                                            obtain ⟨_, w3, t3_, m3⟩ := (q34 b n _ t2_).resolve_right (fun hh => absurd hh.1 (by omega))
                                                            have k3 := (s_mi_W (i := 9) (by decide)).mp w3
                                                            exact Or.inr ⟨rfl, _, 2, D, by decide, by simp only [s_cart, s_name, s_kw, s_come, s_num, s_ifF (show ¬ D 2 = 6 by omega), s_ifT hN, s_ifF hU, s_ifT k1, s_ifT v2.1.1, s_ifT v2.1, s_ifT k3, s_ifF (t3_.vK (by omega))], q80.1 b n _ t3_ (by rw [m3.1, (hC33.1 69 18 rfl).1, e32, x_up2_ne (by decide), m1.1, m0.1]; exact h.2.2.1)⟩))⟩⟩
            · have l81 : 121 ≤ (gi17 69 15).toInt := t_ltl (t_nle h30) (by decide : (120:Int) ≤ (120:Int32).toInt) rfl
              refine ev_loc f_X12_number (nx := 31) rfl rfl rfl rfl ?_
              refine ev_ic f_X12_number (nx := 32) (v := 4) rfl (by decide) rfl ?_
              refine ev_qI f_X12_number (nx := 35) (r := []) rfl rfl rfl rfl rfl rfl rfl (c_n_fails hI (4) (Int.le_trans (by decide : (2:Int) ≤ 4) (by decide : (4:Int) ≤ (4:Int32).toInt)) (Int.le_trans (by decide : (4:Int32).toInt ≤ (4:Int)) (by decide : (4:Int) ≤ 7))) rfl hX rfl (fun w82 gi82 gl82 gr82 l82 u82 hI hX hC82 q82 => ?_)
              have q82 : (∀ (b : Nat → Int32) (n q : Nat), t_TM b n q gi17 → (gi17 69 18).toInt = 0 → t_MF gi82 (s_fk b n q 4) (s_F b n q)) ∧ w82.toInt = 0 := q82
              refine ev_retK1 f_X12_number rfl rfl (t_rz l82 (Int.le_trans u82 (by decide : (0:Int) ≤ 1))) ?_
              refine ev_t f_X12_passes (t1 := 74) (t2 := 22) rfl rfl rfl (t_eqT u82 l82 (by decide : (0:Int32).toInt ≤ (0:Int)) (by decide : (0:Int) ≤ (0:Int32).toInt)) ?_
              refine ev_ic f_X12_passes (nx := 75) (v := 0) rfl (by decide) rfl ?_
              refine ev_retK1 f_X12_passes rfl rfl rfl ?_
              refine ev_t f_X12_aCart (t1 := 61) (t2 := 63) rfl rfl rfl (by decide) ?_
              refine ev_ic f_X12_aCart (nx := 62) (v := 0) rfl (by decide) rfl ?_
              exact ev_ret f_X12_aCart rfl rfl rfl ⟨_, _, _, rfl, hI, hX, ⟨_, rfl, (by decide : (0:Int) ≤ (0:Int32).toInt), (Int.le_trans (by decide : (0:Int32).toInt ≤ (0:Int)) (by decide : (0:Int) ≤ 1)), (show ∀ (b : Nat → Int32) (n q : Nat) (D : s_D), t_MS b n q D gi gl → ((0 : Int) = 1 ∧ ∃ q2 D2, s_cart b n q D = s_ok q2 D2 ∧ t_MS b n q2 D2 gi82 gl82) ∨ ((0 : Int) = 0 ∧ ∃ p x D2, x ≠ 0 ∧ s_cart b n q D = s_bad b n p x D2 ∧ t_MF gi82 (s_fk b n p x) (s_F b n p)) from (by
                                                            intro b n q D h
                                                            have d0 : (gi 70 1402).toInt = D 2 := h.2.1.2.1.1.1.2.2
                                                            have b0 := h.2.1.1.2.2
                                                            have hc0 := t_clamp (i := gi 70 1402) (by omega)
                                                            obtain ⟨_, hN, hU, t1, m1, n1⟩ := (q12 b n q D h).resolve_right (fun hh => by rcases hh with hh | hh <;> exact absurd hh.1 (by omega))
                                                            have m0 := m1
                                                            obtain ⟨_, w1, t1_, m1⟩ := (q17 b n _ t1).resolve_right (fun hh => absurd hh.1 (by omega))
                                                            have k1 := (s_mi_W (i := 8) (by decide)).mp w1
                                                            have hv := t1_.vF (lo := 0) (hi := 120) (by omega) (by omega)
                                                            exact Or.inr ⟨rfl, _, 4, D, by decide, by simp only [s_cart, s_name, s_kw, s_come, s_num, s_ifF (show ¬ D 2 = 6 by omega), s_ifT hN, s_ifF hU, s_ifT k1, s_ifT hv.1, s_ifF hv.2], q82.1 b n _ t1_ (by rw [m1.1, m0.1]; exact h.2.2.1)⟩))⟩⟩
        · have r83 : (gi17 69 12).toInt ≠ 3 := fun e => h23 (Int32.toInt_inj.mp (e.trans (by decide : (3:Int) = (3 : Int32).toInt)))
          refine ev_loc f_X12_number (nx := 9) rfl rfl rfl rfl ?_
          refine ev_ic f_X12_number (nx := 10) (v := 2) rfl (by decide) rfl ?_
          refine ev_qI f_X12_number (nx := 13) (r := []) rfl rfl rfl rfl rfl rfl rfl (c_n_fails hI (2) (by decide : (2:Int) ≤ (2:Int32).toInt) (Int.le_trans (by decide : (2:Int32).toInt ≤ (2:Int)) (by decide : (2:Int) ≤ 7))) rfl hX rfl (fun w84 gi84 gl84 gr84 l84 u84 hI hX hC84 q84 => ?_)
          have q84 : (∀ (b : Nat → Int32) (n q : Nat), t_TM b n q gi17 → (gi17 69 18).toInt = 0 → t_MF gi84 (s_fk b n q 2) (s_F b n q)) ∧ w84.toInt = 0 := q84
          refine ev_retK1 f_X12_number rfl rfl (t_rz l84 (Int.le_trans u84 (by decide : (0:Int) ≤ 1))) ?_
          refine ev_t f_X12_passes (t1 := 74) (t2 := 22) rfl rfl rfl (t_eqT u84 l84 (by decide : (0:Int32).toInt ≤ (0:Int)) (by decide : (0:Int) ≤ (0:Int32).toInt)) ?_
          refine ev_ic f_X12_passes (nx := 75) (v := 0) rfl (by decide) rfl ?_
          refine ev_retK1 f_X12_passes rfl rfl rfl ?_
          refine ev_t f_X12_aCart (t1 := 61) (t2 := 63) rfl rfl rfl (by decide) ?_
          refine ev_ic f_X12_aCart (nx := 62) (v := 0) rfl (by decide) rfl ?_
          exact ev_ret f_X12_aCart rfl rfl rfl ⟨_, _, _, rfl, hI, hX, ⟨_, rfl, (by decide : (0:Int) ≤ (0:Int32).toInt), (Int.le_trans (by decide : (0:Int32).toInt ≤ (0:Int)) (by decide : (0:Int) ≤ 1)), (show ∀ (b : Nat → Int32) (n q : Nat) (D : s_D), t_MS b n q D gi gl → ((0 : Int) = 1 ∧ ∃ q2 D2, s_cart b n q D = s_ok q2 D2 ∧ t_MS b n q2 D2 gi84 gl84) ∨ ((0 : Int) = 0 ∧ ∃ p x D2, x ≠ 0 ∧ s_cart b n q D = s_bad b n p x D2 ∧ t_MF gi84 (s_fk b n p x) (s_F b n p)) from (by
                                                            intro b n q D h
                                                            have d0 : (gi 70 1402).toInt = D 2 := h.2.1.2.1.1.1.2.2
                                                            have b0 := h.2.1.1.2.2
                                                            have hc0 := t_clamp (i := gi 70 1402) (by omega)
                                                            obtain ⟨_, hN, hU, t1, m1, n1⟩ := (q12 b n q D h).resolve_right (fun hh => by rcases hh with hh | hh <;> exact absurd hh.1 (by omega))
                                                            have m0 := m1
                                                            obtain ⟨_, w1, t1_, m1⟩ := (q17 b n _ t1).resolve_right (fun hh => absurd hh.1 (by omega))
                                                            have k1 := (s_mi_W (i := 8) (by decide)).mp w1
                                                            exact Or.inr ⟨rfl, _, 2, D, by decide, by simp only [s_cart, s_name, s_kw, s_come, s_num, s_ifF (show ¬ D 2 = 6 by omega), s_ifT hN, s_ifF hU, s_ifT k1, s_ifF (t1_.vK (by omega))], q84.1 b n _ t1_ (by rw [m1.1, m0.1]; exact h.2.2.1)⟩))⟩⟩
noncomputable def wl_n_once1 : List (Nat × Nat) := [(69, 12), (69, 13), (69, 14), (69, 15), (69, 17), (69, 18), (69, 20), (70, 140411404)]
noncomputable def Q_n_once1 (gi : Nat → Nat → Int32) (gl : Nat → Nat → Int64) (gr : Nat → Nat → Value) (ar1 : Int32) : Int32 → (Nat → Nat → Int32) → (Nat → Nat → Int64) → (Nat → Nat → Value) → Prop := fun (v : Int32) (gi2 : Nat → Nat → Int32) (gl2 : Nat → Nat → Int64) (gr2 : Nat → Nat → Value) => ∀ (b : Nat → Int32) (n q : Nat) (D : s_D), t_MS b n q D gi gl → (v.toInt = 1 ∧ ∃ q2 D2, s_turns b n q D = s_ok q2 D2 ∧ t_MS b n q2 D2 gi2 gl2) ∨ (v.toInt = 0 ∧ ∃ p x D2, x ≠ 0 ∧ s_turns b n q D = s_bad b n p x D2 ∧ t_MF gi2 (s_fk b n p x) (s_F b n p))
theorem c_n_once1 {X : x_Ext} {d : Nat} {sh : List (Nat ⊕ (Nat × Nat))} {gi : Nat → Nat → Int32} {gl : Nat → Nat → Int64} {gr : Nat → Nat → Value} (hI : t_I sh gi gr) (ar1 : Int32) (l_a1 : 1 ≤ ar1.toInt) (u_a1 : ar1.toInt ≤ 1) : x_Me X (d + 4) n_X12_once [.ref 69, .int ar1] (sh, gi, gl, gr) (t_PI wl_n_once1 sh gi gl gr 0 1 (Q_n_once1 gi gl gr ar1)) := by
  have hX : t_X wl_n_once1 sh gi gl gr gi gl gr := t_X.rf
  refine me_i f_X12_once (hI.wf.s rfl) rfl rfl rfl ?_
  refine ev_loc f_X12_once (nx := 1) rfl rfl rfl rfl ?_
  refine ev_getI f_X12_once (nx := 4) rfl (hI.wf.s rfl) rfl rfl rfl ?_
  refine ev_loc f_X12_once (nx := 5) rfl rfl rfl rfl ?_
  refine ev_anyIE f_X12_once (nx := 6) rfl rfl rfl rfl (fun z1 e1 => ?_)
  refine ev_ic f_X12_once (nx := 7) (v := 1) rfl (by decide) rfl ?_
  refine ev_anyIE f_X12_once (nx := 8) rfl rfl rfl rfl (fun z2 e2 => ?_)
  refine ev_ic f_X12_once (nx := 9) (v := 1) rfl (by decide) rfl ?_
  refine ev_if f_X12_once (t1 := 12) (t2 := 18) rfl rfl rfl (fun h3 => ?_) (fun h3 => ?_)
  · have u4 : z2.toInt ≤ 1 := t_equ h3 (by decide : (1:Int32).toInt ≤ (1:Int))
    have l5 : 1 ≤ z2.toInt := t_eql h3 (by decide : (1:Int) ≤ (1:Int32).toInt)
    refine ev_loc f_X12_once (nx := 13) rfl rfl rfl rfl ?_
    refine ev_ic f_X12_once (nx := 14) (v := 5) rfl (by decide) rfl ?_
    refine ev_qI f_X12_once (nx := 17) (r := []) rfl rfl rfl rfl rfl rfl rfl (c_n_fails hI (5) (Int.le_trans (by decide : (2:Int) ≤ 5) (by decide : (5:Int) ≤ (5:Int32).toInt)) (Int.le_trans (by decide : (5:Int32).toInt ≤ (5:Int)) (by decide : (5:Int) ≤ 7))) rfl hX rfl (fun w6 gi6 gl6 gr6 l6 u6 hI hX hC6 q6 => ?_)
    have q6 : (∀ (b : Nat → Int32) (n q : Nat), t_TM b n q gi → (gi 69 18).toInt = 0 → t_MF gi6 (s_fk b n q 5) (s_F b n q)) ∧ w6.toInt = 0 := q6
    exact ev_retZ f_X12_once rfl l6 (Int.le_trans u6 (by decide : (0:Int) ≤ 1)) ⟨_, _, _, rfl, hI, hX, ⟨_, rfl, l6, (Int.le_trans u6 (by decide : (0:Int) ≤ 1)), (show ∀ (b : Nat → Int32) (n q : Nat) (D : s_D), t_MS b n q D gi gl → (w6.toInt = 1 ∧ ∃ q2 D2, s_turns b n q D = s_ok q2 D2 ∧ t_MS b n q2 D2 gi6 gl6) ∨ (w6.toInt = 0 ∧ ∃ p x D2, x ≠ 0 ∧ s_turns b n q D = s_bad b n p x D2 ∧ t_MF gi6 (s_fk b n p x) (s_F b n p)) from (by
                                                            intro b n q D h
                                                            have hk : ar1.toInt = (0 : Int) + 1 := by omega
                                                            have hbit := t_mtb h.2.1.2.2.2 (x := (gi 69 20)) rfl (kk := 0) hk (by decide) e1 e2
                                                            have hbit : z2.toInt = D 221 := hbit
                                                            exact Or.inr ⟨q6.2, q, 5, D, by decide, by simp only [s_turns, s_ifF (show ¬ D 221 = 0 by omega)], q6.1 b n q h.1 h.2.2.1⟩))⟩⟩
  · have r7 : z2.toInt ≠ 1 := fun e => h3 (Int32.toInt_inj.mp (e.trans (by decide : (1:Int) = (1 : Int32).toInt)))
    refine ev_loc f_X12_once (nx := 19) rfl rfl rfl rfl ?_
    refine ev_alu f_X12_once (nx := 20) rfl rfl rfl rfl ?_
    refine ev_gvI f_X12_once (nx := 23) (w := (gi 69 20)) rfl (hI.wf.s rfl) rfl rfl rfl rfl ?_
    refine ev_ic f_X12_once (nx := 24) (v := 1) rfl (by decide) rfl ?_
    refine ev_loc f_X12_once (nx := 25) rfl rfl rfl rfl ?_
    refine ev_shl1E f_X12_once (nx := 26) rfl l_a1 u_a1 (by decide) (by decide) rfl (fun z8 s8 => ?_)
    have l8 : 2 ≤ z8.toInt := by have := l_a1; have := u_a1; omega
    have u8 : z8.toInt ≤ 2 := by have := l_a1; have := u_a1; omega
    refine ev_anyIE f_X12_once (nx := 27) rfl rfl rfl rfl (fun z9 e9 => ?_)
    refine ev_putIT f_X12_once (nx := 30) rfl (hI.wf.s rfl) rfl rfl rfl (hI.put0 (hI.wf.s rfl) rfl rfl) (hX.upI rfl) (fun g10 e10 hI hX => ?_)
    refine ev_loc f_X12_once (nx := 31) rfl rfl rfl rfl ?_
    refine ev_qN f_X12_once (nx := 34) (r := []) rfl rfl rfl rfl rfl rfl rfl (c_n_ahead hI ) rfl hX rfl (fun gi11 gl11 gr11 hI hX hC11 q11 => ?_)
    have q11 : ∀ (b : Nat → Int32) (n q : Nat), t_Sm b n q g10 → t_TM b n q gi11 := q11
    refine ev_loc f_X12_once (nx := 35) rfl rfl rfl rfl ?_
    refine ev_ic f_X12_once (nx := 36) (v := 1) rfl (by decide) rfl ?_
    refine ev_t f_X12_once (t1 := 39) (t2 := 50) rfl rfl rfl (t_eqT u_a1 l_a1 (by decide : (1:Int32).toInt ≤ (1:Int)) (by decide : (1:Int) ≤ (1:Int32).toInt)) ?_
    refine ev_loc f_X12_once (nx := 40) rfl rfl rfl rfl ?_
    refine ev_sp f_X12_once (nx := 43) (v := 1404) rfl (by decide) rfl ?_
    refine ev_ic f_X12_once (nx := 44) (v := 1) rfl (by decide) rfl ?_
    refine ev_bp f_X12_once (nx := 46) (v := 20) rfl (by decide) rfl ?_
    refine ev_inV4 f_X12_once (nx := 49) (lo2 := [(0, .ref 69), (1, .int 1404), (2, .int 1), (3, .int 20)]) rfl rfl rfl rfl f_X12_number (hI.wf.s rfl) rfl rfl rfl rfl rfl ?_
    refine ev_loc f_X12_number (nx := 1) rfl rfl rfl rfl ?_
    refine ev_getI f_X12_number (nx := 4) rfl (hI.wf.s rfl) rfl rfl rfl ?_
    obtain ⟨l12, u12⟩ := hI.b (hI.wf.s (k := 69) rfl) (t_bdK rfl : t_bd 11 12 = some (0, 4))
    refine ev_ic f_X12_number (nx := 5) (v := 3) rfl (by decide) rfl ?_
    refine ev_if f_X12_number (t1 := 14) (t2 := 8) rfl rfl rfl (fun h13 => ?_) (fun h13 => ?_)
    · have u14 : (gi11 69 12).toInt ≤ 3 := t_equ h13 (by decide : (3:Int32).toInt ≤ (3:Int))
      have l15 : 3 ≤ (gi11 69 12).toInt := t_eql h13 (by decide : (3:Int) ≤ (3:Int32).toInt)
      refine ev_loc f_X12_number (nx := 15) rfl rfl rfl rfl ?_
      refine ev_getI f_X12_number (nx := 18) rfl (hI.wf.s rfl) rfl rfl rfl ?_
      refine ev_loc f_X12_number (nx := 19) rfl rfl rfl rfl ?_
      refine ev_if f_X12_number (t1 := 30) (t2 := 22) rfl rfl rfl (fun h16 => ?_) (fun h16 => ?_)
      · have u17 : (gi11 69 15).toInt ≤ 0 := t_ltu h16 (by decide : (1:Int32).toInt ≤ (1:Int)) rfl
        refine ev_loc f_X12_number (nx := 31) rfl rfl rfl rfl ?_
        refine ev_ic f_X12_number (nx := 32) (v := 4) rfl (by decide) rfl ?_
        refine ev_qI f_X12_number (nx := 35) (r := []) rfl rfl rfl rfl rfl rfl rfl (c_n_fails hI (4) (Int.le_trans (by decide : (2:Int) ≤ 4) (by decide : (4:Int) ≤ (4:Int32).toInt)) (Int.le_trans (by decide : (4:Int32).toInt ≤ (4:Int)) (by decide : (4:Int) ≤ 7))) rfl hX rfl (fun w18 gi18 gl18 gr18 l18 u18 hI hX hC18 q18 => ?_)
        have q18 : (∀ (b : Nat → Int32) (n q : Nat), t_TM b n q gi11 → (gi11 69 18).toInt = 0 → t_MF gi18 (s_fk b n q 4) (s_F b n q)) ∧ w18.toInt = 0 := q18
        refine ev_retK1 f_X12_number rfl rfl (t_rz l18 (Int.le_trans u18 (by decide : (0:Int) ≤ 1))) ?_
        exact ev_retZ f_X12_once rfl l18 (Int.le_trans u18 (by decide : (0:Int) ≤ 1)) ⟨_, _, _, rfl, hI, hX, ⟨_, rfl, l18, (Int.le_trans u18 (by decide : (0:Int) ≤ 1)), (show ∀ (b : Nat → Int32) (n q : Nat) (D : s_D), t_MS b n q D gi gl → (w18.toInt = 1 ∧ ∃ q2 D2, s_turns b n q D = s_ok q2 D2 ∧ t_MS b n q2 D2 gi18 gl18) ∨ (w18.toInt = 0 ∧ ∃ p x D2, x ≠ 0 ∧ s_turns b n q D = s_bad b n p x D2 ∧ t_MF gi18 (s_fk b n p x) (s_F b n p)) from (by
                                                            intro b n q D h
                                                            have hk : ar1.toInt = (0 : Int) + 1 := by omega
                                                            have hbit := t_mtb h.2.1.2.2.2 (x := (gi 69 20)) rfl (kk := 0) hk (by decide) e1 e2
                                                            have hbit : z2.toInt = D 221 := hbit
                                                            have hz : D 221 = 0 := by
                                                              rcases h.2.1.2.2.2.2.1 with e | e
                                                              · exact e
                                                              · rw [e] at hbit; omega
                                                            have t0_ := q11 b n _ (h.1.eq (g1 := g10) (fun j => by rw [e10, x_up2_ne (by decide)]) (fun j j1 j2 => by rw [e10, x_up2_off (Or.inr (by omega))])).S
                                                            have hv := t0_.vF (lo := 1) (hi := 20) (by omega) (by omega)
                                                            exact Or.inr ⟨q18.2, _, 4, D, by decide, by simp only [s_turns, s_num, s_ifT hz, s_ifT hv.1, s_ifF hv.2], q18.1 b n _ t0_ (by rw [(hC11.1 69 18 rfl).1, e10, x_up2_off (Or.inr (by decide))]; exact h.2.2.1)⟩))⟩⟩
      · have l19 : 1 ≤ (gi11 69 15).toInt := t_lel (t_nlt h16) (by decide : (1:Int) ≤ (1:Int32).toInt)
        refine ev_loc f_X12_number (nx := 23) rfl rfl rfl rfl ?_
        refine ev_gvI f_X12_number (nx := 26) (w := (gi11 69 15)) rfl (hI.wf.s rfl) rfl rfl rfl rfl ?_
        refine ev_loc f_X12_number (nx := 27) rfl rfl rfl rfl ?_
        refine ev_if f_X12_number (t1 := 36) (t2 := 30) rfl rfl rfl (fun h20 => ?_) (fun h20 => ?_)
        · have u21 : (gi11 69 15).toInt ≤ 20 := t_leu h20 (by decide : (20:Int32).toInt ≤ (20:Int))
          refine ev_loc f_X12_number (nx := 37) rfl rfl rfl rfl ?_
          refine ev_getR f_X12_number (nx := 40) rfl (hI.wf.s rfl) rfl rfl (hI.wf.r rfl) rfl rfl ?_
          refine ev_loc f_X12_number (nx := 41) rfl rfl rfl rfl ?_
          refine ev_loc f_X12_number (nx := 42) rfl rfl rfl rfl ?_
          refine ev_gvI f_X12_number (nx := 45) (w := (gi11 69 15)) rfl (hI.wf.s rfl) rfl rfl rfl rfl ?_
          refine ev_iastT f_X12_number (nx := 46) rfl (hI.wf.s rfl) (by decide : (1404:Int) ≤ (1404:Int32).toInt) (by decide) (by decide : (1404:Int32).toInt ≤ (1404:Int)) (by decide) rfl (hI.astL (hI.wf.s rfl) (by decide +kernel : t_abw 70 1404 1404 1 20 = true) (t_cl1 (by decide : (1404:Int) ≤ (1404:Int32).toInt) (by decide)) (t_cl2 (by decide : (1404:Int) ≤ (1404:Int32).toInt) (by decide : (1404:Int32).toInt ≤ (1404:Int)) (by decide) (by decide)) l19 u21 rfl) (hX.upI (t_inR (p := 1404) (m := 1404) rfl (by decide : (1404:Int) ≤ (1404:Int32).toInt) (by decide) (by decide : (1404:Int32).toInt ≤ (1404:Int)) (by decide) (by decide))) (fun g22 e22 hI hX => ?_)
          refine ev_loc f_X12_number (nx := 47) rfl rfl rfl rfl ?_
          refine ev_qN f_X12_number (nx := 50) (r := []) rfl rfl rfl rfl rfl rfl rfl (c_n_ahead hI ) rfl hX rfl (fun gi23 gl23 gr23 hI hX hC23 q23 => ?_)
          have q23 : ∀ (b : Nat → Int32) (n q : Nat), t_Sm b n q g22 → t_TM b n q gi23 := q23
          refine ev_ic f_X12_number (nx := 51) (v := 1) rfl (by decide) rfl ?_
          refine ev_retK1 f_X12_number rfl rfl rfl ?_
          exact ev_ret f_X12_once rfl rfl rfl ⟨_, _, _, rfl, hI, hX, ⟨_, rfl, (Int.le_trans (by decide : (0:Int) ≤ 1) (by decide : (1:Int) ≤ (1:Int32).toInt)), (by decide : (1:Int32).toInt ≤ (1:Int)), (show ∀ (b : Nat → Int32) (n q : Nat) (D : s_D), t_MS b n q D gi gl → ((1 : Int) = 1 ∧ ∃ q2 D2, s_turns b n q D = s_ok q2 D2 ∧ t_MS b n q2 D2 gi23 gl23) ∨ ((1 : Int) = 0 ∧ ∃ p x D2, x ≠ 0 ∧ s_turns b n q D = s_bad b n p x D2 ∧ t_MF gi23 (s_fk b n p x) (s_F b n p)) from (by
                                                            intro b n q D h
                                                            have hk : ar1.toInt = (0 : Int) + 1 := by omega
                                                            have hbit := t_mtb h.2.1.2.2.2 (x := (gi 69 20)) rfl (kk := 0) hk (by decide) e1 e2
                                                            have hbit : z2.toInt = D 221 := hbit
                                                            have hz : D 221 = 0 := by
                                                              rcases h.2.1.2.2.2.2.1 with e | e
                                                              · exact e
                                                              · rw [e] at hbit; omega
                                                            have t0_ := q11 b n _ (h.1.eq (g1 := g10) (fun j => by rw [e10, x_up2_ne (by decide)]) (fun j j1 j2 => by rw [e10, x_up2_off (Or.inr (by omega))])).S
                                                            have v1 := t0_.vT (lo := 1) (hi := 20) (by omega) (by omega) (by omega)
                                                            have t1_ := q23 b n _ (t0_.st e22).S
                                                            have kc1404_ : (1404 : Int32).toNatClampNeg = 1404 := rfl
                                                            have y4 : (gi23 70 1404).toInt = s_V b n (s_E b n q) := by
                                                              rw [(hC23.1 70 _ rfl).1, e22]
                                                              rw [show 1404 = (1404 : Int32).toNatClampNeg from rfl, x_up2_at]; exact v1.2
                                                            have yr : ∀ j, (∀ x, x ∈ [1404] → j ≠ x) → gi23 70 j = gi 70 j := fun j j1 => by
                                                              rw [(hC23.1 70 _ rfl).1, e22, x_up2_off (Or.inr (j1 _ (by decide))), (hC11.1 70 _ rfl).1, e10, x_up2_ne (by decide)]
                                                            have y5 : (gi23 70 1405).toInt = D 5 := by rw [yr _ (by decide)]; exact h.2.1.2.1.1.2.2.1
                                                            have y6 : (gi23 70 1406).toInt = D 6 := by rw [yr _ (by decide)]; exact h.2.1.2.1.1.2.2.2.1
                                                            have y7 : (gi23 70 1407).toInt = D 7 := by rw [yr _ (by decide)]; exact h.2.1.2.1.1.2.2.2.2
                                                            have ybit := t_mts h.2.1.2.2.2 (x := (gi 69 20)) rfl (kk := 0) hk (by decide) hz (p := 2) rfl (by omega) e9
                                                            have y20 : gi23 69 20 = z9 := by rw [(hC23.1 69 20 rfl).1, e22, x_up2_ne (by decide), (hC11.1 69 20 rfl).1, e10, x_up2_at]
                                                            have hm : t_Mt gi23 (s_set (s_set D 221 1) 4 (s_V b n (s_E b n q))) := by
                                                              obtain ⟨x0, x1, x2, x3⟩ := h.2.1.2.2.2
                                                              have s1 : (s_set (s_set D 221 1) 4 (s_V b n (s_E b n q))) 221 = 1 := rfl
                                                              have s2 : (s_set (s_set D 221 1) 4 (s_V b n (s_E b n q))) 222 = D 222 := rfl
                                                              have s3 : (s_set (s_set D 221 1) 4 (s_V b n (s_E b n q))) 223 = D 223 := rfl
                                                              refine ⟨?_, by rw [s1]; omega, by rw [s2]; omega, by rw [s3]; omega⟩
                                                              have hp : (2 : Int) ^ (0 + 1) = 2 := rfl
                                                              rw [hp] at ybit
                                                              rw [y20, ybit, s1, s2, s3, x0]; omega
                                                            exact Or.inl ⟨rfl, _, (s_set (s_set D 221 1) 4 (s_V b n (s_E b n q))), by simp only [s_turns, s_num, s_ifT hz, s_ifT v1.1.1, s_ifT v1.1], t_MS_tel h t1_ ⟨by rw [(hC23.1 69 18 rfl).1, e22, x_up2_ne (by decide), (hC11.1 69 18 rfl).1, e10, x_up2_off (Or.inr (by decide))], by rw [(hC23.1 69 17 rfl).1, e22, x_up2_ne (by decide), (hC11.1 69 17 rfl).1, e10, x_up2_off (Or.inr (by decide))]⟩ (fun j hj => yr j (fun x hx => by simp only [List.mem_cons, List.not_mem_nil, or_false] at hx; omega)) y4 y5 y6 y7 (fun j => by rw [(hC23.1 71 j rfl).2.1, (hC11.1 71 j rfl).2.1]) (fun j hj => (by unfold s_set; rw [if_neg (by omega), if_neg (by omega)])) hm⟩))⟩⟩
        · have l24 : 21 ≤ (gi11 69 15).toInt := t_ltl (t_nle h20) (by decide : (20:Int) ≤ (20:Int32).toInt) rfl
          refine ev_loc f_X12_number (nx := 31) rfl rfl rfl rfl ?_
          refine ev_ic f_X12_number (nx := 32) (v := 4) rfl (by decide) rfl ?_
          refine ev_qI f_X12_number (nx := 35) (r := []) rfl rfl rfl rfl rfl rfl rfl (c_n_fails hI (4) (Int.le_trans (by decide : (2:Int) ≤ 4) (by decide : (4:Int) ≤ (4:Int32).toInt)) (Int.le_trans (by decide : (4:Int32).toInt ≤ (4:Int)) (by decide : (4:Int) ≤ 7))) rfl hX rfl (fun w25 gi25 gl25 gr25 l25 u25 hI hX hC25 q25 => ?_)
          have q25 : (∀ (b : Nat → Int32) (n q : Nat), t_TM b n q gi11 → (gi11 69 18).toInt = 0 → t_MF gi25 (s_fk b n q 4) (s_F b n q)) ∧ w25.toInt = 0 := q25
          refine ev_retK1 f_X12_number rfl rfl (t_rz l25 (Int.le_trans u25 (by decide : (0:Int) ≤ 1))) ?_
          exact ev_retZ f_X12_once rfl l25 (Int.le_trans u25 (by decide : (0:Int) ≤ 1)) ⟨_, _, _, rfl, hI, hX, ⟨_, rfl, l25, (Int.le_trans u25 (by decide : (0:Int) ≤ 1)), (show ∀ (b : Nat → Int32) (n q : Nat) (D : s_D), t_MS b n q D gi gl → (w25.toInt = 1 ∧ ∃ q2 D2, s_turns b n q D = s_ok q2 D2 ∧ t_MS b n q2 D2 gi25 gl25) ∨ (w25.toInt = 0 ∧ ∃ p x D2, x ≠ 0 ∧ s_turns b n q D = s_bad b n p x D2 ∧ t_MF gi25 (s_fk b n p x) (s_F b n p)) from (by
                                                            intro b n q D h
                                                            have hk : ar1.toInt = (0 : Int) + 1 := by omega
                                                            have hbit := t_mtb h.2.1.2.2.2 (x := (gi 69 20)) rfl (kk := 0) hk (by decide) e1 e2
                                                            have hbit : z2.toInt = D 221 := hbit
                                                            have hz : D 221 = 0 := by
                                                              rcases h.2.1.2.2.2.2.1 with e | e
                                                              · exact e
                                                              · rw [e] at hbit; omega
                                                            have t0_ := q11 b n _ (h.1.eq (g1 := g10) (fun j => by rw [e10, x_up2_ne (by decide)]) (fun j j1 j2 => by rw [e10, x_up2_off (Or.inr (by omega))])).S
                                                            have hv := t0_.vF (lo := 1) (hi := 20) (by omega) (by omega)
                                                            exact Or.inr ⟨q25.2, _, 4, D, by decide, by simp only [s_turns, s_num, s_ifT hz, s_ifT hv.1, s_ifF hv.2], q25.1 b n _ t0_ (by rw [(hC11.1 69 18 rfl).1, e10, x_up2_off (Or.inr (by decide))]; exact h.2.2.1)⟩))⟩⟩
    · have r26 : (gi11 69 12).toInt ≠ 3 := fun e => h13 (Int32.toInt_inj.mp (e.trans (by decide : (3:Int) = (3 : Int32).toInt)))
      refine ev_loc f_X12_number (nx := 9) rfl rfl rfl rfl ?_
      refine ev_ic f_X12_number (nx := 10) (v := 2) rfl (by decide) rfl ?_
      refine ev_qI f_X12_number (nx := 13) (r := []) rfl rfl rfl rfl rfl rfl rfl (c_n_fails hI (2) (by decide : (2:Int) ≤ (2:Int32).toInt) (Int.le_trans (by decide : (2:Int32).toInt ≤ (2:Int)) (by decide : (2:Int) ≤ 7))) rfl hX rfl (fun w27 gi27 gl27 gr27 l27 u27 hI hX hC27 q27 => ?_)
      have q27 : (∀ (b : Nat → Int32) (n q : Nat), t_TM b n q gi11 → (gi11 69 18).toInt = 0 → t_MF gi27 (s_fk b n q 2) (s_F b n q)) ∧ w27.toInt = 0 := q27
      refine ev_retK1 f_X12_number rfl rfl (t_rz l27 (Int.le_trans u27 (by decide : (0:Int) ≤ 1))) ?_
      exact ev_retZ f_X12_once rfl l27 (Int.le_trans u27 (by decide : (0:Int) ≤ 1)) ⟨_, _, _, rfl, hI, hX, ⟨_, rfl, l27, (Int.le_trans u27 (by decide : (0:Int) ≤ 1)), (show ∀ (b : Nat → Int32) (n q : Nat) (D : s_D), t_MS b n q D gi gl → (w27.toInt = 1 ∧ ∃ q2 D2, s_turns b n q D = s_ok q2 D2 ∧ t_MS b n q2 D2 gi27 gl27) ∨ (w27.toInt = 0 ∧ ∃ p x D2, x ≠ 0 ∧ s_turns b n q D = s_bad b n p x D2 ∧ t_MF gi27 (s_fk b n p x) (s_F b n p)) from (by
                                                            intro b n q D h
                                                            have hk : ar1.toInt = (0 : Int) + 1 := by omega
                                                            have hbit := t_mtb h.2.1.2.2.2 (x := (gi 69 20)) rfl (kk := 0) hk (by decide) e1 e2
                                                            have hbit : z2.toInt = D 221 := hbit
                                                            have hz : D 221 = 0 := by
                                                              rcases h.2.1.2.2.2.2.1 with e | e
                                                              · exact e
                                                              · rw [e] at hbit; omega
                                                            have t0_ := q11 b n _ (h.1.eq (g1 := g10) (fun j => by rw [e10, x_up2_ne (by decide)]) (fun j j1 j2 => by rw [e10, x_up2_off (Or.inr (by omega))])).S
                                                            exact Or.inr ⟨q27.2, _, 2, D, by decide, by simp only [s_turns, s_num, s_ifT hz, s_ifF (t0_.vK (by omega))], q27.1 b n _ t0_ (by rw [(hC11.1 69 18 rfl).1, e10, x_up2_off (Or.inr (by decide))]; exact h.2.2.1)⟩))⟩⟩
