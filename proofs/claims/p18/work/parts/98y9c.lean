/-! ===== printed by riv.py: the RIVER of the other side ===== -/
noncomputable def wl_n_aNewName : List (Nat × Nat) := [(69, 12), (69, 13), (69, 14), (69, 15), (69, 17), (69, 18), (71, 7210089)]
noncomputable def Q_n_aNewName (gi : Nat → Nat → Int32) (gl : Nat → Nat → Int64) (gr : Nat → Nat → Value) (ar1 : Int32) : Int32 → (Nat → Nat → Int32) → (Nat → Nat → Int64) → (Nat → Nat → Value) → Prop := fun (v : Int32) (gi2 : Nat → Nat → Int32) (gl2 : Nat → Nat → Int64) (gr2 : Nat → Nat → Value) => ∀ (b : Nat → Int32) (n q : Nat) (D : s_D), t_MS b n q D gi gl → (v.toInt = 1 ∧ s_isN b n (s_E b n q) ∧ ¬ s_used D (s_L b n (s_E b n q)).toInt ∧ t_TM b n (s_E b n (s_E b n q)) gi2 ∧ t_mf gi gi2 ∧ ∀ j : Nat, gl2 71 j = if j = 72 + ar1.toNatClampNeg then s_m8 b (s_F b n (s_E b n q)) (s_E b n (s_E b n q) - s_F b n (s_E b n q)) else gl 71 j) ∨ (v.toInt = 0 ∧ ¬ s_isN b n (s_E b n q) ∧ t_MF gi2 (s_fk b n (s_E b n q) 2) (s_F b n (s_E b n q))) ∨ (v.toInt = 0 ∧ s_isN b n (s_E b n q) ∧ s_used D (s_L b n (s_E b n q)).toInt ∧ t_MF gi2 (s_fk b n (s_E b n q) 3) (s_F b n (s_E b n q)))
theorem c_n_aNewName {X : x_Ext} {d : Nat} {sh : List (Nat ⊕ (Nat × Nat))} {gi : Nat → Nat → Int32} {gl : Nat → Nat → Int64} {gr : Nat → Nat → Value} (hI : t_I sh gi gr) (ar1 : Int32) (l_a1 : 0 ≤ ar1.toInt) (u_a1 : ar1.toInt ≤ 17) : x_Me X (d + 7) n_X12_aNewName [.ref 69, .int ar1] (sh, gi, gl, gr) (t_PI wl_n_aNewName sh gi gl gr 0 1 (Q_n_aNewName gi gl gr ar1)) := by
  have hX : t_X wl_n_aNewName sh gi gl gr gi gl gr := t_X.rf
  refine me_i f_X12_aNewName (hI.wf.s rfl) rfl rfl rfl ?_
  refine ev_loc f_X12_aNewName (nx := 1) rfl rfl rfl rfl ?_
  refine ev_qN f_X12_aNewName (nx := 4) (r := []) rfl rfl rfl rfl rfl rfl rfl (c_n_ahead hI ) rfl hX rfl (fun gi1 gl1 gr1 hI hX hC1 q1 => ?_)
  have q1 : ∀ (b : Nat → Int32) (n q : Nat), t_Sm b n q gi → t_TM b n q gi1 := q1
  refine ev_loc f_X12_aNewName (nx := 5) rfl rfl rfl rfl ?_
  refine ev_heap f_X12_aNewName (nx := 7) rfl rfl rfl rfl ?_
  refine ev_qI0 f_X12_aNewName (nx := 10) (r := []) rfl rfl rfl rfl rfl rfl rfl (c_n_isName hI ) rfl (fun w2 l2 u2 q2 => ?_)
  have q2 : ∀ (b : Nat → Int32) (n q : Nat), t_TM b n q gi1 → (w2.toInt = 1 ↔ s_isN b n q) := q2
  refine ev_if f_X12_aNewName (t1 := 13) (t2 := 19) rfl rfl rfl (fun h3 => ?_) (fun h3 => ?_)
  · have u4 : w2.toInt ≤ 0 := t_equ h3 (by decide : (0:Int32).toInt ≤ (0:Int))
    refine ev_loc f_X12_aNewName (nx := 14) rfl rfl rfl rfl ?_
    refine ev_ic f_X12_aNewName (nx := 15) (v := 2) rfl (by decide) rfl ?_
    refine ev_qI f_X12_aNewName (nx := 18) (r := []) rfl rfl rfl rfl rfl rfl rfl (c_n_fails hI (2) (by decide : (2:Int) ≤ (2:Int32).toInt) (Int.le_trans (by decide : (2:Int32).toInt ≤ (2:Int)) (by decide : (2:Int) ≤ 7))) rfl hX rfl (fun w5 gi5 gl5 gr5 l5 u5 hI hX hC5 q5 => ?_)
    have q5 : (∀ (b : Nat → Int32) (n q : Nat), t_TM b n q gi1 → (gi1 69 18).toInt = 0 → t_MF gi5 (s_fk b n q 2) (s_F b n q)) ∧ w5.toInt = 0 := q5
    exact ev_retZ f_X12_aNewName rfl l5 (Int.le_trans u5 (by decide : (0:Int) ≤ 1)) ⟨_, _, _, rfl, hI, hX, ⟨_, rfl, l5, (Int.le_trans u5 (by decide : (0:Int) ≤ 1)), (show ∀ (b : Nat → Int32) (n q : Nat) (D : s_D), t_MS b n q D gi gl → (w5.toInt = 1 ∧ s_isN b n (s_E b n q) ∧ ¬ s_used D (s_L b n (s_E b n q)).toInt ∧ t_TM b n (s_E b n (s_E b n q)) gi5 ∧ t_mf gi gi5 ∧ ∀ j : Nat, gl5 71 j = if j = 72 + ar1.toNatClampNeg then s_m8 b (s_F b n (s_E b n q)) (s_E b n (s_E b n q) - s_F b n (s_E b n q)) else gl 71 j) ∨ (w5.toInt = 0 ∧ ¬ s_isN b n (s_E b n q) ∧ t_MF gi5 (s_fk b n (s_E b n q) 2) (s_F b n (s_E b n q))) ∨ (w5.toInt = 0 ∧ s_isN b n (s_E b n q) ∧ s_used D (s_L b n (s_E b n q)).toInt ∧ t_MF gi5 (s_fk b n (s_E b n q) 3) (s_F b n (s_E b n q))) from (by
                                                            intro b n q D h
                                                            have th1 := q1 b n _ h.1.S
                                                            have h1 := h.tk th1 ⟨(hC1.1 69 18 rfl).1, (hC1.1 69 17 rfl).1⟩ (fun j => (hC1.1 70 j rfl).1) (fun j => (hC1.1 71 j rfl).2.1) (hC1.1 69 20 rfl).1
                                                            exact Or.inr (Or.inl ⟨q5.2, fun hh => absurd ((q2 b n _ h1.1).mpr hh) (by omega), q5.1 b n _ h1.1 h1.2.2.1⟩)))⟩⟩
  · have r6 : w2.toInt ≠ 0 := fun e => h3 (Int32.toInt_inj.mp (e.trans (by decide : (0:Int) = (0 : Int32).toInt)))
    have l7 : 1 ≤ w2.toInt := t_nel h3 l2 rfl rfl
    refine ev_loc f_X12_aNewName (nx := 20) rfl rfl rfl rfl ?_
    refine ev_bp f_X12_aNewName (nx := 22) (v := 72) rfl (by decide) rfl ?_
    refine ev_loc f_X12_aNewName (nx := 23) rfl rfl rfl rfl ?_
    refine ev_getR f_X12_aNewName (nx := 26) rfl (hI.wf.s rfl) rfl rfl (hI.wf.r rfl) rfl rfl ?_
    refine ev_sp f_X12_aNewName (nx := 29) (v := 1400) rfl (by decide) rfl ?_
    obtain ⟨l8, u8⟩ := hI.ab (by decide +kernel : t_abr 70 1400 1400 0 6 = true) (Nat.le_refl _) (Nat.le_refl _)
    refine ev_ialdv f_X12_aNewName (nx := 30) (w := (gi1 70 1400)) rfl (hI.wf.s rfl) (by decide) (rfl : (1400 : Int32).toNatClampNeg = 1400) (by decide) rfl rfl ?_
    refine ev_qI0 f_X12_aNewName (nx := 33) (r := []) rfl rfl rfl rfl rfl rfl rfl (c_n_findHere hI (72) (by decide : (72:Int) ≤ (72:Int32).toInt) (Int.le_trans (by decide : (72:Int32).toInt ≤ (72:Int)) (by decide : (72:Int) ≤ 84)) ((gi1 70 1400)) l8 u8) rfl (fun w9 l9 u9 q9 => ?_)
    have q9 : (∀ (b : Nat → Int32) (n q : Nat) (f : Nat → Int) (x : Int), t_TM b n q gi1 → s_isN b n q → (∀ i : Nat, i < (gi1 70 1400).toNatClampNeg → (gl1 71 ((72 : Int32).toNatClampNeg + i) = s_m8 b (s_F b n q) (s_E b n q - s_F b n q) ↔ f i = x)) → w9.toInt = s_fst f x (gi1 70 1400).toNatClampNeg 0) ∧ (w9.toInt = -1 ∨ w9.toInt < (gi1 70 1400).toInt) := q9
    refine ev_ic f_X12_aNewName (nx := 34) (v := -1) rfl (by decide) rfl ?_
    refine ev_if f_X12_aNewName (t1 := 37) (t2 := 73) rfl rfl rfl (fun h10 => ?_) (fun h10 => ?_)
    · have u11 : w9.toInt ≤ (-1) := t_equ h10 (by decide : ((-1):Int32).toInt ≤ ((-1):Int))
      refine ev_loc f_X12_aNewName (nx := 38) rfl rfl rfl rfl ?_
      refine ev_bp f_X12_aNewName (nx := 40) (v := 78) rfl (by decide) rfl ?_
      refine ev_loc f_X12_aNewName (nx := 41) rfl rfl rfl rfl ?_
      refine ev_getR f_X12_aNewName (nx := 44) rfl (hI.wf.s rfl) rfl rfl (hI.wf.r rfl) rfl rfl ?_
      refine ev_sp f_X12_aNewName (nx := 47) (v := 1401) rfl (by decide) rfl ?_
      obtain ⟨l12, u12⟩ := hI.ab (by decide +kernel : t_abr 70 1401 1401 0 6 = true) (Nat.le_refl _) (Nat.le_refl _)
      refine ev_ialdv f_X12_aNewName (nx := 48) (w := (gi1 70 1401)) rfl (hI.wf.s rfl) (by decide) (rfl : (1401 : Int32).toNatClampNeg = 1401) (by decide) rfl rfl ?_
      refine ev_qI0 f_X12_aNewName (nx := 51) (r := []) rfl rfl rfl rfl rfl rfl rfl (c_n_findHere hI (78) (Int.le_trans (by decide : (72:Int) ≤ 78) (by decide : (78:Int) ≤ (78:Int32).toInt)) (Int.le_trans (by decide : (78:Int32).toInt ≤ (78:Int)) (by decide : (78:Int) ≤ 84)) ((gi1 70 1401)) l12 u12) rfl (fun w13 l13 u13 q13 => ?_)
      have q13 : (∀ (b : Nat → Int32) (n q : Nat) (f : Nat → Int) (x : Int), t_TM b n q gi1 → s_isN b n q → (∀ i : Nat, i < (gi1 70 1401).toNatClampNeg → (gl1 71 ((78 : Int32).toNatClampNeg + i) = s_m8 b (s_F b n q) (s_E b n q - s_F b n q) ↔ f i = x)) → w13.toInt = s_fst f x (gi1 70 1401).toNatClampNeg 0) ∧ (w13.toInt = -1 ∨ w13.toInt < (gi1 70 1401).toInt) := q13
      refine ev_ic f_X12_aNewName (nx := 52) (v := -1) rfl (by decide) rfl ?_
      refine ev_if f_X12_aNewName (t1 := 55) (t2 := 73) rfl rfl rfl (fun h14 => ?_) (fun h14 => ?_)
      · have u15 : w13.toInt ≤ (-1) := t_equ h14 (by decide : ((-1):Int32).toInt ≤ ((-1):Int))
        refine ev_loc f_X12_aNewName (nx := 56) rfl rfl rfl rfl ?_
        refine ev_bp f_X12_aNewName (nx := 58) (v := 84) rfl (by decide) rfl ?_
        refine ev_loc f_X12_aNewName (nx := 59) rfl rfl rfl rfl ?_
        refine ev_getR f_X12_aNewName (nx := 62) rfl (hI.wf.s rfl) rfl rfl (hI.wf.r rfl) rfl rfl ?_
        refine ev_sp f_X12_aNewName (nx := 65) (v := 1402) rfl (by decide) rfl ?_
        obtain ⟨l16, u16⟩ := hI.ab (by decide +kernel : t_abr 70 1402 1402 0 6 = true) (Nat.le_refl _) (Nat.le_refl _)
        refine ev_ialdv f_X12_aNewName (nx := 66) (w := (gi1 70 1402)) rfl (hI.wf.s rfl) (by decide) (rfl : (1402 : Int32).toNatClampNeg = 1402) (by decide) rfl rfl ?_
        refine ev_qI0 f_X12_aNewName (nx := 69) (r := []) rfl rfl rfl rfl rfl rfl rfl (c_n_findHere hI (84) (Int.le_trans (by decide : (72:Int) ≤ 84) (by decide : (84:Int) ≤ (84:Int32).toInt)) (by decide : (84:Int32).toInt ≤ (84:Int)) ((gi1 70 1402)) l16 u16) rfl (fun w17 l17 u17 q17 => ?_)
        have q17 : (∀ (b : Nat → Int32) (n q : Nat) (f : Nat → Int) (x : Int), t_TM b n q gi1 → s_isN b n q → (∀ i : Nat, i < (gi1 70 1402).toNatClampNeg → (gl1 71 ((84 : Int32).toNatClampNeg + i) = s_m8 b (s_F b n q) (s_E b n q - s_F b n q) ↔ f i = x)) → w17.toInt = s_fst f x (gi1 70 1402).toNatClampNeg 0) ∧ (w17.toInt = -1 ∨ w17.toInt < (gi1 70 1402).toInt) := q17
        refine ev_ic f_X12_aNewName (nx := 70) (v := -1) rfl (by decide) rfl ?_
        refine ev_if f_X12_aNewName (t1 := 79) (t2 := 73) rfl rfl rfl (fun h18 => ?_) (fun h18 => ?_)
        · have u19 : w17.toInt ≤ (-1) := t_equ h18 (by decide : ((-1):Int32).toInt ≤ ((-1):Int))
          refine ev_loc f_X12_aNewName (nx := 80) rfl rfl rfl rfl ?_
          refine ev_getR f_X12_aNewName (nx := 83) rfl (hI.wf.s rfl) rfl rfl (hI.wf.r rfl) rfl rfl ?_
          refine ev_bp f_X12_aNewName (nx := 85) (v := 72) rfl (by decide) rfl ?_
          refine ev_loc f_X12_aNewName (nx := 86) rfl rfl rfl rfl ?_
          refine ev_addK f_X12_aNewName (nx := 87) (c := 72) (l := 72) (u := 89) rfl (by decide) l_a1 u_a1 rfl rfl (by decide) (by decide) rfl (fun z20 e20 l20 u20 => ?_)
          refine ev_loc f_X12_aNewName (nx := 88) rfl rfl rfl rfl ?_
          refine ev_qL0 f_X12_aNewName (nx := 91) (r := [.int z20, .ref 71]) rfl rfl rfl rfl rfl rfl rfl (c_n_nameHere hI ) rfl (fun w21 q21 => ?_)
          have q21 : ∀ (b : Nat → Int32) (n q : Nat), t_TM b n q gi1 → s_K b n q = 2 → w21 = s_m8 b (s_F b n q) (s_E b n q - s_F b n q) := q21
          refine ev_lastT f_X12_aNewName (nx := 92) rfl (hI.wf.s rfl) l20 (by decide) u20 (by decide) rfl (hX.upL (t_inR (p := 72) (m := 89) rfl l20 (by decide) u20 (by decide) (by decide))) (fun g22 e22 hX => ?_)
          refine ev_loc f_X12_aNewName (nx := 93) rfl rfl rfl rfl ?_
          refine ev_qN f_X12_aNewName (nx := 96) (r := []) rfl rfl rfl rfl rfl rfl rfl (c_n_ahead hI ) rfl hX rfl (fun gi23 gl23 gr23 hI hX hC23 q23 => ?_)
          have q23 : ∀ (b : Nat → Int32) (n q : Nat), t_Sm b n q gi1 → t_TM b n q gi23 := q23
          refine ev_ic f_X12_aNewName (nx := 97) (v := 1) rfl (by decide) rfl ?_
          exact ev_ret f_X12_aNewName rfl rfl rfl ⟨_, _, _, rfl, hI, hX, ⟨_, rfl, (Int.le_trans (by decide : (0:Int) ≤ 1) (by decide : (1:Int) ≤ (1:Int32).toInt)), (by decide : (1:Int32).toInt ≤ (1:Int)), (show ∀ (b : Nat → Int32) (n q : Nat) (D : s_D), t_MS b n q D gi gl → ((1 : Int) = 1 ∧ s_isN b n (s_E b n q) ∧ ¬ s_used D (s_L b n (s_E b n q)).toInt ∧ t_TM b n (s_E b n (s_E b n q)) gi23 ∧ t_mf gi gi23 ∧ ∀ j : Nat, gl23 71 j = if j = 72 + ar1.toNatClampNeg then s_m8 b (s_F b n (s_E b n q)) (s_E b n (s_E b n q) - s_F b n (s_E b n q)) else gl 71 j) ∨ ((1 : Int) = 0 ∧ ¬ s_isN b n (s_E b n q) ∧ t_MF gi23 (s_fk b n (s_E b n q) 2) (s_F b n (s_E b n q))) ∨ ((1 : Int) = 0 ∧ s_isN b n (s_E b n q) ∧ s_used D (s_L b n (s_E b n q)).toInt ∧ t_MF gi23 (s_fk b n (s_E b n q) 3) (s_F b n (s_E b n q))) from (by
                                                            intro b n q D h
                                                            have th1 := q1 b n _ h.1.S
                                                            have h1 := h.tk th1 ⟨(hC1.1 69 18 rfl).1, (hC1.1 69 17 rfl).1⟩ (fun j => (hC1.1 70 j rfl).1) (fun j => (hC1.1 71 j rfl).2.1) (hC1.1 69 20 rfl).1
                                                            have hN := (q2 b n _ h1.1).mp (by omega)
                                                            have hu := s_used_f (D := D) h.2.1.1 (x := (s_L b n (s_E b n q)).toInt)
                                                            have d0 : (gi1 70 1400).toInt = D 0 := h1.2.1.2.1.1.1.1
                                                            have l0_ := h.2.1.1.1.1
                                                            have c0_ := t_clamp (i := gi1 70 1400) (by omega)
                                                            have f0 : w9.toInt = s_fst (fun i => D (200 + i)) (s_L b n (s_E b n q)).toInt (D 0).toNat 0 := by
                                                              rw [show (D 0).toNat = (gi1 70 1400).toNatClampNeg from (by omega)]
                                                              exact q9.1 b n _ _ _ h1.1 hN (t_nr_f (base := 72) h1.2.1.2.2.1.1 (by omega) hN)
                                                            have d1 : (gi1 70 1401).toInt = D 1 := h1.2.1.2.1.1.1.2.1
                                                            have l1_ := h.2.1.1.2.1.1
                                                            have c1_ := t_clamp (i := gi1 70 1401) (by omega)
                                                            have f1 : w13.toInt = s_fst (fun i => D (206 + i)) (s_L b n (s_E b n q)).toInt (D 1).toNat 0 := by
                                                              rw [show (D 1).toNat = (gi1 70 1401).toNatClampNeg from (by omega)]
                                                              exact q13.1 b n _ _ _ h1.1 hN (t_nr_f (base := 78) h1.2.1.2.2.1.2.1 (by omega) hN)
                                                            have d2 : (gi1 70 1402).toInt = D 2 := h1.2.1.2.1.1.1.2.2
                                                            have l2_ := h.2.1.1.2.2.1
                                                            have c2_ := t_clamp (i := gi1 70 1402) (by omega)
                                                            have f2 : w17.toInt = s_fst (fun i => D (212 + i)) (s_L b n (s_E b n q)).toInt (D 2).toNat 0 := by
                                                              rw [show (D 2).toNat = (gi1 70 1402).toNatClampNeg from (by omega)]
                                                              exact q17.1 b n _ _ _ h1.1 hN (t_nr_f (base := 84) h1.2.1.2.2.1.2.2 (by omega) hN)
                                                            have hU : ¬ s_used D (s_L b n (s_E b n q)).toInt := fun hh => by
                                                              rcases hu.mp hh with hh | hh | hh
                                                              · rw [← f0] at hh; exact hh (by omega)
                                                              · rw [← f1] at hh; exact hh (by omega)
                                                              · rw [← f2] at hh; exact hh (by omega)
                                                            have hm := q21 b n _ h1.1 hN.1
                                                            have t2 := q23 b n _ h1.1.S
                                                            have ha := t_clamp (i := ar1) l_a1
                                                            have hi := t_clamp (i := z20) (by omega)
                                                            refine Or.inl ⟨rfl, hN, hU, t2, ⟨(hC23.1 69 18 rfl).1.trans (hC1.1 69 18 rfl).1, (hC23.1 69 17 rfl).1.trans (hC1.1 69 17 rfl).1⟩, fun j => ?_⟩
                                                            rw [(hC23.1 71 j rfl).2.1, e22]
                                                            by_cases hj : j = 72 + ar1.toNatClampNeg
                                                            · rw [if_pos hj, show j = z20.toNatClampNeg from (by omega), x_up2_at]; exact hm
                                                            · rw [if_neg hj, x_up2_off (Or.inr (by omega))]; exact (hC1.1 71 j rfl).2.1))⟩⟩
        · have r24 : w17.toInt ≠ (-1) := fun e => h18 (Int32.toInt_inj.mp (e.trans (by decide : ((-1):Int) = ((-1) : Int32).toInt)))
          have l25 : 0 ≤ w17.toInt := t_nel h18 l17 rfl rfl
          refine ev_loc f_X12_aNewName (nx := 74) rfl rfl rfl rfl ?_
          refine ev_ic f_X12_aNewName (nx := 75) (v := 3) rfl (by decide) rfl ?_
          refine ev_qI f_X12_aNewName (nx := 78) (r := []) rfl rfl rfl rfl rfl rfl rfl (c_n_fails hI (3) (Int.le_trans (by decide : (2:Int) ≤ 3) (by decide : (3:Int) ≤ (3:Int32).toInt)) (Int.le_trans (by decide : (3:Int32).toInt ≤ (3:Int)) (by decide : (3:Int) ≤ 7))) rfl hX rfl (fun w26 gi26 gl26 gr26 l26 u26 hI hX hC26 q26 => ?_)
          have q26 : (∀ (b : Nat → Int32) (n q : Nat), t_TM b n q gi1 → (gi1 69 18).toInt = 0 → t_MF gi26 (s_fk b n q 3) (s_F b n q)) ∧ w26.toInt = 0 := q26
          exact ev_retZ f_X12_aNewName rfl l26 (Int.le_trans u26 (by decide : (0:Int) ≤ 1)) ⟨_, _, _, rfl, hI, hX, ⟨_, rfl, l26, (Int.le_trans u26 (by decide : (0:Int) ≤ 1)), (show ∀ (b : Nat → Int32) (n q : Nat) (D : s_D), t_MS b n q D gi gl → (w26.toInt = 1 ∧ s_isN b n (s_E b n q) ∧ ¬ s_used D (s_L b n (s_E b n q)).toInt ∧ t_TM b n (s_E b n (s_E b n q)) gi26 ∧ t_mf gi gi26 ∧ ∀ j : Nat, gl26 71 j = if j = 72 + ar1.toNatClampNeg then s_m8 b (s_F b n (s_E b n q)) (s_E b n (s_E b n q) - s_F b n (s_E b n q)) else gl 71 j) ∨ (w26.toInt = 0 ∧ ¬ s_isN b n (s_E b n q) ∧ t_MF gi26 (s_fk b n (s_E b n q) 2) (s_F b n (s_E b n q))) ∨ (w26.toInt = 0 ∧ s_isN b n (s_E b n q) ∧ s_used D (s_L b n (s_E b n q)).toInt ∧ t_MF gi26 (s_fk b n (s_E b n q) 3) (s_F b n (s_E b n q))) from (by
                                                            intro b n q D h
                                                            have th1 := q1 b n _ h.1.S
                                                            have h1 := h.tk th1 ⟨(hC1.1 69 18 rfl).1, (hC1.1 69 17 rfl).1⟩ (fun j => (hC1.1 70 j rfl).1) (fun j => (hC1.1 71 j rfl).2.1) (hC1.1 69 20 rfl).1
                                                            have hN := (q2 b n _ h1.1).mp (by omega)
                                                            have hu := s_used_f (D := D) h.2.1.1 (x := (s_L b n (s_E b n q)).toInt)
                                                            have d0 : (gi1 70 1400).toInt = D 0 := h1.2.1.2.1.1.1.1
                                                            have l0_ := h.2.1.1.1.1
                                                            have c0_ := t_clamp (i := gi1 70 1400) (by omega)
                                                            have f0 : w9.toInt = s_fst (fun i => D (200 + i)) (s_L b n (s_E b n q)).toInt (D 0).toNat 0 := by
                                                              rw [show (D 0).toNat = (gi1 70 1400).toNatClampNeg from (by omega)]
                                                              exact q9.1 b n _ _ _ h1.1 hN (t_nr_f (base := 72) h1.2.1.2.2.1.1 (by omega) hN)
                                                            have d1 : (gi1 70 1401).toInt = D 1 := h1.2.1.2.1.1.1.2.1
                                                            have l1_ := h.2.1.1.2.1.1
                                                            have c1_ := t_clamp (i := gi1 70 1401) (by omega)
                                                            have f1 : w13.toInt = s_fst (fun i => D (206 + i)) (s_L b n (s_E b n q)).toInt (D 1).toNat 0 := by
                                                              rw [show (D 1).toNat = (gi1 70 1401).toNatClampNeg from (by omega)]
                                                              exact q13.1 b n _ _ _ h1.1 hN (t_nr_f (base := 78) h1.2.1.2.2.1.2.1 (by omega) hN)
                                                            have d2 : (gi1 70 1402).toInt = D 2 := h1.2.1.2.1.1.1.2.2
                                                            have l2_ := h.2.1.1.2.2.1
                                                            have c2_ := t_clamp (i := gi1 70 1402) (by omega)
                                                            have f2 : w17.toInt = s_fst (fun i => D (212 + i)) (s_L b n (s_E b n q)).toInt (D 2).toNat 0 := by
                                                              rw [show (D 2).toNat = (gi1 70 1402).toNatClampNeg from (by omega)]
                                                              exact q17.1 b n _ _ _ h1.1 hN (t_nr_f (base := 84) h1.2.1.2.2.1.2.2 (by omega) hN)
                                                            refine Or.inr (Or.inr ⟨q26.2, hN, hu.mpr (Or.inr (Or.inr ?_)), q26.1 b n _ h1.1 h1.2.2.1⟩)
                                                            rw [← f2]; omega))⟩⟩
      · have r27 : w13.toInt ≠ (-1) := fun e => h14 (Int32.toInt_inj.mp (e.trans (by decide : ((-1):Int) = ((-1) : Int32).toInt)))
        have l28 : 0 ≤ w13.toInt := t_nel h14 l13 rfl rfl
        refine ev_loc f_X12_aNewName (nx := 74) rfl rfl rfl rfl ?_
        refine ev_ic f_X12_aNewName (nx := 75) (v := 3) rfl (by decide) rfl ?_
        refine ev_qI f_X12_aNewName (nx := 78) (r := []) rfl rfl rfl rfl rfl rfl rfl (c_n_fails hI (3) (Int.le_trans (by decide : (2:Int) ≤ 3) (by decide : (3:Int) ≤ (3:Int32).toInt)) (Int.le_trans (by decide : (3:Int32).toInt ≤ (3:Int)) (by decide : (3:Int) ≤ 7))) rfl hX rfl (fun w29 gi29 gl29 gr29 l29 u29 hI hX hC29 q29 => ?_)
        have q29 : (∀ (b : Nat → Int32) (n q : Nat), t_TM b n q gi1 → (gi1 69 18).toInt = 0 → t_MF gi29 (s_fk b n q 3) (s_F b n q)) ∧ w29.toInt = 0 := q29
        exact ev_retZ f_X12_aNewName rfl l29 (Int.le_trans u29 (by decide : (0:Int) ≤ 1)) ⟨_, _, _, rfl, hI, hX, ⟨_, rfl, l29, (Int.le_trans u29 (by decide : (0:Int) ≤ 1)), (show ∀ (b : Nat → Int32) (n q : Nat) (D : s_D), t_MS b n q D gi gl → (w29.toInt = 1 ∧ s_isN b n (s_E b n q) ∧ ¬ s_used D (s_L b n (s_E b n q)).toInt ∧ t_TM b n (s_E b n (s_E b n q)) gi29 ∧ t_mf gi gi29 ∧ ∀ j : Nat, gl29 71 j = if j = 72 + ar1.toNatClampNeg then s_m8 b (s_F b n (s_E b n q)) (s_E b n (s_E b n q) - s_F b n (s_E b n q)) else gl 71 j) ∨ (w29.toInt = 0 ∧ ¬ s_isN b n (s_E b n q) ∧ t_MF gi29 (s_fk b n (s_E b n q) 2) (s_F b n (s_E b n q))) ∨ (w29.toInt = 0 ∧ s_isN b n (s_E b n q) ∧ s_used D (s_L b n (s_E b n q)).toInt ∧ t_MF gi29 (s_fk b n (s_E b n q) 3) (s_F b n (s_E b n q))) from (by
                                                            intro b n q D h
                                                            have th1 := q1 b n _ h.1.S
                                                            have h1 := h.tk th1 ⟨(hC1.1 69 18 rfl).1, (hC1.1 69 17 rfl).1⟩ (fun j => (hC1.1 70 j rfl).1) (fun j => (hC1.1 71 j rfl).2.1) (hC1.1 69 20 rfl).1
                                                            have hN := (q2 b n _ h1.1).mp (by omega)
                                                            have hu := s_used_f (D := D) h.2.1.1 (x := (s_L b n (s_E b n q)).toInt)
                                                            have d0 : (gi1 70 1400).toInt = D 0 := h1.2.1.2.1.1.1.1
                                                            have l0_ := h.2.1.1.1.1
                                                            have c0_ := t_clamp (i := gi1 70 1400) (by omega)
                                                            have f0 : w9.toInt = s_fst (fun i => D (200 + i)) (s_L b n (s_E b n q)).toInt (D 0).toNat 0 := by
                                                              rw [show (D 0).toNat = (gi1 70 1400).toNatClampNeg from (by omega)]
                                                              exact q9.1 b n _ _ _ h1.1 hN (t_nr_f (base := 72) h1.2.1.2.2.1.1 (by omega) hN)
                                                            have d1 : (gi1 70 1401).toInt = D 1 := h1.2.1.2.1.1.1.2.1
                                                            have l1_ := h.2.1.1.2.1.1
                                                            have c1_ := t_clamp (i := gi1 70 1401) (by omega)
                                                            have f1 : w13.toInt = s_fst (fun i => D (206 + i)) (s_L b n (s_E b n q)).toInt (D 1).toNat 0 := by
                                                              rw [show (D 1).toNat = (gi1 70 1401).toNatClampNeg from (by omega)]
                                                              exact q13.1 b n _ _ _ h1.1 hN (t_nr_f (base := 78) h1.2.1.2.2.1.2.1 (by omega) hN)
                                                            refine Or.inr (Or.inr ⟨q29.2, hN, hu.mpr (Or.inr (Or.inl ?_)), q29.1 b n _ h1.1 h1.2.2.1⟩)
                                                            rw [← f1]; omega))⟩⟩
    · have r30 : w9.toInt ≠ (-1) := fun e => h10 (Int32.toInt_inj.mp (e.trans (by decide : ((-1):Int) = ((-1) : Int32).toInt)))
      have l31 : 0 ≤ w9.toInt := t_nel h10 l9 rfl rfl
      refine ev_loc f_X12_aNewName (nx := 74) rfl rfl rfl rfl ?_
      refine ev_ic f_X12_aNewName (nx := 75) (v := 3) rfl (by decide) rfl ?_
      refine ev_qI f_X12_aNewName (nx := 78) (r := []) rfl rfl rfl rfl rfl rfl rfl (c_n_fails hI (3) (Int.le_trans (by decide : (2:Int) ≤ 3) (by decide : (3:Int) ≤ (3:Int32).toInt)) (Int.le_trans (by decide : (3:Int32).toInt ≤ (3:Int)) (by decide : (3:Int) ≤ 7))) rfl hX rfl (fun w32 gi32 gl32 gr32 l32 u32 hI hX hC32 q32 => ?_)
      have q32 : (∀ (b : Nat → Int32) (n q : Nat), t_TM b n q gi1 → (gi1 69 18).toInt = 0 → t_MF gi32 (s_fk b n q 3) (s_F b n q)) ∧ w32.toInt = 0 := q32
      exact ev_retZ f_X12_aNewName rfl l32 (Int.le_trans u32 (by decide : (0:Int) ≤ 1)) ⟨_, _, _, rfl, hI, hX, ⟨_, rfl, l32, (Int.le_trans u32 (by decide : (0:Int) ≤ 1)), (show ∀ (b : Nat → Int32) (n q : Nat) (D : s_D), t_MS b n q D gi gl → (w32.toInt = 1 ∧ s_isN b n (s_E b n q) ∧ ¬ s_used D (s_L b n (s_E b n q)).toInt ∧ t_TM b n (s_E b n (s_E b n q)) gi32 ∧ t_mf gi gi32 ∧ ∀ j : Nat, gl32 71 j = if j = 72 + ar1.toNatClampNeg then s_m8 b (s_F b n (s_E b n q)) (s_E b n (s_E b n q) - s_F b n (s_E b n q)) else gl 71 j) ∨ (w32.toInt = 0 ∧ ¬ s_isN b n (s_E b n q) ∧ t_MF gi32 (s_fk b n (s_E b n q) 2) (s_F b n (s_E b n q))) ∨ (w32.toInt = 0 ∧ s_isN b n (s_E b n q) ∧ s_used D (s_L b n (s_E b n q)).toInt ∧ t_MF gi32 (s_fk b n (s_E b n q) 3) (s_F b n (s_E b n q))) from (by
                                                            intro b n q D h
                                                            have th1 := q1 b n _ h.1.S
                                                            have h1 := h.tk th1 ⟨(hC1.1 69 18 rfl).1, (hC1.1 69 17 rfl).1⟩ (fun j => (hC1.1 70 j rfl).1) (fun j => (hC1.1 71 j rfl).2.1) (hC1.1 69 20 rfl).1
                                                            have hN := (q2 b n _ h1.1).mp (by omega)
                                                            have hu := s_used_f (D := D) h.2.1.1 (x := (s_L b n (s_E b n q)).toInt)
                                                            have d0 : (gi1 70 1400).toInt = D 0 := h1.2.1.2.1.1.1.1
                                                            have l0_ := h.2.1.1.1.1
                                                            have c0_ := t_clamp (i := gi1 70 1400) (by omega)
                                                            have f0 : w9.toInt = s_fst (fun i => D (200 + i)) (s_L b n (s_E b n q)).toInt (D 0).toNat 0 := by
                                                              rw [show (D 0).toNat = (gi1 70 1400).toNatClampNeg from (by omega)]
                                                              exact q9.1 b n _ _ _ h1.1 hN (t_nr_f (base := 72) h1.2.1.2.2.1.1 (by omega) hN)
                                                            refine Or.inr (Or.inr ⟨q32.2, hN, hu.mpr (Or.inl ?_), q32.1 b n _ h1.1 h1.2.2.1⟩)
                                                            rw [← f0]; omega))⟩⟩
noncomputable def wl_n_aPort : List (Nat × Nat) := [(69, 12), (69, 13), (69, 14), (69, 15), (69, 17), (69, 18), (70, 140011400), (70, 141011452), (70, 141111458), (71, 7210089)]
noncomputable def Q_n_aPort (gi : Nat → Nat → Int32) (gl : Nat → Nat → Int64) (gr : Nat → Nat → Value) : Int32 → (Nat → Nat → Int32) → (Nat → Nat → Int64) → (Nat → Nat → Value) → Prop := fun (v : Int32) (gi2 : Nat → Nat → Int32) (gl2 : Nat → Nat → Int64) (gr2 : Nat → Nat → Value) => ∀ (b : Nat → Int32) (n q : Nat) (D : s_D), t_MS b n q D gi gl → (v.toInt = 1 ∧ ∃ q2 D2, s_port b n q D = s_ok q2 D2 ∧ t_MS b n q2 D2 gi2 gl2) ∨ (v.toInt = 0 ∧ ∃ p x D2, x ≠ 0 ∧ s_port b n q D = s_bad b n p x D2 ∧ t_MF gi2 (s_fk b n p x) (s_F b n p))
theorem c_n_aPort {X : x_Ext} {d : Nat} {sh : List (Nat ⊕ (Nat × Nat))} {gi : Nat → Nat → Int32} {gl : Nat → Nat → Int64} {gr : Nat → Nat → Value} (hI : t_I sh gi gr) : x_Me X (d + 8) n_X12_aPort [.ref 69] (sh, gi, gl, gr) (t_PI wl_n_aPort sh gi gl gr 0 1 (Q_n_aPort gi gl gr)) := by
  have hX : t_X wl_n_aPort sh gi gl gr gi gl gr := t_X.rf
  refine me_i f_X12_aPort (hI.wf.s rfl) rfl rfl rfl ?_
  obtain ⟨l1, u1⟩ := hI.b (hI.wf.s (k := 69) rfl) (t_bdK rfl : t_bd 11 13 = some (0, 900))
  obtain ⟨l2, u2⟩ := hI.b (hI.wf.s (k := 69) rfl) (t_bdK rfl : t_bd 11 14 = some (0, 900))
  refine ev_loc f_X12_aPort (nx := 1) rfl rfl rfl rfl ?_
  refine ev_getR f_X12_aPort (nx := 4) rfl (hI.wf.s rfl) rfl rfl (hI.wf.r rfl) rfl rfl ?_
  refine ev_sp f_X12_aPort (nx := 7) (v := 1400) rfl (by decide) rfl ?_
  obtain ⟨l3, u3⟩ := hI.ab (by decide +kernel : t_abr 70 1400 1400 0 6 = true) (Nat.le_refl _) (Nat.le_refl _)
  refine ev_ialdv f_X12_aPort (nx := 8) (w := (gi 70 1400)) rfl (hI.wf.s rfl) (by decide) (rfl : (1400 : Int32).toNatClampNeg = 1400) (by decide) rfl rfl ?_
  refine ev_loc f_X12_aPort (nx := 9) (lo' := [(1, .int (gi 70 1400)), (0, .ref 69)]) rfl rfl rfl rfl ?_
  refine ev_sp f_X12_aPort (nx := 12) (v := 1410) rfl (by decide) rfl ?_
  refine ev_bp f_X12_aPort (nx := 14) (v := 7) rfl (by decide) rfl ?_
  refine ev_loc f_X12_aPort (nx := 15) rfl rfl rfl rfl ?_
  refine ev_mulL f_X12_aPort (nx := 16) (c := 7) (l := 0) (u := 42) rfl (by decide) (by decide) l3 u3 rfl rfl (by decide) (by decide) rfl (fun z4 e4 l4 u4 => ?_)
  refine ev_addK f_X12_aPort (nx := 17) (c := 1410) (l := 1410) (u := 1452) rfl (by decide) l4 u4 rfl rfl (by decide) (by decide) rfl (fun z5 e5 l5 u5 => ?_)
  refine ev_loc f_X12_aPort (nx := 18) (lo' := [(2, .int z5), (1, .int (gi 70 1400)), (0, .ref 69)]) rfl rfl rfl rfl ?_
  refine ev_loc f_X12_aPort (nx := 19) rfl rfl rfl rfl ?_
  refine ev_bp f_X12_aPort (nx := 21) (v := 6) rfl (by decide) rfl ?_
  refine ev_if f_X12_aPort (t1 := 24) (t2 := 31) rfl rfl rfl (fun h6 => ?_) (fun h6 => ?_)
  · have l7 : 6 ≤ (gi 70 1400).toInt := t_eql h6 (by decide : (6:Int) ≤ (6:Int32).toInt)
    refine ev_loc f_X12_aPort (nx := 25) rfl rfl rfl rfl ?_
    refine ev_bp f_X12_aPort (nx := 27) (v := 6) rfl (by decide) rfl ?_
    refine ev_qI f_X12_aPort (nx := 30) (r := []) rfl rfl rfl rfl rfl rfl rfl (c_n_fails hI (6) (Int.le_trans (by decide : (2:Int) ≤ 6) (by decide : (6:Int) ≤ (6:Int32).toInt)) (Int.le_trans (by decide : (6:Int32).toInt ≤ (6:Int)) (by decide : (6:Int) ≤ 7))) rfl hX rfl (fun w8 gi8 gl8 gr8 l8 u8 hI hX hC8 q8 => ?_)
    have q8 : (∀ (b : Nat → Int32) (n q : Nat), t_TM b n q gi → (gi 69 18).toInt = 0 → t_MF gi8 (s_fk b n q 6) (s_F b n q)) ∧ w8.toInt = 0 := q8
    exact ev_retZ f_X12_aPort rfl l8 (Int.le_trans u8 (by decide : (0:Int) ≤ 1)) ⟨_, _, _, rfl, hI, hX, ⟨_, rfl, l8, (Int.le_trans u8 (by decide : (0:Int) ≤ 1)), (show ∀ (b : Nat → Int32) (n q : Nat) (D : s_D), t_MS b n q D gi gl → (w8.toInt = 1 ∧ ∃ q2 D2, s_port b n q D = s_ok q2 D2 ∧ t_MS b n q2 D2 gi8 gl8) ∨ (w8.toInt = 0 ∧ ∃ p x D2, x ≠ 0 ∧ s_port b n q D = s_bad b n p x D2 ∧ t_MF gi8 (s_fk b n p x) (s_F b n p)) from (by
                                                            intro b n q D h
                                                            have d0 : (gi 70 1400).toInt = D 0 := h.2.1.2.1.1.1.1
                                                            exact Or.inr ⟨q8.2, q, 6, D, by decide, by simp only [s_port, s_ifT (show D 0 = 6 by omega)], q8.1 b n q h.1 h.2.2.1⟩))⟩⟩
  · have r9 : (gi 70 1400).toInt ≠ 6 := fun e => h6 (Int32.toInt_inj.mp (e.trans (by decide : (6:Int) = (6 : Int32).toInt)))
    have u10 : (gi 70 1400).toInt ≤ 5 := t_neu h6 u3 rfl rfl
    refine ev_loc f_X12_aPort (nx := 32) rfl rfl rfl rfl ?_
    refine ev_loc f_X12_aPort (nx := 33) rfl rfl rfl rfl ?_
    refine ev_qI f_X12_aPort (nx := 36) (r := []) rfl rfl rfl rfl rfl rfl rfl (c_n_aNewName hI ((gi 70 1400)) l3 (Int.le_trans u10 (by decide : (5:Int) ≤ 17))) rfl hX rfl (fun w11 gi11 gl11 gr11 l11 u11 hI hX hC11 q11 => ?_)
    have q11 : ∀ (b : Nat → Int32) (n q : Nat) (D : s_D), t_MS b n q D gi gl → (w11.toInt = 1 ∧ s_isN b n (s_E b n q) ∧ ¬ s_used D (s_L b n (s_E b n q)).toInt ∧ t_TM b n (s_E b n (s_E b n q)) gi11 ∧ t_mf gi gi11 ∧ ∀ j : Nat, gl11 71 j = if j = 72 + (gi 70 1400).toNatClampNeg then s_m8 b (s_F b n (s_E b n q)) (s_E b n (s_E b n q) - s_F b n (s_E b n q)) else gl 71 j) ∨ (w11.toInt = 0 ∧ ¬ s_isN b n (s_E b n q) ∧ t_MF gi11 (s_fk b n (s_E b n q) 2) (s_F b n (s_E b n q))) ∨ (w11.toInt = 0 ∧ s_isN b n (s_E b n q) ∧ s_used D (s_L b n (s_E b n q)).toInt ∧ t_MF gi11 (s_fk b n (s_E b n q) 3) (s_F b n (s_E b n q))) := q11
    obtain ⟨l12, u12⟩ := hI.b (hI.wf.s (k := 69) rfl) (t_bdK rfl : t_bd 11 13 = some (0, 900))
    obtain ⟨l13, u13⟩ := hI.b (hI.wf.s (k := 69) rfl) (t_bdK rfl : t_bd 11 14 = some (0, 900))
    refine ev_if f_X12_aPort (t1 := 50) (t2 := 39) rfl rfl rfl (fun h14 => ?_) (fun h14 => ?_)
    · have u15 : w11.toInt ≤ 0 := t_equ h14 (by decide : (0:Int32).toInt ≤ (0:Int))
      refine ev_ic f_X12_aPort (nx := 51) (v := 0) rfl (by decide) rfl ?_
      exact ev_ret f_X12_aPort rfl rfl rfl ⟨_, _, _, rfl, hI, hX, ⟨_, rfl, (by decide : (0:Int) ≤ (0:Int32).toInt), (Int.le_trans (by decide : (0:Int32).toInt ≤ (0:Int)) (by decide : (0:Int) ≤ 1)), (show ∀ (b : Nat → Int32) (n q : Nat) (D : s_D), t_MS b n q D gi gl → ((0 : Int) = 1 ∧ ∃ q2 D2, s_port b n q D = s_ok q2 D2 ∧ t_MS b n q2 D2 gi11 gl11) ∨ ((0 : Int) = 0 ∧ ∃ p x D2, x ≠ 0 ∧ s_port b n q D = s_bad b n p x D2 ∧ t_MF gi11 (s_fk b n p x) (s_F b n p)) from (by
                                                            intro b n q D h
                                                            have d0 : (gi 70 1400).toInt = D 0 := h.2.1.2.1.1.1.1
                                                            rcases q11 b n q D h with hh | hh | hh
                                                            · exact absurd hh.1 (by omega)
                                                            · exact Or.inr ⟨rfl, _, 2, D, by decide, by simp only [s_port, s_name, s_kw, s_ifF (show ¬ D 0 = 6 by omega), s_ifF hh.2.1], hh.2.2⟩
                                                            · exact Or.inr ⟨rfl, _, 3, D, by decide, by simp only [s_port, s_name, s_kw, s_ifF (show ¬ D 0 = 6 by omega), s_ifT hh.2.1, s_ifT hh.2.2.1], hh.2.2.2⟩))⟩⟩
    · have r16 : w11.toInt ≠ 0 := fun e => h14 (Int32.toInt_inj.mp (e.trans (by decide : (0:Int) = (0 : Int32).toInt)))
      have l17 : 1 ≤ w11.toInt := t_nel h14 l11 rfl rfl
      refine ev_loc f_X12_aPort (nx := 40) rfl rfl rfl rfl ?_
      refine ev_heap f_X12_aPort (nx := 42) rfl rfl rfl rfl ?_
      refine ev_bp f_X12_aPort (nx := 44) (v := 6) rfl (by decide) rfl ?_
      refine ev_qI f_X12_aPort (nx := 47) (r := []) rfl rfl rfl rfl rfl rfl rfl (c_n_wantWord hI (6)) rfl hX rfl (fun w18 gi18 gl18 gr18 l18 u18 hI hX hC18 q18 => ?_)
      have q18 : ∀ (b : Nat → Int32) (n q : Nat), t_TM b n q gi11 → (w18.toInt = 1 ∧ s_mi (s_W b n q) = 6 ∧ t_TM b n (s_E b n q) gi18 ∧ t_mf gi11 gi18) ∨ (w18.toInt = 0 ∧ ¬ s_mi (s_W b n q) = 6 ∧ ((gi11 69 18).toInt = 0 → t_MF gi18 (s_fk b n q 2) (s_F b n q))) := q18
      obtain ⟨l19, u19⟩ := hI.b (hI.wf.s (k := 69) rfl) (t_bdK rfl : t_bd 11 13 = some (0, 900))
      obtain ⟨l20, u20⟩ := hI.b (hI.wf.s (k := 69) rfl) (t_bdK rfl : t_bd 11 14 = some (0, 900))
      refine ev_if f_X12_aPort (t1 := 50) (t2 := 52) rfl rfl rfl (fun h21 => ?_) (fun h21 => ?_)
      · have u22 : w18.toInt ≤ 0 := t_equ h21 (by decide : (0:Int32).toInt ≤ (0:Int))
        refine ev_ic f_X12_aPort (nx := 51) (v := 0) rfl (by decide) rfl ?_
        exact ev_ret f_X12_aPort rfl rfl rfl ⟨_, _, _, rfl, hI, hX, ⟨_, rfl, (by decide : (0:Int) ≤ (0:Int32).toInt), (Int.le_trans (by decide : (0:Int32).toInt ≤ (0:Int)) (by decide : (0:Int) ≤ 1)), (show ∀ (b : Nat → Int32) (n q : Nat) (D : s_D), t_MS b n q D gi gl → ((0 : Int) = 1 ∧ ∃ q2 D2, s_port b n q D = s_ok q2 D2 ∧ t_MS b n q2 D2 gi18 gl18) ∨ ((0 : Int) = 0 ∧ ∃ p x D2, x ≠ 0 ∧ s_port b n q D = s_bad b n p x D2 ∧ t_MF gi18 (s_fk b n p x) (s_F b n p)) from (by
                                                            intro b n q D h
                                                            have d0 : (gi 70 1400).toInt = D 0 := h.2.1.2.1.1.1.1
                                                            obtain ⟨_, hN, hU, t1, m1, n1⟩ := (q11 b n q D h).resolve_right (fun hh => by rcases hh with hh | hh <;> exact absurd hh.1 (by omega))
                                                            rcases q18 b n _ t1 with hh | hh
                                                            · exact absurd hh.1 (by omega)
                                                            · exact Or.inr ⟨rfl, _, 2, D, by decide, by simp only [s_port, s_name, s_kw, s_ifF (show ¬ D 0 = 6 by omega), s_ifT hN, s_ifF hU, s_ifF (fun hw => hh.2.1 ((s_mi_W (i := 1) (by decide)).mpr hw))], hh.2.2 (by rw [m1.1]; exact h.2.2.1)⟩))⟩⟩
      · have r23 : w18.toInt ≠ 0 := fun e => h21 (Int32.toInt_inj.mp (e.trans (by decide : (0:Int) = (0 : Int32).toInt)))
        have l24 : 1 ≤ w18.toInt := t_nel h21 l18 rfl rfl
        refine ev_loc f_X12_aPort (nx := 53) rfl rfl rfl rfl ?_
        refine ev_qI0 f_X12_aPort (nx := 56) (r := []) rfl rfl rfl rfl rfl rfl rfl (c_n_areBlasts hI ) rfl (fun w25 l25 u25 q25 => ?_)
        have q25 : (∀ (b : Nat → Int32) (n q : Nat), t_TM b n q gi18 → (w25.toInt = 1 ↔ s_isB b n q)) ∧ (w25.toInt = 1 → (gi18 69 14).toInt - (gi18 69 13).toInt ≤ 6) := q25
        refine ev_if f_X12_aPort (t1 := 59) (t2 := 65) rfl rfl rfl (fun h26 => ?_) (fun h26 => ?_)
        · have u27 : w25.toInt ≤ 0 := t_equ h26 (by decide : (0:Int32).toInt ≤ (0:Int))
          refine ev_loc f_X12_aPort (nx := 60) rfl rfl rfl rfl ?_
          refine ev_ic f_X12_aPort (nx := 61) (v := 2) rfl (by decide) rfl ?_
          refine ev_qI f_X12_aPort (nx := 64) (r := []) rfl rfl rfl rfl rfl rfl rfl (c_n_fails hI (2) (by decide : (2:Int) ≤ (2:Int32).toInt) (Int.le_trans (by decide : (2:Int32).toInt ≤ (2:Int)) (by decide : (2:Int) ≤ 7))) rfl hX rfl (fun w28 gi28 gl28 gr28 l28 u28 hI hX hC28 q28 => ?_)
          have q28 : (∀ (b : Nat → Int32) (n q : Nat), t_TM b n q gi18 → (gi18 69 18).toInt = 0 → t_MF gi28 (s_fk b n q 2) (s_F b n q)) ∧ w28.toInt = 0 := q28
          exact ev_retZ f_X12_aPort rfl l28 (Int.le_trans u28 (by decide : (0:Int) ≤ 1)) ⟨_, _, _, rfl, hI, hX, ⟨_, rfl, l28, (Int.le_trans u28 (by decide : (0:Int) ≤ 1)), (show ∀ (b : Nat → Int32) (n q : Nat) (D : s_D), t_MS b n q D gi gl → (w28.toInt = 1 ∧ ∃ q2 D2, s_port b n q D = s_ok q2 D2 ∧ t_MS b n q2 D2 gi28 gl28) ∨ (w28.toInt = 0 ∧ ∃ p x D2, x ≠ 0 ∧ s_port b n q D = s_bad b n p x D2 ∧ t_MF gi28 (s_fk b n p x) (s_F b n p)) from (by
                                                            intro b n q D h
                                                            have d0 : (gi 70 1400).toInt = D 0 := h.2.1.2.1.1.1.1
                                                            obtain ⟨_, hN, hU, t1, m1, n1⟩ := (q11 b n q D h).resolve_right (fun hh => by rcases hh with hh | hh <;> exact absurd hh.1 (by omega))
                                                            obtain ⟨_, w2, t2, m2⟩ := (q18 b n _ t1).resolve_right (fun hh => absurd hh.1 (by omega))
                                                            have hW := (s_mi_W (i := 1) (by decide)).mp w2
                                                            have hB : ¬ s_isB b n _ := fun hh => absurd ((q25.1 b n _ t2).mpr hh) (by omega)
                                                            exact Or.inr ⟨q28.2, _, 2, D, by decide, by simp only [s_port, s_name, s_kw, s_ifF (show ¬ D 0 = 6 by omega), s_ifT hN, s_ifF hU, s_ifT hW, s_ifF hB], q28.1 b n _ t2 (by rw [m2.1, m1.1]; exact h.2.2.1)⟩))⟩⟩
        · have r29 : w25.toInt ≠ 0 := fun e => h26 (Int32.toInt_inj.mp (e.trans (by decide : (0:Int) = (0 : Int32).toInt)))
          have l30 : 1 ≤ w25.toInt := t_nel h26 l25 rfl rfl
          refine ev_loc f_X12_aPort (nx := 66) rfl rfl rfl rfl ?_
          refine ev_getR f_X12_aPort (nx := 69) rfl (hI.wf.s rfl) rfl rfl (hI.wf.r rfl) rfl rfl ?_
          refine ev_loc f_X12_aPort (nx := 70) rfl rfl rfl rfl ?_
          refine ev_loc f_X12_aPort (nx := 71) rfl rfl rfl rfl ?_
          refine ev_gvI f_X12_aPort (nx := 74) (w := (gi18 69 14)) rfl (hI.wf.s rfl) rfl rfl rfl rfl ?_
          refine ev_loc f_X12_aPort (nx := 75) rfl rfl rfl rfl ?_
          refine ev_gvI f_X12_aPort (nx := 78) (w := (gi18 69 13)) rfl (hI.wf.s rfl) rfl rfl rfl rfl ?_
          refine ev_subR f_X12_aPort (nx := 79) (l := (-900)) (u := 900) rfl l20 u20 l19 u19 rfl rfl (by decide) (by decide) rfl (fun z31 e31 l31 u31 => ?_)
          have u33 : z31.toInt ≤ (6:Int) := (by omega)
          refine ev_iastT f_X12_aPort (nx := 80) rfl (hI.wf.s rfl) l5 (by decide) u5 (by decide) rfl (hI.astA (x := (gi 70 1400)) (hI.wf.s rfl) (by decide +kernel : t_abwa 70 1410 7 0 5 (-900) 6 = true) (by omega) (by omega) (by omega) l31 u33 rfl) (hX.upI (t_inR (p := 1410) (m := 1452) rfl l5 (by decide) u5 (by decide) (by decide))) (fun g32 e32 hI hX => ?_)
          refine ev_ic f_X12_aPort (nx := 81) (v := 0) rfl (by decide) rfl ?_
          refine ev_loc f_X12_aPort (nx := 82) (lo' := [(3, .int 0), (2, .int z5), (1, .int (gi 70 1400)), (0, .ref 69)]) rfl rfl rfl rfl ?_
          have L34 : ∀ (m34 : Nat) (gi34 : Nat → Nat → Int32) (gl34 : Nat → Nat → Int64) (gr34 : Nat → Nat → Value) (y34_3 : Int32), t_I sh gi34 gr34 → t_X wl_n_aPort sh gi gl gr gi34 gl34 gr34 → 0 ≤ y34_3.toInt → y34_3.toInt ≤ 6 → gi34 69 13 = (gi18 69 13) → gi34 69 14 = (gi18 69 14) → gi34 70 1400 = (gi 70 1400) → (∀ (b : Nat → Int32) (n q : Nat) (D : s_D), t_MS b n q D gi gl → t_PB b n q D gi34 gl34 ∧ t_PC b n q D y34_3 gi34) → (6 - y34_3.toInt).toNat = m34 → x_Ev X (d + 8) n_X12_aPort 82 [(3, .int y34_3), (2, .int z5), (1, .int (gi 70 1400)), (0, .ref 69)] [] (sh, gi34, gl34, gr34) (t_PI wl_n_aPort sh gi gl gr 0 1 (Q_n_aPort gi gl gr)) := by
            intro m34
            induction m34 using Nat.strongRecOn with
            | _ m34 ih34 =>
            intro gi34 gl34 gr34 y34_3 hI hX l34_3 u34_3 c34_0 c34_1 c34_2 j34_0 hm34
            refine ev_loc f_X12_aPort (nx := 83) rfl rfl rfl rfl ?_
            refine ev_bp f_X12_aPort (nx := 85) (v := 6) rfl (by decide) rfl ?_
            refine ev_if f_X12_aPort (t1 := 128) (t2 := 88) rfl rfl rfl (fun h35 => ?_) (fun h35 => ?_)
            · have l36 : 6 ≤ y34_3.toInt := t_lel h35 (by decide : (6:Int) ≤ (6:Int32).toInt)
              refine ev_sp f_X12_aPort (nx := 131) (v := 1410) rfl (by decide) rfl ?_
              refine ev_loc f_X12_aPort (nx := 132) (lo' := [(3, .int 1410), (2, .int z5), (1, .int (gi 70 1400)), (0, .ref 69)]) rfl rfl rfl rfl ?_
              have L37 : ∀ (m37 : Nat) (y37_3 : Int32), 1410 ≤ y37_3.toInt → y37_3.toInt ≤ 1452 → (∀ (b : Nat → Int32) (n q : Nat) (D : s_D), t_MS b n q D gi gl → ∃ i : Nat, (y37_3.toInt = 1410 + 7 * (i : Int) ∧ (i : Int) ≤ D 0) ∧ ∀ t : Nat, t < i → D (10 + t) ≠ (s_L b n (s_p3 b n q)).toInt) → (1452 - y37_3.toInt).toNat = m37 → x_Ev X (d + 8) n_X12_aPort 132 [(3, .int y37_3), (2, .int z5), (1, .int (gi 70 1400)), (0, .ref 69)] [] (sh, gi34, gl34, gr34) (t_PI wl_n_aPort sh gi gl gr 0 1 (Q_n_aPort gi gl gr)) := by
                intro m37
                induction m37 using Nat.strongRecOn with
                | _ m37 ih37 =>
                intro y37_3 l37_3 u37_3 j37_0 hm37
                refine ev_loc f_X12_aPort (nx := 133) rfl rfl rfl rfl ?_
                refine ev_loc f_X12_aPort (nx := 134) rfl rfl rfl rfl ?_
                refine ev_if f_X12_aPort (t1 := 206) (t2 := 137) rfl rfl rfl (fun h38 => ?_) (fun h38 => ?_)
                · have r39 : z5.toInt ≤ y37_3.toInt := Int32.le_iff_toInt_le.mp h38
                  refine ev_loc f_X12_aPort (nx := 207) rfl rfl rfl rfl ?_
                  refine ev_qN f_X12_aPort (nx := 210) (r := []) rfl rfl rfl rfl rfl rfl rfl (c_n_ahead hI ) rfl hX rfl (fun gi40 gl40 gr40 hI hX hC40 q40 => ?_)
                  have q40 : ∀ (b : Nat → Int32) (n q : Nat), t_Sm b n q gi34 → t_TM b n q gi40 := q40
                  obtain ⟨l41, u41⟩ := hI.b (hI.wf.s (k := 69) rfl) (t_bdK rfl : t_bd 11 13 = some (0, 900))
                  obtain ⟨l42, u42⟩ := hI.b (hI.wf.s (k := 69) rfl) (t_bdK rfl : t_bd 11 14 = some (0, 900))
                  refine ev_loc f_X12_aPort (nx := 211) rfl rfl rfl rfl ?_
                  refine ev_getR f_X12_aPort (nx := 214) rfl (hI.wf.s rfl) rfl rfl (hI.wf.r rfl) rfl rfl ?_
                  refine ev_sp f_X12_aPort (nx := 217) (v := 1400) rfl (by decide) rfl ?_
                  refine ev_alu f_X12_aPort (nx := 218) rfl rfl rfl rfl ?_
                  refine ev_ialdv f_X12_aPort (nx := 219) (w := (gi 70 1400)) rfl (hI.wf.s rfl) (by decide) (rfl : (1400 : Int32).toNatClampNeg = 1400) (by decide) ((hC40.1 70 1400 rfl).1.trans c34_2) rfl ?_
                  refine ev_ic f_X12_aPort (nx := 220) (v := 1) rfl (by decide) rfl ?_
                  refine ev_addC f_X12_aPort (nx := 221) (c := 1) (l := 1) (u := 6) rfl (by decide) l3 u10 rfl rfl (by decide) (by decide) rfl (fun z44 e44 l44 u44 => ?_)
                  refine ev_iastT f_X12_aPort (nx := 222) rfl (hI.wf.s rfl) (by decide : (1400:Int) ≤ (1400:Int32).toInt) (by decide) (by decide : (1400:Int32).toInt ≤ (1400:Int)) (by decide) rfl (hI.astL (hI.wf.s rfl) (by decide +kernel : t_abw 70 1400 1400 1 6 = true) (t_cl1 (by decide : (1400:Int) ≤ (1400:Int32).toInt) (by decide)) (t_cl2 (by decide : (1400:Int) ≤ (1400:Int32).toInt) (by decide : (1400:Int32).toInt ≤ (1400:Int)) (by decide) (by decide)) l44 u44 rfl) (hX.upI (t_inR (p := 1400) (m := 1400) rfl (by decide : (1400:Int) ≤ (1400:Int32).toInt) (by decide) (by decide : (1400:Int32).toInt ≤ (1400:Int)) (by decide) (by decide))) (fun g45 e45 hI hX => ?_)
                  refine ev_ic f_X12_aPort (nx := 223) (v := 1) rfl (by decide) rfl ?_
                  exact ev_ret f_X12_aPort rfl rfl rfl ⟨_, _, _, rfl, hI, hX, ⟨_, rfl, (Int.le_trans (by decide : (0:Int) ≤ 1) (by decide : (1:Int) ≤ (1:Int32).toInt)), (by decide : (1:Int32).toInt ≤ (1:Int)), (show ∀ (b : Nat → Int32) (n q : Nat) (D : s_D), t_MS b n q D gi gl → ((1 : Int) = 1 ∧ ∃ q2 D2, s_port b n q D = s_ok q2 D2 ∧ t_MS b n q2 D2 g45 gl40) ∨ ((1 : Int) = 0 ∧ ∃ p x D2, x ≠ 0 ∧ s_port b n q D = s_bad b n p x D2 ∧ t_MF g45 (s_fk b n p x) (s_F b n p)) from (by
                                                            intro b n q D h
                                                            obtain ⟨hP, hc⟩ := j34_0 b n q D h
                                                            obtain ⟨i, ⟨hi1, hi2⟩, hi3⟩ := j37_0 b n q D h
                                                            have d0 : (gi 70 1400).toInt = D 0 := h.2.1.2.1.1.1.1
                                                            have h6 := hP.1.1
                                                            have hx : ¬ ∃ i : Nat, (i : Int) < D 0 ∧ D (10 + i) = (s_L b n (s_p3 b n q)).toInt := fun ⟨u, hu, hh⟩ => hi3 u (by omega) hh
                                                            have hpn := t_PC_p hc hP.1.2.2.2.2 (by omega)
                                                            have d40 := congrArg Int32.toInt ((hC40.1 70 1400 rfl).1.trans c34_2)
                                                            exact Or.inl ⟨rfl, _, _, by simp only [s_port, s_name, s_kw, s_ifF (show ¬ D 0 = 6 by omega), s_ifT hP.1.2.1, s_ifF hP.1.2.2.1, s_ifT hP.1.2.2.2.1, s_ifT hP.1.2.2.2.2, s_ifF hx], t_MS_port hP hpn (q40 b n _ hP.2.1.S) ⟨(hC40.1 69 18 rfl).1, (hC40.1 69 17 rfl).1⟩ (fun j => (hC40.1 70 j rfl).1) (fun j => (hC40.1 71 j rfl).2.1) (hC40.1 69 20 rfl).1 (by omega) e45⟩))⟩⟩
                · have r46 : y37_3.toInt < z5.toInt := Int32.lt_iff_toInt_lt.mp (t_nle h38)
                  have u47 : y37_3.toInt ≤ 1451 := t_ltu (t_nle h38) u5 rfl
                  have l48 : 1411 ≤ z5.toInt := t_ltl (t_nle h38) l37_3 rfl
                  refine ev_ic f_X12_aPort (nx := 138) (v := 1) rfl (by decide) rfl ?_
                  refine ev_loc f_X12_aPort (nx := 140) (lo' := [(4, .int 1), (3, .int y37_3), (2, .int z5), (1, .int (gi 70 1400)), (0, .ref 69)]) rfl rfl rfl rfl ?_
                  refine ev_ic f_X12_aPort (nx := 141) (v := 0) rfl (by decide) rfl ?_
                  refine ev_loc f_X12_aPort (nx := 143) (lo' := [(5, .int 0), (4, .int 1), (3, .int y37_3), (2, .int z5), (1, .int (gi 70 1400)), (0, .ref 69)]) rfl rfl rfl rfl ?_
                  have L49 : ∀ (m49 : Nat) (y49_5 : Int32) (y49_4 : Int32), 0 ≤ y49_5.toInt → y49_5.toInt ≤ 7 → 0 ≤ y49_4.toInt → y49_4.toInt ≤ 1 → (∀ (b : Nat → Int32) (n q : Nat) (D : s_D), t_MS b n q D gi gl → (y49_4.toInt ≠ 0 ∧ ∀ t : Nat, (t : Int) < y49_5.toInt → gi34 70 (y37_3.toNatClampNeg + t) = gi34 70 (z5.toNatClampNeg + t)) ∨ (y49_4.toInt = 0 ∧ ∃ t : Nat, t < 7 ∧ gi34 70 (y37_3.toNatClampNeg + t) ≠ gi34 70 (z5.toNatClampNeg + t))) → (7 - y49_5.toInt).toNat = m49 → x_Ev X (d + 8) n_X12_aPort 143 [(5, .int y49_5), (4, .int y49_4), (3, .int y37_3), (2, .int z5), (1, .int (gi 70 1400)), (0, .ref 69)] [] (sh, gi34, gl34, gr34) (t_PI wl_n_aPort sh gi gl gr 0 1 (Q_n_aPort gi gl gr)) := by
                    intro m49
                    induction m49 using Nat.strongRecOn with
                    | _ m49 ih49 =>
                    intro y49_5 y49_4 l49_5 u49_5 l49_4 u49_4 j49_0 hm49
                    refine ev_loc f_X12_aPort (nx := 145) rfl rfl rfl rfl ?_
                    refine ev_bp f_X12_aPort (nx := 147) (v := 7) rfl (by decide) rfl ?_
                    refine ev_if f_X12_aPort (t1 := 189) (t2 := 150) rfl rfl rfl (fun h50 => ?_) (fun h50 => ?_)
                    · have l51 : 7 ≤ y49_5.toInt := t_lel h50 (by decide : (7:Int) ≤ (7:Int32).toInt)
                      refine ev_loc f_X12_aPort (nx := 191) rfl rfl rfl rfl ?_
                      refine ev_if f_X12_aPort (t1 := 200) (t2 := 194) rfl rfl rfl (fun h52 => ?_) (fun h52 => ?_)
                      · have u53 : y49_4.toInt ≤ 0 := t_equ h52 (by decide : (0:Int32).toInt ≤ (0:Int))
                        refine ev_incR f_X12_aPort (nx := 203) (c := 7) (l := 1417) (u := 1458) rfl rfl (by decide) (by decide) l37_3 u47 rfl rfl (by decide) (by decide) rfl (fun z54 e54 l54 u54 => ?_)
                        refine ev_jmp f_X12_aPort (nx := 132) rfl rfl rfl ?_
                        refine ev_sub (lo := [(3, .int z54), (2, .int z5), (1, .int (gi 70 1400)), (0, .ref 69)]) rfl (t_sc rfl (t_sc rfl (t_sc rfl (t_sc rfl t_sn)))) ?_
                        exact ih37 _ (by omega) (z54) (Int.le_trans (by decide : (1410:Int) ≤ 1417) l54) (by omega : z54.toInt ≤ (1452:Int)) (fun b n q D h => (by
                                                            obtain ⟨hP, hc⟩ := j34_0 b n q D h
                                                            obtain ⟨i, ⟨hi1, hi2⟩, hi3⟩ := j37_0 b n q D h
                                                            have d0 : (gi 70 1400).toInt = D 0 := h.2.1.2.1.1.1.1
                                                            have b0 := h.2.1.1.1
                                                            have h6 := hP.1.1
                                                            have hcp := t_clamp (i := z5) (by omega)
                                                            have hca := t_clamp (i := y37_3) (by omega)
                                                            have hlt : (i : Int) < D 0 := by omega
                                                            have hpn := t_PC_p hc hP.1.2.2.2.2 (by omega)
                                                            have hpi := hP.2.2.1.2.1.2.1 i hlt
                                                            have hpa : ∀ t : Nat, gi34 70 (1400 + 10 + 7 * i + t) = gi34 70 (y37_3.toNatClampNeg + t) := fun t => by rw [show 1400 + 10 + 7 * i + t = y37_3.toNatClampNeg + t from (by omega)]
                                                            have hpp : ∀ t : Nat, gi34 70 (1410 + 7 * (D 0).toNat + t) = gi34 70 (z5.toNatClampNeg + t) := fun t => by rw [show 1410 + 7 * (D 0).toNat + t = z5.toNatClampNeg + t from (by omega)]
                                                            rcases j49_0 b n q D h with hh | hh
                                                            · exact absurd hh.1 (by omega)
                                                            · obtain ⟨_, u, hu, hne⟩ := hh
                                                              have hx : D (10 + i) ≠ (s_L b n (s_p3 b n q)).toInt := fun e => hne (by rw [← hpa u, ← hpp u]; exact (t_pr_eq hpi hpn).mpr e u hu)
                                                              exact ⟨i + 1, ⟨by omega, by omega⟩, fun t ht => by by_cases hti : t = i; (rw [hti]; exact hx); (exact hi3 t (by omega))⟩)) rfl
                      · have r55 : y49_4.toInt ≠ 0 := fun e => h52 (Int32.toInt_inj.mp (e.trans (by decide : (0:Int) = (0 : Int32).toInt)))
                        have l56 : 1 ≤ y49_4.toInt := t_nel h52 l49_4 rfl rfl
                        refine ev_loc f_X12_aPort (nx := 195) rfl rfl rfl rfl ?_
                        refine ev_ic f_X12_aPort (nx := 196) (v := 5) rfl (by decide) rfl ?_
                        refine ev_qI f_X12_aPort (nx := 199) (r := []) rfl rfl rfl rfl rfl rfl rfl (c_n_fails hI (5) (Int.le_trans (by decide : (2:Int) ≤ 5) (by decide : (5:Int) ≤ (5:Int32).toInt)) (Int.le_trans (by decide : (5:Int32).toInt ≤ (5:Int)) (by decide : (5:Int) ≤ 7))) rfl hX rfl (fun w57 gi57 gl57 gr57 l57 u57 hI hX hC57 q57 => ?_)
                        have q57 : (∀ (b : Nat → Int32) (n q : Nat), t_TM b n q gi34 → (gi34 69 18).toInt = 0 → t_MF gi57 (s_fk b n q 5) (s_F b n q)) ∧ w57.toInt = 0 := q57
                        exact ev_retZ f_X12_aPort rfl l57 (Int.le_trans u57 (by decide : (0:Int) ≤ 1)) ⟨_, _, _, rfl, hI, hX, ⟨_, rfl, l57, (Int.le_trans u57 (by decide : (0:Int) ≤ 1)), (show ∀ (b : Nat → Int32) (n q : Nat) (D : s_D), t_MS b n q D gi gl → (w57.toInt = 1 ∧ ∃ q2 D2, s_port b n q D = s_ok q2 D2 ∧ t_MS b n q2 D2 gi57 gl57) ∨ (w57.toInt = 0 ∧ ∃ p x D2, x ≠ 0 ∧ s_port b n q D = s_bad b n p x D2 ∧ t_MF gi57 (s_fk b n p x) (s_F b n p)) from (by
                                                            intro b n q D h
                                                            obtain ⟨hP, hc⟩ := j34_0 b n q D h
                                                            obtain ⟨i, ⟨hi1, hi2⟩, hi3⟩ := j37_0 b n q D h
                                                            have d0 : (gi 70 1400).toInt = D 0 := h.2.1.2.1.1.1.1
                                                            have b0 := h.2.1.1.1
                                                            have h6 := hP.1.1
                                                            have hcp := t_clamp (i := z5) (by omega)
                                                            have hca := t_clamp (i := y37_3) (by omega)
                                                            have hlt : (i : Int) < D 0 := by omega
                                                            have hpn := t_PC_p hc hP.1.2.2.2.2 (by omega)
                                                            have hpi := hP.2.2.1.2.1.2.1 i hlt
                                                            have hpa : ∀ t : Nat, gi34 70 (1400 + 10 + 7 * i + t) = gi34 70 (y37_3.toNatClampNeg + t) := fun t => by rw [show 1400 + 10 + 7 * i + t = y37_3.toNatClampNeg + t from (by omega)]
                                                            have hpp : ∀ t : Nat, gi34 70 (1410 + 7 * (D 0).toNat + t) = gi34 70 (z5.toNatClampNeg + t) := fun t => by rw [show 1410 + 7 * (D 0).toNat + t = z5.toNatClampNeg + t from (by omega)]
                                                            rcases j49_0 b n q D h with hh | hh
                                                            rotate_left
                                                            · exact absurd hh.1 (by omega)
                                                            have hx : ∃ i : Nat, (i : Int) < D 0 ∧ D (10 + i) = (s_L b n (s_p3 b n q)).toInt := ⟨i, hlt, (t_pr_eq hpi hpn).mp (fun u hu => by show gi34 70 (1400 + 10 + 7 * i + u) = gi34 70 (1410 + 7 * (D 0).toNat + u); rw [hpa u, hpp u]; exact hh.2 u (by omega))⟩
                                                            exact Or.inr ⟨q57.2, (s_p3 b n q), 5, D, by decide, by simp only [s_port, s_name, s_kw, s_ifF (show ¬ D 0 = 6 by omega), s_ifT hP.1.2.1, s_ifF hP.1.2.2.1, s_ifT hP.1.2.2.2.1, s_ifT hP.1.2.2.2.2, s_ifT hx], q57.1 b n _ hP.2.1 hP.2.2.2.1⟩))⟩⟩
                    · have u58 : y49_5.toInt ≤ 6 := t_ltu (t_nle h50) (by decide : (7:Int32).toInt ≤ (7:Int)) rfl
                      refine ev_loc f_X12_aPort (nx := 152) rfl rfl rfl rfl ?_
                      refine ev_if f_X12_aPort (t1 := 180) (t2 := 155) rfl rfl rfl (fun h59 => ?_) (fun h59 => ?_)
                      · have u60 : y49_4.toInt ≤ 0 := t_equ h59 (by decide : (0:Int32).toInt ≤ (0:Int))
                        refine ev_ic f_X12_aPort (nx := 181) (v := 0) rfl (by decide) rfl ?_
                        refine ev_loc f_X12_aPort (nx := 183) (lo' := [(4, .int 0), (5, .int y49_5), (3, .int y37_3), (2, .int z5), (1, .int (gi 70 1400)), (0, .ref 69)]) rfl rfl rfl rfl ?_
                        refine ev_incR f_X12_aPort (nx := 186) (c := 1) (l := 1) (u := 7) rfl rfl (by decide) (by decide) l49_5 u58 rfl rfl (by decide) (by decide) rfl (fun z61 e61 l61 u61 => ?_)
                        refine ev_jmp f_X12_aPort (nx := 143) rfl rfl rfl ?_
                        refine ev_sub (lo := [(5, .int z61), (4, .int 0), (3, .int y37_3), (2, .int z5), (1, .int (gi 70 1400)), (0, .ref 69)]) rfl (t_sc rfl (t_sc rfl (t_sc rfl (t_sc rfl (t_sc rfl (t_sc rfl t_sn)))))) ?_
                        exact ih49 _ (by omega) (z61) (0) (Int.le_trans (by decide : (0:Int) ≤ 1) l61) u61 (by decide : (0:Int) ≤ (0:Int32).toInt) (Int.le_trans (by decide : (0:Int32).toInt ≤ (0:Int)) (by decide : (0:Int) ≤ 1)) (fun b n q D h => (by
                                                            rcases j49_0 b n q D h with hh | hh
                                                            · exact absurd hh.1 (by omega)
                                                            · exact Or.inr ⟨rfl, hh.2⟩)) rfl
                      · have r62 : y49_4.toInt ≠ 0 := fun e => h59 (Int32.toInt_inj.mp (e.trans (by decide : (0:Int) = (0 : Int32).toInt)))
                        have l63 : 1 ≤ y49_4.toInt := t_nel h59 l49_4 rfl rfl
                        refine ev_loc f_X12_aPort (nx := 156) rfl rfl rfl rfl ?_
                        refine ev_getR f_X12_aPort (nx := 159) rfl (hI.wf.s rfl) rfl rfl (hI.wf.r rfl) rfl rfl ?_
                        refine ev_loc f_X12_aPort (nx := 160) rfl rfl rfl rfl ?_
                        refine ev_loc f_X12_aPort (nx := 162) rfl rfl rfl rfl ?_
                        refine ev_addR f_X12_aPort (nx := 163) (l := 1410) (u := 1457) rfl l37_3 u47 l49_5 u58 rfl rfl (by decide) (by decide) rfl (fun z64 e64 l64 u64 => ?_)
                        refine ev_ialdT f_X12_aPort (nx := 164) rfl (hI.wf.s rfl) l64 (by decide) u64 (by decide) rfl (fun w65 e65 => ?_)
                        obtain ⟨l65, u65⟩ := hI.abi e65 (by decide +kernel : t_abr 70 1410 1457 (-900) 255 = true) l64 (by decide) u64 (by decide)
                        refine ev_loc f_X12_aPort (nx := 165) rfl rfl rfl rfl ?_
                        refine ev_getR f_X12_aPort (nx := 168) rfl (hI.wf.s rfl) rfl rfl (hI.wf.r rfl) rfl rfl ?_
                        refine ev_loc f_X12_aPort (nx := 169) rfl rfl rfl rfl ?_
                        refine ev_loc f_X12_aPort (nx := 171) rfl rfl rfl rfl ?_
                        refine ev_addR f_X12_aPort (nx := 172) (l := 1411) (u := 1458) rfl l48 u5 l49_5 u58 rfl rfl (by decide) (by decide) rfl (fun z66 e66 l66 u66 => ?_)
                        refine ev_ialdT f_X12_aPort (nx := 173) rfl (hI.wf.s rfl) l66 (by decide) u66 (by decide) rfl (fun w67 e67 => ?_)
                        obtain ⟨l67, u67⟩ := hI.abi e67 (by decide +kernel : t_abr 70 1411 1458 (-900) 255 = true) l66 (by decide) u66 (by decide)
                        refine ev_if f_X12_aPort (t1 := 176) (t2 := 180) rfl rfl rfl (fun h68 => ?_) (fun h68 => ?_)
                        · have r69 : w65.toInt = w67.toInt := t_eqi h68
                          refine ev_ic f_X12_aPort (nx := 177) (v := 1) rfl (by decide) rfl ?_
                          refine ev_jmp f_X12_aPort (nx := 181) rfl rfl rfl ?_
                          refine ev_loc f_X12_aPort (nx := 183) (lo' := [(4, .int 1), (5, .int y49_5), (3, .int y37_3), (2, .int z5), (1, .int (gi 70 1400)), (0, .ref 69)]) rfl rfl rfl rfl ?_
                          refine ev_incR f_X12_aPort (nx := 186) (c := 1) (l := 1) (u := 7) rfl rfl (by decide) (by decide) l49_5 u58 rfl rfl (by decide) (by decide) rfl (fun z70 e70 l70 u70 => ?_)
                          refine ev_jmp f_X12_aPort (nx := 143) rfl rfl rfl ?_
                          refine ev_sub (lo := [(5, .int z70), (4, .int 1), (3, .int y37_3), (2, .int z5), (1, .int (gi 70 1400)), (0, .ref 69)]) rfl (t_sc rfl (t_sc rfl (t_sc rfl (t_sc rfl (t_sc rfl (t_sc rfl t_sn)))))) ?_
                          exact ih49 _ (by omega) (z70) (1) (Int.le_trans (by decide : (0:Int) ≤ 1) l70) u70 (Int.le_trans (by decide : (0:Int) ≤ 1) (by decide : (1:Int) ≤ (1:Int32).toInt)) (by decide : (1:Int32).toInt ≤ (1:Int)) (fun b n q D h => (by
                                                            have c1_ := t_clamp (i := y37_3) (by omega)
                                                            have c2_ := t_clamp (i := z5) (by omega)
                                                            have c3_ := t_clamp (i := y49_5) (by omega)
                                                            have c4_ := t_clamp (i := z64) (by omega)
                                                            have c5_ := t_clamp (i := z66) (by omega)
                                                            rcases j49_0 b n q D h with hh | hh
                                                            · refine Or.inl ⟨by decide, fun t ht => ?_⟩
                                                              by_cases ht5 : t = y49_5.toNatClampNeg
                                                              · rw [ht5, show y37_3.toNatClampNeg + y49_5.toNatClampNeg = z64.toNatClampNeg from (by omega), show z5.toNatClampNeg + y49_5.toNatClampNeg = z66.toNatClampNeg from (by omega), ← e65, ← e67]; exact h68
                                                              · exact hh.2 t (by omega)
                                                            · exact absurd hh.1 (by omega))) rfl
                        · have r71 : w65.toInt ≠ w67.toInt := t_nei h68
                          refine ev_ic f_X12_aPort (nx := 181) (v := 0) rfl (by decide) rfl ?_
                          refine ev_loc f_X12_aPort (nx := 183) (lo' := [(4, .int 0), (5, .int y49_5), (3, .int y37_3), (2, .int z5), (1, .int (gi 70 1400)), (0, .ref 69)]) rfl rfl rfl rfl ?_
                          refine ev_incR f_X12_aPort (nx := 186) (c := 1) (l := 1) (u := 7) rfl rfl (by decide) (by decide) l49_5 u58 rfl rfl (by decide) (by decide) rfl (fun z72 e72 l72 u72 => ?_)
                          refine ev_jmp f_X12_aPort (nx := 143) rfl rfl rfl ?_
                          refine ev_sub (lo := [(5, .int z72), (4, .int 0), (3, .int y37_3), (2, .int z5), (1, .int (gi 70 1400)), (0, .ref 69)]) rfl (t_sc rfl (t_sc rfl (t_sc rfl (t_sc rfl (t_sc rfl (t_sc rfl t_sn)))))) ?_
                          exact ih49 _ (by omega) (z72) (0) (Int.le_trans (by decide : (0:Int) ≤ 1) l72) u72 (by decide : (0:Int) ≤ (0:Int32).toInt) (Int.le_trans (by decide : (0:Int32).toInt ≤ (0:Int)) (by decide : (0:Int) ≤ 1)) (fun b n q D h => (by
                                                            have c1_ := t_clamp (i := y37_3) (by omega)
                                                            have c2_ := t_clamp (i := z5) (by omega)
                                                            have c3_ := t_clamp (i := y49_5) (by omega)
                                                            have c4_ := t_clamp (i := z64) (by omega)
                                                            have c5_ := t_clamp (i := z66) (by omega)
                                                            refine Or.inr ⟨rfl, y49_5.toNatClampNeg, by omega, fun e => h68 ?_⟩
                                                            rw [e65, e67, show z64.toNatClampNeg = y37_3.toNatClampNeg + y49_5.toNatClampNeg from (by omega), show z66.toNatClampNeg = z5.toNatClampNeg + y49_5.toNatClampNeg from (by omega)]; exact e)) rfl
                  refine ev_sub (lo := [(5, .int 0), (4, .int 1), (3, .int y37_3), (2, .int z5), (1, .int (gi 70 1400)), (0, .ref 69)]) rfl (t_sc rfl (t_sc rfl (t_sc rfl (t_sc rfl (t_sc rfl (t_sc rfl t_sn)))))) ?_
                  exact L49 _ (0) (1) (by decide : (0:Int) ≤ (0:Int32).toInt) (Int.le_trans (by decide : (0:Int32).toInt ≤ (0:Int)) (by decide : (0:Int) ≤ 7)) (Int.le_trans (by decide : (0:Int) ≤ 1) (by decide : (1:Int) ≤ (1:Int32).toInt)) (by decide : (1:Int32).toInt ≤ (1:Int)) (fun b n q D h => Or.inl ⟨by decide, fun t ht => absurd ht (by have : (0 : Int32).toInt = 0 := rfl; omega)⟩) rfl
              refine ev_sub (lo := [(3, .int 1410), (2, .int z5), (1, .int (gi 70 1400)), (0, .ref 69)]) rfl (t_sc rfl (t_sc rfl (t_sc rfl (t_sc rfl t_sn)))) ?_
              exact L37 _ (1410) (by decide : (1410:Int) ≤ (1410:Int32).toInt) (Int.le_trans (by decide : (1410:Int32).toInt ≤ (1410:Int)) (by decide : (1410:Int) ≤ 1452)) (fun b n q D h => ⟨0, ⟨by have : (1410 : Int32).toInt = 1410 := rfl; omega, h.2.1.1.1.1⟩, fun t ht => absurd ht (Nat.not_lt_zero t)⟩) rfl
            · have u73 : y34_3.toInt ≤ 5 := t_ltu (t_nle h35) (by decide : (6:Int32).toInt ≤ (6:Int)) rfl
              refine ev_loc f_X12_aPort (nx := 89) rfl rfl rfl rfl ?_
              refine ev_getR f_X12_aPort (nx := 92) rfl (hI.wf.s rfl) rfl rfl (hI.wf.r rfl) rfl rfl ?_
              refine ev_loc f_X12_aPort (nx := 93) rfl rfl rfl rfl ?_
              refine ev_ic f_X12_aPort (nx := 94) (v := 1) rfl (by decide) rfl ?_
              refine ev_addC f_X12_aPort (nx := 95) (c := 1) (l := 1411) (u := 1453) rfl (by decide) l5 u5 rfl rfl (by decide) (by decide) rfl (fun z74 e74 l74 u74 => ?_)
              refine ev_loc f_X12_aPort (nx := 96) rfl rfl rfl rfl ?_
              refine ev_addR f_X12_aPort (nx := 97) (l := 1411) (u := 1458) rfl l74 u74 l34_3 u73 rfl rfl (by decide) (by decide) rfl (fun z75 e75 l75 u75 => ?_)
              refine ev_loc f_X12_aPort (nx := 98) rfl rfl rfl rfl ?_
              refine ev_loc f_X12_aPort (nx := 99) rfl rfl rfl rfl ?_
              refine ev_getR f_X12_aPort (nx := 102) rfl (hI.wf.s rfl) rfl rfl (hI.wf.r rfl) rfl rfl ?_
              refine ev_loc f_X12_aPort (nx := 103) rfl rfl rfl rfl ?_
              refine ev_ialdT f_X12_aPort (nx := 104) rfl (hI.wf.s rfl) l5 (by decide) u5 (by decide) rfl (fun w76 e76 => ?_)
              obtain ⟨l76, u76⟩ := hI.abA (x := (gi 70 1400)) e76 (by decide +kernel : t_aba 70 1410 7 0 5 (-900) 6 = true) (by omega) (by omega) (by omega)
              refine ev_if f_X12_aPort (t1 := 120) (t2 := 107) rfl rfl rfl (fun h77 => ?_) (fun h77 => ?_)
              · have r78 : w76.toInt ≤ y34_3.toInt := Int32.le_iff_toInt_le.mp h77
                have u79 : w76.toInt ≤ 5 := t_leu h77 u73
                refine ev_ic f_X12_aPort (nx := 121) (v := 0) rfl (by decide) rfl ?_
                refine ev_iastT f_X12_aPort (nx := 122) rfl (hI.wf.s rfl) l75 (by decide) u75 (by decide) rfl (hI.astB (x := (gi 70 1400)) (y := y34_3) (hI.wf.s rfl) (by decide +kernel : t_abwb 70 1411 7 5 5 0 0 = true) (by omega) (by omega) (by omega) (by omega) (by omega) (by decide : (0:Int) ≤ (0:Int32).toInt) (by decide : (0:Int32).toInt ≤ (0:Int)) rfl) (hX.upI (t_inR (p := 1411) (m := 1458) rfl l75 (by decide) u75 (by decide) (by decide))) (fun g80 e80 hI hX => ?_)
                refine ev_incR f_X12_aPort (nx := 125) (c := 1) (l := 1) (u := 6) rfl rfl (by decide) (by decide) l34_3 u73 rfl rfl (by decide) (by decide) rfl (fun z81 e81 l81 u81 => ?_)
                refine ev_jmp f_X12_aPort (nx := 82) rfl rfl rfl ?_
                refine ev_sub (lo := [(3, .int z81), (2, .int z5), (1, .int (gi 70 1400)), (0, .ref 69)]) rfl (t_sc rfl (t_sc rfl (t_sc rfl (t_sc rfl t_sn)))) ?_
                exact ih34 _ (by omega) g80 gl34 gr34 (z81) hI hX  (Int.le_trans (by decide : (0:Int) ≤ 1) l81) u81 ((by rw [e80]; exact x_up2_off (Or.inl (by decide)) : g80 69 13 = gi34 69 13).trans c34_0) ((by rw [e80]; exact x_up2_off (Or.inl (by decide)) : g80 69 14 = gi34 69 14).trans c34_1) ((by rw [e80]; exact x_up2_off (Or.inr (t_neCl l75 (by decide))) : g80 70 1400 = gi34 70 1400).trans c34_2) (fun b n q D h => (by
                                                            obtain ⟨hP, hc⟩ := j34_0 b n q D h
                                                            have d0 : (gi 70 1400).toInt = D 0 := h.2.1.2.1.1.1.1
                                                            have b0 := h.2.1.1.1
                                                            have h6 := hP.1.1
                                                            have ht := hP.2.1
                                                            have hE := (s_E_b (b := b) ht.1.2)
                                                            have hF := ht.2.2.1
                                                            have hE2 := ht.2.1
                                                            have hci := t_clamp (i := z75) (by omega)
                                                            have hcy := t_clamp (i := y34_3) (by omega)
                                                            have hcp := t_clamp (i := z5) (by omega)
                                                            have hlen : (gi34 70 z5.toNatClampNeg).toInt = ((s_E b n (s_p3 b n q) : Nat) : Int) - (s_F b n (s_p3 b n q) : Nat) := by rw [show z5.toNatClampNeg = 1410 + 7 * (D 0).toNat from (by omega)]; exact hc.1
                                                            rw [← e76] at hlen
                                                            exact ⟨hP.up (by omega) (by omega) e80, t_PC_s hc (by omega) (by omega) (by omega) (m := z75.toNatClampNeg) (by omega) (by omega) (by rw [if_neg (by omega)]; rfl) e80⟩)) rfl
              · have r82 : y34_3.toInt < w76.toInt := Int32.lt_iff_toInt_lt.mp (t_nle h77)
                have l83 : 1 ≤ w76.toInt := t_ltl (t_nle h77) l34_3 rfl
                refine ev_loc f_X12_aPort (nx := 108) rfl rfl rfl rfl ?_
                refine ev_loc f_X12_aPort (nx := 109) rfl rfl rfl rfl ?_
                refine ev_gvI f_X12_aPort (nx := 112) (w := (gi18 69 13)) rfl (hI.wf.s rfl) rfl rfl c34_0 rfl ?_
                refine ev_loc f_X12_aPort (nx := 113) rfl rfl rfl rfl ?_
                refine ev_addR f_X12_aPort (nx := 114) (l := 0) (u := 905) rfl l19 u19 l34_3 u73 rfl rfl (by decide) (by decide) rfl (fun z84 e84 l84 u84 => ?_)
                refine ev_qI0 f_X12_aPort (nx := 117) (r := [.int z75, .ref 70]) rfl rfl rfl rfl rfl rfl rfl (c_n_byteAt hI (z84) l84) rfl (fun w85 l85 u85 q85 => ?_)
                have q85 : (∀ (b : Nat → Int32) (n : Nat), t_Tx b n gi34 → w85.toInt = s_at b n z84.toNatClampNeg) ∧ (w85.toInt ≠ -1 → z84.toInt < (gi34 69 11).toInt) ∧ (w85.toInt = -1 → (gi34 69 11).toInt ≤ z84.toInt) := q85
                refine ev_jmp f_X12_aPort (nx := 121) rfl rfl rfl ?_
                refine ev_iastT f_X12_aPort (nx := 122) rfl (hI.wf.s rfl) l75 (by decide) u75 (by decide) rfl (hI.astB (x := (gi 70 1400)) (y := y34_3) (hI.wf.s rfl) (by decide +kernel : t_abwb 70 1411 7 5 5 (-1) 255 = true) (by omega) (by omega) (by omega) (by omega) (by omega) l85 u85 rfl) (hX.upI (t_inR (p := 1411) (m := 1458) rfl l75 (by decide) u75 (by decide) (by decide))) (fun g86 e86 hI hX => ?_)
                refine ev_incR f_X12_aPort (nx := 125) (c := 1) (l := 1) (u := 6) rfl rfl (by decide) (by decide) l34_3 u73 rfl rfl (by decide) (by decide) rfl (fun z87 e87 l87 u87 => ?_)
                refine ev_jmp f_X12_aPort (nx := 82) rfl rfl rfl ?_
                refine ev_sub (lo := [(3, .int z87), (2, .int z5), (1, .int (gi 70 1400)), (0, .ref 69)]) rfl (t_sc rfl (t_sc rfl (t_sc rfl (t_sc rfl t_sn)))) ?_
                exact ih34 _ (by omega) g86 gl34 gr34 (z87) hI hX  (Int.le_trans (by decide : (0:Int) ≤ 1) l87) u87 ((by rw [e86]; exact x_up2_off (Or.inl (by decide)) : g86 69 13 = gi34 69 13).trans c34_0) ((by rw [e86]; exact x_up2_off (Or.inl (by decide)) : g86 69 14 = gi34 69 14).trans c34_1) ((by rw [e86]; exact x_up2_off (Or.inr (t_neCl l75 (by decide))) : g86 70 1400 = gi34 70 1400).trans c34_2) (fun b n q D h => (by
                                                            obtain ⟨hP, hc⟩ := j34_0 b n q D h
                                                            have d0 : (gi 70 1400).toInt = D 0 := h.2.1.2.1.1.1.1
                                                            have b0 := h.2.1.1.1
                                                            have h6 := hP.1.1
                                                            have ht := hP.2.1
                                                            have hE := (s_E_b (b := b) ht.1.2)
                                                            have hF := ht.2.2.1
                                                            have hE2 := ht.2.1
                                                            have hci := t_clamp (i := z75) (by omega)
                                                            have hcy := t_clamp (i := y34_3) (by omega)
                                                            have hcp := t_clamp (i := z5) (by omega)
                                                            have hlen : (gi34 70 z5.toNatClampNeg).toInt = ((s_E b n (s_p3 b n q) : Nat) : Int) - (s_F b n (s_p3 b n q) : Nat) := by rw [show z5.toNatClampNeg = 1410 + 7 * (D 0).toNat from (by omega)]; exact hc.1
                                                            rw [← e76] at hlen
                                                            have hcb := t_clamp (i := z84) (by omega)
                                                            have hlw := s_K2_wd hP.1.2.2.2.2.1.1 (y34_3.toNatClampNeg) (by omega)
                                                            have hk0 := congrArg Int32.toInt c34_0
                                                            have hkb : z84.toNatClampNeg = s_F b n (s_p3 b n q) + y34_3.toNatClampNeg := by omega
                                                            have hb := (s_at_c (i := s_F b n (s_p3 b n q) + y34_3.toNatClampNeg) ht.1.1.1.2 (c := (b (s_F b n (s_p3 b n q) + y34_3.toNatClampNeg)).toInt) (by omega) (by omega)).mpr ⟨by omega, rfl⟩
                                                            have hv : w85.toInt = (b (s_F b n (s_p3 b n q) + y34_3.toNatClampNeg)).toInt := by rw [q85.1 b n ht.1.1, hkb]; exact hb
                                                            exact ⟨hP.up (by omega) (by omega) e86, t_PC_s hc (by omega) (by omega) (by omega) (m := z75.toNatClampNeg) (by omega) (by omega) (by rw [if_pos (by omega)]; exact hv) e86⟩)) rfl
          refine ev_sub (lo := [(3, .int 0), (2, .int z5), (1, .int (gi 70 1400)), (0, .ref 69)]) rfl (t_sc rfl (t_sc rfl (t_sc rfl (t_sc rfl t_sn)))) ?_
          exact L34 _ g32 gl18 gr18 (0) hI hX  (by decide : (0:Int) ≤ (0:Int32).toInt) (Int.le_trans (by decide : (0:Int32).toInt ≤ (0:Int)) (by decide : (0:Int) ≤ 6)) ((by rw [e32]; exact x_up2_off (Or.inl (by decide)) : g32 69 13 = gi18 69 13).trans rfl) ((by rw [e32]; exact x_up2_off (Or.inl (by decide)) : g32 69 14 = gi18 69 14).trans rfl) ((by rw [e32]; exact x_up2_off (Or.inr (t_neCl l5 (by decide))) : g32 70 1400 = gi18 70 1400).trans ((hC18.1 70 1400 rfl).1.trans ((hC11.1 70 1400 rfl).1.trans rfl))) (fun b n q D h => (by
                                                            have d0 : (gi 70 1400).toInt = D 0 := h.2.1.2.1.1.1.1
                                                            have b0 := h.2.1.1.1
                                                            obtain ⟨_, hN, hU, t1, m1, n1⟩ := (q11 b n q D h).resolve_right (fun hh => by rcases hh with hh | hh <;> exact absurd hh.1 (by omega))
                                                            obtain ⟨_, w2, t2, m2⟩ := (q18 b n _ t1).resolve_right (fun hh => absurd hh.1 (by omega))
                                                            have hW := (s_mi_W (i := 1) (by decide)).mp w2
                                                            have hB := (q25.1 b n _ t2).mp (by omega)
                                                            have hc0 := t_clamp (i := gi 70 1400) (by omega)
                                                            have hPB : t_PB b n q D gi18 gl18 := by
                                                              refine ⟨⟨by omega, hN, hU, hW, hB⟩, t2, ⟨h.2.1.1, (h.2.1.2.1.eq (fun j => (hC11.1 70 j rfl).1)).eq (fun j => (hC18.1 70 j rfl).1), ⟨?_, ?_⟩, ?_⟩, ?_⟩
                                                              · have hl : ∀ j, j ≠ 72 + (gi 70 1400).toNatClampNeg → gl18 71 j = gl 71 j := fun j hj => by rw [(hC18.1 71 j rfl).2.1, n1 j, if_neg hj]
                                                                obtain ⟨x0, x1, x2⟩ := h.2.1.2.2.1
                                                                exact ⟨fun i hi => by rw [hl _ (by omega)]; exact x0 i hi, fun i hi => by rw [hl _ (by omega)]; exact x1 i hi, fun i hi => by rw [hl _ (by omega)]; exact x2 i hi⟩
                                                              · rw [(hC18.1 71 _ rfl).2.1, n1, if_pos (by omega)]; exact t_nr_of hN
                                                              · unfold t_Mt; rw [(hC18.1 69 20 rfl).1, (hC11.1 69 20 rfl).1]; exact h.2.1.2.2.2
                                                              · unfold t_MF; rw [m2.1, m2.2, m1.1, m1.2]; exact h.2.2
                                                            have hci := t_clamp (i := z5) (by omega)
                                                            exact ⟨hPB.up (by omega) (by omega) e32, t_PC_0 t2 (m := z5.toNatClampNeg) (by omega) (by omega) (by omega) e32⟩)) rfl
