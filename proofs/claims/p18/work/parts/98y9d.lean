/-! ===== printed by riv.py: the RIVER of the other side ===== -/
noncomputable def wl_n_aShip : List (Nat × Nat) := [(69, 12), (69, 13), (69, 14), (69, 15), (69, 17), (69, 18), (70, 140111401), (70, 145211482), (70, 145311483), (70, 145411484), (70, 145511485), (70, 145611486), (71, 7210089)]
noncomputable def Q_n_aShip (gi : Nat → Nat → Int32) (gl : Nat → Nat → Int64) (gr : Nat → Nat → Value) : Int32 → (Nat → Nat → Int32) → (Nat → Nat → Int64) → (Nat → Nat → Value) → Prop := fun (v : Int32) (gi2 : Nat → Nat → Int32) (gl2 : Nat → Nat → Int64) (gr2 : Nat → Nat → Value) => ∀ (b : Nat → Int32) (n q : Nat) (D : s_D), t_MS b n q D gi gl → (v.toInt = 1 ∧ ∃ q2 D2, s_ship b n q D = s_ok q2 D2 ∧ t_MS b n q2 D2 gi2 gl2) ∨ (v.toInt = 0 ∧ ∃ p x D2, x ≠ 0 ∧ s_ship b n q D = s_bad b n p x D2 ∧ t_MF gi2 (s_fk b n p x) (s_F b n p))
theorem c_n_aShip {X : x_Ext} {d : Nat} {sh : List (Nat ⊕ (Nat × Nat))} {gi : Nat → Nat → Int32} {gl : Nat → Nat → Int64} {gr : Nat → Nat → Value} (hI : t_I sh gi gr) : x_Me X (d + 8) n_X12_aShip [.ref 69] (sh, gi, gl, gr) (t_PI wl_n_aShip sh gi gl gr 0 1 (Q_n_aShip gi gl gr)) := by
  have hX : t_X wl_n_aShip sh gi gl gr gi gl gr := t_X.rf
  refine me_i f_X12_aShip (hI.wf.s rfl) rfl rfl rfl ?_
  refine ev_sp f_X12_aShip (nx := 3) (v := 1452) rfl (by decide) rfl ?_
  refine ev_ic f_X12_aShip (nx := 4) (v := 5) rfl (by decide) rfl ?_
  refine ev_loc f_X12_aShip (nx := 5) rfl rfl rfl rfl ?_
  refine ev_getR f_X12_aShip (nx := 8) rfl (hI.wf.s rfl) rfl rfl (hI.wf.r rfl) rfl rfl ?_
  refine ev_sp f_X12_aShip (nx := 11) (v := 1401) rfl (by decide) rfl ?_
  obtain ⟨l1, u1⟩ := hI.ab (by decide +kernel : t_abr 70 1401 1401 0 6 = true) (Nat.le_refl _) (Nat.le_refl _)
  refine ev_ialdv f_X12_aShip (nx := 12) (w := (gi 70 1401)) rfl (hI.wf.s rfl) (by decide) (rfl : (1401 : Int32).toNatClampNeg = 1401) (by decide) rfl rfl ?_
  refine ev_mulL f_X12_aShip (nx := 13) (c := 5) (l := 0) (u := 30) rfl (by decide) (by decide) l1 u1 rfl rfl (by decide) (by decide) rfl (fun z2 e2 l2 u2 => ?_)
  refine ev_addK f_X12_aShip (nx := 14) (c := 1452) (l := 1452) (u := 1482) rfl (by decide) l2 u2 rfl rfl (by decide) (by decide) rfl (fun z3 e3 l3 u3 => ?_)
  refine ev_loc f_X12_aShip (nx := 15) (lo' := [(1, .int z3), (0, .ref 69)]) rfl rfl rfl rfl ?_
  refine ev_loc f_X12_aShip (nx := 16) rfl rfl rfl rfl ?_
  refine ev_getR f_X12_aShip (nx := 19) rfl (hI.wf.s rfl) rfl rfl (hI.wf.r rfl) rfl rfl ?_
  refine ev_sp f_X12_aShip (nx := 22) (v := 1401) rfl (by decide) rfl ?_
  refine ev_ialdv f_X12_aShip (nx := 23) (w := (gi 70 1401)) rfl (hI.wf.s rfl) (by decide) (rfl : (1401 : Int32).toNatClampNeg = 1401) (by decide) rfl rfl ?_
  refine ev_bp f_X12_aShip (nx := 25) (v := 6) rfl (by decide) rfl ?_
  refine ev_if f_X12_aShip (t1 := 28) (t2 := 35) rfl rfl rfl (fun h5 => ?_) (fun h5 => ?_)
  · have l6 : 6 ≤ (gi 70 1401).toInt := t_eql h5 (by decide : (6:Int) ≤ (6:Int32).toInt)
    refine ev_loc f_X12_aShip (nx := 29) rfl rfl rfl rfl ?_
    refine ev_bp f_X12_aShip (nx := 31) (v := 6) rfl (by decide) rfl ?_
    refine ev_qI f_X12_aShip (nx := 34) (r := []) rfl rfl rfl rfl rfl rfl rfl (c_n_fails hI (6) (Int.le_trans (by decide : (2:Int) ≤ 6) (by decide : (6:Int) ≤ (6:Int32).toInt)) (Int.le_trans (by decide : (6:Int32).toInt ≤ (6:Int)) (by decide : (6:Int) ≤ 7))) rfl hX rfl (fun w7 gi7 gl7 gr7 l7 u7 hI hX hC7 q7 => ?_)
    have q7 : (∀ (b : Nat → Int32) (n q : Nat), t_TM b n q gi → (gi 69 18).toInt = 0 → t_MF gi7 (s_fk b n q 6) (s_F b n q)) ∧ w7.toInt = 0 := q7
    exact ev_retZ f_X12_aShip rfl l7 (Int.le_trans u7 (by decide : (0:Int) ≤ 1)) ⟨_, _, _, rfl, hI, hX, ⟨_, rfl, l7, (Int.le_trans u7 (by decide : (0:Int) ≤ 1)), (show ∀ (b : Nat → Int32) (n q : Nat) (D : s_D), t_MS b n q D gi gl → (w7.toInt = 1 ∧ ∃ q2 D2, s_ship b n q D = s_ok q2 D2 ∧ t_MS b n q2 D2 gi7 gl7) ∨ (w7.toInt = 0 ∧ ∃ p x D2, x ≠ 0 ∧ s_ship b n q D = s_bad b n p x D2 ∧ t_MF gi7 (s_fk b n p x) (s_F b n p)) from (by
                                                            intro b n q D h
                                                            have d0 : (gi 70 1401).toInt = D 1 := h.2.1.2.1.1.1.2.1
                                                            have b0 := h.2.1.1.2.1
                                                            have hc0 := t_clamp (i := gi 70 1401) (by omega)
                                                            exact Or.inr ⟨q7.2, q, 6, D, by decide, by simp only [s_ship, s_ifT (show D 1 = 6 by omega)], q7.1 b n q h.1 h.2.2.1⟩))⟩⟩
  · have r8 : (gi 70 1401).toInt ≠ 6 := fun e => h5 (Int32.toInt_inj.mp (e.trans (by decide : (6:Int) = (6 : Int32).toInt)))
    have u9 : (gi 70 1401).toInt ≤ 5 := t_neu h5 u1 rfl rfl
    refine ev_loc f_X12_aShip (nx := 36) rfl rfl rfl rfl ?_
    refine ev_bp f_X12_aShip (nx := 38) (v := 6) rfl (by decide) rfl ?_
    refine ev_loc f_X12_aShip (nx := 39) rfl rfl rfl rfl ?_
    refine ev_getR f_X12_aShip (nx := 42) rfl (hI.wf.s rfl) rfl rfl (hI.wf.r rfl) rfl rfl ?_
    refine ev_sp f_X12_aShip (nx := 45) (v := 1401) rfl (by decide) rfl ?_
    refine ev_ialdv f_X12_aShip (nx := 46) (w := (gi 70 1401)) rfl (hI.wf.s rfl) (by decide) (rfl : (1401 : Int32).toNatClampNeg = 1401) (by decide) rfl rfl ?_
    refine ev_addK f_X12_aShip (nx := 47) (c := 6) (l := 6) (u := 11) rfl (by decide) l1 u9 rfl rfl (by decide) (by decide) rfl (fun z11 e11 l11 u11 => ?_)
    refine ev_qI f_X12_aShip (nx := 50) (r := []) rfl rfl rfl rfl rfl rfl rfl (c_n_aNewName hI (z11) (Int.le_trans (by decide : (0:Int) ≤ 6) l11) (Int.le_trans u11 (by decide : (11:Int) ≤ 17))) rfl hX rfl (fun w12 gi12 gl12 gr12 l12 u12 hI hX hC12 q12 => ?_)
    have q12 : ∀ (b : Nat → Int32) (n q : Nat) (D : s_D), t_MS b n q D gi gl → (w12.toInt = 1 ∧ s_isN b n (s_E b n q) ∧ ¬ s_used D (s_L b n (s_E b n q)).toInt ∧ t_TM b n (s_E b n (s_E b n q)) gi12 ∧ t_mf gi gi12 ∧ ∀ j : Nat, gl12 71 j = if j = 72 + z11.toNatClampNeg then s_m8 b (s_F b n (s_E b n q)) (s_E b n (s_E b n q) - s_F b n (s_E b n q)) else gl 71 j) ∨ (w12.toInt = 0 ∧ ¬ s_isN b n (s_E b n q) ∧ t_MF gi12 (s_fk b n (s_E b n q) 2) (s_F b n (s_E b n q))) ∨ (w12.toInt = 0 ∧ s_isN b n (s_E b n q) ∧ s_used D (s_L b n (s_E b n q)).toInt ∧ t_MF gi12 (s_fk b n (s_E b n q) 3) (s_F b n (s_E b n q))) := q12
    refine ev_if f_X12_aShip (t1 := 64) (t2 := 53) rfl rfl rfl (fun h13 => ?_) (fun h13 => ?_)
    · have u14 : w12.toInt ≤ 0 := t_equ h13 (by decide : (0:Int32).toInt ≤ (0:Int))
      refine ev_ic f_X12_aShip (nx := 65) (v := 0) rfl (by decide) rfl ?_
      exact ev_ret f_X12_aShip rfl rfl rfl ⟨_, _, _, rfl, hI, hX, ⟨_, rfl, (by decide : (0:Int) ≤ (0:Int32).toInt), (Int.le_trans (by decide : (0:Int32).toInt ≤ (0:Int)) (by decide : (0:Int) ≤ 1)), (show ∀ (b : Nat → Int32) (n q : Nat) (D : s_D), t_MS b n q D gi gl → ((0 : Int) = 1 ∧ ∃ q2 D2, s_ship b n q D = s_ok q2 D2 ∧ t_MS b n q2 D2 gi12 gl12) ∨ ((0 : Int) = 0 ∧ ∃ p x D2, x ≠ 0 ∧ s_ship b n q D = s_bad b n p x D2 ∧ t_MF gi12 (s_fk b n p x) (s_F b n p)) from (by
                                                            intro b n q D h
                                                            have d0 : (gi 70 1401).toInt = D 1 := h.2.1.2.1.1.1.2.1
                                                            have b0 := h.2.1.1.2.1
                                                            have hc0 := t_clamp (i := gi 70 1401) (by omega)
                                                            rcases q12 b n q D h with hh | hh | hh
                                                            · exact absurd hh.1 (by omega)
                                                            · exact Or.inr ⟨rfl, _, 2, D, by decide, by simp only [s_ship, s_name, s_kw, s_come, s_num, s_ifF (show ¬ D 1 = 6 by omega), s_ifF hh.2.1], hh.2.2⟩
                                                            · exact Or.inr ⟨rfl, _, 3, D, by decide, by simp only [s_ship, s_name, s_kw, s_come, s_num, s_ifF (show ¬ D 1 = 6 by omega), s_ifT hh.2.1, s_ifT hh.2.2.1], hh.2.2.2⟩))⟩⟩
    · have r15 : w12.toInt ≠ 0 := fun e => h13 (Int32.toInt_inj.mp (e.trans (by decide : (0:Int) = (0 : Int32).toInt)))
      have l16 : 1 ≤ w12.toInt := t_nel h13 l12 rfl rfl
      refine ev_loc f_X12_aShip (nx := 54) rfl rfl rfl rfl ?_
      refine ev_heap f_X12_aShip (nx := 56) rfl rfl rfl rfl ?_
      refine ev_bp f_X12_aShip (nx := 58) (v := 8) rfl (by decide) rfl ?_
      refine ev_qI f_X12_aShip (nx := 61) (r := []) rfl rfl rfl rfl rfl rfl rfl (c_n_wantWord hI (8)) rfl hX rfl (fun w17 gi17 gl17 gr17 l17 u17 hI hX hC17 q17 => ?_)
      have q17 : ∀ (b : Nat → Int32) (n q : Nat), t_TM b n q gi12 → (w17.toInt = 1 ∧ s_mi (s_W b n q) = 8 ∧ t_TM b n (s_E b n q) gi17 ∧ t_mf gi12 gi17) ∨ (w17.toInt = 0 ∧ ¬ s_mi (s_W b n q) = 8 ∧ ((gi12 69 18).toInt = 0 → t_MF gi17 (s_fk b n q 2) (s_F b n q))) := q17
      refine ev_if f_X12_aShip (t1 := 64) (t2 := 66) rfl rfl rfl (fun h18 => ?_) (fun h18 => ?_)
      · have u19 : w17.toInt ≤ 0 := t_equ h18 (by decide : (0:Int32).toInt ≤ (0:Int))
        refine ev_ic f_X12_aShip (nx := 65) (v := 0) rfl (by decide) rfl ?_
        exact ev_ret f_X12_aShip rfl rfl rfl ⟨_, _, _, rfl, hI, hX, ⟨_, rfl, (by decide : (0:Int) ≤ (0:Int32).toInt), (Int.le_trans (by decide : (0:Int32).toInt ≤ (0:Int)) (by decide : (0:Int) ≤ 1)), (show ∀ (b : Nat → Int32) (n q : Nat) (D : s_D), t_MS b n q D gi gl → ((0 : Int) = 1 ∧ ∃ q2 D2, s_ship b n q D = s_ok q2 D2 ∧ t_MS b n q2 D2 gi17 gl17) ∨ ((0 : Int) = 0 ∧ ∃ p x D2, x ≠ 0 ∧ s_ship b n q D = s_bad b n p x D2 ∧ t_MF gi17 (s_fk b n p x) (s_F b n p)) from (by
                                                            intro b n q D h
                                                            have d0 : (gi 70 1401).toInt = D 1 := h.2.1.2.1.1.1.2.1
                                                            have b0 := h.2.1.1.2.1
                                                            have hc0 := t_clamp (i := gi 70 1401) (by omega)
                                                            obtain ⟨_, hN, hU, t1, m1, n1⟩ := (q12 b n q D h).resolve_right (fun hh => by rcases hh with hh | hh <;> exact absurd hh.1 (by omega))
                                                            have m0 := m1
                                                            rcases q17 b n _ t1 with hh | hh
                                                            · exact absurd hh.1 (by omega)
                                                            · exact Or.inr ⟨rfl, _, 2, D, by decide, by simp only [s_ship, s_name, s_kw, s_come, s_num, s_ifF (show ¬ D 1 = 6 by omega), s_ifT hN, s_ifF hU, s_ifF (fun hw => hh.2.1 ((s_mi_W (i := 7) (by decide)).mpr hw))], hh.2.2 (by rw [m0.1]; exact h.2.2.1)⟩))⟩⟩
      · have r20 : w17.toInt ≠ 0 := fun e => h18 (Int32.toInt_inj.mp (e.trans (by decide : (0:Int) = (0 : Int32).toInt)))
        have l21 : 1 ≤ w17.toInt := t_nel h18 l17 rfl rfl
        refine ev_loc f_X12_aShip (nx := 67) rfl rfl rfl rfl ?_
        refine ev_heap f_X12_aShip (nx := 69) rfl rfl rfl rfl ?_
        refine ev_qI0 f_X12_aShip (nx := 72) (r := []) rfl rfl rfl rfl rfl rfl rfl (c_n_isName hI ) rfl (fun w22 l22 u22 q22 => ?_)
        have q22 : ∀ (b : Nat → Int32) (n q : Nat), t_TM b n q gi17 → (w22.toInt = 1 ↔ s_isN b n q) := q22
        refine ev_if f_X12_aShip (t1 := 75) (t2 := 81) rfl rfl rfl (fun h23 => ?_) (fun h23 => ?_)
        · have u24 : w22.toInt ≤ 0 := t_equ h23 (by decide : (0:Int32).toInt ≤ (0:Int))
          refine ev_loc f_X12_aShip (nx := 76) rfl rfl rfl rfl ?_
          refine ev_ic f_X12_aShip (nx := 77) (v := 2) rfl (by decide) rfl ?_
          refine ev_qI f_X12_aShip (nx := 80) (r := []) rfl rfl rfl rfl rfl rfl rfl (c_n_fails hI (2) (by decide : (2:Int) ≤ (2:Int32).toInt) (Int.le_trans (by decide : (2:Int32).toInt ≤ (2:Int)) (by decide : (2:Int) ≤ 7))) rfl hX rfl (fun w25 gi25 gl25 gr25 l25 u25 hI hX hC25 q25 => ?_)
          have q25 : (∀ (b : Nat → Int32) (n q : Nat), t_TM b n q gi17 → (gi17 69 18).toInt = 0 → t_MF gi25 (s_fk b n q 2) (s_F b n q)) ∧ w25.toInt = 0 := q25
          exact ev_retZ f_X12_aShip rfl l25 (Int.le_trans u25 (by decide : (0:Int) ≤ 1)) ⟨_, _, _, rfl, hI, hX, ⟨_, rfl, l25, (Int.le_trans u25 (by decide : (0:Int) ≤ 1)), (show ∀ (b : Nat → Int32) (n q : Nat) (D : s_D), t_MS b n q D gi gl → (w25.toInt = 1 ∧ ∃ q2 D2, s_ship b n q D = s_ok q2 D2 ∧ t_MS b n q2 D2 gi25 gl25) ∨ (w25.toInt = 0 ∧ ∃ p x D2, x ≠ 0 ∧ s_ship b n q D = s_bad b n p x D2 ∧ t_MF gi25 (s_fk b n p x) (s_F b n p)) from (by
                                                            intro b n q D h
                                                            have d0 : (gi 70 1401).toInt = D 1 := h.2.1.2.1.1.1.2.1
                                                            have b0 := h.2.1.1.2.1
                                                            have hc0 := t_clamp (i := gi 70 1401) (by omega)
                                                            obtain ⟨_, hN, hU, t1, m1, n1⟩ := (q12 b n q D h).resolve_right (fun hh => by rcases hh with hh | hh <;> exact absurd hh.1 (by omega))
                                                            have m0 := m1
                                                            obtain ⟨_, w1, t1_, m1⟩ := (q17 b n _ t1).resolve_right (fun hh => absurd hh.1 (by omega))
                                                            have k1 := (s_mi_W (i := 7) (by decide)).mp w1
                                                            have hM : ¬ s_isN b n _ := fun hh => absurd ((q22 b n _ t1_).mpr hh) (by omega)
                                                            exact Or.inr ⟨q25.2, _, 2, D, by decide, by simp only [s_ship, s_name, s_kw, s_come, s_num, s_ifF (show ¬ D 1 = 6 by omega), s_ifT hN, s_ifF hU, s_ifT k1, s_ifF hM], q25.1 b n _ t1_ (by rw [m1.1, m0.1]; exact h.2.2.1)⟩))⟩⟩
        · have r26 : w22.toInt ≠ 0 := fun e => h23 (Int32.toInt_inj.mp (e.trans (by decide : (0:Int) = (0 : Int32).toInt)))
          have l27 : 1 ≤ w22.toInt := t_nel h23 l22 rfl rfl
          refine ev_loc f_X12_aShip (nx := 82) rfl rfl rfl rfl ?_
          refine ev_getR f_X12_aShip (nx := 85) rfl (hI.wf.s rfl) rfl rfl (hI.wf.r rfl) rfl rfl ?_
          refine ev_loc f_X12_aShip (nx := 86) rfl rfl rfl rfl ?_
          refine ev_loc f_X12_aShip (nx := 87) rfl rfl rfl rfl ?_
          refine ev_bp f_X12_aShip (nx := 89) (v := 72) rfl (by decide) rfl ?_
          refine ev_loc f_X12_aShip (nx := 90) rfl rfl rfl rfl ?_
          refine ev_getR f_X12_aShip (nx := 93) rfl (hI.wf.s rfl) rfl rfl (hI.wf.r rfl) rfl rfl ?_
          refine ev_sp f_X12_aShip (nx := 96) (v := 1400) rfl (by decide) rfl ?_
          obtain ⟨l28, u28⟩ := hI.ab (by decide +kernel : t_abr 70 1400 1400 0 6 = true) (Nat.le_refl _) (Nat.le_refl _)
          refine ev_ialdv f_X12_aShip (nx := 97) (w := (gi17 70 1400)) rfl (hI.wf.s rfl) (by decide) (rfl : (1400 : Int32).toNatClampNeg = 1400) (by decide) rfl rfl ?_
          refine ev_qI0 f_X12_aShip (nx := 100) (r := [.int z3, .ref 70]) rfl rfl rfl rfl rfl rfl rfl (c_n_findHere hI (72) (by decide : (72:Int) ≤ (72:Int32).toInt) (Int.le_trans (by decide : (72:Int32).toInt ≤ (72:Int)) (by decide : (72:Int) ≤ 84)) ((gi17 70 1400)) l28 u28) rfl (fun w29 l29 u29 q29 => ?_)
          have q29 : (∀ (b : Nat → Int32) (n q : Nat) (f : Nat → Int) (x : Int), t_TM b n q gi17 → s_isN b n q → (∀ i : Nat, i < (gi17 70 1400).toNatClampNeg → (gl17 71 ((72 : Int32).toNatClampNeg + i) = s_m8 b (s_F b n q) (s_E b n q - s_F b n q) ↔ f i = x)) → w29.toInt = s_fst f x (gi17 70 1400).toNatClampNeg 0) ∧ (w29.toInt = -1 ∨ w29.toInt < (gi17 70 1400).toInt) := q29
          refine ev_iastT f_X12_aShip (nx := 101) rfl (hI.wf.s rfl) l3 (by decide) u3 (by decide) rfl (hI.astA (x := (gi 70 1401)) (hI.wf.s rfl) (by decide +kernel : t_abwa 70 1452 5 0 5 (-1) 5 = true) (by omega) (by omega) (by omega) l29 u29 rfl) (hX.upI (t_inR (p := 1452) (m := 1482) rfl l3 (by decide) u3 (by decide) (by decide))) (fun g30 e30 hI hX => ?_)
          refine ev_loc f_X12_aShip (nx := 102) rfl rfl rfl rfl ?_
          refine ev_getR f_X12_aShip (nx := 105) rfl (hI.wf.s rfl) rfl rfl (hI.wf.r rfl) rfl rfl ?_
          refine ev_loc f_X12_aShip (nx := 106) rfl rfl rfl rfl ?_
          refine ev_ialdT f_X12_aShip (nx := 107) rfl (hI.wf.s rfl) l3 (by decide) u3 (by decide) rfl (fun w31 e31 => ?_)
          rw [e31.trans (by rw [e30]; exact x_up2_at _ _ _ _ : g30 70 z3.toNatClampNeg = w29)]
          refine ev_ic f_X12_aShip (nx := 108) (v := -1) rfl (by decide) rfl ?_
          refine ev_if f_X12_aShip (t1 := 111) (t2 := 117) rfl rfl rfl (fun h32 => ?_) (fun h32 => ?_)
          · have u33 : w29.toInt ≤ (-1) := t_equ h32 (by decide : ((-1):Int32).toInt ≤ ((-1):Int))
            refine ev_loc f_X12_aShip (nx := 112) rfl rfl rfl rfl ?_
            refine ev_ic f_X12_aShip (nx := 113) (v := 3) rfl (by decide) rfl ?_
            refine ev_qI f_X12_aShip (nx := 116) (r := []) rfl rfl rfl rfl rfl rfl rfl (c_n_fails hI (3) (Int.le_trans (by decide : (2:Int) ≤ 3) (by decide : (3:Int) ≤ (3:Int32).toInt)) (Int.le_trans (by decide : (3:Int32).toInt ≤ (3:Int)) (by decide : (3:Int) ≤ 7))) rfl hX rfl (fun w34 gi34 gl34 gr34 l34 u34 hI hX hC34 q34 => ?_)
            have q34 : (∀ (b : Nat → Int32) (n q : Nat), t_TM b n q g30 → (g30 69 18).toInt = 0 → t_MF gi34 (s_fk b n q 3) (s_F b n q)) ∧ w34.toInt = 0 := q34
            exact ev_retZ f_X12_aShip rfl l34 (Int.le_trans u34 (by decide : (0:Int) ≤ 1)) ⟨_, _, _, rfl, hI, hX, ⟨_, rfl, l34, (Int.le_trans u34 (by decide : (0:Int) ≤ 1)), (show ∀ (b : Nat → Int32) (n q : Nat) (D : s_D), t_MS b n q D gi gl → (w34.toInt = 1 ∧ ∃ q2 D2, s_ship b n q D = s_ok q2 D2 ∧ t_MS b n q2 D2 gi34 gl34) ∨ (w34.toInt = 0 ∧ ∃ p x D2, x ≠ 0 ∧ s_ship b n q D = s_bad b n p x D2 ∧ t_MF gi34 (s_fk b n p x) (s_F b n p)) from (by
                                                            intro b n q D h
                                                            have d0 : (gi 70 1401).toInt = D 1 := h.2.1.2.1.1.1.2.1
                                                            have b0 := h.2.1.1.2.1
                                                            have hc0 := t_clamp (i := gi 70 1401) (by omega)
                                                            obtain ⟨_, hN, hU, t1, m1, n1⟩ := (q12 b n q D h).resolve_right (fun hh => by rcases hh with hh | hh <;> exact absurd hh.1 (by omega))
                                                            have m0 := m1
                                                            obtain ⟨_, w1, t1_, m1⟩ := (q17 b n _ t1).resolve_right (fun hh => absurd hh.1 (by omega))
                                                            have k1 := (s_mi_W (i := 7) (by decide)).mp w1
                                                            have hM := (q22 b n _ t1_).mp (by omega)
                                                            have dP : (gi17 70 1400).toInt = D 0 := by rw [(hC17.1 70 _ rfl).1, (hC12.1 70 _ rfl).1]; exact h.2.1.2.1.1.1.1
                                                            have bP := h.2.1.1.1
                                                            have cP := t_clamp (i := gi17 70 1400) (by omega)
                                                            have hz0 := t_clamp (i := z11) (by omega)
                                                            have nP : ∀ i : Nat, (i : Int) < D 0 → t_nr (gl17 71 (72 + i)) (D (200 + i)) := fun i hi => by rw [(hC17.1 71 _ rfl).2.1, n1, if_neg (by omega)]; exact h.2.1.2.2.1.1 i hi
                                                            have fP : w29.toInt = s_fp D (s_L b n (s_E b n (s_E b n (s_E b n q)))).toInt := by
                                                              unfold s_fp
                                                              rw [show (D 0).toNat = (gi17 70 1400).toNatClampNeg from (by omega)]
                                                              exact q29.1 b n _ _ _ t1_ hM (t_nr_f (base := 72) nP (by omega) hM)
                                                            have hx : s_fp D (s_L b n (s_E b n (s_E b n (s_E b n q)))).toInt = -1 := by omega
                                                            exact Or.inr ⟨q34.2, _, 3, D, by decide, by simp only [s_ship, s_name, s_kw, s_come, s_num, s_ifF (show ¬ D 1 = 6 by omega), s_ifT hN, s_ifF hU, s_ifT k1, s_ifT hM, s_ifT hx], q34.1 b n _ (t1_.st e30) (by rw [e30, x_up2_ne (by decide)]; exact (by rw [m1.1, m0.1]; exact h.2.2.1))⟩))⟩⟩
          · have r35 : w29.toInt ≠ (-1) := fun e => h32 (Int32.toInt_inj.mp (e.trans (by decide : ((-1):Int) = ((-1) : Int32).toInt)))
            have l36 : 0 ≤ w29.toInt := t_nel h32 l29 rfl rfl
            refine ev_loc f_X12_aShip (nx := 118) rfl rfl rfl rfl ?_
            refine ev_qN f_X12_aShip (nx := 121) (r := []) rfl rfl rfl rfl rfl rfl rfl (c_n_ahead hI ) rfl hX rfl (fun gi37 gl37 gr37 hI hX hC37 q37 => ?_)
            have q37 : ∀ (b : Nat → Int32) (n q : Nat), t_Sm b n q g30 → t_TM b n q gi37 := q37
            refine ev_loc f_X12_aShip (nx := 122) rfl rfl rfl rfl ?_
            refine ev_getR f_X12_aShip (nx := 125) rfl (hI.wf.s rfl) rfl rfl (hI.wf.r rfl) rfl rfl ?_
            refine ev_loc f_X12_aShip (nx := 126) rfl rfl rfl rfl ?_
            refine ev_ic f_X12_aShip (nx := 127) (v := 4) rfl (by decide) rfl ?_
            refine ev_addC f_X12_aShip (nx := 128) (c := 4) (l := 1456) (u := 1486) rfl (by decide) l3 u3 rfl rfl (by decide) (by decide) rfl (fun z38 e38 l38 u38 => ?_)
            refine ev_ic f_X12_aShip (nx := 129) (v := 0) rfl (by decide) rfl ?_
            refine ev_iastT f_X12_aShip (nx := 130) rfl (hI.wf.s rfl) l38 (by decide) u38 (by decide) rfl (hI.astA (x := (gi 70 1401)) (hI.wf.s rfl) (by decide +kernel : t_abwa 70 1456 5 0 5 0 0 = true) (by omega) (by omega) (by omega) (by decide : (0:Int) ≤ (0:Int32).toInt) (by decide : (0:Int32).toInt ≤ (0:Int)) rfl) (hX.upI (t_inR (p := 1456) (m := 1486) rfl l38 (by decide) u38 (by decide) (by decide))) (fun g39 e39 hI hX => ?_)
            refine ev_loc f_X12_aShip (nx := 131) rfl rfl rfl rfl ?_
            refine ev_loc f_X12_aShip (nx := 132) rfl rfl rfl rfl ?_
            refine ev_ic f_X12_aShip (nx := 133) (v := 1) rfl (by decide) rfl ?_
            refine ev_addC f_X12_aShip (nx := 134) (c := 1) (l := 1453) (u := 1483) rfl (by decide) l3 u3 rfl rfl (by decide) (by decide) rfl (fun z40 e40 l40 u40 => ?_)
            refine ev_inV2 f_X12_aShip (nx := 137) (lo2 := [(0, .ref 69), (1, .int z40)]) rfl rfl rfl rfl f_X12_passes (hI.wf.s rfl) rfl rfl rfl rfl rfl ?_
            refine ev_loc f_X12_passes (nx := 1) rfl rfl rfl rfl ?_
            refine ev_heap f_X12_passes (nx := 3) rfl rfl rfl rfl ?_
            refine ev_bp f_X12_passes (nx := 5) (v := 9) rfl (by decide) rfl ?_
            refine ev_qI f_X12_passes (nx := 8) (r := []) rfl rfl rfl rfl rfl rfl rfl (c_n_wantWord hI (9)) rfl hX rfl (fun w41 gi41 gl41 gr41 l41 u41 hI hX hC41 q41 => ?_)
            have q41 : ∀ (b : Nat → Int32) (n q : Nat), t_TM b n q g39 → (w41.toInt = 1 ∧ s_mi (s_W b n q) = 9 ∧ t_TM b n (s_E b n q) gi41 ∧ t_mf g39 gi41) ∨ (w41.toInt = 0 ∧ ¬ s_mi (s_W b n q) = 9 ∧ ((g39 69 18).toInt = 0 → t_MF gi41 (s_fk b n q 2) (s_F b n q))) := q41
            refine ev_if f_X12_passes (t1 := 74) (t2 := 11) rfl rfl rfl (fun h42 => ?_) (fun h42 => ?_)
            · have u43 : w41.toInt ≤ 0 := t_equ h42 (by decide : (0:Int32).toInt ≤ (0:Int))
              refine ev_ic f_X12_passes (nx := 75) (v := 0) rfl (by decide) rfl ?_
              refine ev_retK1 f_X12_passes rfl rfl rfl ?_
              refine ev_t f_X12_aShip (t1 := 140) (t2 := 142) rfl rfl rfl (by decide) ?_
              refine ev_ic f_X12_aShip (nx := 141) (v := 0) rfl (by decide) rfl ?_
              exact ev_ret f_X12_aShip rfl rfl rfl ⟨_, _, _, rfl, hI, hX, ⟨_, rfl, (by decide : (0:Int) ≤ (0:Int32).toInt), (Int.le_trans (by decide : (0:Int32).toInt ≤ (0:Int)) (by decide : (0:Int) ≤ 1)), (show ∀ (b : Nat → Int32) (n q : Nat) (D : s_D), t_MS b n q D gi gl → ((0 : Int) = 1 ∧ ∃ q2 D2, s_ship b n q D = s_ok q2 D2 ∧ t_MS b n q2 D2 gi41 gl41) ∨ ((0 : Int) = 0 ∧ ∃ p x D2, x ≠ 0 ∧ s_ship b n q D = s_bad b n p x D2 ∧ t_MF gi41 (s_fk b n p x) (s_F b n p)) from (by
                                                            intro b n q D h
                                                            have d0 : (gi 70 1401).toInt = D 1 := h.2.1.2.1.1.1.2.1
                                                            have b0 := h.2.1.1.2.1
                                                            have hc0 := t_clamp (i := gi 70 1401) (by omega)
                                                            obtain ⟨_, hN, hU, t1, m1, n1⟩ := (q12 b n q D h).resolve_right (fun hh => by rcases hh with hh | hh <;> exact absurd hh.1 (by omega))
                                                            have m0 := m1
                                                            obtain ⟨_, w1, t1_, m1⟩ := (q17 b n _ t1).resolve_right (fun hh => absurd hh.1 (by omega))
                                                            have k1 := (s_mi_W (i := 7) (by decide)).mp w1
                                                            have hM := (q22 b n _ t1_).mp (by omega)
                                                            have dP : (gi17 70 1400).toInt = D 0 := by rw [(hC17.1 70 _ rfl).1, (hC12.1 70 _ rfl).1]; exact h.2.1.2.1.1.1.1
                                                            have bP := h.2.1.1.1
                                                            have cP := t_clamp (i := gi17 70 1400) (by omega)
                                                            have hz0 := t_clamp (i := z11) (by omega)
                                                            have nP : ∀ i : Nat, (i : Int) < D 0 → t_nr (gl17 71 (72 + i)) (D (200 + i)) := fun i hi => by rw [(hC17.1 71 _ rfl).2.1, n1, if_neg (by omega)]; exact h.2.1.2.2.1.1 i hi
                                                            have fP : w29.toInt = s_fp D (s_L b n (s_E b n (s_E b n (s_E b n q)))).toInt := by
                                                              unfold s_fp
                                                              rw [show (D 0).toNat = (gi17 70 1400).toNatClampNeg from (by omega)]
                                                              exact q29.1 b n _ _ _ t1_ hM (t_nr_f (base := 72) nP (by omega) hM)
                                                            have ta_ := q37 b n _ (t1_.st e30).S
                                                            have tb_ := ta_.st e39
                                                            rcases q41 b n _ tb_ with hh | hh
                                                            · exact absurd hh.1 (by omega)
                                                            · exact Or.inr ⟨rfl, _, 2, D, by decide, by simp only [s_ship, s_name, s_kw, s_come, s_num, s_ifF (show ¬ D 1 = 6 by omega), s_ifT hN, s_ifF hU, s_ifT k1, s_ifT hM, s_ifF (show ¬ s_fp D (s_L b n (s_E b n (s_E b n (s_E b n q)))).toInt = -1 by omega), s_ifF (fun hw => hh.2.1 ((s_mi_W (i := 8) (by decide)).mpr hw))], hh.2.2 (by rw [e39, x_up2_ne (by decide), (hC37.1 69 18 rfl).1, e30, x_up2_ne (by decide), m1.1, m0.1]; exact h.2.2.1)⟩))⟩⟩
            · have r44 : w41.toInt ≠ 0 := fun e => h42 (Int32.toInt_inj.mp (e.trans (by decide : (0:Int) = (0 : Int32).toInt)))
              have l45 : 1 ≤ w41.toInt := t_nel h42 l41 rfl rfl
              refine ev_loc f_X12_passes (nx := 12) rfl rfl rfl rfl ?_
              refine ev_loc f_X12_passes (nx := 13) rfl rfl rfl rfl ?_
              refine ev_ic f_X12_passes (nx := 14) (v := 0) rfl (by decide) rfl ?_
              refine ev_bp f_X12_passes (nx := 16) (v := 120) rfl (by decide) rfl ?_
              refine ev_inV4 f_X12_passes (nx := 19) (lo2 := [(0, .ref 69), (1, .int z40), (2, .int 0), (3, .int 120)]) rfl rfl rfl rfl f_X12_number (hI.wf.s rfl) rfl rfl rfl rfl rfl ?_
              refine ev_loc f_X12_number (nx := 1) rfl rfl rfl rfl ?_
              refine ev_getI f_X12_number (nx := 4) rfl (hI.wf.s rfl) rfl rfl rfl ?_
              obtain ⟨l46, u46⟩ := hI.b (hI.wf.s (k := 69) rfl) (t_bdK rfl : t_bd 11 12 = some (0, 4))
              refine ev_ic f_X12_number (nx := 5) (v := 3) rfl (by decide) rfl ?_
              refine ev_if f_X12_number (t1 := 14) (t2 := 8) rfl rfl rfl (fun h47 => ?_) (fun h47 => ?_)
              · have u48 : (gi41 69 12).toInt ≤ 3 := t_equ h47 (by decide : (3:Int32).toInt ≤ (3:Int))
                have l49 : 3 ≤ (gi41 69 12).toInt := t_eql h47 (by decide : (3:Int) ≤ (3:Int32).toInt)
                refine ev_loc f_X12_number (nx := 15) rfl rfl rfl rfl ?_
                refine ev_getI f_X12_number (nx := 18) rfl (hI.wf.s rfl) rfl rfl rfl ?_
                refine ev_loc f_X12_number (nx := 19) rfl rfl rfl rfl ?_
                refine ev_if f_X12_number (t1 := 30) (t2 := 22) rfl rfl rfl (fun h50 => ?_) (fun h50 => ?_)
                · have u51 : (gi41 69 15).toInt ≤ (-1) := t_ltu h50 (by decide : (0:Int32).toInt ≤ (0:Int)) rfl
                  refine ev_loc f_X12_number (nx := 31) rfl rfl rfl rfl ?_
                  refine ev_ic f_X12_number (nx := 32) (v := 4) rfl (by decide) rfl ?_
                  refine ev_qI f_X12_number (nx := 35) (r := []) rfl rfl rfl rfl rfl rfl rfl (c_n_fails hI (4) (Int.le_trans (by decide : (2:Int) ≤ 4) (by decide : (4:Int) ≤ (4:Int32).toInt)) (Int.le_trans (by decide : (4:Int32).toInt ≤ (4:Int)) (by decide : (4:Int) ≤ 7))) rfl hX rfl (fun w52 gi52 gl52 gr52 l52 u52 hI hX hC52 q52 => ?_)
                  have q52 : (∀ (b : Nat → Int32) (n q : Nat), t_TM b n q gi41 → (gi41 69 18).toInt = 0 → t_MF gi52 (s_fk b n q 4) (s_F b n q)) ∧ w52.toInt = 0 := q52
                  refine ev_retK1 f_X12_number rfl rfl (t_rz l52 (Int.le_trans u52 (by decide : (0:Int) ≤ 1))) ?_
                  refine ev_t f_X12_passes (t1 := 74) (t2 := 22) rfl rfl rfl (t_eqT u52 l52 (by decide : (0:Int32).toInt ≤ (0:Int)) (by decide : (0:Int) ≤ (0:Int32).toInt)) ?_
                  refine ev_ic f_X12_passes (nx := 75) (v := 0) rfl (by decide) rfl ?_
                  refine ev_retK1 f_X12_passes rfl rfl rfl ?_
                  refine ev_t f_X12_aShip (t1 := 140) (t2 := 142) rfl rfl rfl (by decide) ?_
                  refine ev_ic f_X12_aShip (nx := 141) (v := 0) rfl (by decide) rfl ?_
                  exact ev_ret f_X12_aShip rfl rfl rfl ⟨_, _, _, rfl, hI, hX, ⟨_, rfl, (by decide : (0:Int) ≤ (0:Int32).toInt), (Int.le_trans (by decide : (0:Int32).toInt ≤ (0:Int)) (by decide : (0:Int) ≤ 1)), (show ∀ (b : Nat → Int32) (n q : Nat) (D : s_D), t_MS b n q D gi gl → ((0 : Int) = 1 ∧ ∃ q2 D2, s_ship b n q D = s_ok q2 D2 ∧ t_MS b n q2 D2 gi52 gl52) ∨ ((0 : Int) = 0 ∧ ∃ p x D2, x ≠ 0 ∧ s_ship b n q D = s_bad b n p x D2 ∧ t_MF gi52 (s_fk b n p x) (s_F b n p)) from (by
                                                            intro b n q D h
                                                            have d0 : (gi 70 1401).toInt = D 1 := h.2.1.2.1.1.1.2.1
                                                            have b0 := h.2.1.1.2.1
                                                            have hc0 := t_clamp (i := gi 70 1401) (by omega)
                                                            obtain ⟨_, hN, hU, t1, m1, n1⟩ := (q12 b n q D h).resolve_right (fun hh => by rcases hh with hh | hh <;> exact absurd hh.1 (by omega))
                                                            have m0 := m1
                                                            obtain ⟨_, w1, t1_, m1⟩ := (q17 b n _ t1).resolve_right (fun hh => absurd hh.1 (by omega))
                                                            have k1 := (s_mi_W (i := 7) (by decide)).mp w1
                                                            have hM := (q22 b n _ t1_).mp (by omega)
                                                            have dP : (gi17 70 1400).toInt = D 0 := by rw [(hC17.1 70 _ rfl).1, (hC12.1 70 _ rfl).1]; exact h.2.1.2.1.1.1.1
                                                            have bP := h.2.1.1.1
                                                            have cP := t_clamp (i := gi17 70 1400) (by omega)
                                                            have hz0 := t_clamp (i := z11) (by omega)
                                                            have nP : ∀ i : Nat, (i : Int) < D 0 → t_nr (gl17 71 (72 + i)) (D (200 + i)) := fun i hi => by rw [(hC17.1 71 _ rfl).2.1, n1, if_neg (by omega)]; exact h.2.1.2.2.1.1 i hi
                                                            have fP : w29.toInt = s_fp D (s_L b n (s_E b n (s_E b n (s_E b n q)))).toInt := by
                                                              unfold s_fp
                                                              rw [show (D 0).toNat = (gi17 70 1400).toNatClampNeg from (by omega)]
                                                              exact q29.1 b n _ _ _ t1_ hM (t_nr_f (base := 72) nP (by omega) hM)
                                                            have ta_ := q37 b n _ (t1_.st e30).S
                                                            have tb_ := ta_.st e39
                                                            obtain ⟨_, w2, t2_, m2⟩ := (q41 b n _ tb_).resolve_right (fun hh => absurd hh.1 (by omega))
                                                            have k2 := (s_mi_W (i := 8) (by decide)).mp w2
                                                            have hv := t2_.vF (lo := 0) (hi := 120) (by omega) (by omega)
                                                            exact Or.inr ⟨rfl, _, 4, D, by decide, by simp only [s_ship, s_name, s_kw, s_come, s_num, s_ifF (show ¬ D 1 = 6 by omega), s_ifT hN, s_ifF hU, s_ifT k1, s_ifT hM, s_ifF (show ¬ s_fp D (s_L b n (s_E b n (s_E b n (s_E b n q)))).toInt = -1 by omega), s_ifT k2, s_ifT hv.1, s_ifF hv.2], q52.1 b n _ t2_ (by rw [m2.1, e39, x_up2_ne (by decide), (hC37.1 69 18 rfl).1, e30, x_up2_ne (by decide), m1.1, m0.1]; exact h.2.2.1)⟩))⟩⟩
                · have l53 : 0 ≤ (gi41 69 15).toInt := t_lel (t_nlt h50) (by decide : (0:Int) ≤ (0:Int32).toInt)
                  refine ev_loc f_X12_number (nx := 23) rfl rfl rfl rfl ?_
                  refine ev_gvI f_X12_number (nx := 26) (w := (gi41 69 15)) rfl (hI.wf.s rfl) rfl rfl rfl rfl ?_
                  refine ev_loc f_X12_number (nx := 27) rfl rfl rfl rfl ?_
                  refine ev_if f_X12_number (t1 := 36) (t2 := 30) rfl rfl rfl (fun h54 => ?_) (fun h54 => ?_)
                  · have u55 : (gi41 69 15).toInt ≤ 120 := t_leu h54 (by decide : (120:Int32).toInt ≤ (120:Int))
                    refine ev_loc f_X12_number (nx := 37) rfl rfl rfl rfl ?_
                    refine ev_getR f_X12_number (nx := 40) rfl (hI.wf.s rfl) rfl rfl (hI.wf.r rfl) rfl rfl ?_
                    refine ev_loc f_X12_number (nx := 41) rfl rfl rfl rfl ?_
                    refine ev_loc f_X12_number (nx := 42) rfl rfl rfl rfl ?_
                    refine ev_gvI f_X12_number (nx := 45) (w := (gi41 69 15)) rfl (hI.wf.s rfl) rfl rfl rfl rfl ?_
                    refine ev_iastT f_X12_number (nx := 46) rfl (hI.wf.s rfl) l40 (by decide) u40 (by decide) rfl (hI.astA (x := (gi 70 1401)) (hI.wf.s rfl) (by decide +kernel : t_abwa 70 1453 5 0 5 0 120 = true) (by omega) (by omega) (by omega) l53 u55 rfl) (hX.upI (t_inR (p := 1453) (m := 1483) rfl l40 (by decide) u40 (by decide) (by decide))) (fun g56 e56 hI hX => ?_)
                    refine ev_loc f_X12_number (nx := 47) rfl rfl rfl rfl ?_
                    refine ev_qN f_X12_number (nx := 50) (r := []) rfl rfl rfl rfl rfl rfl rfl (c_n_ahead hI ) rfl hX rfl (fun gi57 gl57 gr57 hI hX hC57 q57 => ?_)
                    have q57 : ∀ (b : Nat → Int32) (n q : Nat), t_Sm b n q g56 → t_TM b n q gi57 := q57
                    refine ev_ic f_X12_number (nx := 51) (v := 1) rfl (by decide) rfl ?_
                    refine ev_retK1 f_X12_number rfl rfl rfl ?_
                    refine ev_f f_X12_passes (t1 := 74) (t2 := 22) rfl rfl rfl (by decide) ?_
                    refine ev_loc f_X12_passes (nx := 23) rfl rfl rfl rfl ?_
                    refine ev_heap f_X12_passes (nx := 25) rfl rfl rfl rfl ?_
                    refine ev_bp f_X12_passes (nx := 27) (v := 10) rfl (by decide) rfl ?_
                    refine ev_qI f_X12_passes (nx := 30) (r := []) rfl rfl rfl rfl rfl rfl rfl (c_n_wantWord hI (10)) rfl hX rfl (fun w58 gi58 gl58 gr58 l58 u58 hI hX hC58 q58 => ?_)
                    have q58 : ∀ (b : Nat → Int32) (n q : Nat), t_TM b n q gi57 → (w58.toInt = 1 ∧ s_mi (s_W b n q) = 10 ∧ t_TM b n (s_E b n q) gi58 ∧ t_mf gi57 gi58) ∨ (w58.toInt = 0 ∧ ¬ s_mi (s_W b n q) = 10 ∧ ((gi57 69 18).toInt = 0 → t_MF gi58 (s_fk b n q 2) (s_F b n q))) := q58
                    refine ev_if f_X12_passes (t1 := 74) (t2 := 33) rfl rfl rfl (fun h59 => ?_) (fun h59 => ?_)
                    · have u60 : w58.toInt ≤ 0 := t_equ h59 (by decide : (0:Int32).toInt ≤ (0:Int))
                      refine ev_ic f_X12_passes (nx := 75) (v := 0) rfl (by decide) rfl ?_
                      refine ev_retK1 f_X12_passes rfl rfl rfl ?_
                      refine ev_t f_X12_aShip (t1 := 140) (t2 := 142) rfl rfl rfl (by decide) ?_
                      refine ev_ic f_X12_aShip (nx := 141) (v := 0) rfl (by decide) rfl ?_
                      exact ev_ret f_X12_aShip rfl rfl rfl ⟨_, _, _, rfl, hI, hX, ⟨_, rfl, (by decide : (0:Int) ≤ (0:Int32).toInt), (Int.le_trans (by decide : (0:Int32).toInt ≤ (0:Int)) (by decide : (0:Int) ≤ 1)), (show ∀ (b : Nat → Int32) (n q : Nat) (D : s_D), t_MS b n q D gi gl → ((0 : Int) = 1 ∧ ∃ q2 D2, s_ship b n q D = s_ok q2 D2 ∧ t_MS b n q2 D2 gi58 gl58) ∨ ((0 : Int) = 0 ∧ ∃ p x D2, x ≠ 0 ∧ s_ship b n q D = s_bad b n p x D2 ∧ t_MF gi58 (s_fk b n p x) (s_F b n p)) from (by
                                                            intro b n q D h
                                                            have d0 : (gi 70 1401).toInt = D 1 := h.2.1.2.1.1.1.2.1
                                                            have b0 := h.2.1.1.2.1
                                                            have hc0 := t_clamp (i := gi 70 1401) (by omega)
                                                            obtain ⟨_, hN, hU, t1, m1, n1⟩ := (q12 b n q D h).resolve_right (fun hh => by rcases hh with hh | hh <;> exact absurd hh.1 (by omega))
                                                            have m0 := m1
                                                            obtain ⟨_, w1, t1_, m1⟩ := (q17 b n _ t1).resolve_right (fun hh => absurd hh.1 (by omega))
                                                            have k1 := (s_mi_W (i := 7) (by decide)).mp w1
                                                            have hM := (q22 b n _ t1_).mp (by omega)
                                                            have dP : (gi17 70 1400).toInt = D 0 := by rw [(hC17.1 70 _ rfl).1, (hC12.1 70 _ rfl).1]; exact h.2.1.2.1.1.1.1
                                                            have bP := h.2.1.1.1
                                                            have cP := t_clamp (i := gi17 70 1400) (by omega)
                                                            have hz0 := t_clamp (i := z11) (by omega)
                                                            have nP : ∀ i : Nat, (i : Int) < D 0 → t_nr (gl17 71 (72 + i)) (D (200 + i)) := fun i hi => by rw [(hC17.1 71 _ rfl).2.1, n1, if_neg (by omega)]; exact h.2.1.2.2.1.1 i hi
                                                            have fP : w29.toInt = s_fp D (s_L b n (s_E b n (s_E b n (s_E b n q)))).toInt := by
                                                              unfold s_fp
                                                              rw [show (D 0).toNat = (gi17 70 1400).toNatClampNeg from (by omega)]
                                                              exact q29.1 b n _ _ _ t1_ hM (t_nr_f (base := 72) nP (by omega) hM)
                                                            have ta_ := q37 b n _ (t1_.st e30).S
                                                            have tb_ := ta_.st e39
                                                            obtain ⟨_, w2, t2_, m2⟩ := (q41 b n _ tb_).resolve_right (fun hh => absurd hh.1 (by omega))
                                                            have k2 := (s_mi_W (i := 8) (by decide)).mp w2
                                                            have v3 := t2_.vT (lo := 0) (hi := 120) (by omega) (by omega) (by omega)
                                                            have t3_ := q57 b n _ (t2_.st e56).S
                                                            rcases q58 b n _ t3_ with hh | hh
                                                            · exact absurd hh.1 (by omega)
                                                            · exact Or.inr ⟨rfl, _, 2, D, by decide, by simp only [s_ship, s_name, s_kw, s_come, s_num, s_ifF (show ¬ D 1 = 6 by omega), s_ifT hN, s_ifF hU, s_ifT k1, s_ifT hM, s_ifF (show ¬ s_fp D (s_L b n (s_E b n (s_E b n (s_E b n q)))).toInt = -1 by omega), s_ifT k2, s_ifT v3.1.1, s_ifT v3.1, s_ifF (fun hw => hh.2.1 ((s_mi_W (i := 9) (by decide)).mpr hw))], hh.2.2 (by rw [(hC57.1 69 18 rfl).1, e56, x_up2_ne (by decide), m2.1, e39, x_up2_ne (by decide), (hC37.1 69 18 rfl).1, e30, x_up2_ne (by decide), m1.1, m0.1]; exact h.2.2.1)⟩))⟩⟩
                    · have r61 : w58.toInt ≠ 0 := fun e => h59 (Int32.toInt_inj.mp (e.trans (by decide : (0:Int) = (0 : Int32).toInt)))
                      have l62 : 1 ≤ w58.toInt := t_nel h59 l58 rfl rfl
                      refine ev_loc f_X12_passes (nx := 34) rfl rfl rfl rfl ?_
                      refine ev_loc f_X12_passes (nx := 35) rfl rfl rfl rfl ?_
                      refine ev_ic f_X12_passes (nx := 36) (v := 1) rfl (by decide) rfl ?_
                      refine ev_addC f_X12_passes (nx := 37) (c := 1) (l := 1454) (u := 1484) rfl (by decide) l40 u40 rfl rfl (by decide) (by decide) rfl (fun z63 e63 l63 u63 => ?_)
                      refine ev_ic f_X12_passes (nx := 38) (v := 1) rfl (by decide) rfl ?_
                      refine ev_bp f_X12_passes (nx := 40) (v := 20) rfl (by decide) rfl ?_
                      refine ev_inV4 f_X12_passes (nx := 43) (lo2 := [(0, .ref 69), (1, .int z63), (2, .int 1), (3, .int 20)]) rfl rfl rfl rfl f_X12_number (hI.wf.s rfl) rfl rfl rfl rfl rfl ?_
                      refine ev_loc f_X12_number (nx := 1) rfl rfl rfl rfl ?_
                      refine ev_getI f_X12_number (nx := 4) rfl (hI.wf.s rfl) rfl rfl rfl ?_
                      obtain ⟨l64, u64⟩ := hI.b (hI.wf.s (k := 69) rfl) (t_bdK rfl : t_bd 11 12 = some (0, 4))
                      refine ev_ic f_X12_number (nx := 5) (v := 3) rfl (by decide) rfl ?_
                      refine ev_if f_X12_number (t1 := 14) (t2 := 8) rfl rfl rfl (fun h65 => ?_) (fun h65 => ?_)
                      · have u66 : (gi58 69 12).toInt ≤ 3 := t_equ h65 (by decide : (3:Int32).toInt ≤ (3:Int))
                        have l67 : 3 ≤ (gi58 69 12).toInt := t_eql h65 (by decide : (3:Int) ≤ (3:Int32).toInt)
                        refine ev_loc f_X12_number (nx := 15) rfl rfl rfl rfl ?_
                        refine ev_getI f_X12_number (nx := 18) rfl (hI.wf.s rfl) rfl rfl rfl ?_
                        refine ev_loc f_X12_number (nx := 19) rfl rfl rfl rfl ?_
                        refine ev_if f_X12_number (t1 := 30) (t2 := 22) rfl rfl rfl (fun h68 => ?_) (fun h68 => ?_)
                        · have u69 : (gi58 69 15).toInt ≤ 0 := t_ltu h68 (by decide : (1:Int32).toInt ≤ (1:Int)) rfl
                          refine ev_loc f_X12_number (nx := 31) rfl rfl rfl rfl ?_
                          refine ev_ic f_X12_number (nx := 32) (v := 4) rfl (by decide) rfl ?_
                          refine ev_qI f_X12_number (nx := 35) (r := []) rfl rfl rfl rfl rfl rfl rfl (c_n_fails hI (4) (Int.le_trans (by decide : (2:Int) ≤ 4) (by decide : (4:Int) ≤ (4:Int32).toInt)) (Int.le_trans (by decide : (4:Int32).toInt ≤ (4:Int)) (by decide : (4:Int) ≤ 7))) rfl hX rfl (fun w70 gi70 gl70 gr70 l70 u70 hI hX hC70 q70 => ?_)
                          have q70 : (∀ (b : Nat → Int32) (n q : Nat), t_TM b n q gi58 → (gi58 69 18).toInt = 0 → t_MF gi70 (s_fk b n q 4) (s_F b n q)) ∧ w70.toInt = 0 := q70
                          refine ev_retK1 f_X12_number rfl rfl (t_rz l70 (Int.le_trans u70 (by decide : (0:Int) ≤ 1))) ?_
                          refine ev_t f_X12_passes (t1 := 74) (t2 := 46) rfl rfl rfl (t_eqT u70 l70 (by decide : (0:Int32).toInt ≤ (0:Int)) (by decide : (0:Int) ≤ (0:Int32).toInt)) ?_
                          refine ev_ic f_X12_passes (nx := 75) (v := 0) rfl (by decide) rfl ?_
                          refine ev_retK1 f_X12_passes rfl rfl rfl ?_
                          refine ev_t f_X12_aShip (t1 := 140) (t2 := 142) rfl rfl rfl (by decide) ?_
                          refine ev_ic f_X12_aShip (nx := 141) (v := 0) rfl (by decide) rfl ?_
                          exact ev_ret f_X12_aShip rfl rfl rfl ⟨_, _, _, rfl, hI, hX, ⟨_, rfl, (by decide : (0:Int) ≤ (0:Int32).toInt), (Int.le_trans (by decide : (0:Int32).toInt ≤ (0:Int)) (by decide : (0:Int) ≤ 1)), (show ∀ (b : Nat → Int32) (n q : Nat) (D : s_D), t_MS b n q D gi gl → ((0 : Int) = 1 ∧ ∃ q2 D2, s_ship b n q D = s_ok q2 D2 ∧ t_MS b n q2 D2 gi70 gl70) ∨ ((0 : Int) = 0 ∧ ∃ p x D2, x ≠ 0 ∧ s_ship b n q D = s_bad b n p x D2 ∧ t_MF gi70 (s_fk b n p x) (s_F b n p)) from (by
                                                            intro b n q D h
                                                            have d0 : (gi 70 1401).toInt = D 1 := h.2.1.2.1.1.1.2.1
                                                            have b0 := h.2.1.1.2.1
                                                            have hc0 := t_clamp (i := gi 70 1401) (by omega)
                                                            obtain ⟨_, hN, hU, t1, m1, n1⟩ := (q12 b n q D h).resolve_right (fun hh => by rcases hh with hh | hh <;> exact absurd hh.1 (by omega))
                                                            have m0 := m1
                                                            obtain ⟨_, w1, t1_, m1⟩ := (q17 b n _ t1).resolve_right (fun hh => absurd hh.1 (by omega))
                                                            have k1 := (s_mi_W (i := 7) (by decide)).mp w1
                                                            have hM := (q22 b n _ t1_).mp (by omega)
                                                            have dP : (gi17 70 1400).toInt = D 0 := by rw [(hC17.1 70 _ rfl).1, (hC12.1 70 _ rfl).1]; exact h.2.1.2.1.1.1.1
                                                            have bP := h.2.1.1.1
                                                            have cP := t_clamp (i := gi17 70 1400) (by omega)
                                                            have hz0 := t_clamp (i := z11) (by omega)
                                                            have nP : ∀ i : Nat, (i : Int) < D 0 → t_nr (gl17 71 (72 + i)) (D (200 + i)) := fun i hi => by rw [(hC17.1 71 _ rfl).2.1, n1, if_neg (by omega)]; exact h.2.1.2.2.1.1 i hi
                                                            have fP : w29.toInt = s_fp D (s_L b n (s_E b n (s_E b n (s_E b n q)))).toInt := by
                                                              unfold s_fp
                                                              rw [show (D 0).toNat = (gi17 70 1400).toNatClampNeg from (by omega)]
                                                              exact q29.1 b n _ _ _ t1_ hM (t_nr_f (base := 72) nP (by omega) hM)
                                                            have ta_ := q37 b n _ (t1_.st e30).S
                                                            have tb_ := ta_.st e39
                                                            obtain ⟨_, w2, t2_, m2⟩ := (q41 b n _ tb_).resolve_right (fun hh => absurd hh.1 (by omega))
                                                            have k2 := (s_mi_W (i := 8) (by decide)).mp w2
                                                            have v3 := t2_.vT (lo := 0) (hi := 120) (by omega) (by omega) (by omega)
                                                            have t3_ := q57 b n _ (t2_.st e56).S
                                                            obtain ⟨_, w4, t4_, m4⟩ := (q58 b n _ t3_).resolve_right (fun hh => absurd hh.1 (by omega))
                                                            have k4 := (s_mi_W (i := 9) (by decide)).mp w4
                                                            have hv := t4_.vF (lo := 1) (hi := 20) (by omega) (by omega)
                                                            exact Or.inr ⟨rfl, _, 4, D, by decide, by simp only [s_ship, s_name, s_kw, s_come, s_num, s_ifF (show ¬ D 1 = 6 by omega), s_ifT hN, s_ifF hU, s_ifT k1, s_ifT hM, s_ifF (show ¬ s_fp D (s_L b n (s_E b n (s_E b n (s_E b n q)))).toInt = -1 by omega), s_ifT k2, s_ifT v3.1.1, s_ifT v3.1, s_ifT k4, s_ifT hv.1, s_ifF hv.2], q70.1 b n _ t4_ (by rw [m4.1, (hC57.1 69 18 rfl).1, e56, x_up2_ne (by decide), m2.1, e39, x_up2_ne (by decide), (hC37.1 69 18 rfl).1, e30, x_up2_ne (by decide), m1.1, m0.1]; exact h.2.2.1)⟩))⟩⟩
                        · have l71 : 1 ≤ (gi58 69 15).toInt := t_lel (t_nlt h68) (by decide : (1:Int) ≤ (1:Int32).toInt)
                          refine ev_loc f_X12_number (nx := 23) rfl rfl rfl rfl ?_
                          refine ev_gvI f_X12_number (nx := 26) (w := (gi58 69 15)) rfl (hI.wf.s rfl) rfl rfl rfl rfl ?_
                          refine ev_loc f_X12_number (nx := 27) rfl rfl rfl rfl ?_
                          refine ev_if f_X12_number (t1 := 36) (t2 := 30) rfl rfl rfl (fun h72 => ?_) (fun h72 => ?_)
                          · have u73 : (gi58 69 15).toInt ≤ 20 := t_leu h72 (by decide : (20:Int32).toInt ≤ (20:Int))
                            refine ev_loc f_X12_number (nx := 37) rfl rfl rfl rfl ?_
                            refine ev_getR f_X12_number (nx := 40) rfl (hI.wf.s rfl) rfl rfl (hI.wf.r rfl) rfl rfl ?_
                            refine ev_loc f_X12_number (nx := 41) rfl rfl rfl rfl ?_
                            refine ev_loc f_X12_number (nx := 42) rfl rfl rfl rfl ?_
                            refine ev_gvI f_X12_number (nx := 45) (w := (gi58 69 15)) rfl (hI.wf.s rfl) rfl rfl rfl rfl ?_
                            refine ev_iastT f_X12_number (nx := 46) rfl (hI.wf.s rfl) l63 (by decide) u63 (by decide) rfl (hI.astA (x := (gi 70 1401)) (hI.wf.s rfl) (by decide +kernel : t_abwa 70 1454 5 0 5 1 20 = true) (by omega) (by omega) (by omega) l71 u73 rfl) (hX.upI (t_inR (p := 1454) (m := 1484) rfl l63 (by decide) u63 (by decide) (by decide))) (fun g74 e74 hI hX => ?_)
                            refine ev_loc f_X12_number (nx := 47) rfl rfl rfl rfl ?_
                            refine ev_qN f_X12_number (nx := 50) (r := []) rfl rfl rfl rfl rfl rfl rfl (c_n_ahead hI ) rfl hX rfl (fun gi75 gl75 gr75 hI hX hC75 q75 => ?_)
                            have q75 : ∀ (b : Nat → Int32) (n q : Nat), t_Sm b n q g74 → t_TM b n q gi75 := q75
                            refine ev_ic f_X12_number (nx := 51) (v := 1) rfl (by decide) rfl ?_
                            refine ev_retK1 f_X12_number rfl rfl rfl ?_
                            refine ev_f f_X12_passes (t1 := 74) (t2 := 46) rfl rfl rfl (by decide) ?_
                            refine ev_loc f_X12_passes (nx := 47) rfl rfl rfl rfl ?_
                            refine ev_heap f_X12_passes (nx := 49) rfl rfl rfl rfl ?_
                            refine ev_bp f_X12_passes (nx := 51) (v := 11) rfl (by decide) rfl ?_
                            refine ev_qI f_X12_passes (nx := 54) (r := []) rfl rfl rfl rfl rfl rfl rfl (c_n_wantWord hI (11)) rfl hX rfl (fun w76 gi76 gl76 gr76 l76 u76 hI hX hC76 q76 => ?_)
                            have q76 : ∀ (b : Nat → Int32) (n q : Nat), t_TM b n q gi75 → (w76.toInt = 1 ∧ s_mi (s_W b n q) = 11 ∧ t_TM b n (s_E b n q) gi76 ∧ t_mf gi75 gi76) ∨ (w76.toInt = 0 ∧ ¬ s_mi (s_W b n q) = 11 ∧ ((gi75 69 18).toInt = 0 → t_MF gi76 (s_fk b n q 2) (s_F b n q))) := q76
                            refine ev_if f_X12_passes (t1 := 74) (t2 := 57) rfl rfl rfl (fun h77 => ?_) (fun h77 => ?_)
                            · have u78 : w76.toInt ≤ 0 := t_equ h77 (by decide : (0:Int32).toInt ≤ (0:Int))
                              refine ev_ic f_X12_passes (nx := 75) (v := 0) rfl (by decide) rfl ?_
                              refine ev_retK1 f_X12_passes rfl rfl rfl ?_
                              refine ev_t f_X12_aShip (t1 := 140) (t2 := 142) rfl rfl rfl (by decide) ?_
                              refine ev_ic f_X12_aShip (nx := 141) (v := 0) rfl (by decide) rfl ?_
                              exact ev_ret f_X12_aShip rfl rfl rfl ⟨_, _, _, rfl, hI, hX, ⟨_, rfl, (by decide : (0:Int) ≤ (0:Int32).toInt), (Int.le_trans (by decide : (0:Int32).toInt ≤ (0:Int)) (by decide : (0:Int) ≤ 1)), (show ∀ (b : Nat → Int32) (n q : Nat) (D : s_D), t_MS b n q D gi gl → ((0 : Int) = 1 ∧ ∃ q2 D2, s_ship b n q D = s_ok q2 D2 ∧ t_MS b n q2 D2 gi76 gl76) ∨ ((0 : Int) = 0 ∧ ∃ p x D2, x ≠ 0 ∧ s_ship b n q D = s_bad b n p x D2 ∧ t_MF gi76 (s_fk b n p x) (s_F b n p)) from (by
                                                            intro b n q D h
                                                            have d0 : (gi 70 1401).toInt = D 1 := h.2.1.2.1.1.1.2.1
                                                            have b0 := h.2.1.1.2.1
                                                            have hc0 := t_clamp (i := gi 70 1401) (by omega)
                                                            obtain ⟨_, hN, hU, t1, m1, n1⟩ := (q12 b n q D h).resolve_right (fun hh => by rcases hh with hh | hh <;> exact absurd hh.1 (by omega))
                                                            have m0 := m1
                                                            obtain ⟨_, w1, t1_, m1⟩ := (q17 b n _ t1).resolve_right (fun hh => absurd hh.1 (by omega))
                                                            have k1 := (s_mi_W (i := 7) (by decide)).mp w1
                                                            have hM := (q22 b n _ t1_).mp (by omega)
                                                            have dP : (gi17 70 1400).toInt = D 0 := by rw [(hC17.1 70 _ rfl).1, (hC12.1 70 _ rfl).1]; exact h.2.1.2.1.1.1.1
                                                            have bP := h.2.1.1.1
                                                            have cP := t_clamp (i := gi17 70 1400) (by omega)
                                                            have hz0 := t_clamp (i := z11) (by omega)
                                                            have nP : ∀ i : Nat, (i : Int) < D 0 → t_nr (gl17 71 (72 + i)) (D (200 + i)) := fun i hi => by rw [(hC17.1 71 _ rfl).2.1, n1, if_neg (by omega)]; exact h.2.1.2.2.1.1 i hi
                                                            have fP : w29.toInt = s_fp D (s_L b n (s_E b n (s_E b n (s_E b n q)))).toInt := by
                                                              unfold s_fp
                                                              rw [show (D 0).toNat = (gi17 70 1400).toNatClampNeg from (by omega)]
                                                              exact q29.1 b n _ _ _ t1_ hM (t_nr_f (base := 72) nP (by omega) hM)
                                                            have ta_ := q37 b n _ (t1_.st e30).S
                                                            have tb_ := ta_.st e39
                                                            obtain ⟨_, w2, t2_, m2⟩ := (q41 b n _ tb_).resolve_right (fun hh => absurd hh.1 (by omega))
                                                            have k2 := (s_mi_W (i := 8) (by decide)).mp w2
                                                            have v3 := t2_.vT (lo := 0) (hi := 120) (by omega) (by omega) (by omega)
                                                            have t3_ := q57 b n _ (t2_.st e56).S
                                                            obtain ⟨_, w4, t4_, m4⟩ := (q58 b n _ t3_).resolve_right (fun hh => absurd hh.1 (by omega))
                                                            have k4 := (s_mi_W (i := 9) (by decide)).mp w4
                                                            have v5 := t4_.vT (lo := 1) (hi := 20) (by omega) (by omega) (by omega)
                                                            have t5_ := q75 b n _ (t4_.st e74).S
                                                            rcases q76 b n _ t5_ with hh | hh
                                                            · exact absurd hh.1 (by omega)
                                                            · exact Or.inr ⟨rfl, _, 2, D, by decide, by simp only [s_ship, s_name, s_kw, s_come, s_num, s_ifF (show ¬ D 1 = 6 by omega), s_ifT hN, s_ifF hU, s_ifT k1, s_ifT hM, s_ifF (show ¬ s_fp D (s_L b n (s_E b n (s_E b n (s_E b n q)))).toInt = -1 by omega), s_ifT k2, s_ifT v3.1.1, s_ifT v3.1, s_ifT k4, s_ifT v5.1.1, s_ifT v5.1, s_ifF (fun hw => hh.2.1 ((s_mi_W (i := 10) (by decide)).mpr hw))], hh.2.2 (by rw [(hC75.1 69 18 rfl).1, e74, x_up2_ne (by decide), m4.1, (hC57.1 69 18 rfl).1, e56, x_up2_ne (by decide), m2.1, e39, x_up2_ne (by decide), (hC37.1 69 18 rfl).1, e30, x_up2_ne (by decide), m1.1, m0.1]; exact h.2.2.1)⟩))⟩⟩
                            · have r79 : w76.toInt ≠ 0 := fun e => h77 (Int32.toInt_inj.mp (e.trans (by decide : (0:Int) = (0 : Int32).toInt)))
                              have l80 : 1 ≤ w76.toInt := t_nel h77 l76 rfl rfl
                              refine ev_loc f_X12_passes (nx := 58) rfl rfl rfl rfl ?_
                              refine ev_loc f_X12_passes (nx := 59) rfl rfl rfl rfl ?_
                              refine ev_ic f_X12_passes (nx := 60) (v := 2) rfl (by decide) rfl ?_
                              refine ev_addC f_X12_passes (nx := 61) (c := 2) (l := 1455) (u := 1485) rfl (by decide) l40 u40 rfl rfl (by decide) (by decide) rfl (fun z81 e81 l81 u81 => ?_)
                              refine ev_ic f_X12_passes (nx := 62) (v := 0) rfl (by decide) rfl ?_
                              refine ev_bp f_X12_passes (nx := 64) (v := 99) rfl (by decide) rfl ?_
                              refine ev_inV4 f_X12_passes (nx := 67) (lo2 := [(0, .ref 69), (1, .int z81), (2, .int 0), (3, .int 99)]) rfl rfl rfl rfl f_X12_number (hI.wf.s rfl) rfl rfl rfl rfl rfl ?_
                              refine ev_loc f_X12_number (nx := 1) rfl rfl rfl rfl ?_
                              refine ev_getI f_X12_number (nx := 4) rfl (hI.wf.s rfl) rfl rfl rfl ?_
                              obtain ⟨l82, u82⟩ := hI.b (hI.wf.s (k := 69) rfl) (t_bdK rfl : t_bd 11 12 = some (0, 4))
                              refine ev_ic f_X12_number (nx := 5) (v := 3) rfl (by decide) rfl ?_
                              refine ev_if f_X12_number (t1 := 14) (t2 := 8) rfl rfl rfl (fun h83 => ?_) (fun h83 => ?_)
                              · have u84 : (gi76 69 12).toInt ≤ 3 := t_equ h83 (by decide : (3:Int32).toInt ≤ (3:Int))
                                have l85 : 3 ≤ (gi76 69 12).toInt := t_eql h83 (by decide : (3:Int) ≤ (3:Int32).toInt)
                                refine ev_loc f_X12_number (nx := 15) rfl rfl rfl rfl ?_
                                refine ev_getI f_X12_number (nx := 18) rfl (hI.wf.s rfl) rfl rfl rfl ?_
                                refine ev_loc f_X12_number (nx := 19) rfl rfl rfl rfl ?_
                                refine ev_if f_X12_number (t1 := 30) (t2 := 22) rfl rfl rfl (fun h86 => ?_) (fun h86 => ?_)
                                · have u87 : (gi76 69 15).toInt ≤ (-1) := t_ltu h86 (by decide : (0:Int32).toInt ≤ (0:Int)) rfl
                                  refine ev_loc f_X12_number (nx := 31) rfl rfl rfl rfl ?_
                                  refine ev_ic f_X12_number (nx := 32) (v := 4) rfl (by decide) rfl ?_
                                  refine ev_qI f_X12_number (nx := 35) (r := []) rfl rfl rfl rfl rfl rfl rfl (c_n_fails hI (4) (Int.le_trans (by decide : (2:Int) ≤ 4) (by decide : (4:Int) ≤ (4:Int32).toInt)) (Int.le_trans (by decide : (4:Int32).toInt ≤ (4:Int)) (by decide : (4:Int) ≤ 7))) rfl hX rfl (fun w88 gi88 gl88 gr88 l88 u88 hI hX hC88 q88 => ?_)
                                  have q88 : (∀ (b : Nat → Int32) (n q : Nat), t_TM b n q gi76 → (gi76 69 18).toInt = 0 → t_MF gi88 (s_fk b n q 4) (s_F b n q)) ∧ w88.toInt = 0 := q88
                                  refine ev_retK1 f_X12_number rfl rfl (t_rz l88 (Int.le_trans u88 (by decide : (0:Int) ≤ 1))) ?_
                                  refine ev_t f_X12_passes (t1 := 74) (t2 := 70) rfl rfl rfl (t_eqT u88 l88 (by decide : (0:Int32).toInt ≤ (0:Int)) (by decide : (0:Int) ≤ (0:Int32).toInt)) ?_
                                  refine ev_ic f_X12_passes (nx := 75) (v := 0) rfl (by decide) rfl ?_
                                  refine ev_retK1 f_X12_passes rfl rfl rfl ?_
                                  refine ev_t f_X12_aShip (t1 := 140) (t2 := 142) rfl rfl rfl (by decide) ?_
                                  refine ev_ic f_X12_aShip (nx := 141) (v := 0) rfl (by decide) rfl ?_
                                  exact ev_ret f_X12_aShip rfl rfl rfl ⟨_, _, _, rfl, hI, hX, ⟨_, rfl, (by decide : (0:Int) ≤ (0:Int32).toInt), (Int.le_trans (by decide : (0:Int32).toInt ≤ (0:Int)) (by decide : (0:Int) ≤ 1)), (show ∀ (b : Nat → Int32) (n q : Nat) (D : s_D), t_MS b n q D gi gl → ((0 : Int) = 1 ∧ ∃ q2 D2, s_ship b n q D = s_ok q2 D2 ∧ t_MS b n q2 D2 gi88 gl88) ∨ ((0 : Int) = 0 ∧ ∃ p x D2, x ≠ 0 ∧ s_ship b n q D = s_bad b n p x D2 ∧ t_MF gi88 (s_fk b n p x) (s_F b n p)) from (by
                                                            intro b n q D h
                                                            have d0 : (gi 70 1401).toInt = D 1 := h.2.1.2.1.1.1.2.1
                                                            have b0 := h.2.1.1.2.1
                                                            have hc0 := t_clamp (i := gi 70 1401) (by omega)
                                                            obtain ⟨_, hN, hU, t1, m1, n1⟩ := (q12 b n q D h).resolve_right (fun hh => by rcases hh with hh | hh <;> exact absurd hh.1 (by omega))
                                                            have m0 := m1
                                                            obtain ⟨_, w1, t1_, m1⟩ := (q17 b n _ t1).resolve_right (fun hh => absurd hh.1 (by omega))
                                                            have k1 := (s_mi_W (i := 7) (by decide)).mp w1
                                                            have hM := (q22 b n _ t1_).mp (by omega)
                                                            have dP : (gi17 70 1400).toInt = D 0 := by rw [(hC17.1 70 _ rfl).1, (hC12.1 70 _ rfl).1]; exact h.2.1.2.1.1.1.1
                                                            have bP := h.2.1.1.1
                                                            have cP := t_clamp (i := gi17 70 1400) (by omega)
                                                            have hz0 := t_clamp (i := z11) (by omega)
                                                            have nP : ∀ i : Nat, (i : Int) < D 0 → t_nr (gl17 71 (72 + i)) (D (200 + i)) := fun i hi => by rw [(hC17.1 71 _ rfl).2.1, n1, if_neg (by omega)]; exact h.2.1.2.2.1.1 i hi
                                                            have fP : w29.toInt = s_fp D (s_L b n (s_E b n (s_E b n (s_E b n q)))).toInt := by
                                                              unfold s_fp
                                                              rw [show (D 0).toNat = (gi17 70 1400).toNatClampNeg from (by omega)]
                                                              exact q29.1 b n _ _ _ t1_ hM (t_nr_f (base := 72) nP (by omega) hM)
                                                            have ta_ := q37 b n _ (t1_.st e30).S
                                                            have tb_ := ta_.st e39
                                                            obtain ⟨_, w2, t2_, m2⟩ := (q41 b n _ tb_).resolve_right (fun hh => absurd hh.1 (by omega))
                                                            have k2 := (s_mi_W (i := 8) (by decide)).mp w2
                                                            have v3 := t2_.vT (lo := 0) (hi := 120) (by omega) (by omega) (by omega)
                                                            have t3_ := q57 b n _ (t2_.st e56).S
                                                            obtain ⟨_, w4, t4_, m4⟩ := (q58 b n _ t3_).resolve_right (fun hh => absurd hh.1 (by omega))
                                                            have k4 := (s_mi_W (i := 9) (by decide)).mp w4
                                                            have v5 := t4_.vT (lo := 1) (hi := 20) (by omega) (by omega) (by omega)
                                                            have t5_ := q75 b n _ (t4_.st e74).S
                                                            obtain ⟨_, w6, t6_, m6⟩ := (q76 b n _ t5_).resolve_right (fun hh => absurd hh.1 (by omega))
                                                            have k6 := (s_mi_W (i := 10) (by decide)).mp w6
                                                            have hv := t6_.vF (lo := 0) (hi := 99) (by omega) (by omega)
                                                            exact Or.inr ⟨rfl, _, 4, D, by decide, by simp only [s_ship, s_name, s_kw, s_come, s_num, s_ifF (show ¬ D 1 = 6 by omega), s_ifT hN, s_ifF hU, s_ifT k1, s_ifT hM, s_ifF (show ¬ s_fp D (s_L b n (s_E b n (s_E b n (s_E b n q)))).toInt = -1 by omega), s_ifT k2, s_ifT v3.1.1, s_ifT v3.1, s_ifT k4, s_ifT v5.1.1, s_ifT v5.1, s_ifT k6, s_ifT hv.1, s_ifF hv.2], q88.1 b n _ t6_ (by rw [m6.1, (hC75.1 69 18 rfl).1, e74, x_up2_ne (by decide), m4.1, (hC57.1 69 18 rfl).1, e56, x_up2_ne (by decide), m2.1, e39, x_up2_ne (by decide), (hC37.1 69 18 rfl).1, e30, x_up2_ne (by decide), m1.1, m0.1]; exact h.2.2.1)⟩))⟩⟩
                                · have l89 : 0 ≤ (gi76 69 15).toInt := t_lel (t_nlt h86) (by decide : (0:Int) ≤ (0:Int32).toInt)
                                  refine ev_loc f_X12_number (nx := 23) rfl rfl rfl rfl ?_
                                  refine ev_gvI f_X12_number (nx := 26) (w := (gi76 69 15)) rfl (hI.wf.s rfl) rfl rfl rfl rfl ?_
                                  refine ev_loc f_X12_number (nx := 27) rfl rfl rfl rfl ?_
                                  refine ev_if f_X12_number (t1 := 36) (t2 := 30) rfl rfl rfl (fun h90 => ?_) (fun h90 => ?_)
                                  · have u91 : (gi76 69 15).toInt ≤ 99 := t_leu h90 (by decide : (99:Int32).toInt ≤ (99:Int))
                                    refine ev_loc f_X12_number (nx := 37) rfl rfl rfl rfl ?_
                                    refine ev_getR f_X12_number (nx := 40) rfl (hI.wf.s rfl) rfl rfl (hI.wf.r rfl) rfl rfl ?_
                                    refine ev_loc f_X12_number (nx := 41) rfl rfl rfl rfl ?_
                                    refine ev_loc f_X12_number (nx := 42) rfl rfl rfl rfl ?_
                                    refine ev_gvI f_X12_number (nx := 45) (w := (gi76 69 15)) rfl (hI.wf.s rfl) rfl rfl rfl rfl ?_
                                    refine ev_iastT f_X12_number (nx := 46) rfl (hI.wf.s rfl) l81 (by decide) u81 (by decide) rfl (hI.astA (x := (gi 70 1401)) (hI.wf.s rfl) (by decide +kernel : t_abwa 70 1455 5 0 5 0 99 = true) (by omega) (by omega) (by omega) l89 u91 rfl) (hX.upI (t_inR (p := 1455) (m := 1485) rfl l81 (by decide) u81 (by decide) (by decide))) (fun g92 e92 hI hX => ?_)
                                    refine ev_loc f_X12_number (nx := 47) rfl rfl rfl rfl ?_
                                    refine ev_qN f_X12_number (nx := 50) (r := []) rfl rfl rfl rfl rfl rfl rfl (c_n_ahead hI ) rfl hX rfl (fun gi93 gl93 gr93 hI hX hC93 q93 => ?_)
                                    have q93 : ∀ (b : Nat → Int32) (n q : Nat), t_Sm b n q g92 → t_TM b n q gi93 := q93
                                    refine ev_ic f_X12_number (nx := 51) (v := 1) rfl (by decide) rfl ?_
                                    refine ev_retK1 f_X12_number rfl rfl rfl ?_
                                    refine ev_f f_X12_passes (t1 := 74) (t2 := 70) rfl rfl rfl (by decide) ?_
                                    refine ev_ic f_X12_passes (nx := 71) (v := 1) rfl (by decide) rfl ?_
                                    refine ev_jmp f_X12_passes (nx := 75) rfl rfl rfl ?_
                                    refine ev_retK1 f_X12_passes rfl rfl rfl ?_
                                    refine ev_f f_X12_aShip (t1 := 140) (t2 := 142) rfl rfl rfl (by decide) ?_
                                    refine ev_loc f_X12_aShip (nx := 143) rfl rfl rfl rfl ?_
                                    refine ev_heap f_X12_aShip (nx := 145) rfl rfl rfl rfl ?_
                                    refine ev_qI0 f_X12_aShip (nx := 148) (r := []) rfl rfl rfl rfl rfl rfl rfl (c_n_inWords hI ) rfl (fun w94 l94 u94 q94 => ?_)
                                    have q94 : (∀ (b : Nat → Int32) (n q : Nat), t_TM b n q gi93 → w94.toInt = s_mi (s_W b n q)) ∧ (0 ≤ w94.toInt → (gi93 69 12).toInt = 2) := q94
                                    refine ev_bp f_X12_aShip (nx := 150) (v := 12) rfl (by decide) rfl ?_
                                    refine ev_if f_X12_aShip (t1 := 153) (t2 := 166) rfl rfl rfl (fun h95 => ?_) (fun h95 => ?_)
                                    · have u96 : w94.toInt ≤ 12 := t_equ h95 (by decide : (12:Int32).toInt ≤ (12:Int))
                                      have l97 : 12 ≤ w94.toInt := t_eql h95 (by decide : (12:Int) ≤ (12:Int32).toInt)
                                      refine ev_loc f_X12_aShip (nx := 154) rfl rfl rfl rfl ?_
                                      refine ev_getR f_X12_aShip (nx := 157) rfl (hI.wf.s rfl) rfl rfl (hI.wf.r rfl) rfl rfl ?_
                                      refine ev_loc f_X12_aShip (nx := 158) rfl rfl rfl rfl ?_
                                      refine ev_ic f_X12_aShip (nx := 159) (v := 4) rfl (by decide) rfl ?_
                                      refine ev_addC f_X12_aShip (nx := 160) (c := 4) (l := 1456) (u := 1486) rfl (by decide) l3 u3 rfl rfl (by decide) (by decide) rfl (fun z98 e98 l98 u98 => ?_)
                                      refine ev_ic f_X12_aShip (nx := 161) (v := 1) rfl (by decide) rfl ?_
                                      refine ev_iastT f_X12_aShip (nx := 162) rfl (hI.wf.s rfl) l98 (by decide) u98 (by decide) rfl (hI.astA (x := (gi 70 1401)) (hI.wf.s rfl) (by decide +kernel : t_abwa 70 1456 5 0 5 1 1 = true) (by omega) (by omega) (by omega) (by decide : (1:Int) ≤ (1:Int32).toInt) (by decide : (1:Int32).toInt ≤ (1:Int)) rfl) (hX.upI (t_inR (p := 1456) (m := 1486) rfl l98 (by decide) u98 (by decide) (by decide))) (fun g99 e99 hI hX => ?_)
                                      refine ev_loc f_X12_aShip (nx := 163) rfl rfl rfl rfl ?_
                                      refine ev_qN f_X12_aShip (nx := 166) (r := []) rfl rfl rfl rfl rfl rfl rfl (c_n_ahead hI ) rfl hX rfl (fun gi100 gl100 gr100 hI hX hC100 q100 => ?_)
                                      have q100 : ∀ (b : Nat → Int32) (n q : Nat), t_Sm b n q g99 → t_TM b n q gi100 := q100
                                      refine ev_loc f_X12_aShip (nx := 167) rfl rfl rfl rfl ?_
                                      refine ev_getR f_X12_aShip (nx := 170) rfl (hI.wf.s rfl) rfl rfl (hI.wf.r rfl) rfl rfl ?_
                                      refine ev_sp f_X12_aShip (nx := 173) (v := 1401) rfl (by decide) rfl ?_
                                      refine ev_alu f_X12_aShip (nx := 174) rfl rfl rfl rfl ?_
                                      refine ev_ialdv f_X12_aShip (nx := 175) (w := (gi 70 1401)) rfl (hI.wf.s rfl) (by decide) (rfl : (1401 : Int32).toNatClampNeg = 1401) (by decide) ((hC100.1 70 1401 rfl).1.trans ((by rw [e99]; exact x_up2_off (Or.inr (t_neCl l98 (by decide))) : g99 70 1401 = gi93 70 1401).trans ((hC93.1 70 1401 rfl).1.trans ((by rw [e92]; exact x_up2_off (Or.inr (t_neCl l81 (by decide))) : g92 70 1401 = gi76 70 1401).trans ((hC76.1 70 1401 rfl).1.trans ((hC75.1 70 1401 rfl).1.trans ((by rw [e74]; exact x_up2_off (Or.inr (t_neCl l63 (by decide))) : g74 70 1401 = gi58 70 1401).trans ((hC58.1 70 1401 rfl).1.trans ((hC57.1 70 1401 rfl).1.trans ((by rw [e56]; exact x_up2_off (Or.inr (t_neCl l40 (by decide))) : g56 70 1401 = gi41 70 1401).trans ((hC41.1 70 1401 rfl).1.trans ((by rw [e39]; exact x_up2_off (Or.inr (t_neCl l38 (by decide))) : g39 70 1401 = gi37 70 1401).trans ((hC37.1 70 1401 rfl).1.trans ((by rw [e30]; exact x_up2_off (Or.inr (t_neCl l3 (by decide))) : g30 70 1401 = gi17 70 1401).trans ((hC17.1 70 1401 rfl).1.trans ((hC12.1 70 1401 rfl).1.trans rfl)))))))))))))))) rfl ?_
                                      refine ev_ic f_X12_aShip (nx := 176) (v := 1) rfl (by decide) rfl ?_
                                      refine ev_addC f_X12_aShip (nx := 177) (c := 1) (l := 1) (u := 6) rfl (by decide) l1 u9 rfl rfl (by decide) (by decide) rfl (fun z102 e102 l102 u102 => ?_)
                                      refine ev_iastT f_X12_aShip (nx := 178) rfl (hI.wf.s rfl) (by decide : (1401:Int) ≤ (1401:Int32).toInt) (by decide) (by decide : (1401:Int32).toInt ≤ (1401:Int)) (by decide) rfl (hI.astL (hI.wf.s rfl) (by decide +kernel : t_abw 70 1401 1401 1 6 = true) (t_cl1 (by decide : (1401:Int) ≤ (1401:Int32).toInt) (by decide)) (t_cl2 (by decide : (1401:Int) ≤ (1401:Int32).toInt) (by decide : (1401:Int32).toInt ≤ (1401:Int)) (by decide) (by decide)) l102 u102 rfl) (hX.upI (t_inR (p := 1401) (m := 1401) rfl (by decide : (1401:Int) ≤ (1401:Int32).toInt) (by decide) (by decide : (1401:Int32).toInt ≤ (1401:Int)) (by decide) (by decide))) (fun g103 e103 hI hX => ?_)
                                      refine ev_ic f_X12_aShip (nx := 179) (v := 1) rfl (by decide) rfl ?_
                                      exact ev_ret f_X12_aShip rfl rfl rfl ⟨_, _, _, rfl, hI, hX, ⟨_, rfl, (Int.le_trans (by decide : (0:Int) ≤ 1) (by decide : (1:Int) ≤ (1:Int32).toInt)), (by decide : (1:Int32).toInt ≤ (1:Int)), (show ∀ (b : Nat → Int32) (n q : Nat) (D : s_D), t_MS b n q D gi gl → ((1 : Int) = 1 ∧ ∃ q2 D2, s_ship b n q D = s_ok q2 D2 ∧ t_MS b n q2 D2 g103 gl100) ∨ ((1 : Int) = 0 ∧ ∃ p x D2, x ≠ 0 ∧ s_ship b n q D = s_bad b n p x D2 ∧ t_MF g103 (s_fk b n p x) (s_F b n p)) from (by
                                                            intro b n q D h
                                                            have d0 : (gi 70 1401).toInt = D 1 := h.2.1.2.1.1.1.2.1
                                                            have b0 := h.2.1.1.2.1
                                                            have hc0 := t_clamp (i := gi 70 1401) (by omega)
                                                            obtain ⟨_, hN, hU, t1, m1, n1⟩ := (q12 b n q D h).resolve_right (fun hh => by rcases hh with hh | hh <;> exact absurd hh.1 (by omega))
                                                            have m0 := m1
                                                            obtain ⟨_, w1, t1_, m1⟩ := (q17 b n _ t1).resolve_right (fun hh => absurd hh.1 (by omega))
                                                            have k1 := (s_mi_W (i := 7) (by decide)).mp w1
                                                            have hM := (q22 b n _ t1_).mp (by omega)
                                                            have dP : (gi17 70 1400).toInt = D 0 := by rw [(hC17.1 70 _ rfl).1, (hC12.1 70 _ rfl).1]; exact h.2.1.2.1.1.1.1
                                                            have bP := h.2.1.1.1
                                                            have cP := t_clamp (i := gi17 70 1400) (by omega)
                                                            have hz0 := t_clamp (i := z11) (by omega)
                                                            have nP : ∀ i : Nat, (i : Int) < D 0 → t_nr (gl17 71 (72 + i)) (D (200 + i)) := fun i hi => by rw [(hC17.1 71 _ rfl).2.1, n1, if_neg (by omega)]; exact h.2.1.2.2.1.1 i hi
                                                            have fP : w29.toInt = s_fp D (s_L b n (s_E b n (s_E b n (s_E b n q)))).toInt := by
                                                              unfold s_fp
                                                              rw [show (D 0).toNat = (gi17 70 1400).toNatClampNeg from (by omega)]
                                                              exact q29.1 b n _ _ _ t1_ hM (t_nr_f (base := 72) nP (by omega) hM)
                                                            have ta_ := q37 b n _ (t1_.st e30).S
                                                            have tb_ := ta_.st e39
                                                            obtain ⟨_, w2, t2_, m2⟩ := (q41 b n _ tb_).resolve_right (fun hh => absurd hh.1 (by omega))
                                                            have k2 := (s_mi_W (i := 8) (by decide)).mp w2
                                                            have v3 := t2_.vT (lo := 0) (hi := 120) (by omega) (by omega) (by omega)
                                                            have t3_ := q57 b n _ (t2_.st e56).S
                                                            obtain ⟨_, w4, t4_, m4⟩ := (q58 b n _ t3_).resolve_right (fun hh => absurd hh.1 (by omega))
                                                            have k4 := (s_mi_W (i := 9) (by decide)).mp w4
                                                            have v5 := t4_.vT (lo := 1) (hi := 20) (by omega) (by omega) (by omega)
                                                            have t5_ := q75 b n _ (t4_.st e74).S
                                                            obtain ⟨_, w6, t6_, m6⟩ := (q76 b n _ t5_).resolve_right (fun hh => absurd hh.1 (by omega))
                                                            have k6 := (s_mi_W (i := 10) (by decide)).mp w6
                                                            have v7 := t6_.vT (lo := 0) (hi := 99) (by omega) (by omega) (by omega)
                                                            have t7_ := q93 b n _ (t6_.st e92).S
                                                            have hS := (s_mi_W (i := 11) (by decide)).mp (show s_mi (s_W b n _) = s_mil.getD 11 0 from (by rw [← q94.1 b n _ t7_]; show w94.toInt = 12; omega))
                                                            have tc_ := q100 b n _ (t7_.st e99).S
                                                            have cl0_ := t_clamp (i := z3) (by omega)
                                                            have cl1_ := t_clamp (i := z38) (by omega)
                                                            have cl2_ := t_clamp (i := z40) (by omega)
                                                            have cl3_ := t_clamp (i := z63) (by omega)
                                                            have cl4_ := t_clamp (i := z81) (by omega)
                                                            have cl5_ := t_clamp (i := z98) (by omega)
                                                            have kc1401_ : (1401 : Int32).toNatClampNeg = 1401 := rfl
                                                            have y0 : g103 70 (1452 + 5 * (gi 70 1401).toNatClampNeg) = w29 := by
                                                              rw [e103, x_up2_off (Or.inr (by omega)), (hC100.1 70 _ rfl).1, e99, x_up2_off (Or.inr (by omega)), (hC93.1 70 _ rfl).1, e92, x_up2_off (Or.inr (by omega)), (hC76.1 70 _ rfl).1, (hC75.1 70 _ rfl).1, e74, x_up2_off (Or.inr (by omega)), (hC58.1 70 _ rfl).1, (hC57.1 70 _ rfl).1, e56, x_up2_off (Or.inr (by omega)), (hC41.1 70 _ rfl).1, e39, x_up2_off (Or.inr (by omega)), (hC37.1 70 _ rfl).1, e30]
                                                              rw [show 1452 + 5 * (gi 70 1401).toNatClampNeg = z3.toNatClampNeg from (by omega), x_up2_at]
                                                            have y1 : g103 70 (1453 + 5 * (gi 70 1401).toNatClampNeg) = (gi41 69 15) := by
                                                              rw [e103, x_up2_off (Or.inr (by omega)), (hC100.1 70 _ rfl).1, e99, x_up2_off (Or.inr (by omega)), (hC93.1 70 _ rfl).1, e92, x_up2_off (Or.inr (by omega)), (hC76.1 70 _ rfl).1, (hC75.1 70 _ rfl).1, e74, x_up2_off (Or.inr (by omega)), (hC58.1 70 _ rfl).1, (hC57.1 70 _ rfl).1, e56]
                                                              rw [show 1453 + 5 * (gi 70 1401).toNatClampNeg = z40.toNatClampNeg from (by omega), x_up2_at]
                                                            have y2 : g103 70 (1454 + 5 * (gi 70 1401).toNatClampNeg) = (gi58 69 15) := by
                                                              rw [e103, x_up2_off (Or.inr (by omega)), (hC100.1 70 _ rfl).1, e99, x_up2_off (Or.inr (by omega)), (hC93.1 70 _ rfl).1, e92, x_up2_off (Or.inr (by omega)), (hC76.1 70 _ rfl).1, (hC75.1 70 _ rfl).1, e74]
                                                              rw [show 1454 + 5 * (gi 70 1401).toNatClampNeg = z63.toNatClampNeg from (by omega), x_up2_at]
                                                            have y3 : g103 70 (1455 + 5 * (gi 70 1401).toNatClampNeg) = (gi76 69 15) := by
                                                              rw [e103, x_up2_off (Or.inr (by omega)), (hC100.1 70 _ rfl).1, e99, x_up2_off (Or.inr (by omega)), (hC93.1 70 _ rfl).1, e92]
                                                              rw [show 1455 + 5 * (gi 70 1401).toNatClampNeg = z81.toNatClampNeg from (by omega), x_up2_at]
                                                            have y4 : g103 70 (1456 + 5 * (gi 70 1401).toNatClampNeg) = (1 : Int32) := by
                                                              rw [e103, x_up2_off (Or.inr (by omega)), (hC100.1 70 _ rfl).1, e99]
                                                              rw [show 1456 + 5 * (gi 70 1401).toNatClampNeg = z98.toNatClampNeg from (by omega), x_up2_at]
                                                            have yr : ∀ j, j ≠ 1401 → (j < 1452 + 5 * (gi 70 1401).toNatClampNeg ∨ 1457 + 5 * (gi 70 1401).toNatClampNeg ≤ j) → g103 70 j = gi 70 j := fun j j1 j2 => by
                                                              rw [e103, x_up2_off (Or.inr (by omega)), (hC100.1 70 _ rfl).1, e99, x_up2_off (Or.inr (by omega)), (hC93.1 70 _ rfl).1, e92, x_up2_off (Or.inr (by omega)), (hC76.1 70 _ rfl).1, (hC75.1 70 _ rfl).1, e74, x_up2_off (Or.inr (by omega)), (hC58.1 70 _ rfl).1, (hC57.1 70 _ rfl).1, e56, x_up2_off (Or.inr (by omega)), (hC41.1 70 _ rfl).1, e39, x_up2_off (Or.inr (by omega)), (hC37.1 70 _ rfl).1, e30, x_up2_off (Or.inr (by omega)), (hC17.1 70 _ rfl).1, (hC12.1 70 _ rfl).1]
                                                            have yc : (g103 70 1401).toInt = D 1 + 1 := by
                                                              rw [e103, kc1401_, x_up2_at]; omega
                                                            have yl : ∀ j : Nat, gl100 71 j = gl12 71 j := fun j => by rw [(hC100.1 71 j rfl).2.1, (hC93.1 71 j rfl).2.1, (hC76.1 71 j rfl).2.1, (hC75.1 71 j rfl).2.1, (hC58.1 71 j rfl).2.1, (hC57.1 71 j rfl).2.1, (hC41.1 71 j rfl).2.1, (hC37.1 71 j rfl).2.1, (hC17.1 71 j rfl).2.1]
                                                            exact Or.inl ⟨rfl, _, _, by simp only [s_ship, s_name, s_kw, s_come, s_num, s_ifF (show ¬ D 1 = 6 by omega), s_ifT hN, s_ifF hU, s_ifT k1, s_ifT hM, s_ifF (show ¬ s_fp D (s_L b n (s_E b n (s_E b n (s_E b n q)))).toInt = -1 by omega), s_ifT k2, s_ifT v3.1.1, s_ifT v3.1, s_ifT k4, s_ifT v5.1.1, s_ifT v5.1, s_ifT k6, s_ifT v7.1.1, s_ifT v7.1, s_ifT hS], t_MS_ship h (by omega) hN (tc_.st e103) ⟨by rw [e103, x_up2_ne (by decide), (hC100.1 69 18 rfl).1, e99, x_up2_ne (by decide), (hC93.1 69 18 rfl).1, e92, x_up2_ne (by decide), m6.1, (hC75.1 69 18 rfl).1, e74, x_up2_ne (by decide), m4.1, (hC57.1 69 18 rfl).1, e56, x_up2_ne (by decide), m2.1, e39, x_up2_ne (by decide), (hC37.1 69 18 rfl).1, e30, x_up2_ne (by decide), m1.1, m0.1], by rw [e103, x_up2_ne (by decide), (hC100.1 69 17 rfl).1, e99, x_up2_ne (by decide), (hC93.1 69 17 rfl).1, e92, x_up2_ne (by decide), m6.2, (hC75.1 69 17 rfl).1, e74, x_up2_ne (by decide), m4.2, (hC57.1 69 17 rfl).1, e56, x_up2_ne (by decide), m2.2, e39, x_up2_ne (by decide), (hC37.1 69 17 rfl).1, e30, x_up2_ne (by decide), m1.2, m0.2]⟩ (d := (gi 70 1401).toNatClampNeg) (by omega) yr yc ((congrArg Int32.toInt y0).trans fP) ((congrArg Int32.toInt y1).trans v3.2) ((congrArg Int32.toInt y2).trans v5.2) ((congrArg Int32.toInt y3).trans v7.2) ((congrArg Int32.toInt y4).trans (show (1 : Int32).toInt = (1 : Int) from rfl)) (fun j => by rw [yl, n1 j, show 72 + z11.toNatClampNeg = 78 + (gi 70 1401).toNatClampNeg from (by omega)]) (by rw [e103, x_up2_ne (by decide), (hC100.1 69 20 rfl).1, e99, x_up2_ne (by decide), (hC93.1 69 20 rfl).1, e92, x_up2_ne (by decide), (hC76.1 69 20 rfl).1, (hC75.1 69 20 rfl).1, e74, x_up2_ne (by decide), (hC58.1 69 20 rfl).1, (hC57.1 69 20 rfl).1, e56, x_up2_ne (by decide), (hC41.1 69 20 rfl).1, e39, x_up2_ne (by decide), (hC37.1 69 20 rfl).1, e30, x_up2_ne (by decide), (hC17.1 69 20 rfl).1, (hC12.1 69 20 rfl).1])⟩))⟩⟩
                                    · have r104 : w94.toInt ≠ 12 := fun e => h95 (Int32.toInt_inj.mp (e.trans (by decide : (12:Int) = (12 : Int32).toInt)))
                                      refine ev_loc f_X12_aShip (nx := 167) rfl rfl rfl rfl ?_
                                      refine ev_getR f_X12_aShip (nx := 170) rfl (hI.wf.s rfl) rfl rfl (hI.wf.r rfl) rfl rfl ?_
                                      refine ev_sp f_X12_aShip (nx := 173) (v := 1401) rfl (by decide) rfl ?_
                                      refine ev_alu f_X12_aShip (nx := 174) rfl rfl rfl rfl ?_
                                      refine ev_ialdv f_X12_aShip (nx := 175) (w := (gi 70 1401)) rfl (hI.wf.s rfl) (by decide) (rfl : (1401 : Int32).toNatClampNeg = 1401) (by decide) ((hC93.1 70 1401 rfl).1.trans ((by rw [e92]; exact x_up2_off (Or.inr (t_neCl l81 (by decide))) : g92 70 1401 = gi76 70 1401).trans ((hC76.1 70 1401 rfl).1.trans ((hC75.1 70 1401 rfl).1.trans ((by rw [e74]; exact x_up2_off (Or.inr (t_neCl l63 (by decide))) : g74 70 1401 = gi58 70 1401).trans ((hC58.1 70 1401 rfl).1.trans ((hC57.1 70 1401 rfl).1.trans ((by rw [e56]; exact x_up2_off (Or.inr (t_neCl l40 (by decide))) : g56 70 1401 = gi41 70 1401).trans ((hC41.1 70 1401 rfl).1.trans ((by rw [e39]; exact x_up2_off (Or.inr (t_neCl l38 (by decide))) : g39 70 1401 = gi37 70 1401).trans ((hC37.1 70 1401 rfl).1.trans ((by rw [e30]; exact x_up2_off (Or.inr (t_neCl l3 (by decide))) : g30 70 1401 = gi17 70 1401).trans ((hC17.1 70 1401 rfl).1.trans ((hC12.1 70 1401 rfl).1.trans rfl)))))))))))))) rfl ?_
                                      refine ev_ic f_X12_aShip (nx := 176) (v := 1) rfl (by decide) rfl ?_
                                      refine ev_addC f_X12_aShip (nx := 177) (c := 1) (l := 1) (u := 6) rfl (by decide) l1 u9 rfl rfl (by decide) (by decide) rfl (fun z106 e106 l106 u106 => ?_)
                                      refine ev_iastT f_X12_aShip (nx := 178) rfl (hI.wf.s rfl) (by decide : (1401:Int) ≤ (1401:Int32).toInt) (by decide) (by decide : (1401:Int32).toInt ≤ (1401:Int)) (by decide) rfl (hI.astL (hI.wf.s rfl) (by decide +kernel : t_abw 70 1401 1401 1 6 = true) (t_cl1 (by decide : (1401:Int) ≤ (1401:Int32).toInt) (by decide)) (t_cl2 (by decide : (1401:Int) ≤ (1401:Int32).toInt) (by decide : (1401:Int32).toInt ≤ (1401:Int)) (by decide) (by decide)) l106 u106 rfl) (hX.upI (t_inR (p := 1401) (m := 1401) rfl (by decide : (1401:Int) ≤ (1401:Int32).toInt) (by decide) (by decide : (1401:Int32).toInt ≤ (1401:Int)) (by decide) (by decide))) (fun g107 e107 hI hX => ?_)
                                      refine ev_ic f_X12_aShip (nx := 179) (v := 1) rfl (by decide) rfl ?_
                                      exact ev_ret f_X12_aShip rfl rfl rfl ⟨_, _, _, rfl, hI, hX, ⟨_, rfl, (Int.le_trans (by decide : (0:Int) ≤ 1) (by decide : (1:Int) ≤ (1:Int32).toInt)), (by decide : (1:Int32).toInt ≤ (1:Int)), (show ∀ (b : Nat → Int32) (n q : Nat) (D : s_D), t_MS b n q D gi gl → ((1 : Int) = 1 ∧ ∃ q2 D2, s_ship b n q D = s_ok q2 D2 ∧ t_MS b n q2 D2 g107 gl93) ∨ ((1 : Int) = 0 ∧ ∃ p x D2, x ≠ 0 ∧ s_ship b n q D = s_bad b n p x D2 ∧ t_MF g107 (s_fk b n p x) (s_F b n p)) from (by
                                                            intro b n q D h
                                                            have d0 : (gi 70 1401).toInt = D 1 := h.2.1.2.1.1.1.2.1
                                                            have b0 := h.2.1.1.2.1
                                                            have hc0 := t_clamp (i := gi 70 1401) (by omega)
                                                            obtain ⟨_, hN, hU, t1, m1, n1⟩ := (q12 b n q D h).resolve_right (fun hh => by rcases hh with hh | hh <;> exact absurd hh.1 (by omega))
                                                            have m0 := m1
                                                            obtain ⟨_, w1, t1_, m1⟩ := (q17 b n _ t1).resolve_right (fun hh => absurd hh.1 (by omega))
                                                            have k1 := (s_mi_W (i := 7) (by decide)).mp w1
                                                            have hM := (q22 b n _ t1_).mp (by omega)
                                                            have dP : (gi17 70 1400).toInt = D 0 := by rw [(hC17.1 70 _ rfl).1, (hC12.1 70 _ rfl).1]; exact h.2.1.2.1.1.1.1
                                                            have bP := h.2.1.1.1
                                                            have cP := t_clamp (i := gi17 70 1400) (by omega)
                                                            have hz0 := t_clamp (i := z11) (by omega)
                                                            have nP : ∀ i : Nat, (i : Int) < D 0 → t_nr (gl17 71 (72 + i)) (D (200 + i)) := fun i hi => by rw [(hC17.1 71 _ rfl).2.1, n1, if_neg (by omega)]; exact h.2.1.2.2.1.1 i hi
                                                            have fP : w29.toInt = s_fp D (s_L b n (s_E b n (s_E b n (s_E b n q)))).toInt := by
                                                              unfold s_fp
                                                              rw [show (D 0).toNat = (gi17 70 1400).toNatClampNeg from (by omega)]
                                                              exact q29.1 b n _ _ _ t1_ hM (t_nr_f (base := 72) nP (by omega) hM)
                                                            have ta_ := q37 b n _ (t1_.st e30).S
                                                            have tb_ := ta_.st e39
                                                            obtain ⟨_, w2, t2_, m2⟩ := (q41 b n _ tb_).resolve_right (fun hh => absurd hh.1 (by omega))
                                                            have k2 := (s_mi_W (i := 8) (by decide)).mp w2
                                                            have v3 := t2_.vT (lo := 0) (hi := 120) (by omega) (by omega) (by omega)
                                                            have t3_ := q57 b n _ (t2_.st e56).S
                                                            obtain ⟨_, w4, t4_, m4⟩ := (q58 b n _ t3_).resolve_right (fun hh => absurd hh.1 (by omega))
                                                            have k4 := (s_mi_W (i := 9) (by decide)).mp w4
                                                            have v5 := t4_.vT (lo := 1) (hi := 20) (by omega) (by omega) (by omega)
                                                            have t5_ := q75 b n _ (t4_.st e74).S
                                                            obtain ⟨_, w6, t6_, m6⟩ := (q76 b n _ t5_).resolve_right (fun hh => absurd hh.1 (by omega))
                                                            have k6 := (s_mi_W (i := 10) (by decide)).mp w6
                                                            have v7 := t6_.vT (lo := 0) (hi := 99) (by omega) (by omega) (by omega)
                                                            have t7_ := q93 b n _ (t6_.st e92).S
                                                            have hS : ¬ s_W b n _ = some 11 := fun hw => absurd ((q94.1 b n _ t7_).trans ((s_mi_W (i := 11) (by decide)).mpr hw)) (show ¬ w94.toInt = 12 by omega)
                                                            have cl0_ := t_clamp (i := z3) (by omega)
                                                            have cl1_ := t_clamp (i := z38) (by omega)
                                                            have cl2_ := t_clamp (i := z40) (by omega)
                                                            have cl3_ := t_clamp (i := z63) (by omega)
                                                            have cl4_ := t_clamp (i := z81) (by omega)
                                                            have kc1401_ : (1401 : Int32).toNatClampNeg = 1401 := rfl
                                                            have y0 : g107 70 (1452 + 5 * (gi 70 1401).toNatClampNeg) = w29 := by
                                                              rw [e107, x_up2_off (Or.inr (by omega)), (hC93.1 70 _ rfl).1, e92, x_up2_off (Or.inr (by omega)), (hC76.1 70 _ rfl).1, (hC75.1 70 _ rfl).1, e74, x_up2_off (Or.inr (by omega)), (hC58.1 70 _ rfl).1, (hC57.1 70 _ rfl).1, e56, x_up2_off (Or.inr (by omega)), (hC41.1 70 _ rfl).1, e39, x_up2_off (Or.inr (by omega)), (hC37.1 70 _ rfl).1, e30]
                                                              rw [show 1452 + 5 * (gi 70 1401).toNatClampNeg = z3.toNatClampNeg from (by omega), x_up2_at]
                                                            have y1 : g107 70 (1453 + 5 * (gi 70 1401).toNatClampNeg) = (gi41 69 15) := by
                                                              rw [e107, x_up2_off (Or.inr (by omega)), (hC93.1 70 _ rfl).1, e92, x_up2_off (Or.inr (by omega)), (hC76.1 70 _ rfl).1, (hC75.1 70 _ rfl).1, e74, x_up2_off (Or.inr (by omega)), (hC58.1 70 _ rfl).1, (hC57.1 70 _ rfl).1, e56]
                                                              rw [show 1453 + 5 * (gi 70 1401).toNatClampNeg = z40.toNatClampNeg from (by omega), x_up2_at]
                                                            have y2 : g107 70 (1454 + 5 * (gi 70 1401).toNatClampNeg) = (gi58 69 15) := by
                                                              rw [e107, x_up2_off (Or.inr (by omega)), (hC93.1 70 _ rfl).1, e92, x_up2_off (Or.inr (by omega)), (hC76.1 70 _ rfl).1, (hC75.1 70 _ rfl).1, e74]
                                                              rw [show 1454 + 5 * (gi 70 1401).toNatClampNeg = z63.toNatClampNeg from (by omega), x_up2_at]
                                                            have y3 : g107 70 (1455 + 5 * (gi 70 1401).toNatClampNeg) = (gi76 69 15) := by
                                                              rw [e107, x_up2_off (Or.inr (by omega)), (hC93.1 70 _ rfl).1, e92]
                                                              rw [show 1455 + 5 * (gi 70 1401).toNatClampNeg = z81.toNatClampNeg from (by omega), x_up2_at]
                                                            have y4 : g107 70 (1456 + 5 * (gi 70 1401).toNatClampNeg) = (0 : Int32) := by
                                                              rw [e107, x_up2_off (Or.inr (by omega)), (hC93.1 70 _ rfl).1, e92, x_up2_off (Or.inr (by omega)), (hC76.1 70 _ rfl).1, (hC75.1 70 _ rfl).1, e74, x_up2_off (Or.inr (by omega)), (hC58.1 70 _ rfl).1, (hC57.1 70 _ rfl).1, e56, x_up2_off (Or.inr (by omega)), (hC41.1 70 _ rfl).1, e39]
                                                              rw [show 1456 + 5 * (gi 70 1401).toNatClampNeg = z38.toNatClampNeg from (by omega), x_up2_at]
                                                            have yr : ∀ j, j ≠ 1401 → (j < 1452 + 5 * (gi 70 1401).toNatClampNeg ∨ 1457 + 5 * (gi 70 1401).toNatClampNeg ≤ j) → g107 70 j = gi 70 j := fun j j1 j2 => by
                                                              rw [e107, x_up2_off (Or.inr (by omega)), (hC93.1 70 _ rfl).1, e92, x_up2_off (Or.inr (by omega)), (hC76.1 70 _ rfl).1, (hC75.1 70 _ rfl).1, e74, x_up2_off (Or.inr (by omega)), (hC58.1 70 _ rfl).1, (hC57.1 70 _ rfl).1, e56, x_up2_off (Or.inr (by omega)), (hC41.1 70 _ rfl).1, e39, x_up2_off (Or.inr (by omega)), (hC37.1 70 _ rfl).1, e30, x_up2_off (Or.inr (by omega)), (hC17.1 70 _ rfl).1, (hC12.1 70 _ rfl).1]
                                                            have yc : (g107 70 1401).toInt = D 1 + 1 := by
                                                              rw [e107, kc1401_, x_up2_at]; omega
                                                            have yl : ∀ j : Nat, gl93 71 j = gl12 71 j := fun j => by rw [(hC93.1 71 j rfl).2.1, (hC76.1 71 j rfl).2.1, (hC75.1 71 j rfl).2.1, (hC58.1 71 j rfl).2.1, (hC57.1 71 j rfl).2.1, (hC41.1 71 j rfl).2.1, (hC37.1 71 j rfl).2.1, (hC17.1 71 j rfl).2.1]
                                                            exact Or.inl ⟨rfl, _, _, by simp only [s_ship, s_name, s_kw, s_come, s_num, s_ifF (show ¬ D 1 = 6 by omega), s_ifT hN, s_ifF hU, s_ifT k1, s_ifT hM, s_ifF (show ¬ s_fp D (s_L b n (s_E b n (s_E b n (s_E b n q)))).toInt = -1 by omega), s_ifT k2, s_ifT v3.1.1, s_ifT v3.1, s_ifT k4, s_ifT v5.1.1, s_ifT v5.1, s_ifT k6, s_ifT v7.1.1, s_ifT v7.1, s_ifF hS], t_MS_ship h (by omega) hN (t7_.st e107) ⟨by rw [e107, x_up2_ne (by decide), (hC93.1 69 18 rfl).1, e92, x_up2_ne (by decide), m6.1, (hC75.1 69 18 rfl).1, e74, x_up2_ne (by decide), m4.1, (hC57.1 69 18 rfl).1, e56, x_up2_ne (by decide), m2.1, e39, x_up2_ne (by decide), (hC37.1 69 18 rfl).1, e30, x_up2_ne (by decide), m1.1, m0.1], by rw [e107, x_up2_ne (by decide), (hC93.1 69 17 rfl).1, e92, x_up2_ne (by decide), m6.2, (hC75.1 69 17 rfl).1, e74, x_up2_ne (by decide), m4.2, (hC57.1 69 17 rfl).1, e56, x_up2_ne (by decide), m2.2, e39, x_up2_ne (by decide), (hC37.1 69 17 rfl).1, e30, x_up2_ne (by decide), m1.2, m0.2]⟩ (d := (gi 70 1401).toNatClampNeg) (by omega) yr yc ((congrArg Int32.toInt y0).trans fP) ((congrArg Int32.toInt y1).trans v3.2) ((congrArg Int32.toInt y2).trans v5.2) ((congrArg Int32.toInt y3).trans v7.2) ((congrArg Int32.toInt y4).trans (show (0 : Int32).toInt = (0 : Int) from rfl)) (fun j => by rw [yl, n1 j, show 72 + z11.toNatClampNeg = 78 + (gi 70 1401).toNatClampNeg from (by omega)]) (by rw [e107, x_up2_ne (by decide), (hC93.1 69 20 rfl).1, e92, x_up2_ne (by decide), (hC76.1 69 20 rfl).1, (hC75.1 69 20 rfl).1, e74, x_up2_ne (by decide), (hC58.1 69 20 rfl).1, (hC57.1 69 20 rfl).1, e56, x_up2_ne (by decide), (hC41.1 69 20 rfl).1, e39, x_up2_ne (by decide), (hC37.1 69 20 rfl).1, e30, x_up2_ne (by decide), (hC17.1 69 20 rfl).1, (hC12.1 69 20 rfl).1])⟩))⟩⟩
                                  · have l108 : 100 ≤ (gi76 69 15).toInt := t_ltl (t_nle h90) (by decide : (99:Int) ≤ (99:Int32).toInt) rfl
                                    refine ev_loc f_X12_number (nx := 31) rfl rfl rfl rfl ?_
                                    refine ev_ic f_X12_number (nx := 32) (v := 4) rfl (by decide) rfl ?_
                                    refine ev_qI f_X12_number (nx := 35) (r := []) rfl rfl rfl rfl rfl rfl rfl (c_n_fails hI (4) (Int.le_trans (by decide : (2:Int) ≤ 4) (by decide : (4:Int) ≤ (4:Int32).toInt)) (Int.le_trans (by decide : (4:Int32).toInt ≤ (4:Int)) (by decide : (4:Int) ≤ 7))) rfl hX rfl (fun w109 gi109 gl109 gr109 l109 u109 hI hX hC109 q109 => ?_)
                                    have q109 : (∀ (b : Nat → Int32) (n q : Nat), t_TM b n q gi76 → (gi76 69 18).toInt = 0 → t_MF gi109 (s_fk b n q 4) (s_F b n q)) ∧ w109.toInt = 0 := q109
                                    refine ev_retK1 f_X12_number rfl rfl (t_rz l109 (Int.le_trans u109 (by decide : (0:Int) ≤ 1))) ?_
                                    refine ev_t f_X12_passes (t1 := 74) (t2 := 70) rfl rfl rfl (t_eqT u109 l109 (by decide : (0:Int32).toInt ≤ (0:Int)) (by decide : (0:Int) ≤ (0:Int32).toInt)) ?_
                                    refine ev_ic f_X12_passes (nx := 75) (v := 0) rfl (by decide) rfl ?_
                                    refine ev_retK1 f_X12_passes rfl rfl rfl ?_
                                    refine ev_t f_X12_aShip (t1 := 140) (t2 := 142) rfl rfl rfl (by decide) ?_
                                    refine ev_ic f_X12_aShip (nx := 141) (v := 0) rfl (by decide) rfl ?_
                                    exact ev_ret f_X12_aShip rfl rfl rfl ⟨_, _, _, rfl, hI, hX, ⟨_, rfl, (by decide : (0:Int) ≤ (0:Int32).toInt), (Int.le_trans (by decide : (0:Int32).toInt ≤ (0:Int)) (by decide : (0:Int) ≤ 1)), (show ∀ (b : Nat → Int32) (n q : Nat) (D : s_D), t_MS b n q D gi gl → ((0 : Int) = 1 ∧ ∃ q2 D2, s_ship b n q D = s_ok q2 D2 ∧ t_MS b n q2 D2 gi109 gl109) ∨ ((0 : Int) = 0 ∧ ∃ p x D2, x ≠ 0 ∧ s_ship b n q D = s_bad b n p x D2 ∧ t_MF gi109 (s_fk b n p x) (s_F b n p)) from (by
                                                            intro b n q D h
                                                            have d0 : (gi 70 1401).toInt = D 1 := h.2.1.2.1.1.1.2.1
                                                            have b0 := h.2.1.1.2.1
                                                            have hc0 := t_clamp (i := gi 70 1401) (by omega)
                                                            obtain ⟨_, hN, hU, t1, m1, n1⟩ := (q12 b n q D h).resolve_right (fun hh => by rcases hh with hh | hh <;> exact absurd hh.1 (by omega))
                                                            have m0 := m1
                                                            obtain ⟨_, w1, t1_, m1⟩ := (q17 b n _ t1).resolve_right (fun hh => absurd hh.1 (by omega))
                                                            have k1 := (s_mi_W (i := 7) (by decide)).mp w1
                                                            have hM := (q22 b n _ t1_).mp (by omega)
                                                            have dP : (gi17 70 1400).toInt = D 0 := by rw [(hC17.1 70 _ rfl).1, (hC12.1 70 _ rfl).1]; exact h.2.1.2.1.1.1.1
                                                            have bP := h.2.1.1.1
                                                            have cP := t_clamp (i := gi17 70 1400) (by omega)
                                                            have hz0 := t_clamp (i := z11) (by omega)
                                                            have nP : ∀ i : Nat, (i : Int) < D 0 → t_nr (gl17 71 (72 + i)) (D (200 + i)) := fun i hi => by rw [(hC17.1 71 _ rfl).2.1, n1, if_neg (by omega)]; exact h.2.1.2.2.1.1 i hi
                                                            have fP : w29.toInt = s_fp D (s_L b n (s_E b n (s_E b n (s_E b n q)))).toInt := by
                                                              unfold s_fp
                                                              rw [show (D 0).toNat = (gi17 70 1400).toNatClampNeg from (by omega)]
                                                              exact q29.1 b n _ _ _ t1_ hM (t_nr_f (base := 72) nP (by omega) hM)
                                                            have ta_ := q37 b n _ (t1_.st e30).S
                                                            have tb_ := ta_.st e39
                                                            obtain ⟨_, w2, t2_, m2⟩ := (q41 b n _ tb_).resolve_right (fun hh => absurd hh.1 (by omega))
                                                            have k2 := (s_mi_W (i := 8) (by decide)).mp w2
                                                            have v3 := t2_.vT (lo := 0) (hi := 120) (by omega) (by omega) (by omega)
                                                            have t3_ := q57 b n _ (t2_.st e56).S
                                                            obtain ⟨_, w4, t4_, m4⟩ := (q58 b n _ t3_).resolve_right (fun hh => absurd hh.1 (by omega))
                                                            have k4 := (s_mi_W (i := 9) (by decide)).mp w4
                                                            have v5 := t4_.vT (lo := 1) (hi := 20) (by omega) (by omega) (by omega)
                                                            have t5_ := q75 b n _ (t4_.st e74).S
                                                            obtain ⟨_, w6, t6_, m6⟩ := (q76 b n _ t5_).resolve_right (fun hh => absurd hh.1 (by omega))
                                                            have k6 := (s_mi_W (i := 10) (by decide)).mp w6
                                                            have hv := t6_.vF (lo := 0) (hi := 99) (by omega) (by omega)
                                                            exact Or.inr ⟨rfl, _, 4, D, by decide, by simp only [s_ship, s_name, s_kw, s_come, s_num, s_ifF (show ¬ D 1 = 6 by omega), s_ifT hN, s_ifF hU, s_ifT k1, s_ifT hM, s_ifF (show ¬ s_fp D (s_L b n (s_E b n (s_E b n (s_E b n q)))).toInt = -1 by omega), s_ifT k2, s_ifT v3.1.1, s_ifT v3.1, s_ifT k4, s_ifT v5.1.1, s_ifT v5.1, s_ifT k6, s_ifT hv.1, s_ifF hv.2], q109.1 b n _ t6_ (by rw [m6.1, (hC75.1 69 18 rfl).1, e74, x_up2_ne (by decide), m4.1, (hC57.1 69 18 rfl).1, e56, x_up2_ne (by decide), m2.1, e39, x_up2_ne (by decide), (hC37.1 69 18 rfl).1, e30, x_up2_ne (by decide), m1.1, m0.1]; exact h.2.2.1)⟩))⟩⟩
                              · have r110 : (gi76 69 12).toInt ≠ 3 := fun e => h83 (Int32.toInt_inj.mp (e.trans (by decide : (3:Int) = (3 : Int32).toInt)))
                                refine ev_loc f_X12_number (nx := 9) rfl rfl rfl rfl ?_
                                refine ev_ic f_X12_number (nx := 10) (v := 2) rfl (by decide) rfl ?_
                                refine ev_qI f_X12_number (nx := 13) (r := []) rfl rfl rfl rfl rfl rfl rfl (c_n_fails hI (2) (by decide : (2:Int) ≤ (2:Int32).toInt) (Int.le_trans (by decide : (2:Int32).toInt ≤ (2:Int)) (by decide : (2:Int) ≤ 7))) rfl hX rfl (fun w111 gi111 gl111 gr111 l111 u111 hI hX hC111 q111 => ?_)
                                have q111 : (∀ (b : Nat → Int32) (n q : Nat), t_TM b n q gi76 → (gi76 69 18).toInt = 0 → t_MF gi111 (s_fk b n q 2) (s_F b n q)) ∧ w111.toInt = 0 := q111
                                refine ev_retK1 f_X12_number rfl rfl (t_rz l111 (Int.le_trans u111 (by decide : (0:Int) ≤ 1))) ?_
                                refine ev_t f_X12_passes (t1 := 74) (t2 := 70) rfl rfl rfl (t_eqT u111 l111 (by decide : (0:Int32).toInt ≤ (0:Int)) (by decide : (0:Int) ≤ (0:Int32).toInt)) ?_
                                refine ev_ic f_X12_passes (nx := 75) (v := 0) rfl (by decide) rfl ?_
                                refine ev_retK1 f_X12_passes rfl rfl rfl ?_
                                refine ev_t f_X12_aShip (t1 := 140) (t2 := 142) rfl rfl rfl (by decide) ?_
                                refine ev_ic f_X12_aShip (nx := 141) (v := 0) rfl (by decide) rfl ?_
                                exact ev_ret f_X12_aShip rfl rfl rfl ⟨_, _, _, rfl, hI, hX, ⟨_, rfl, (by decide : (0:Int) ≤ (0:Int32).toInt), (Int.le_trans (by decide : (0:Int32).toInt ≤ (0:Int)) (by decide : (0:Int) ≤ 1)), (show ∀ (b : Nat → Int32) (n q : Nat) (D : s_D), t_MS b n q D gi gl → ((0 : Int) = 1 ∧ ∃ q2 D2, s_ship b n q D = s_ok q2 D2 ∧ t_MS b n q2 D2 gi111 gl111) ∨ ((0 : Int) = 0 ∧ ∃ p x D2, x ≠ 0 ∧ s_ship b n q D = s_bad b n p x D2 ∧ t_MF gi111 (s_fk b n p x) (s_F b n p)) from (by
                                                            intro b n q D h
                                                            have d0 : (gi 70 1401).toInt = D 1 := h.2.1.2.1.1.1.2.1
                                                            have b0 := h.2.1.1.2.1
                                                            have hc0 := t_clamp (i := gi 70 1401) (by omega)
                                                            obtain ⟨_, hN, hU, t1, m1, n1⟩ := (q12 b n q D h).resolve_right (fun hh => by rcases hh with hh | hh <;> exact absurd hh.1 (by omega))
                                                            have m0 := m1
                                                            obtain ⟨_, w1, t1_, m1⟩ := (q17 b n _ t1).resolve_right (fun hh => absurd hh.1 (by omega))
                                                            have k1 := (s_mi_W (i := 7) (by decide)).mp w1
                                                            have hM := (q22 b n _ t1_).mp (by omega)
                                                            have dP : (gi17 70 1400).toInt = D 0 := by rw [(hC17.1 70 _ rfl).1, (hC12.1 70 _ rfl).1]; exact h.2.1.2.1.1.1.1
                                                            have bP := h.2.1.1.1
                                                            have cP := t_clamp (i := gi17 70 1400) (by omega)
                                                            have hz0 := t_clamp (i := z11) (by omega)
                                                            have nP : ∀ i : Nat, (i : Int) < D 0 → t_nr (gl17 71 (72 + i)) (D (200 + i)) := fun i hi => by rw [(hC17.1 71 _ rfl).2.1, n1, if_neg (by omega)]; exact h.2.1.2.2.1.1 i hi
                                                            have fP : w29.toInt = s_fp D (s_L b n (s_E b n (s_E b n (s_E b n q)))).toInt := by
                                                              unfold s_fp
                                                              rw [show (D 0).toNat = (gi17 70 1400).toNatClampNeg from (by omega)]
                                                              exact q29.1 b n _ _ _ t1_ hM (t_nr_f (base := 72) nP (by omega) hM)
                                                            have ta_ := q37 b n _ (t1_.st e30).S
                                                            have tb_ := ta_.st e39
                                                            obtain ⟨_, w2, t2_, m2⟩ := (q41 b n _ tb_).resolve_right (fun hh => absurd hh.1 (by omega))
                                                            have k2 := (s_mi_W (i := 8) (by decide)).mp w2
                                                            have v3 := t2_.vT (lo := 0) (hi := 120) (by omega) (by omega) (by omega)
                                                            have t3_ := q57 b n _ (t2_.st e56).S
                                                            obtain ⟨_, w4, t4_, m4⟩ := (q58 b n _ t3_).resolve_right (fun hh => absurd hh.1 (by omega))
                                                            have k4 := (s_mi_W (i := 9) (by decide)).mp w4
                                                            have v5 := t4_.vT (lo := 1) (hi := 20) (by omega) (by omega) (by omega)
                                                            have t5_ := q75 b n _ (t4_.st e74).S
                                                            obtain ⟨_, w6, t6_, m6⟩ := (q76 b n _ t5_).resolve_right (fun hh => absurd hh.1 (by omega))
                                                            have k6 := (s_mi_W (i := 10) (by decide)).mp w6
                                                            exact Or.inr ⟨rfl, _, 2, D, by decide, by simp only [s_ship, s_name, s_kw, s_come, s_num, s_ifF (show ¬ D 1 = 6 by omega), s_ifT hN, s_ifF hU, s_ifT k1, s_ifT hM, s_ifF (show ¬ s_fp D (s_L b n (s_E b n (s_E b n (s_E b n q)))).toInt = -1 by omega), s_ifT k2, s_ifT v3.1.1, s_ifT v3.1, s_ifT k4, s_ifT v5.1.1, s_ifT v5.1, s_ifT k6, s_ifF (t6_.vK (by omega))], q111.1 b n _ t6_ (by rw [m6.1, (hC75.1 69 18 rfl).1, e74, x_up2_ne (by decide), m4.1, (hC57.1 69 18 rfl).1, e56, x_up2_ne (by decide), m2.1, e39, x_up2_ne (by decide), (hC37.1 69 18 rfl).1, e30, x_up2_ne (by decide), m1.1, m0.1]; exact h.2.2.1)⟩))⟩⟩
                          · have l112 : 21 ≤ (gi58 69 15).toInt := t_ltl (t_nle h72) (by decide : (20:Int) ≤ (20:Int32).toInt) rfl
                            refine ev_loc f_X12_number (nx := 31) rfl rfl rfl rfl ?_
                            refine ev_ic f_X12_number (nx := 32) (v := 4) rfl (by decide) rfl ?_
                            refine ev_qI f_X12_number (nx := 35) (r := []) rfl rfl rfl rfl rfl rfl rfl (c_n_fails hI (4) (Int.le_trans (by decide : (2:Int) ≤ 4) (by decide : (4:Int) ≤ (4:Int32).toInt)) (Int.le_trans (by decide : (4:Int32).toInt ≤ (4:Int)) (by decide : (4:Int) ≤ 7))) rfl hX rfl (fun w113 gi113 gl113 gr113 l113 u113 hI hX hC113 q113 => ?_)
                            have q113 : (∀ (b : Nat → Int32) (n q : Nat), t_TM b n q gi58 → (gi58 69 18).toInt = 0 → t_MF gi113 (s_fk b n q 4) (s_F b n q)) ∧ w113.toInt = 0 := q113
                            refine ev_retK1 f_X12_number rfl rfl (t_rz l113 (Int.le_trans u113 (by decide : (0:Int) ≤ 1))) ?_
                            refine ev_t f_X12_passes (t1 := 74) (t2 := 46) rfl rfl rfl (t_eqT u113 l113 (by decide : (0:Int32).toInt ≤ (0:Int)) (by decide : (0:Int) ≤ (0:Int32).toInt)) ?_
                            refine ev_ic f_X12_passes (nx := 75) (v := 0) rfl (by decide) rfl ?_
                            refine ev_retK1 f_X12_passes rfl rfl rfl ?_
                            refine ev_t f_X12_aShip (t1 := 140) (t2 := 142) rfl rfl rfl (by decide) ?_
                            refine ev_ic f_X12_aShip (nx := 141) (v := 0) rfl (by decide) rfl ?_
                            exact ev_ret f_X12_aShip rfl rfl rfl ⟨_, _, _, rfl, hI, hX, ⟨_, rfl, (by decide : (0:Int) ≤ (0:Int32).toInt), (Int.le_trans (by decide : (0:Int32).toInt ≤ (0:Int)) (by decide : (0:Int) ≤ 1)), (show ∀ (b : Nat → Int32) (n q : Nat) (D : s_D), t_MS b n q D gi gl → ((0 : Int) = 1 ∧ ∃ q2 D2, s_ship b n q D = s_ok q2 D2 ∧ t_MS b n q2 D2 gi113 gl113) ∨ ((0 : Int) = 0 ∧ ∃ p x D2, x ≠ 0 ∧ s_ship b n q D = s_bad b n p x D2 ∧ t_MF gi113 (s_fk b n p x) (s_F b n p)) from (by
                                                            intro b n q D h
                                                            have d0 : (gi 70 1401).toInt = D 1 := h.2.1.2.1.1.1.2.1
                                                            have b0 := h.2.1.1.2.1
                                                            have hc0 := t_clamp (i := gi 70 1401) (by omega)
                                                            obtain ⟨_, hN, hU, t1, m1, n1⟩ := (q12 b n q D h).resolve_right (fun hh => by rcases hh with hh | hh <;> exact absurd hh.1 (by omega))
                                                            have m0 := m1
                                                            obtain ⟨_, w1, t1_, m1⟩ := (q17 b n _ t1).resolve_right (fun hh => absurd hh.1 (by omega))
                                                            have k1 := (s_mi_W (i := 7) (by decide)).mp w1
                                                            have hM := (q22 b n _ t1_).mp (by omega)
                                                            have dP : (gi17 70 1400).toInt = D 0 := by rw [(hC17.1 70 _ rfl).1, (hC12.1 70 _ rfl).1]; exact h.2.1.2.1.1.1.1
                                                            have bP := h.2.1.1.1
                                                            have cP := t_clamp (i := gi17 70 1400) (by omega)
                                                            have hz0 := t_clamp (i := z11) (by omega)
                                                            have nP : ∀ i : Nat, (i : Int) < D 0 → t_nr (gl17 71 (72 + i)) (D (200 + i)) := fun i hi => by rw [(hC17.1 71 _ rfl).2.1, n1, if_neg (by omega)]; exact h.2.1.2.2.1.1 i hi
                                                            have fP : w29.toInt = s_fp D (s_L b n (s_E b n (s_E b n (s_E b n q)))).toInt := by
                                                              unfold s_fp
                                                              rw [show (D 0).toNat = (gi17 70 1400).toNatClampNeg from (by omega)]
                                                              exact q29.1 b n _ _ _ t1_ hM (t_nr_f (base := 72) nP (by omega) hM)
                                                            have ta_ := q37 b n _ (t1_.st e30).S
                                                            have tb_ := ta_.st e39
                                                            obtain ⟨_, w2, t2_, m2⟩ := (q41 b n _ tb_).resolve_right (fun hh => absurd hh.1 (by omega))
                                                            have k2 := (s_mi_W (i := 8) (by decide)).mp w2
                                                            have v3 := t2_.vT (lo := 0) (hi := 120) (by omega) (by omega) (by omega)
                                                            have t3_ := q57 b n _ (t2_.st e56).S
                                                            obtain ⟨_, w4, t4_, m4⟩ := (q58 b n _ t3_).resolve_right (fun hh => absurd hh.1 (by omega))
                                                            have k4 := (s_mi_W (i := 9) (by decide)).mp w4
                                                            have hv := t4_.vF (lo := 1) (hi := 20) (by omega) (by omega)
                                                            exact Or.inr ⟨rfl, _, 4, D, by decide, by simp only [s_ship, s_name, s_kw, s_come, s_num, s_ifF (show ¬ D 1 = 6 by omega), s_ifT hN, s_ifF hU, s_ifT k1, s_ifT hM, s_ifF (show ¬ s_fp D (s_L b n (s_E b n (s_E b n (s_E b n q)))).toInt = -1 by omega), s_ifT k2, s_ifT v3.1.1, s_ifT v3.1, s_ifT k4, s_ifT hv.1, s_ifF hv.2], q113.1 b n _ t4_ (by rw [m4.1, (hC57.1 69 18 rfl).1, e56, x_up2_ne (by decide), m2.1, e39, x_up2_ne (by decide), (hC37.1 69 18 rfl).1, e30, x_up2_ne (by decide), m1.1, m0.1]; exact h.2.2.1)⟩))⟩⟩
                      · have r114 : (gi58 69 12).toInt ≠ 3 := fun e => h65 (Int32.toInt_inj.mp (e.trans (by decide : (3:Int) = (3 : Int32).toInt)))
                        refine ev_loc f_X12_number (nx := 9) rfl rfl rfl rfl ?_
                        refine ev_ic f_X12_number (nx := 10) (v := 2) rfl (by decide) rfl ?_
                        refine ev_qI f_X12_number (nx := 13) (r := []) rfl rfl rfl rfl rfl rfl rfl (c_n_fails hI (2) (by decide : (2:Int) ≤ (2:Int32).toInt) (Int.le_trans (by decide : (2:Int32).toInt ≤ (2:Int)) (by decide : (2:Int) ≤ 7))) rfl hX rfl (fun w115 gi115 gl115 gr115 l115 u115 hI hX hC115 q115 => ?_)
                        have q115 : (∀ (b : Nat → Int32) (n q : Nat), t_TM b n q gi58 → (gi58 69 18).toInt = 0 → t_MF gi115 (s_fk b n q 2) (s_F b n q)) ∧ w115.toInt = 0 := q115
                        refine ev_retK1 f_X12_number rfl rfl (t_rz l115 (Int.le_trans u115 (by decide : (0:Int) ≤ 1))) ?_
                        refine ev_t f_X12_passes (t1 := 74) (t2 := 46) rfl rfl rfl (t_eqT u115 l115 (by decide : (0:Int32).toInt ≤ (0:Int)) (by decide : (0:Int) ≤ (0:Int32).toInt)) ?_
                        refine ev_ic f_X12_passes (nx := 75) (v := 0) rfl (by decide) rfl ?_
                        refine ev_retK1 f_X12_passes rfl rfl rfl ?_
                        refine ev_t f_X12_aShip (t1 := 140) (t2 := 142) rfl rfl rfl (by decide) ?_
                        refine ev_ic f_X12_aShip (nx := 141) (v := 0) rfl (by decide) rfl ?_
                        exact ev_ret f_X12_aShip rfl rfl rfl ⟨_, _, _, rfl, hI, hX, ⟨_, rfl, (by decide : (0:Int) ≤ (0:Int32).toInt), (Int.le_trans (by decide : (0:Int32).toInt ≤ (0:Int)) (by decide : (0:Int) ≤ 1)), (show ∀ (b : Nat → Int32) (n q : Nat) (D : s_D), t_MS b n q D gi gl → ((0 : Int) = 1 ∧ ∃ q2 D2, s_ship b n q D = s_ok q2 D2 ∧ t_MS b n q2 D2 gi115 gl115) ∨ ((0 : Int) = 0 ∧ ∃ p x D2, x ≠ 0 ∧ s_ship b n q D = s_bad b n p x D2 ∧ t_MF gi115 (s_fk b n p x) (s_F b n p)) from (by
                                                            intro b n q D h
                                                            have d0 : (gi 70 1401).toInt = D 1 := h.2.1.2.1.1.1.2.1
                                                            have b0 := h.2.1.1.2.1
                                                            have hc0 := t_clamp (i := gi 70 1401) (by omega)
                                                            obtain ⟨_, hN, hU, t1, m1, n1⟩ := (q12 b n q D h).resolve_right (fun hh => by rcases hh with hh | hh <;> exact absurd hh.1 (by omega))
                                                            have m0 := m1
                                                            obtain ⟨_, w1, t1_, m1⟩ := (q17 b n _ t1).resolve_right (fun hh => absurd hh.1 (by omega))
                                                            have k1 := (s_mi_W (i := 7) (by decide)).mp w1
                                                            have hM := (q22 b n _ t1_).mp (by omega)
                                                            have dP : (gi17 70 1400).toInt = D 0 := by rw [(hC17.1 70 _ rfl).1, (hC12.1 70 _ rfl).1]; exact h.2.1.2.1.1.1.1
                                                            have bP := h.2.1.1.1
                                                            have cP := t_clamp (i := gi17 70 1400) (by omega)
                                                            have hz0 := t_clamp (i := z11) (by omega)
                                                            have nP : ∀ i : Nat, (i : Int) < D 0 → t_nr (gl17 71 (72 + i)) (D (200 + i)) := fun i hi => by rw [(hC17.1 71 _ rfl).2.1, n1, if_neg (by omega)]; exact h.2.1.2.2.1.1 i hi
                                                            have fP : w29.toInt = s_fp D (s_L b n (s_E b n (s_E b n (s_E b n q)))).toInt := by
                                                              unfold s_fp
                                                              rw [show (D 0).toNat = (gi17 70 1400).toNatClampNeg from (by omega)]
                                                              exact q29.1 b n _ _ _ t1_ hM (t_nr_f (base := 72) nP (by omega) hM)
                                                            have ta_ := q37 b n _ (t1_.st e30).S
                                                            have tb_ := ta_.st e39
                                                            obtain ⟨_, w2, t2_, m2⟩ := (q41 b n _ tb_).resolve_right (fun hh => absurd hh.1 (by omega))
                                                            have k2 := (s_mi_W (i := 8) (by decide)).mp w2
                                                            have v3 := t2_.vT (lo := 0) (hi := 120) (by omega) (by omega) (by omega)
                                                            have t3_ := q57 b n _ (t2_.st e56).S
                                                            obtain ⟨_, w4, t4_, m4⟩ := (q58 b n _ t3_).resolve_right (fun hh => absurd hh.1 (by omega))
                                                            have k4 := (s_mi_W (i := 9) (by decide)).mp w4
                                                            exact Or.inr ⟨rfl, _, 2, D, by decide, by simp only [s_ship, s_name, s_kw, s_come, s_num, s_ifF (show ¬ D 1 = 6 by omega), s_ifT hN, s_ifF hU, s_ifT k1, s_ifT hM, s_ifF (show ¬ s_fp D (s_L b n (s_E b n (s_E b n (s_E b n q)))).toInt = -1 by omega), s_ifT k2, s_ifT v3.1.1, s_ifT v3.1, s_ifT k4, s_ifF (t4_.vK (by omega))], q115.1 b n _ t4_ (by rw [m4.1, (hC57.1 69 18 rfl).1, e56, x_up2_ne (by decide), m2.1, e39, x_up2_ne (by decide), (hC37.1 69 18 rfl).1, e30, x_up2_ne (by decide), m1.1, m0.1]; exact h.2.2.1)⟩))⟩⟩
                  · have l116 : 121 ≤ (gi41 69 15).toInt := t_ltl (t_nle h54) (by decide : (120:Int) ≤ (120:Int32).toInt) rfl
                    refine ev_loc f_X12_number (nx := 31) rfl rfl rfl rfl ?_
                    refine ev_ic f_X12_number (nx := 32) (v := 4) rfl (by decide) rfl ?_
                    refine ev_qI f_X12_number (nx := 35) (r := []) rfl rfl rfl rfl rfl rfl rfl (c_n_fails hI (4) (Int.le_trans (by decide : (2:Int) ≤ 4) (by decide : (4:Int) ≤ (4:Int32).toInt)) (Int.le_trans (by decide : (4:Int32).toInt ≤ (4:Int)) (by decide : (4:Int) ≤ 7))) rfl hX rfl (fun w117 gi117 gl117 gr117 l117 u117 hI hX hC117 q117 => ?_)
                    have q117 : (∀ (b : Nat → Int32) (n q : Nat), t_TM b n q gi41 → (gi41 69 18).toInt = 0 → t_MF gi117 (s_fk b n q 4) (s_F b n q)) ∧ w117.toInt = 0 := q117
                    refine ev_retK1 f_X12_number rfl rfl (t_rz l117 (Int.le_trans u117 (by decide : (0:Int) ≤ 1))) ?_
                    refine ev_t f_X12_passes (t1 := 74) (t2 := 22) rfl rfl rfl (t_eqT u117 l117 (by decide : (0:Int32).toInt ≤ (0:Int)) (by decide : (0:Int) ≤ (0:Int32).toInt)) ?_
                    refine ev_ic f_X12_passes (nx := 75) (v := 0) rfl (by decide) rfl ?_
                    refine ev_retK1 f_X12_passes rfl rfl rfl ?_
                    refine ev_t f_X12_aShip (t1 := 140) (t2 := 142) rfl rfl rfl (by decide) ?_
                    refine ev_ic f_X12_aShip (nx := 141) (v := 0) rfl (by decide) rfl ?_
                    exact ev_ret f_X12_aShip rfl rfl rfl ⟨_, _, _, rfl, hI, hX, ⟨_, rfl, (by decide : (0:Int) ≤ (0:Int32).toInt), (Int.le_trans (by decide : (0:Int32).toInt ≤ (0:Int)) (by decide : (0:Int) ≤ 1)), (show ∀ (b : Nat → Int32) (n q : Nat) (D : s_D), t_MS b n q D gi gl → ((0 : Int) = 1 ∧ ∃ q2 D2, s_ship b n q D = s_ok q2 D2 ∧ t_MS b n q2 D2 gi117 gl117) ∨ ((0 : Int) = 0 ∧ ∃ p x D2, x ≠ 0 ∧ s_ship b n q D = s_bad b n p x D2 ∧ t_MF gi117 (s_fk b n p x) (s_F b n p)) from (by
                                                            intro b n q D h
                                                            have d0 : (gi 70 1401).toInt = D 1 := h.2.1.2.1.1.1.2.1
                                                            have b0 := h.2.1.1.2.1
                                                            have hc0 := t_clamp (i := gi 70 1401) (by omega)
                                                            obtain ⟨_, hN, hU, t1, m1, n1⟩ := (q12 b n q D h).resolve_right (fun hh => by rcases hh with hh | hh <;> exact absurd hh.1 (by omega))
                                                            have m0 := m1
                                                            obtain ⟨_, w1, t1_, m1⟩ := (q17 b n _ t1).resolve_right (fun hh => absurd hh.1 (by omega))
                                                            have k1 := (s_mi_W (i := 7) (by decide)).mp w1
                                                            have hM := (q22 b n _ t1_).mp (by omega)
                                                            have dP : (gi17 70 1400).toInt = D 0 := by rw [(hC17.1 70 _ rfl).1, (hC12.1 70 _ rfl).1]; exact h.2.1.2.1.1.1.1
                                                            have bP := h.2.1.1.1
                                                            have cP := t_clamp (i := gi17 70 1400) (by omega)
                                                            have hz0 := t_clamp (i := z11) (by omega)
                                                            have nP : ∀ i : Nat, (i : Int) < D 0 → t_nr (gl17 71 (72 + i)) (D (200 + i)) := fun i hi => by rw [(hC17.1 71 _ rfl).2.1, n1, if_neg (by omega)]; exact h.2.1.2.2.1.1 i hi
                                                            have fP : w29.toInt = s_fp D (s_L b n (s_E b n (s_E b n (s_E b n q)))).toInt := by
                                                              unfold s_fp
                                                              rw [show (D 0).toNat = (gi17 70 1400).toNatClampNeg from (by omega)]
                                                              exact q29.1 b n _ _ _ t1_ hM (t_nr_f (base := 72) nP (by omega) hM)
                                                            have ta_ := q37 b n _ (t1_.st e30).S
                                                            have tb_ := ta_.st e39
                                                            obtain ⟨_, w2, t2_, m2⟩ := (q41 b n _ tb_).resolve_right (fun hh => absurd hh.1 (by omega))
                                                            have k2 := (s_mi_W (i := 8) (by decide)).mp w2
                                                            have hv := t2_.vF (lo := 0) (hi := 120) (by omega) (by omega)
                                                            exact Or.inr ⟨rfl, _, 4, D, by decide, by simp only [s_ship, s_name, s_kw, s_come, s_num, s_ifF (show ¬ D 1 = 6 by omega), s_ifT hN, s_ifF hU, s_ifT k1, s_ifT hM, s_ifF (show ¬ s_fp D (s_L b n (s_E b n (s_E b n (s_E b n q)))).toInt = -1 by omega), s_ifT k2, s_ifT hv.1, s_ifF hv.2], q117.1 b n _ t2_ (by rw [m2.1, e39, x_up2_ne (by decide), (hC37.1 69 18 rfl).1, e30, x_up2_ne (by decide), m1.1, m0.1]; exact h.2.2.1)⟩))⟩⟩
              · have r118 : (gi41 69 12).toInt ≠ 3 := fun e => h47 (Int32.toInt_inj.mp (e.trans (by decide : (3:Int) = (3 : Int32).toInt)))
                refine ev_loc f_X12_number (nx := 9) rfl rfl rfl rfl ?_
                refine ev_ic f_X12_number (nx := 10) (v := 2) rfl (by decide) rfl ?_
                refine ev_qI f_X12_number (nx := 13) (r := []) rfl rfl rfl rfl rfl rfl rfl (c_n_fails hI (2) (by decide : (2:Int) ≤ (2:Int32).toInt) (Int.le_trans (by decide : (2:Int32).toInt ≤ (2:Int)) (by decide : (2:Int) ≤ 7))) rfl hX rfl (fun w119 gi119 gl119 gr119 l119 u119 hI hX hC119 q119 => ?_)
                have q119 : (∀ (b : Nat → Int32) (n q : Nat), t_TM b n q gi41 → (gi41 69 18).toInt = 0 → t_MF gi119 (s_fk b n q 2) (s_F b n q)) ∧ w119.toInt = 0 := q119
                refine ev_retK1 f_X12_number rfl rfl (t_rz l119 (Int.le_trans u119 (by decide : (0:Int) ≤ 1))) ?_
                refine ev_t f_X12_passes (t1 := 74) (t2 := 22) rfl rfl rfl (t_eqT u119 l119 (by decide : (0:Int32).toInt ≤ (0:Int)) (by decide : (0:Int) ≤ (0:Int32).toInt)) ?_
                refine ev_ic f_X12_passes (nx := 75) (v := 0) rfl (by decide) rfl ?_
                refine ev_retK1 f_X12_passes rfl rfl rfl ?_
                refine ev_t f_X12_aShip (t1 := 140) (t2 := 142) rfl rfl rfl (by decide) ?_
                refine ev_ic f_X12_aShip (nx := 141) (v := 0) rfl (by decide) rfl ?_
                exact ev_ret f_X12_aShip rfl rfl rfl ⟨_, _, _, rfl, hI, hX, ⟨_, rfl, (by decide : (0:Int) ≤ (0:Int32).toInt), (Int.le_trans (by decide : (0:Int32).toInt ≤ (0:Int)) (by decide : (0:Int) ≤ 1)), (show ∀ (b : Nat → Int32) (n q : Nat) (D : s_D), t_MS b n q D gi gl → ((0 : Int) = 1 ∧ ∃ q2 D2, s_ship b n q D = s_ok q2 D2 ∧ t_MS b n q2 D2 gi119 gl119) ∨ ((0 : Int) = 0 ∧ ∃ p x D2, x ≠ 0 ∧ s_ship b n q D = s_bad b n p x D2 ∧ t_MF gi119 (s_fk b n p x) (s_F b n p)) from (by
                                                            intro b n q D h
                                                            have d0 : (gi 70 1401).toInt = D 1 := h.2.1.2.1.1.1.2.1
                                                            have b0 := h.2.1.1.2.1
                                                            have hc0 := t_clamp (i := gi 70 1401) (by omega)
                                                            obtain ⟨_, hN, hU, t1, m1, n1⟩ := (q12 b n q D h).resolve_right (fun hh => by rcases hh with hh | hh <;> exact absurd hh.1 (by omega))
                                                            have m0 := m1
                                                            obtain ⟨_, w1, t1_, m1⟩ := (q17 b n _ t1).resolve_right (fun hh => absurd hh.1 (by omega))
                                                            have k1 := (s_mi_W (i := 7) (by decide)).mp w1
                                                            have hM := (q22 b n _ t1_).mp (by omega)
                                                            have dP : (gi17 70 1400).toInt = D 0 := by rw [(hC17.1 70 _ rfl).1, (hC12.1 70 _ rfl).1]; exact h.2.1.2.1.1.1.1
                                                            have bP := h.2.1.1.1
                                                            have cP := t_clamp (i := gi17 70 1400) (by omega)
                                                            have hz0 := t_clamp (i := z11) (by omega)
                                                            have nP : ∀ i : Nat, (i : Int) < D 0 → t_nr (gl17 71 (72 + i)) (D (200 + i)) := fun i hi => by rw [(hC17.1 71 _ rfl).2.1, n1, if_neg (by omega)]; exact h.2.1.2.2.1.1 i hi
                                                            have fP : w29.toInt = s_fp D (s_L b n (s_E b n (s_E b n (s_E b n q)))).toInt := by
                                                              unfold s_fp
                                                              rw [show (D 0).toNat = (gi17 70 1400).toNatClampNeg from (by omega)]
                                                              exact q29.1 b n _ _ _ t1_ hM (t_nr_f (base := 72) nP (by omega) hM)
                                                            have ta_ := q37 b n _ (t1_.st e30).S
                                                            have tb_ := ta_.st e39
                                                            obtain ⟨_, w2, t2_, m2⟩ := (q41 b n _ tb_).resolve_right (fun hh => absurd hh.1 (by omega))
                                                            have k2 := (s_mi_W (i := 8) (by decide)).mp w2
                                                            exact Or.inr ⟨rfl, _, 2, D, by decide, by simp only [s_ship, s_name, s_kw, s_come, s_num, s_ifF (show ¬ D 1 = 6 by omega), s_ifT hN, s_ifF hU, s_ifT k1, s_ifT hM, s_ifF (show ¬ s_fp D (s_L b n (s_E b n (s_E b n (s_E b n q)))).toInt = -1 by omega), s_ifT k2, s_ifF (t2_.vK (by omega))], q119.1 b n _ t2_ (by rw [m2.1, e39, x_up2_ne (by decide), (hC37.1 69 18 rfl).1, e30, x_up2_ne (by decide), m1.1, m0.1]; exact h.2.2.1)⟩))⟩⟩
