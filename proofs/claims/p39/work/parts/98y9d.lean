/-! ===== printed by riv.py: the RIVER of the other side ===== -/
noncomputable def wl_n_aShip : List (Nat × Nat) := [(69, 12), (69, 13), (69, 14), (69, 15), (69, 17), (69, 18), (70, 140111401), (70, 145211482), (70, 145311483), (70, 145411484), (70, 145511485), (70, 145611486), (71, 7210089)]
noncomputable def Q_n_aShip (gi : Nat → Nat → Int32) (gl : Nat → Nat → Int64) (gr : Nat → Nat → Value) : Int32 → (Nat → Nat → Int32) → (Nat → Nat → Int64) → (Nat → Nat → Value) → Prop := fun (v : Int32) (gi2 : Nat → Nat → Int32) (gl2 : Nat → Nat → Int64) (gr2 : Nat → Nat → Value) => ∀ (b : Nat → Int32) (n q : Nat) (D : s_D), t_MS b n q D gi gl → (v.toInt = 1 ∧ ∃ q2 D2, s_ship b n q D = s_ok q2 D2 ∧ t_MS b n q2 D2 gi2 gl2) ∨ (v.toInt = 0 ∧ ∃ p x D2, x ≠ 0 ∧ s_ship b n q D = s_bad b n p x D2 ∧ t_MF gi2 (s_fk b n p x) (s_F b n p))
theorem c_n_aShip {X : x_Ext} {d : Nat} {sh : List (Nat ⊕ (Nat × Nat))} {gi : Nat → Nat → Int32} {gl : Nat → Nat → Int64} {gr : Nat → Nat → Value} (hI : t_I sh gi gr) : x_Me X (d + 8) n_X12_aShip [.ref 69] (sh, gi, gl, gr) (t_PI wl_n_aShip sh gi gl gr 0 1 (Q_n_aShip gi gl gr)) := by
  have hX : t_X wl_n_aShip sh gi gl gr gi gl gr := t_X.rf
  refine me_i f_X12_aShip (hI.wf.s rfl) rfl rfl rfl ?_
  refine ev_sp f_X12_aShip (nx := 3) (v := 1452) rfl (by decide) rfl ?_
  refine ev_ic f_X12_aShip (nx := 4) (v := 5) rfl (by decide) rfl ?_
  refine ev_loc f_X12_aShip (nx := 5) rfl rfl rfl rfl ?_
  refine ev_getR f_X12_aShip (nx := 8) rfl (hI.wf.s rfl) rfl rfl (hI.wf.r rfl) rfl rfl ?_
  refine ev_sp f_X12_aShip (nx := 11) (v := 1401) rfl (by decide) rfl ?_
  obtain ⟨l1, u1⟩ := hI.ab (by decide +kernel : t_abr 70 1401 1401 0 6 = true) (Nat.le_refl _) (Nat.le_refl _)
  refine ev_ialdv f_X12_aShip (nx := 12) (w := (gi 70 1401)) rfl (hI.wf.s rfl) (by decide) (rfl : (1401 : Int32).toNatClampNeg = 1401) (by decide) rfl rfl ?_
  refine ev_mulL f_X12_aShip (nx := 13) (c := 5) (l := 0) (u := 30) rfl (by decide) (by decide) l1 u1 rfl rfl (by decide) (by decide) rfl (fun z2 e2 l2 u2 => ?_)
  refine ev_addK f_X12_aShip (nx := 14) (c := 1452) (l := 1452) (u := 1482) rfl (by decide) l2 u2 rfl rfl (by decide) (by decide) rfl (fun z3 e3 l3 u3 => ?_)
  refine ev_loc f_X12_aShip (nx := 15) (lo' := [(1, .int z3), (0, .ref 69)]) rfl rfl rfl rfl ?_
  refine ev_loc f_X12_aShip (nx := 16) rfl rfl rfl rfl ?_
  refine ev_getR f_X12_aShip (nx := 19) rfl (hI.wf.s rfl) rfl rfl (hI.wf.r rfl) rfl rfl ?_
  refine ev_sp f_X12_aShip (nx := 22) (v := 1401) rfl (by decide) rfl ?_
  refine ev_ialdv f_X12_aShip (nx := 23) (w := (gi 70 1401)) rfl (hI.wf.s rfl) (by decide) (rfl : (1401 : Int32).toNatClampNeg = 1401) (by decide) rfl rfl ?_
  refine ev_bp f_X12_aShip (nx := 25) (v := 6) rfl (by decide) rfl ?_
  refine ev_if f_X12_aShip (t1 := 28) (t2 := 35) rfl rfl rfl (fun h5 => ?_) (fun h5 => ?_)
  · have l6 : 6 ≤ (gi 70 1401).toInt := t_eql h5 (by decide : (6:Int) ≤ (6:Int32).toInt)
    refine ev_loc f_X12_aShip (nx := 29) rfl rfl rfl rfl ?_
    refine ev_bp f_X12_aShip (nx := 31) (v := 6) rfl (by decide) rfl ?_
    refine ev_qI f_X12_aShip (nx := 34) (r := []) rfl rfl rfl rfl rfl rfl rfl (c_n_fails hI (6) (Int.le_trans (by decide : (2:Int) ≤ 6) (by decide : (6:Int) ≤ (6:Int32).toInt)) (Int.le_trans (by decide : (6:Int32).toInt ≤ (6:Int)) (by decide : (6:Int) ≤ 7))) rfl hX rfl (fun w7 gi7 gl7 gr7 l7 u7 hI hX hC7 q7 => ?_)
    have q7 : (∀ (b : Nat → Int32) (n q : Nat), t_TM b n q gi → (gi 69 18).toInt = 0 → t_MF gi7 (s_fk b n q 6) (s_F b n q)) ∧ w7.toInt = 0 := q7
    exact ev_retZ f_X12_aShip rfl l7 (Int.le_trans u7 (by decide : (0:Int) ≤ 1)) ⟨_, _, _, rfl, hI, hX, ⟨_, rfl, l7, (Int.le_trans u7 (by decide : (0:Int) ≤ 1)), (show ∀ (b : Nat → Int32) (n q : Nat) (D : s_D), t_MS b n q D gi gl → (w7.toInt = 1 ∧ ∃ q2 D2, s_ship b n q D = s_ok q2 D2 ∧ t_MS b n q2 D2 gi7 gl7) ∨ (w7.toInt = 0 ∧ ∃ p x D2, x ≠ 0 ∧ s_ship b n q D = s_bad b n p x D2 ∧ t_MF gi7 (s_fk b n p x) (s_F b n p)) from (by
                                                            intro b n q D h
                                                            have d0 : (gi 70 1401).toInt = D 1 := h.2.1.2.1.1.1.2.1
                                                            have b0 := h.2.1.1.2.1
                                                            have hc0 := t_clamp (i := gi 70 1401) (by omega)
                                                            exact Or.inr ⟨q7.2, q, 6, D, by decide, by simp only [s_ship, s_ifT (show D 1 = 6 by omega)], q7.1 b n q h.1 h.2.2.1⟩))⟩⟩
  · have r8 : (gi 70 1401).toInt ≠ 6 := fun e => h5 (Int32.toInt_inj.mp (e.trans (by decide : (6:Int) = (6 : Int32).toInt)))
    have u9 : (gi 70 1401).toInt ≤ 5 := t_neu h5 u1 rfl rfl
    refine ev_loc f_X12_aShip (nx := 36) rfl rfl rfl rfl ?_
    refine ev_bp f_X12_aShip (nx := 38) (v := 6) rfl (by decide) rfl ?_
    refine ev_loc f_X12_aShip (nx := 39) rfl rfl rfl rfl ?_
    refine ev_getR f_X12_aShip (nx := 42) rfl (hI.wf.s rfl) rfl rfl (hI.wf.r rfl) rfl rfl ?_
    refine ev_sp f_X12_aShip (nx := 45) (v := 1401) rfl (by decide) rfl ?_
    refine ev_ialdv f_X12_aShip (nx := 46) (w := (gi 70 1401)) rfl (hI.wf.s rfl) (by decide) (rfl : (1401 : Int32).toNatClampNeg = 1401) (by decide) rfl rfl ?_
    refine ev_addK f_X12_aShip (nx := 47) (c := 6) (l := 6) (u := 11) rfl (by decide) l1 u9 rfl rfl (by decide) (by decide) rfl (fun z11 e11 l11 u11 => ?_)
    refine ev_qI f_X12_aShip (nx := 50) (r := []) rfl rfl rfl rfl rfl rfl rfl (c_n_aNewName hI (z11) (Int.le_trans (by decide : (0:Int) ≤ 6) l11) (Int.le_trans u11 (by decide : (11:Int) ≤ 17))) rfl hX rfl (fun w12 gi12 gl12 gr12 l12 u12 hI hX hC12 q12 => ?_)
    have q12 : ∀ (b : Nat → Int32) (n q : Nat) (D : s_D), t_MS b n q D gi gl → (w12.toInt = 1 ∧ s_isN b n (s_E b n q) ∧ ¬ s_used D (s_L b n (s_E b n q)).toInt ∧ t_TM b n (s_E b n (s_E b n q)) gi12 ∧ t_mf gi gi12 ∧ ∀ j : Nat, gl12 71 j = if j = 72 + z11.toNatClampNeg then s_m8 b (s_F b n (s_E b n q)) (s_E b n (s_E b n q) - s_F b n (s_E b n q)) else gl 71 j) ∨ (w12.toInt = 0 ∧ ¬ s_isN b n (s_E b n q) ∧ t_MF gi12 (s_fk b n (s_E b n q) 2) (s_F b n (s_E b n q))) ∨ (w12.toInt = 0 ∧ s_isN b n (s_E b n q) ∧ s_used D (s_L b n (s_E b n q)).toInt ∧ t_MF gi12 (s_fk b n (s_E b n q) 3) (s_F b n (s_E b n q))) := q12
    refine ev_if f_X12_aShip (t1 := 64) (t2 := 53) rfl rfl rfl (fun h13 => ?_) (fun h13 => ?_)
    · have u14 : w12.toInt ≤ 0 := t_equ h13 (by decide : (0:Int32).toInt ≤ (0:Int))
      refine ev_ic f_X12_aShip (nx := 65) (v := 0) rfl (by decide) rfl ?_
      exact ev_ret f_X12_aShip rfl rfl rfl ⟨_, _, _, rfl, hI, hX, ⟨_, rfl, (by decide : (0:Int) ≤ (0:Int32).toInt), (Int.le_trans (by decide : (0:Int32).toInt ≤ (0:Int)) (by decide : (0:Int) ≤ 1)), (show ∀ (b : Nat → Int32) (n q : Nat) (D : s_D), t_MS b n q D gi gl → ((0 : Int) = 1 ∧ ∃ q2 D2, s_ship b n q D = s_ok q2 D2 ∧ t_MS b n q2 D2 gi12 gl12) ∨ ((0 : Int) = 0 ∧ ∃ p x D2, x ≠ 0 ∧ s_ship b n q D = s_bad b n p x D2 ∧ t_MF gi12 (s_fk b n p x) (s_F b n p)) from (by
                                                            intro b n q D h
                                                            have d0 : (gi 70 1401).toInt = D 1 := h.2.1.2.1.1.1.2.1
                                                            have b0 := h.2.1.1.2.1
                                                            have hc0 := t_clamp (i := gi 70 1401) (by omega)
                                                            rcases q12 b n q D h with hh | hh | hh
                                                            · exact absurd hh.1 (by omega)
                                                            · exact Or.inr ⟨rfl, _, 2, D, by decide, by simp only [s_ship, s_name, s_kw, s_come, s_num, s_ifF (show ¬ D 1 = 6 by omega), s_ifF hh.2.1], hh.2.2⟩
                                                            · exact Or.inr ⟨rfl, _, 3, D, by decide, by simp only [s_ship, s_name, s_kw, s_come, s_num, s_ifF (show ¬ D 1 = 6 by omega), s_ifT hh.2.1, s_ifT hh.2.2.1], hh.2.2.2⟩))⟩⟩
    · have r15 : w12.toInt ≠ 0 := fun e => h13 (Int32.toInt_inj.mp (e.trans (by decide : (0:Int) = (0 : Int32).toInt)))
      have l16 : 1 ≤ w12.toInt := t_nel h13 l12 rfl rfl
      refine ev_loc f_X12_aShip (nx := 54) rfl rfl rfl rfl ?_
      refine ev_heap f_X12_aShip (nx := 56) rfl rfl rfl rfl ?_
      refine ev_bp f_X12_aShip (nx := 58) (v := 8) rfl (by decide) rfl ?_
      refine ev_qI f_X12_aShip (nx := 61) (r := []) rfl rfl rfl rfl rfl rfl rfl (c_n_wantWord hI (8)) rfl hX rfl (fun w17 gi17 gl17 gr17 l17 u17 hI hX hC17 q17 => ?_)
      have q17 : ∀ (b : Nat → Int32) (n q : Nat), t_TM b n q gi12 → (w17.toInt = 1 ∧ s_mi (s_W b n q) = 8 ∧ t_TM b n (s_E b n q) gi17 ∧ t_mf gi12 gi17) ∨ (w17.toInt = 0 ∧ ¬ s_mi (s_W b n q) = 8 ∧ ((gi12 69 18).toInt = 0 → t_MF gi17 (s_fk b n q 2) (s_F b n q))) := q17
      refine ev_if f_X12_aShip (t1 := 64) (t2 := 66) rfl rfl rfl (fun h18 => ?_) (fun h18 => ?_)
      · have u19 : w17.toInt ≤ 0 := t_equ h18 (by decide : (0:Int32).toInt ≤ (0:Int))
        refine ev_ic f_X12_aShip (nx := 65) (v := 0) rfl (by decide) rfl ?_
        exact ev_ret f_X12_aShip rfl rfl rfl ⟨_, _, _, rfl, hI, hX, ⟨_, rfl, (by decide : (0:Int) ≤ (0:Int32).toInt), (Int.le_trans (by decide : (0:Int32).toInt ≤ (0:Int)) (by decide : (0:Int) ≤ 1)), (show ∀ (b : Nat → Int32) (n q : Nat) (D : s_D), t_MS b n q D gi gl → ((0 : Int) = 1 ∧ ∃ q2 D2, s_ship b n q D = s_ok q2 D2 ∧ t_MS b n q2 D2 gi17 gl17) ∨ ((0 : Int) = 0 ∧ ∃ p x D2, x ≠ 0 ∧ s_ship b n q D = s_bad b n p x D2 ∧ t_MF gi17 (s_fk b n p x) (s_F b n p)) from (by
                                                            intro b n q D h
                                                            have d0 : (gi 70 1401).toInt = D 1 := h.2.1.2.1.1.1.2.1
                                                            have b0 := h.2.1.1.2.1
                                                            have hc0 := t_clamp (i := gi 70 1401) (by omega)
                                                            obtain ⟨_, hN, hU, t1, m1, n1⟩ := (q12 b n q D h).resolve_right (fun hh => by rcases hh with hh | hh <;> exact absurd hh.1 (by omega))
                                                            have m0 := m1
                                                            rcases q17 b n _ t1 with hh | hh
                                                            · exact absurd hh.1 (by omega)
                                                            · exact Or.inr ⟨rfl, _, 2, D, by decide, by simp only [s_ship, s_name, s_kw, s_come, s_num, s_ifF (show ¬ D 1 = 6 by omega), s_ifT hN, s_ifF hU, s_ifF (fun hw => hh.2.1 ((s_mi_W (i := 7) (by decide)).mpr hw))], hh.2.2 (by rw [m0.1]; exact h.2.2.1)⟩))⟩⟩
      · have r20 : w17.toInt ≠ 0 := fun e => h18 (Int32.toInt_inj.mp (e.trans (by decide : (0:Int) = (0 : Int32).toInt)))
        have l21 : 1 ≤ w17.toInt := t_nel h18 l17 rfl rfl
        refine ev_loc f_X12_aShip (nx := 67) rfl rfl rfl rfl ?_
        refine ev_heap f_X12_aShip (nx := 69) rfl rfl rfl rfl ?_
        refine ev_qI0 f_X12_aShip (nx := 72) (r := []) rfl rfl rfl rfl rfl rfl rfl (c_n_isName hI ) rfl (fun w22 l22 u22 q22 => ?_)
        have q22 : ∀ (b : Nat → Int32) (n q : Nat), t_TM b n q gi17 → (w22.toInt = 1 ↔ s_isN b n q) := q22
        refine ev_if f_X12_aShip (t1 := 75) (t2 := 81) rfl rfl rfl (fun h23 => ?_) (fun h23 => ?_)
        · have u24 : w22.toInt ≤ 0 := t_equ h23 (by decide : (0:Int32).toInt ≤ (0:Int))
          refine ev_loc f_X12_aShip (nx := 76) rfl rfl rfl rfl ?_
          refine ev_ic f_X12_aShip (nx := 77) (v := 2) rfl (by decide) rfl ?_
          refine ev_qI f_X12_aShip (nx := 80) (r := []) rfl rfl rfl rfl rfl rfl rfl (c_n_fails hI (2) (by decide : (2:Int) ≤ (2:Int32).toInt) (Int.le_trans (by decide : (2:Int32).toInt ≤ (2:Int)) (by decide : (2:Int) ≤ 7))) rfl hX rfl (fun w25 gi25 gl25 gr25 l25 u25 hI hX hC25 q25 => ?_)
          have q25 : (∀ (b : Nat → Int32) (n q : Nat), t_TM b n q gi17 → (gi17 69 18).toInt = 0 → t_MF gi25 (s_fk b n q 2) (s_F b n q)) ∧ w25.toInt = 0 := q25
          exact ev_retZ f_X12_aShip rfl l25 (Int.le_trans u25 (by decide : (0:Int) ≤ 1)) ⟨_, _, _, rfl, hI, hX, ⟨_, rfl, l25, (Int.le_trans u25 (by decide : (0:Int) ≤ 1)), (show ∀ (b : Nat → Int32) (n q : Nat) (D : s_D), t_MS b n q D gi gl → (w25.toInt = 1 ∧ ∃ q2 D2, s_ship b n q D = s_ok q2 D2 ∧ t_MS b n q2 D2 gi25 gl25) ∨ (w25.toInt = 0 ∧ ∃ p x D2, x ≠ 0 ∧ s_ship b n q D = s_bad b n p x D2 ∧ t_MF gi25 (s_fk b n p x) (s_F b n p)) from (by
                                                            intro b n q D h
                                                            have d0 : (gi 70 1401).toInt = D 1 := h.2.1.2.1.1.1.2.1
                                                            have b0 := h.2.1.1.2.1
                                                            have hc0 := t_clamp (i := gi 70 1401) (by omega)
                                                            obtain ⟨_, hN, hU, t1, m1, n1⟩ := (q12 b n q D h).resolve_right (fun hh => by rcases hh with hh | hh <;> exact absurd hh.1 (by omega))
                                                            have m0 := m1
                                                            obtain ⟨_, w1, t1_, m1⟩ := (q17 b n _ t1).resolve_right (fun hh => absurd hh.1 (by omega))
                                                            have k1 := (s_mi_W (i := 7) (by decide)).mp w1
                                                            have hM : ¬ s_isN b n _ := fun hh => absurd ((q22 b n _ t1_).mpr hh) (by omega)
                                                            exact Or.inr ⟨q25.2, _, 2, D, by decide, by simp only [s_ship, s_name, s_kw, s_come, s_num, s_ifF (show ¬ D 1 = 6 by omega), s_ifT hN, s_ifF hU, s_ifT k1, s_ifF hM], q25.1 b n _ t1_ (by rw [m1.1, m0.1]; exact h.2.2.1)⟩))⟩⟩
        · have r26 : w22.toInt ≠ 0 := fun e => h23 (Int32.toInt_inj.mp (e.trans (by decide : (0:Int) = (0 : Int32).toInt)))
          have l27 : 1 ≤ w22.toInt := t_nel h23 l22 rfl rfl
          refine ev_loc f_X12_aShip (nx := 82) rfl rfl rfl rfl ?_
          refine ev_getR f_X12_aShip (nx := 85) rfl (hI.wf.s rfl) rfl rfl (hI.wf.r rfl) rfl rfl ?_
          refine ev_loc f_X12_aShip (nx := 86) rfl rfl rfl rfl ?_
          refine ev_loc f_X12_aShip (nx := 87) rfl rfl rfl rfl ?_
          refine ev_bp f_X12_aShip (nx := 89) (v := 72) rfl (by decide) rfl ?_
          refine ev_loc f_X12_aShip (nx := 90) rfl rfl rfl rfl ?_
          refine ev_getR f_X12_aShip (nx := 93) rfl (hI.wf.s rfl) rfl rfl (hI.wf.r rfl) rfl rfl ?_
          refine ev_sp f_X12_aShip (nx := 96) (v := 1400) rfl (by decide) rfl ?_
          obtain ⟨l28, u28⟩ := hI.ab (by decide +kernel : t_abr 70 1400 1400 0 6 = true) (Nat.le_refl _) (Nat.le_refl _)
          refine ev_ialdv f_X12_aShip (nx := 97) (w := (gi17 70 1400)) rfl (hI.wf.s rfl) (by decide) (rfl : (1400 : Int32).toNatClampNeg = 1400) (by decide) rfl rfl ?_
          refine ev_qI0 f_X12_aShip (nx := 100) (r := [.int z3, .ref 70]) rfl rfl rfl rfl rfl rfl rfl (c_n_findHere hI (72) (by decide : (72:Int) ≤ (72:Int32).toInt) (Int.le_trans (by decide : (72:Int32).toInt ≤ (72:Int)) (by decide : (72:Int) ≤ 84)) ((gi17 70 1400)) l28 u28) rfl (fun w29 l29 u29 q29 => ?_)
          have q29 : (∀ (b : Nat → Int32) (n q : Nat) (f : Nat → Int) (x : Int), t_TM b n q gi17 → s_isN b n q → (∀ i : Nat, i < (gi17 70 1400).toNatClampNeg → (gl17 71 ((72 : Int32).toNatClampNeg + i) = s_m8 b (s_F b n q) (s_E b n q - s_F b n q) ↔ f i = x)) → w29.toInt = s_fst f x (gi17 70 1400).toNatClampNeg 0) ∧ (w29.toInt = -1 ∨ w29.toInt < (gi17 70 1400).toInt) := q29
          refine ev_iastT f_X12_aShip (nx := 101) rfl (hI.wf.s rfl) l3 (by decide) u3 (by decide) rfl (hI.astA (x := (gi 70 1401)) (hI.wf.s rfl) (by decide +kernel : t_abwa 70 1452 5 0 5 (-1) 5 = true) (by omega) (by omega) (by omega) l29 u29 rfl) (hX.upI (t_inR (p := 1452) (m := 1482) rfl l3 (by decide) u3 (by decide) (by decide))) (fun g30 e30 hI hX => ?_)
          refine ev_loc f_X12_aShip (nx := 102) rfl rfl rfl rfl ?_
          refine ev_getR f_X12_aShip (nx := 105) rfl (hI.wf.s rfl) rfl rfl (hI.wf.r rfl) rfl rfl ?_
          refine ev_loc f_X12_aShip (nx := 106) rfl rfl rfl rfl ?_
          refine ev_ialdT f_X12_aShip (nx := 107) rfl (hI.wf.s rfl) l3 (by decide) u3 (by decide) rfl (fun w31 e31 => ?_)
          rw [e31.trans (by rw [e30]; exact x_up2_at _ _ _ _ : g30 70 z3.toNatClampNeg = w29)]
          refine ev_ic f_X12_aShip (nx := 108) (v := -1) rfl (by decide) rfl ?_
          refine ev_if f_X12_aShip (t1 := 111) (t2 := 117) rfl rfl rfl (fun h32 => ?_) (fun h32 => ?_)
          · have u33 : w29.toInt ≤ (-1) := t_equ h32 (by decide : ((-1):Int32).toInt ≤ ((-1):Int))
            refine ev_loc f_X12_aShip (nx := 112) rfl rfl rfl rfl ?_
            refine ev_ic f_X12_aShip (nx := 113) (v := 3) rfl (by decide) rfl ?_
            refine ev_qI f_X12_aShip (nx := 116) (r := []) rfl rfl rfl rfl rfl rfl rfl (c_n_fails hI (3) (Int.le_trans (by decide : (2:Int) ≤ 3) (by decide : (3:Int) ≤ (3:Int32).toInt)) (Int.le_trans (by decide : (3:Int32).toInt ≤ (3:Int)) (by decide : (3:Int) ≤ 7))) rfl hX rfl (fun w34 gi34 gl34 gr34 l34 u34 hI hX hC34 q34 => ?_)
            have q34 : (∀ (b : Nat → Int32) (n q : Nat), t_TM b n q g30 → (g30 69 18).toInt = 0 → t_MF gi34 (s_fk b n q 3) (s_F b n q)) ∧ w34.toInt = 0 := q34
            exact ev_retZ f_X12_aShip rfl l34 (Int.le_trans u34 (by decide : (0:Int) ≤ 1)) ⟨_, _, _, rfl, hI, hX, ⟨_, rfl, l34, (Int.le_trans u34 (by decide : (0:Int) ≤ 1)), (show ∀ (b : Nat → Int32) (n q : Nat) (D : s_D), t_MS b n q D gi gl → (w34.toInt = 1 ∧ ∃ q2 D2, s_ship b n q D = s_ok q2 D2 ∧ t_MS b n q2 D2 gi34 gl34) ∨ (w34.toInt = 0 ∧ ∃ p x D2, x ≠ 0 ∧ s_ship b n q D = s_bad b n p x D2 ∧ t_MF gi34 (s_fk b n p x) (s_F b n p)) from (by
                                                            intro b n q D h
                                                            have d0 : (gi 70 1401).toInt = D 1 := h.2.1.2.1.1.1.2.1
                                                            have b0 := h.2.1.1.2.1
                                                            have hc0 := t_clamp (i := gi 70 1401) (by omega)
                                                            obtain ⟨_, hN, hU, t1, m1, n1⟩ := (q12 b n q D h).resolve_right (fun hh => by rcases hh with hh | hh <;> exact absurd hh.1 (by omega))
                                                            have m0 := m1
                                                            obtain ⟨_, w1, t1_, m1⟩ := (q17 b n _ t1).resolve_right (fun hh => absurd hh.1 (by omega))
                                                            have k1 := (s_mi_W (i := 7) (by decide)).mp w1
                                                            have hM := (q22 b n _ t1_).mp (by omega)
                                                            have dP : (gi17 70 1400).toInt = D 0 := by rw [(hC17.1 70 _ rfl).1, (hC12.1 70 _ rfl).1]; exact h.2.1.2.1.1.1.1
                                                            have bP := h.2.1.1.1
                                                            have cP := t_clamp (i := gi17 70 1400) (by omega)
                                                            have hz0 := t_clamp (i := z11) (by omega)
                                                            have nP : ∀ i : Nat, (i : Int) < D 0 → t_nr (gl17 71 (72 + i)) (D (200 + i)) := fun i hi => by rw [(hC17.1 71 _ rfl).2.1, n1, if_neg (by omega)]; exact h.2.1.2.2.1.1 i hi
                                                            have fP : w29.toInt = s_fp D (s_L b n (s_E b n (s_E b n (s_E b n q)))).toInt := by
                                                              unfold s_fp
                                                              rw [show (D 0).toNat = (gi17 70 1400).toNatClampNeg from (by omega)]
                                                              exact q29.1 b n _ _ _ t1_ hM (t_nr_f (base := 72) nP (by omega) hM)
                                                            have hx : s_fp D (s_L b n (s_E b n (s_E b n (s_E b n q)))).toInt = -1 := by omega
                                                            exact Or.inr ⟨q34.2, _, 3, D, by decide, by simp only [s_ship, s_name, s_kw, s_come, s_num, s_ifF (show ¬ D 1 = 6 by omega), s_ifT hN, s_ifF hU, s_ifT k1, s_ifT hM, s_ifT hx], q34.1 b n _ (t1_.st e30) (by rw [e30, x_up2_ne (by decide)]; exact (by rw [m1.1, m0.1]; exact h.2.2.1))⟩))⟩⟩
          · have r35 : w29.toInt ≠ (-1) := fun e => h32 (Int32.toInt_inj.mp (e.trans (by decide : ((-1):Int) = ((-1) : Int32).toInt)))
            have l36 : 0 ≤ w29.toInt := t_nel h32 l29 rfl rfl
            refine ev_loc f_X12_aShip (nx := 118) rfl rfl rfl rfl ?_
            refine ev_qN f_X12_aShip (nx := 121) (r := []) rfl rfl rfl rfl rfl rfl rfl (c_n_ahead hI ) rfl hX rfl (fun gi37 gl37 gr37 hI hX hC37 q37 => ?_)
            have q37 : ∀ (b : Nat → Int32) (n q : Nat), t_Sm b n q g30 → t_TM b n q gi37 := q37
            refine ev_loc f_X12_aShip (nx := 122) rfl rfl rfl rfl ?_
            refine ev_getR f_X12_aShip (nx := 125) rfl (hI.wf.s rfl) rfl rfl (hI.wf.r rfl) rfl rfl ?_
            refine ev_loc f_X12_aShip (nx := 126) rfl rfl rfl rfl ?_
            refine ev_ic f_X12_aShip (nx := 127) (v := 4) rfl (by decide) rfl ?_
            refine ev_addC f_X12_aShip (nx := 128) (c := 4) (l := 1456) (u := 1486) rfl (by decide) l3 u3 rfl rfl (by decide) (by decide) rfl (fun z38 e38 l38 u38 => ?_)
            refine ev_ic f_X12_aShip (nx := 129) (v := 0) rfl (by decide) rfl ?_
            refine ev_iastT f_X12_aShip (nx := 130) rfl (hI.wf.s rfl) l38 (by decide) u38 (by decide) rfl (hI.astA (x := (gi 70 1401)) (hI.wf.s rfl) (by decide +kernel : t_abwa 70 1456 5 0 5 0 0 = true) (by omega) (by omega) (by omega) (by decide : (0:Int) ≤ (0:Int32).toInt) (by decide : (0:Int32).toInt ≤ (0:Int)) rfl) (hX.upI (t_inR (p := 1456) (m := 1486) rfl l38 (by decide) u38 (by decide) (by decide))) (fun g39 e39 hI hX => ?_)
            refine ev_loc f_X12_aShip (nx := 131) rfl rfl rfl rfl ?_
            refine ev_loc f_X12_aShip (nx := 132) rfl rfl rfl rfl ?_
            refine ev_ic f_X12_aShip (nx := 133) (v := 1) rfl (by decide) rfl ?_
            refine ev_addC f_X12_aShip (nx := 134) (c := 1) (l := 1453) (u := 1483) rfl (by decide) l3 u3 rfl rfl (by decide) (by decide) rfl (fun z40 e40 l40 u40 => ?_)
            refine ev_inV2 f_X12_aShip (nx := 137) (lo2 := [(0, .ref 69), (1, .int z40)]) rfl rfl rfl rfl f_X12_passes (hI.wf.s rfl) rfl rfl rfl rfl rfl ?_
            refine ev_loc f_X12_passes (nx := 1) rfl rfl rfl rfl ?_
            refine ev_heap f_X12_passes (nx := 3) rfl rfl rfl rfl ?_
            refine ev_bp f_X12_passes (nx := 5) (v := 9) rfl (by decide) rfl ?_
            refine ev_qI f_X12_passes (nx := 8) (r := []) rfl rfl rfl rfl rfl rfl rfl (c_n_wantWord hI (9)) rfl hX rfl (fun w41 gi41 gl41 gr41 l41 u41 hI hX hC41 q41 => ?_)
            have q41 : ∀ (b : Nat → Int32) (n q : Nat), t_TM b n q g39 → (w41.toInt = 1 ∧ s_mi (s_W b n q) = 9 ∧ t_TM b n (s_E b n q) gi41 ∧ t_mf g39 gi41) ∨ (w41.toInt = 0 ∧ ¬ s_mi (s_W b n q) = 9 ∧ ((g39 69 18).toInt = 0 → t_MF gi41 (s_fk b n q 2) (s_F b n q))) := q41
            refine ev_if f_X12_passes (t1 := 74) (t2 := 11) rfl rfl rfl (fun h42 => ?_) (fun h42 => ?_)
            · have u43 : w41.toInt ≤ 0 := t_equ h42 (by decide : (0:Int32).toInt ≤ (0:Int))
              refine ev_ic f_X12_passes (nx := 75) (v := 0) rfl (by decide) rfl ?_
              refine ev_retK1 f_X12_passes rfl rfl rfl ?_
              refine ev_t f_X12_aShip (t1 := 140) (t2 := 142) rfl rfl rfl (by decide) ?_
              refine ev_ic f_X12_aShip (nx := 141) (v := 0) rfl (by decide) rfl ?_
              exact ev_ret f_X12_aShip rfl rfl rfl ⟨_, _, _, rfl, hI, hX, ⟨_, rfl, (by decide : (0:Int) ≤ (0:Int32).toInt), (Int.le_trans (by decide : (0:Int32).toInt ≤ (0:Int)) (by decide : (0:Int) ≤ 1)), (show ∀ (b : Nat → Int32) (n q : Nat) (D : s_D), t_MS b n q D gi gl → ((0 : Int) = 1 ∧ ∃ q2 D2, s_ship b n q D = s_ok q2 D2 ∧ t_MS b n q2 D2 gi41 gl41) ∨ ((0 : Int) = 0 ∧ ∃ p x D2, x ≠ 0 ∧ s_ship b n q D = s_bad b n p x D2 ∧ t_MF gi41 (s_fk b n p x) (s_F b n p)) from (by
                                                            intro b n q D h
                                                            have d0 : (gi 70 1401).toInt = D 1 := h.2.1.2.1.1.1.2.1
                                                            have b0 := h.2.1.1.2.1
                                                            have hc0 := t_clamp (i := gi 70 1401) (by omega)
                                                            obtain ⟨_, hN, hU, t1, m1, n1⟩ := (q12 b n q D h).resolve_right (fun hh => by rcases hh with hh | hh <;> exact absurd hh.1 (by omega))
                                                            have m0 := m1
                                                            obtain ⟨_, w1, t1_, m1⟩ := (q17 b n _ t1).resolve_right (fun hh => absurd hh.1 (by omega))
                                                            have k1 := (s_mi_W (i := 7) (by decide)).mp w1
                                                            have hM := (q22 b n _ t1_).mp (by omega)
                                                            have dP : (gi17 70 1400).toInt = D 0 := by rw [(hC17.1 70 _ rfl).1, (hC12.1 70 _ rfl).1]; exact h.2.1.2.1.1.1.1
                                                            have bP := h.2.1.1.1
                                                            have cP := t_clamp (i := gi17 70 1400) (by omega)
                                                            have hz0 := t_clamp (i := z11) (by omega)
                                                            have nP : ∀ i : Nat, (i : Int) < D 0 → t_nr (gl17 71 (72 + i)) (D (200 + i)) := fun i hi => by rw [(hC17.1 71 _ rfl).2.1, n1, if_neg (by omega)]; exact h.2.1.2.2.1.1 i hi
                                                            have fP : w29.toInt = s_fp D (s_L b n (s_E b n (s_E b n (s_E b n q)))).toInt := by
                                                              unfold s_fp
                                                              rw [show (D 0).toNat = (gi17 70 1400).toNatClampNeg from (by omega)]
                                                              exact q29.1 b n _ _ _ t1_ hM (t_nr_f (base := 72) nP (by omega) hM)
                                                            have ta_ := q37 b n _ (t1_.st e30).S
                                                            have tb_ := ta_.st e39
                                                            rcases q41 b n _ tb_ with hh | hh
                                                            · exact absurd hh.1 (by omega)
                                                            · exact Or.inr ⟨rfl, _, 2, D, by decide, by simp only [s_ship, s_name, s_kw, s_come, s_num, s_ifF (show ¬ D 1 = 6 by omega), s_ifT hN, s_ifF hU, s_ifT k1, s_ifT hM, s_ifF (show ¬ s_fp D (s_L b n (s_E b n (s_E b n (s_E b n q)))).toInt = -1 by omega), s_ifF (fun hw => hh.2.1 ((s_mi_W (i := 8) (by decide)).mpr hw))], hh.2.2 (by rw [e39, x_up2_ne (by decide), (hC37.1 69 18 rfl).1, e30, x_up2_ne (by decide), m1.1, m0.1]; exact h.2.2.1)⟩))⟩⟩
            · have r44 : w41.toInt ≠ 0 := fun e => h42 (Int32.toInt_inj.mp (e.trans (by decide : (0:Int) = (0 : Int32).toInt)))
              have l45 : 1 ≤ w41.toInt := t_nel h42 l41 rfl rfl
              refine ev_loc f_X12_passes (nx := 12) rfl rfl rfl rfl ?_
              refine ev_loc f_X12_passes (nx := 13) rfl rfl rfl rfl ?_
              refine ev_ic f_X12_passes (nx := 14) (v := 0) rfl (by decide) rfl ?_
              refine ev_bp f_X12_passes (nx := 16) (v := 120) rfl (by decide) rfl ?_
              refine ev_inV4 f_X12_passes (nx := 19) (lo2 := [(0, .ref 69), (1, .int z40), (2, .int 0), (3, .int 120)]) rfl rfl rfl rfl f_X12_number (hI.wf.s rfl) rfl rfl rfl rfl rfl ?_
              refine ev_loc f_X12_number (nx := 1) rfl rfl rfl rfl ?_
              refine ev_getI f_X12_number (nx := 4) rfl (hI.wf.s rfl) rfl rfl rfl ?_
              obtain ⟨l46, u46⟩ := hI.b (hI.wf.s (k := 69) rfl) (t_bdK rfl : t_bd 11 12 = some (0, 4))
              refine ev_ic f_X12_number (nx := 5) (v := 3) rfl (by decide) rfl ?_
              refine ev_if f_X12_number (t1 := 14) (t2 := 8) rfl rfl rfl (fun h47 => ?_) (fun h47 => ?_)
              · have u48 : (gi41 69 12).toInt ≤ 3 := t_equ h47 (by decide : (3:Int32).toInt ≤ (3:Int))
                have l49 : 3 ≤ (gi41 69 12).toInt := t_eql h47 (by decide : (3:Int) ≤ (3:Int32).toInt)
                refine ev_loc f_X12_number (nx := 15) rfl rfl rfl rfl ?_
                refine ev_getI f_X12_number (nx := 18) rfl (hI.wf.s rfl) rfl rfl rfl ?_
                refine ev_loc f_X12_number (nx := 19) rfl rfl rfl rfl ?_
                refine ev_if f_X12_number (t1 := 30) (t2 := 22) rfl rfl rfl (fun h50 => ?_) (fun h50 => ?_)
                · have u51 : (gi41 69 15).toInt ≤ (-1) := t_ltu h50 (by decide : (0:Int32).toInt ≤ (0:Int)) rfl
                  refine ev_loc f_X12_number (nx := 31) rfl rfl rfl rfl ?_
                  refine ev_ic f_X12_number (nx := 32) (v := 4) rfl (by decide) rfl ?_
                  refine ev_qI f_X12_number (nx := 35) (r := []) rfl rfl rfl rfl rfl rfl rfl (c_n_fails hI (4) (Int.le_trans (by decide : (2:Int) ≤ 4) (by decide : (4:Int) ≤ (4:Int32).toInt)) (Int.le_trans (by decide : (4:Int32).toInt ≤ (4:Int)) (by decide : (4:Int) ≤ 7))) rfl hX rfl (fun w52 gi52 gl52 gr52 l52 u52 hI hX hC52 q52 => ?_)
                  have q52 : (∀ (b : Nat → Int32) (n q : Nat), t_TM b n q gi41 → (gi41 69 18).toInt = 0 → t_MF gi52 (s_fk b n q 4) (s_F b n q)) ∧ w52.toInt = 0 := q52
                  refine ev_retK1 f_X12_number rfl rfl (t_rz l52 (Int.le_trans u52 (by decide : (0:Int) ≤ 1))) ?_
                  refine ev_t f_X12_passes (t1 := 74) (t2 := 22) rfl rfl rfl (t_eqT u52 l52 (by decide : (0:Int32).toInt ≤ (0:Int)) (by decide : (0:Int) ≤ (0:Int32).toInt)) ?_
                  refine ev_ic f_X12_passes (nx := 75) (v := 0) rfl (by decide) rfl ?_
                  refine ev_retK1 f_X12_passes rfl rfl rfl ?_
                  refine ev_t f_X12_aShip (t1 := 140) (t2 := 142) rfl rfl rfl (by decide) ?_
                  refine ev_ic f_X12_aShip (nx := 141) (v := 0) rfl (by decide) rfl ?_
                  exact ev_ret f_X12_aShip rfl rfl rfl ⟨_, _, _, rfl, hI, hX, ⟨_, rfl, (by decide : (0:Int) ≤ (0:Int32).toInt), (Int.le_trans (by decide : (0:Int32).toInt ≤ (0:Int)) (by decide : (0:Int) ≤ 1)), (show ∀ (b : Nat → Int32) (n q : Nat) (D : s_D), t_MS b n q D gi gl → ((0 : Int) = 1 ∧ ∃ q2 D2, s_ship b n q D = s_ok q2 D2 ∧ t_MS b n q2 D2 gi52 gl52) ∨ ((0 : Int) = 0 ∧ ∃ p x D2, x ≠ 0 ∧ s_ship b n q D = s_bad b n p x D2 ∧ t_MF gi52 (s_fk b n p x) (s_F b n p)) from (by
                                                            intro b n q D h
                                                            have d0 : (gi 70 1401).toInt = D 1 := h.2.1.2.1.1.1.2.1
                                                            have b0 := h.2.1.1.2.1
                                                            have hc0 := t_clamp (i := gi 70 1401) (by omega)
                                                            obtain ⟨_, hN, hU, t1, m1, n1⟩ := (q12 b n q D h).resolve_right (fun hh => by rcases hh with hh | hh <;> exact absurd hh.1 (by omega))
                                                            have m0 := m1
                                                            obtain ⟨_, w1, t1_, m1⟩ := (q17 b n _ t1).resolve_right (fun hh => absurd hh.1 (by omega))
                                                            have k1 := (s_mi_W (i := 7) (by decide)).mp w1
                                                            have hM := (q22 b n _ t1_).mp (by omega)
                                                            have dP : (gi17 70 1400).toInt = D 0 := by rw [(hC17.1 70 _ rfl).1, (hC12.1 70 _ rfl).1]; exact h.2.1.2.1.1.1.1
                                                            have bP := h.2.1.1.1
                                                            have cP := t_clamp (i := gi17 70 1400) (by omega)
                                                            have hz0 := t_clamp (i := z11) (by omega)
                                                            have nP : ∀ i : Nat, (i : Int) < D 0 → t_nr (gl17 71 (72 + i)) (D (200 + i)) := fun i hi => by rw [(hC17.1 71 _ rfl).2.1, n1, if_neg (by omega)]; exact h.2.1.2.2.1.1 i hi
                                                            have fP : w29.toInt = s_fp D (s_L b n (s_E b n (s_E b n (s_E b n q)))).toInt := by
                                                              unfold s_fp
                                                              rw [show (D 0).toNat = (gi17 70 1400).toNatClampNeg from (by omega)]
                                                              exact q29.1 b n _ _ _ t1_ hM (t_nr_f (base := 72) nP (by omega) hM)
                                                            have ta_ := q37 b n _ (t1_.st e30).S
                                                            have tb_ := ta_.st e39
                                                            obtain ⟨_, w2, t2_, m2⟩ := (q41 b n _ tb_).resolve_right (fun hh => absurd hh.1 (by omega))
                                                            have k2 := (s_mi_W (i := 8) (by decide)).mp w2
                                                            have hv := t2_.vF (lo := 0) (hi := 120) (by omega) (by omega)
                                                            exact Or.inr ⟨rfl, _, 4, D, by decide, by simp only [s_ship, s_name, s_kw, s_come, s_num, s_ifF (show ¬ D 1 = 6 by omega), s_ifT hN, s_ifF hU, s_ifT k1, s_ifT hM, s_ifF (show ¬ s_fp D (s_L b n (s_E b n (s_E b n (s_E b n q)))).toInt = -1 by omega), s_ifT k2, s_ifT hv.1, s_ifF hv.2], q52.1 b n _ t2_ (by rw [m2.1, e39, x_up2_ne (by decide), (hC37.1 69 18 rfl).1, e30, x_up2_ne (by decide), m1.1, m0.1]; exact h.2.2.1)⟩))⟩⟩
                · have l53 : 0 ≤ (gi41 69 15).toInt := t_lel (t_nlt h50) (by decide : (0:Int) ≤ (0:Int32).toInt)
                  refine ev_loc f_X12_number (nx := 23) rfl rfl rfl rfl ?_
                  refine ev_gvI f_X12_number (nx := 26) (w := (gi41 69 15)) rfl (hI.wf.s rfl) rfl rfl rfl rfl ?_
                  refine ev_loc f_X12_number (nx := 27) rfl rfl rfl rfl ?_
                  refine ev_if f_X12_number (t1 := 36) (t2 := 30) rfl rfl rfl (fun h54 => ?_) (fun h54 => ?_)
                  · have u55 : (gi41 69 15).toInt ≤ 120 := t_leu h54 (by decide : (120:Int32).toInt ≤ (120:Int))
                    refine ev_loc f_X12_number (nx := 37) rfl rfl rfl rfl ?_
                    refine ev_getR f_X12_number (nx := 40) rfl (hI.wf.s rfl) rfl rfl (hI.wf.r rfl) rfl rfl ?_
                    refine ev_loc f_X12_number (nx := 41) rfl rfl rfl rfl ?_
                    refine ev_loc f_X12_number (nx := 42) rfl rfl rfl rfl ?_
                    refine ev_gvI f_X12_number (nx := 45) (w := (gi41 69 15)) rfl (hI.wf.s rfl) rfl rfl rfl rfl ?_
                    refine ev_iastT f_X12_number (nx := 46) rfl (hI.wf.s rfl) l40 (by decide) u40 (by decide) rfl (hI.astA (x := (gi 70 1401)) (hI.wf.s rfl) (by decide +kernel : t_abwa 70 1453 5 0 5 0 120 = true) (by omega) (by omega) (by omega) l53 u55 rfl) (hX.upI (t_inR (p := 1453) (m := 1483) rfl l40 (by decide) u40 (by decide) (by decide))) (fun g56 e56 hI hX => ?_)
                    refine ev_loc f_X12_number (nx := 47) rfl rfl rfl rfl ?_
                    refine ev_qN f_X12_number (nx := 50) (r := []) rfl rfl rfl rfl rfl rfl rfl (c_n_ahead hI ) rfl hX rfl (fun gi57 gl57 gr57 hI hX hC57 q57 => ?_)
                    have q57 : ∀ (b : Nat → Int32) (n q : Nat), t_Sm b n q g56 → t_TM b n q gi57 := q57
                    refine ev_ic f_X12_number (nx := 51) (v := 1) rfl (by decide) rfl ?_
                    refine ev_retK1 f_X12_number rfl rfl rfl ?_
                    refine ev_f f_X12_passes (t1 := 74) (t2 := 22) rfl rfl rfl (by decide) ?_
                    refine ev_loc f_X12_passes (nx := 23) rfl rfl rfl rfl ?_
                    refine ev_heap f_X12_passes (nx := 25) rfl rfl rfl rfl ?_
                    refine ev_bp f_X12_passes (nx := 27) (v := 10) rfl (by decide) rfl ?_
                    refine ev_qI f_X12_passes (nx := 30) (r := []) rfl rfl rfl rfl rfl rfl rfl (c_n_wantWord hI (10)) rfl hX rfl (fun w58 gi58 gl58 gr58 l58 u58 hI hX hC58 q58 => ?_)
                    have q58 : ∀ (b : Nat → Int32) (n q : Nat), t_TM b n q gi57 → (w58.toInt = 1 ∧ s_mi (s_W b n q) = 10 ∧ t_TM b n (s_E b n q) gi58 ∧ t_mf gi57 gi58) ∨ (w58.toInt = 0 ∧ ¬ s_mi (s_W b n q) = 10 ∧ ((gi57 69 18).toInt = 0 → t_MF gi58 (s_fk b n q 2) (s_F b n q))) := q58
                    refine ev_if f_X12_passes (t1 := 74) (t2 := 33) rfl rfl rfl (fun h59 => ?_) (fun h59 => ?_)
                    · have u60 : w58.toInt ≤ 0 := t_equ h59 (by decide : (0:Int32).toInt ≤ (0:Int))
                      refine ev_ic f_X12_passes (nx := 75) (v := 0) rfl (by decide) rfl ?_
                      refine ev_retK1 f_X12_passes rfl rfl rfl ?_
                      refine ev_t f_X12_aShip (t1 := 140) (t2 := 142) rfl rfl rfl (by decide) ?_
                      refine ev_ic f_X12_aShip (nx := 141) (v := 0) rfl (by decide) rfl ?_
                      exact ev_ret f_X12_aShip rfl rfl rfl ⟨_, _, _, rfl, hI, hX, ⟨_, rfl, (by decide : (0:Int) ≤ (0:Int32).toInt), (Int.le_trans (by decide : (0:Int32).toInt ≤ (0:Int)) (by decide : (0:Int) ≤ 1)), (show ∀ (b : Nat → Int32) (n q : Nat) (D : s_D), t_MS b n q D gi gl → ((0 : Int) = 1 ∧ ∃ q2 D2, s_ship b n q D = s_ok q2 D2 ∧ t_MS b n q2 D2 gi58 gl58) ∨ ((0 : Int) = 0 ∧ ∃ p x D2, x ≠ 0 ∧ s_ship b n q D = s_bad b n p x D2 ∧ t_MF gi58 (s_fk b n p x) (s_F b n p)) from (by
                                                            intro b n q D h
                                                            have d0 : (gi 70 1401).toInt = D 1 := h.2.1.2.1.1.1.2.1
                                                            have b0 := h.2.1.1.2.1
                                                            have hc0 := t_clamp (i := gi 70 1401) (by omega)
                                                            obtain ⟨_, hN, hU, t1, m1, n1⟩ := (q12 b n q D h).resolve_right (fun hh => by rcases hh with hh | hh <;> exact absurd hh.1 (by omega))
                                                            have m0 := m1
                                                            obtain ⟨_, w1, t1_, m1⟩ := (q17 b n _ t1).resolve_right (fun hh => absurd hh.1 (by omega))
                                                            have k1 := (s_mi_W (i := 7) (by decide)).mp w1
                                                            have hM := (q22 b n _ t1_).mp (by omega)
                                                            have dP : (gi17 70 1400).toInt = D 0 := by rw [(hC17.1 70 _ rfl).1, (hC12.1 70 _ rfl).1]; exact h.2.1.2.1.1.1.1
                                                            have bP := h.2.1.1.1
                                                            have cP := t_clamp (i := gi17 70 1400) (by omega)
                                                            have hz0 := t_clamp (i := z11) (by omega)
                                                            have nP : ∀ i : Nat, (i : Int) < D 0 → t_nr (gl17 71 (72 + i)) (D (200 + i)) := fun i hi => by rw [(hC17.1 71 _ rfl).2.1, n1, if_neg (by omega)]; exact h.2.1.2.2.1.1 i hi
                                                            have fP : w29.toInt = s_fp D (s_L b n (s_E b n (s_E b n (s_E b n q)))).toInt := by
                                                              unfold s_fp
                                                              rw [show (D 0).toNat = (gi17 70 1400).toNatClampNeg from (by omega)]
                                                              exact q29.1 b n _ _ _ t1_ hM (t_nr_f (base := 72) nP (by omega) hM)
                                                            have ta_ := q37 b n _ (t1_.st e30).S
                                                            have tb_ := ta_.st e39
                                                            obtain ⟨_, w2, t2_, m2⟩ := (q41 b n _ tb_).resolve_right (fun hh => absurd hh.1 (by omega))
                                                            have k2 := (s_mi_W (i := 8) (by decide)).mp w2
                                                            have v3 := t2_.vT (lo := 0) (hi := 120) (by omega) (by omega) (by omega)
                                                            have t3_ := q57 b n _ (t2_.st e56).S
                                                            rcases q58 b n _ t3_ with hh | hh
                                                            · exact absurd hh.1 (by omega)
                                                            · exact Or.inr ⟨rfl, _, 2, D, by decide, by simp only [s_ship, s_name, s_kw, s_come, s_num, s_ifF (show ¬ D 1 = 6 by omega), s_ifT hN, s_ifF hU, s_ifT k1, s_ifT hM, s_ifF (show ¬ s_fp D (s_L b n (s_E b n (s_E b n (s_E b n q)))).toInt = -1 by omega), s_ifT k2, s_ifT v3.1.1, s_ifT v3.1, s_ifF (fun hw => hh.2.1 ((s_mi_W (i := 9) (by decide)).mpr hw))], hh.2.2 (by rw [(hC57.1 69 18 rfl).1, e56, x_up2_ne (by decide), m2.1, e39, x_up2_ne (by decide), (hC37.1 69 18 rfl).1, e30, x_up2_ne (by decide), m1.1, m0.1]; exact h.2.2.1)⟩))⟩⟩
                    · have r61 : w58.toInt ≠ 0 := fun e => h59 (Int32.toInt_inj.mp (e.trans (by decide : (0:Int) = (0 : Int32).toInt)))
                      have l62 : 1 ≤ w58.toInt := t_nel h59 l58 rfl rfl
                      refine ev_loc f_X12_passes (nx := 34) rfl rfl rfl rfl ?_
                      refine ev_loc f_X12_passes (nx := 35) rfl rfl rfl rfl ?_
                      refine ev_ic f_X12_passes (nx := 36) (v := 1) rfl (by decide) rfl ?_
                      refine ev_addC f_X12_passes (nx := 37) (c := 1) (l := 1454) (u := 1484) rfl (by decide) l40 u40 rfl rfl (by decide) (by decide) rfl (fun z63 e63 l63 u63 => ?_)
                      refine ev_ic f_X12_passes (nx := 38) (v := 1) rfl (by decide) rfl ?_
                      refine ev_bp f_X12_passes (nx := 40) (v := 20) rfl (by decide) rfl ?_
                      refine ev_inV4 f_X12_passes (nx := 43) (lo2 := [(0, .ref 69), (1, .int z63), (2, .int 1), (3, .int 20)]) rfl rfl rfl rfl f_X12_number (hI.wf.s rfl) rfl rfl rfl rfl rfl ?_
                      refine ev_loc f_X12_number (nx := 1) rfl rfl rfl rfl ?_
                      refine ev_getI f_X12_number (nx := 4) rfl (hI.wf.s rfl) rfl rfl rfl ?_
                      obtain ⟨l64, u64⟩ := hI.b (hI.wf.s (k := 69) rfl) (t_bdK rfl : t_bd 11 12 = some (0, 4))
                      refine ev_ic f_X12_number (nx := 5) (v := 3) rfl (by decide) rfl ?_
                      refine ev_if f_X12_number (t1 := 14) (t2 := 8) rfl rfl rfl (fun h65 => ?_) (fun h65 => ?_)
                      · have u66 : (gi58 69 12).toInt ≤ 3 := t_equ h65 (by decide : (3:Int32).toInt ≤ (3:Int))
                        have l67 : 3 ≤ (gi58 69 12).toInt := t_eql h65 (by decide : (3:Int) ≤ (3:Int32).toInt)
                        refine ev_loc f_X12_number (nx := 15) rfl rfl rfl rfl ?_
                        refine ev_getI f_X12_number (nx := 18) rfl (hI.wf.s rfl) rfl rfl rfl ?_
                        refine ev_loc f_X12_number (nx := 19) rfl rfl rfl rfl ?_
                        refine ev_if f_X12_number (t1 := 30) (t2 := 22) rfl rfl rfl (fun h68 => ?_) (fun h68 => ?_)
                        · have u69 : (gi58 69 15).toInt ≤ 0 := t_ltu h68 (by decide : (1:Int32).toInt ≤ (1:Int)) rfl
                          refine ev_loc f_X12_number (nx := 31) rfl rfl rfl rfl ?_
                          refine ev_ic f_X12_number (nx := 32) (v := 4) rfl (by decide) rfl ?_
                          refine ev_qI f_X12_number (nx := 35) (r := []) rfl rfl rfl rfl rfl rfl rfl (c_n_fails hI (4) (Int.le_trans (by decide : (2:Int) ≤ 4) (by decide : (4:Int) ≤ (4:Int32).toInt)) (Int.le_trans (by decide : (4:Int32).toInt ≤ (4:Int)) (by decide : (4:Int) ≤ 7))) rfl hX rfl (fun w70 gi70 gl70 gr70 l70 u70 hI hX hC70 q70 => ?_)
                          have q70 : (∀ (b : Nat → Int32) (n q : Nat), t_TM b n q gi58 → (gi58 69 18).toInt = 0 → t_MF gi70 (s_fk b n q 4) (s_F b n q)) ∧ w70.toInt = 0 := q70
                          refine ev_retK1 f_X12_number rfl rfl (t_rz l70 (Int.le_trans u70 (by decide : (0:Int) ≤ 1))) ?_
                          refine ev_t f_X12_passes (t1 := 74) (t2 := 46) rfl rfl rfl (t_eqT u70 l70 (by decide : (0:Int32).toInt ≤ (0:Int)) (by decide : (0:Int) ≤ (0:Int32).toInt)) ?_
                          refine ev_ic f_X12_passes (nx := 75) (v := 0) rfl (by decide) rfl ?_
                          refine ev_retK1 f_X12_passes rfl rfl rfl ?_
                          refine ev_t f_X12_aShip (t1 := 140) (t2 := 142) rfl rfl rfl (by decide) ?_
                          refine ev_ic f_X12_aShip (nx := 141) (v := 0) rfl (by decide) rfl ?_
                          exact ev_ret f_X12_aShip rfl rfl rfl ⟨_, _, _, rfl, hI, hX, ⟨_, rfl, (by decide : (0:Int) ≤ (0:Int32).toInt), (Int.le_trans (by decide : (0:Int32).toInt ≤ (0:Int)) (by decide : (0:Int) ≤ 1)), (show ∀ (b : Nat → Int32) (n q : Nat) (D : s_D), t_MS b n q D gi gl → ((0 : Int) = 1 ∧ ∃ q2 D2, s_ship b n q D = s_ok q2 D2 ∧ t_MS b n q2 D2 gi70 gl70) ∨ ((0 : Int) = 0 ∧ ∃ p x D2, x ≠ 0 ∧ s_ship b n q D = s_bad b n p x D2 ∧ t_MF gi70 (s_fk b n p x) (s_F b n p)) from (by
                                                            intro b n q D h
                                                            have d0 : (gi 70 1401).toInt = D 1 := h.2.1.2.1.1.1.2.1
                                                            have b0 := h.2.1.1.2.1
                                                            have hc0 := t_clamp (i := gi 70 1401) (by omega)
                                                            obtain ⟨_, hN, hU, t1, m1, n1⟩ := (q12 b n q D h).resolve_right (fun hh => by rcases hh with hh | hh <;> exact absurd hh.1 (by omega))
                                                            have m0 := m1
                                                            obtain ⟨_, w1, t1_, m1⟩ := (q17 b n _ t1).resolve_right (fun hh => absurd hh.1 (by omega))
                                                            have k1 := (s_mi_W (i := 7) (by decide)).mp w1
                                                            have hM := (q22 b n _ t1_).mp (by omega)
                                                            have dP : (gi17 70 1400).toInt = D 0 := by rw [(hC17.1 70 _ rfl).1, (hC12.1 70 _ rfl).1]; exact h.2.1.2.1.1.1.1
                                                            have bP := h.2.1.1.1
                                                            have cP := t_clamp (i := gi17 70 1400) (by omega)
                                                            have hz0 := t_clamp (i := z11) (by omega)
                                                            have nP : ∀ i : Nat, (i : Int) < D 0 → t_nr (gl17 71 (72 + i)) (D (200 + i)) := fun i hi => by rw [(hC17.1 71 _ rfl).2.1, n1, if_neg (by omega)]; exact h.2.1.2.2.1.1 i hi
                                                            have fP : w29.toInt = s_fp D (s_L b n (s_E b n (s_E b n (s_E b n q)))).toInt := by
                                                              unfold s_fp
                                                              rw [show (D 0).toNat = (gi17 70 1400).toNatClampNeg from (by omega)]
                                                              exact q29.1 b n _ _ _ t1_ hM (t_nr_f (base := 72) nP (by omega) hM)
                                                            have ta_ := q37 b n _ (t1_.st e30).S
                                                            have tb_ := ta_.st e39
                                                            obtain ⟨_, w2, t2_, m2⟩ := (q41 b n _ tb_).resolve_right (fun hh => absurd hh.1 (by omega))
                                                            have k2 := (s_mi_W (i := 8) (by decide)).mp w2
                                                            have v3 := t2_.vT (lo := 0) (hi := 120) (by omega) (by omega) (by omega)
                                                            have t3_ := q57 b n _ (t2_.st e56).S
                                                            obtain ⟨_, w4, t4_, m4⟩ := (q58 b n _ t3_).resolve_right (fun hh => absurd hh.1 (by omega))
                                                            have k4 := (s_mi_W (i := 9) (by decide)).mp w4
                                                            have hv := t4_.vF (lo := 1) (hi := 20) (by omega) (by omega)
                                                            exact Or.inr ⟨rfl, _, 4, D, by decide, by simp only [s_ship, s_name, s_kw, s_come, s_num, s_ifF (show ¬ D 1 = 6 by omega), s_ifT hN, s_ifF hU, s_ifT k1, s_ifT hM, s_ifF (show ¬ s_fp D (s_L b n (s_E b n (s_E b n (s_E b n q)))).toInt = -1 by omega), s_ifT k2, s_ifT v3.1.1, s_ifT v3.1, s_ifT k4, s_ifT hv.1, s_ifF hv.2], q70.1 b n _ t4_ (by rw [m4.1, (hC57.1 69 18 rfl).1, e56, x_up2_ne (by decide), m2.1, e39, x_up2_ne (by decide), (hC37.1 69 18 rfl).1, e30, x_up2_ne (by decide), m1.1, m0.1]; exact h.2.2.1)⟩))⟩⟩
                        · have l71 : 1 ≤ (gi58 69 15).toInt := t_lel (t_nlt h68) (by decide : (1:Int) ≤ (1:Int32).toInt)
                          refine ev_loc f_X12_number (nx := 23) rfl rfl rfl rfl ?_
                          refine ev_gvI f_X12_number (nx := 26) (w := (gi58 69 15)) rfl (hI.wf.s rfl) rfl rfl rfl rfl ?_
                          refine ev_loc f_X12_number (nx := 27) rfl rfl rfl rfl ?_
                          refine ev_if f_X12_number (t1 := 36) (t2 := 30) rfl rfl rfl (fun h72 => ?_) (fun h72 => ?_)
                          · have u73 : (gi58 69 15).toInt ≤ 20 := t_leu h72 (by decide : (20:Int32).toInt ≤ (20:Int))
                            refine ev_loc f_X12_number (nx := 37) rfl rfl rfl rfl ?_
                            refine ev_getR f_X12_number (nx := 40) rfl (hI.wf.s rfl) rfl rfl (hI.wf.r rfl) rfl rfl ?_
                            refine ev_loc f_X12_number (nx := 41) rfl rfl rfl rfl ?_
                            refine ev_loc f_X12_number (nx := 42) rfl rfl rfl rfl ?_
                            refine ev_gvI f_X12_number (nx := 45) (w := (gi58 69 15)) rfl (hI.wf.s rfl) rfl rfl rfl rfl ?_
                            refine ev_iastT f_X12_number (nx := 46) rfl (hI.wf.s rfl) l63 (by decide) u63 (by decide) rfl (hI.astA (x := (gi 70 1401)) (hI.wf.s rfl) (by decide +kernel : t_abwa 70 1454 5 0 5 1 20 = true) (by omega) (by omega) (by omega) l71 u73 rfl) (hX.upI (t_inR (p := 1454) (m := 1484) rfl l63 (by decide) u63 (by decide) (by decide))) (fun g74 e74 hI hX => ?_)
                            refine ev_loc f_X12_number (nx := 47) rfl rfl rfl rfl ?_
                            refine ev_qN f_X12_number (nx := 50) (r := []) rfl rfl rfl rfl rfl rfl rfl (c_n_ahead hI ) rfl hX rfl (fun gi75 gl75 gr75 hI hX hC75 q75 => ?_)
                            have q75 : ∀ (b : Nat → Int32) (n q : Nat), t_Sm b n q g74 → t_TM b n q gi75 := q75
                            refine ev_ic f_X12_number (nx := 51) (v := 1) rfl (by decide) rfl ?_
                            refine ev_retK1 f_X12_number rfl rfl rfl ?_
                            refine ev_f f_X12_passes (t1 := 74) (t2 := 46) rfl rfl rfl (by decide) ?_
                            refine ev_loc f_X12_passes (nx := 47) rfl rfl rfl rfl ?_
                            refine ev_heap f_X12_passes (nx := 49) rfl rfl rfl rfl ?_
                            refine ev_bp f_X12_passes (nx := 51) (v := 11) rfl (by decide) rfl ?_
                            refine ev_qI f_X12_passes (nx := 54) (r := []) rfl rfl rfl rfl rfl rfl rfl (c_n_wantWord hI (11)) rfl hX rfl (fun w76 gi76 gl76 gr76 l76 u76 hI hX hC76 q76 => ?_)
                            have q76 : ∀ (b : Nat → Int32) (n q : Nat), t_TM b n q gi75 → (w76.toInt = 1 ∧ s_mi (s_W b n q) = 11 ∧ t_TM b n (s_E b n q) gi76 ∧ t_mf gi75 gi76) ∨ (w76.toInt = 0 ∧ ¬ s_mi (s_W b n q) = 11 ∧ ((gi75 69 18).toInt = 0 → t_MF gi76 (s_fk b n q 2) (s_F b n q))) := q76
                            refine ev_if f_X12_passes (t1 := 74) (t2 := 57) rfl rfl rfl (fun h77 => ?_) (fun h77 => ?_)
                            · have u78 : w76.toInt ≤ 0 := t_equ h77 (by decide : (0:Int32).toInt ≤ (0:Int))
                              refine ev_ic f_X12_passes (nx := 75) (v := 0) rfl (by decide) rfl ?_
                              refine ev_retK1 f_X12_passes rfl rfl rfl ?_
                              refine ev_t f_X12_aShip (t1 := 140) (t2 := 142) rfl rfl rfl (by decide) ?_
                              refine ev_ic f_X12_aShip (nx := 141) (v := 0) rfl (by decide) rfl ?_
                              exact ev_ret f_X12_aShip rfl rfl rfl ⟨_, _, _, rfl, hI, hX, ⟨_, rfl, (by decide : (0:Int) ≤ (0:Int32).toInt), (Int.le_trans (by decide : (0:Int32).toInt ≤ (0:Int)) (by decide : (0:Int) ≤ 1)), (show ∀ (b : Nat → Int32) (n q : Nat) (D : s_D), t_MS b n q D gi gl → ((0 : Int) = 1 ∧ ∃ q2 D2, s_ship b n q D = s_ok q2 D2 ∧ t_MS b n q2 D2 gi76 gl76) ∨ ((0 : Int) = 0 ∧ ∃ p x D2, x ≠ 0 ∧ s_ship b n q D = s_bad b n p x D2 ∧ t_MF gi76 (s_fk b n p x) (s_F b n p)) from (by
                                                            intro b n q D h
                                                            have d0 : (gi 70 1401).toInt = D 1 := h.2.1.2.1.1.1.2.1
                                                            have b0 := h.2.1.1.2.1
                                                            have hc0 := t_clamp (i := gi 70 1401) (by omega)
                                                            obtain ⟨_, hN, hU, t1, m1, n1⟩ := (q12 b n q D h).resolve_right (fun hh => by rcases hh with hh | hh <;> exact absurd hh.1 (by omega))
                                                            have m0 := m1
                                                            obtain ⟨_, w1, t1_, m1⟩ := (q17 b n _ t1).resolve_right (fun hh => absurd hh.1 (by omega))
                                                            have k1 := (s_mi_W (i := 7) (by decide)).mp w1
                                                            have hM := (q22 b n _ t1_).mp (by omega)
                                                            have dP : (gi17 70 1400).toInt = D 0 := by rw [(hC17.1 70 _ rfl).1, (hC12.1 70 _ rfl).1]; exact h.2.1.2.1.1.1.1
                                                            have bP := h.2.1.1.1
                                                            have cP := t_clamp (i := gi17 70 1400) (by omega)
                                                            have hz0 := t_clamp (i := z11) (by omega)
                                                            have nP : ∀ i : Nat, (i : Int) < D 0 → t_nr (gl17 71 (72 + i)) (D (200 + i)) := fun i hi => by rw [(hC17.1 71 _ rfl).2.1, n1, if_neg (by omega)]; exact h.2.1.2.2.1.1 i hi
                                                            have fP : w29.toInt = s_fp D (s_L b n (s_E b n (s_E b n (s_E b n q)))).toInt := by
                                                              unfold s_fp
                                                              rw [show (D 0).toNat = (gi17 70 1400).toNatClampNeg from (by omega)]
                                                              exact q29.1 b n _ _ _ t1_ hM (t_nr_f (base := 72) nP (by omega) hM)
                                                            have ta_ := q37 b n _ (t1_.st e30).S
                                                            have tb_ := ta_.st e39
                                                            obtain ⟨_, w2, t2_, m2⟩ := (q41 b n _ tb_).resolve_right (fun hh => absurd hh.1 (by omega))
                                                            have k2 := (s_mi_W (i := 8) (by decide)).mp w2
                                                            have v3 := t2_.vT (lo := 0) (hi := 120) (by omega) (by omega) (by omega)
                                                            have t3_ := q57 b n _ (t2_.st e56).S
                                                            obtain ⟨_, w4, t4_, m4⟩ := (q58 b n _ t3_).resolve_right (fun hh => absurd hh.1 (by omega))
                                                            have k4 := (s_mi_W (i := 9) (by decide)).mp w4
                                                            have v5 := t4_.vT (lo := 1) (hi := 20) (by omega) (by omega) (by omega)
                                                            have t5_ := q75 b n _ (t4_.st e74).S
                                                            rcases q76 b n _ t5_ with hh | hh
                                                            · exact absurd hh.1 (by omega)
                                                            · exact Or.inr ⟨rfl, _, 2, D, by decide, by simp only [s_ship, s_name, s_kw, s_come, s_num, s_ifF (show ¬ D 1 = 6 by omega), s_ifT hN, s_ifF hU, s_ifT k1, s_ifT hM, s_ifF (show ¬ s_fp D (s_L b n (s_E b n (s_E b n (s_E b n q)))).toInt = -1 by omega), s_ifT k2, s_ifT v3.1.1, s_ifT v3.1, s_ifT k4, s_ifT v5.1.1, s_ifT v5.1, s_ifF (fun hw => hh.2.1 ((s_mi_W (i := 10) (by decide)).mpr hw))], hh.2.2 (by rw [(hC75.1 69 18 rfl).1, e74, x_up2_ne (by decide), m4.1, (hC57.1 69 18 rfl).1, e56, x_up2_ne (by decide), m2.1, e39, x_up2_ne (by decide), (hC37.1 69 18 rfl).1, e30, x_up2_ne (by decide), m1.1, m0.1]; exact h.2.2.1)⟩))⟩⟩
                            · have r79 : w76.toInt ≠ 0 := fun e => h77 (Int32.toInt_inj.mp (e.trans (by decide : (0:Int) = (0 : Int32).toInt)))
                              have l80 : 1 ≤ w76.toInt := t_nel h77 l76 rfl rfl
                              refine ev_loc f_X12_passes (nx := 58) rfl rfl rfl rfl ?_
                              refine ev_loc f_X12_passes (nx := 59) rfl rfl rfl rfl ?_
                              refine ev_ic f_X12_passes (nx := 60) (v := 2) rfl (by decide) rfl ?_
                              refine ev_addC f_X12_passes (nx := 61) (c := 2) (l := 1455) (u := 1485) rfl (by decide) l40 u40 rfl rfl (by decide) (by decide) rfl (fun z81 e81 l81 u81 => ?_)
                              refine ev_ic f_X12_passes (nx := 62) (v := 0) rfl (by decide) rfl ?_
                              refine ev_bp f_X12_passes (nx := 64) (v := 99) rfl (by decide) rfl ?_
                              refine ev_inV4 f_X12_passes (nx := 67) (lo2 := [(0, .ref 69), (1, .int z81), (2, .int 0), (3, .int 99)]) rfl rfl rfl rfl f_X12_number (hI.wf.s rfl) rfl rfl rfl rfl rfl ?_
                              refine ev_loc f_X12_number (nx := 1) rfl rfl rfl rfl ?_
                              refine ev_getI f_X12_number (nx := 4) rfl (hI.wf.s rfl) rfl rfl rfl ?_
                              obtain ⟨l82, u82⟩ := hI.b (hI.wf.s (k := 69) rfl) (t_bdK rfl : t_bd 11 12 = some (0, 4))
                              refine ev_ic f_X12_number (nx := 5) (v := 3) rfl (by decide) rfl ?_
                              refine ev_if f_X12_number (t1 := 14) (t2 := 8) rfl rfl rfl (fun h83 => ?_) (fun h83 => ?_)
                              · have u84 : (gi76 69 12).toInt ≤ 3 := t_equ h83 (by decide : (3:Int32).toInt ≤ (3:Int))
                                have l85 : 3 ≤ (gi76 69 12).toInt := t_eql h83 (by decide : (3:Int) ≤ (3:Int32).toInt)
                                refine ev_loc f_X12_number (nx := 15) rfl rfl rfl rfl ?_
                                refine ev_getI f_X12_number (nx := 18) rfl (hI.wf.s rfl) rfl rfl rfl ?_
                                refine ev_loc f_X12_number (nx := 19) rfl rfl rfl rfl ?_
                                refine ev_if f_X12_number (t1 := 30) (t2 := 22) rfl rfl rfl (fun h86 => ?_) (fun h86 => ?_)
                                · have u87 : (gi76 69 15).toInt ≤ (-1) := t_ltu h86 (by decide : (0:Int32).toInt ≤ (0:Int)) rfl
                                  refine ev_loc f_X12_number (nx := 31) rfl rfl rfl rfl ?_
                                  refine ev_ic f_X12_number (nx := 32) (v := 4) rfl (by decide) rfl ?_
                                  refine ev_qI f_X12_number (nx := 35) (r := []) rfl rfl rfl rfl rfl rfl rfl (c_n_fails hI (4) (Int.le_trans (by decide : (2:Int) ≤ 4) (by decide : (4:Int) ≤ (4:Int32).toInt)) (Int.le_trans (by decide : (4:Int32).toInt ≤ (4:Int)) (by decide : (4:Int) ≤ 7))) rfl hX rfl (fun w88 gi88 gl88 gr88 l88 u88 hI hX hC88 q88 => ?_)
                                  have q88 : (∀ (b : Nat → Int32) (n q : Nat), t_TM b n q gi76 → (gi76 69 18).toInt = 0 → t_MF gi88 (s_fk b n q 4) (s_F b n q)) ∧ w88.toInt = 0 := q88
                                  refine ev_retK1 f_X12_number rfl rfl (t_rz l88 (Int.le_trans u88 (by decide : (0:Int) ≤ 1))) ?_
                                  refine ev_t f_X12_passes (t1 := 74) (t2 := 70) rfl rfl rfl (t_eqT u88 l88 (by decide : (0:Int32).toInt ≤ (0:Int)) (by decide : (0:Int) ≤ (0:Int32).toInt)) ?_
                                  refine ev_ic f_X12_passes (nx := 75) (v := 0) rfl (by decide) rfl ?_
                                  refine ev_retK1 f_X12_passes rfl rfl rfl ?_
                                  refine ev_t f_X12_aShip (t1 := 140) (t2 := 142) rfl rfl rfl (by decide) ?_
                                  refine ev_ic f_X12_aShip (nx := 141) (v := 0) rfl (by decide) rfl ?_
                                  exact ev_ret f_X12_aShip rfl rfl rfl ⟨_, _, _, rfl, hI, hX, ⟨_, rfl, (by decide : (0:Int) ≤ (0:Int32).toInt), (Int.le_trans (by decide : (0:Int32).toInt ≤ (0:Int)) (by decide : (0:Int) ≤ 1)), (show ∀ (b : Nat → Int32) (n q : Nat) (D : s_D), t_MS b n q D gi gl → ((0 : Int) = 1 ∧ ∃ q2 D2, s_ship b n q D = s_ok q2 D2 ∧ t_MS b n q2 D2 gi88 gl88) ∨ ((0 : Int) = 0 ∧ ∃ p x D2, x ≠ 0 ∧ s_ship b n q D = s_bad b n p x D2 ∧ t_MF gi88 (s_fk b n p x) (s_F b n p)) from (by
                                                            intro b n q D h
                                                            have d0 : (gi 70 1401).toInt = D 1 := h.2.1.2.1.1.1.2.1
                                                            have b0 := h.2.1.1.2.1
                                                            have hc0 := t_clamp (i := gi 70 1401) (by omega)
                                                            obtain ⟨_, hN, hU, t1, m1, n1⟩ := (q12 b n q D h).resolve_right (fun hh => by rcases hh with hh | hh <;> exact absurd hh.1 (by omega))
                                                            have m0 := m1
                                                            obtain ⟨_, w1, t1_, m1⟩ := (q17 b n _ t1).resolve_right (fun hh => absurd hh.1 (by omega))
                                                            have k1 := (s_mi_W (i := 7) (by decide)).mp w1
                                                            have hM := (q22 b n _ t1_).mp (by omega)
                                                            have dP : (gi17 70 1400).toInt = D 0 := by rw [(hC17.1 70 _ rfl).1, (hC12.1 70 _ rfl).1]; exact h.2.1.2.1.1.1.1
                                                            have bP := h.2.1.1.1
                                                            have cP := t_clamp (i := gi17 70 1400) (by omega)
                                                            have hz0 := t_clamp (i := z11) (by omega)
                                                            have nP : ∀ i : Nat, (i : Int) < D 0 → t_nr (gl17 71 (72 + i)) (D (200 + i)) := fun i hi => by rw [(hC17.1 71 _ rfl).2.1, n1, if_neg (by omega)]; exact h.2.1.2.2.1.1 i hi
                                                            have fP : w29.toInt = s_fp D (s_L b n (s_E b n (s_E b n (s_E b n q)))).toInt := by
                                                              unfold s_fp
                                                              rw [show (D 0).toNat = (gi17 70 1400).toNatClampNeg from (by omega)]
                                                              exact q29.1 b n _ _ _ t1_ hM (t_nr_f (base := 72) nP (by omega) hM)
                                                            have ta_ := q37 b n _ (t1_.st e30).S
                                                            have tb_ := ta_.st e39
                                                            obtain ⟨_, w2, t2_, m2⟩ := (q41 b n _ tb_).resolve_right (fun hh => absurd hh.1 (by omega))
                                                            have k2 := (s_mi_W (i := 8) (by decide)).mp w2
                                                            have v3 := t2_.vT (lo := 0) (hi := 120) (by omega) (by omega) (by omega)
                                                            have t3_ := q57 b n _ (t2_.st e56).S
                                                            obtain ⟨_, w4, t4_, m4⟩ := (q58 b n _ t3_).resolve_right (fun hh => absurd hh.1 (by omega))
                                                            have k4 := (s_mi_W (i := 9) (by decide)).mp w4
                                                            have v5 := t4_.vT (lo := 1) (hi := 20) (by omega) (by omega) (by omega)
                                                            have t5_ := q75 b n _ (t4_.st e74).S
                                                            obtain ⟨_, w6, t6_, m6⟩ := (q76 b n _ t5_).resolve_right (fun hh => absurd hh.1 (by omega))
                                                            have k6 := (s_mi_W (i := 10) (by decide)).mp w6
                                                            have hv := t6_.vF (lo := 0) (hi := 99) (by omega) (by omega)
                                                            exact Or.inr ⟨rfl, _, 4, D, by decide, by simp only [s_ship, s_name, s_kw, s_come, s_num, s_ifF (show ¬ D 1 = 6 by omega), s_ifT hN, s_ifF hU, s_ifT k1, s_ifT hM, s_ifF (show ¬ s_fp D (s_L b n (s_E b n (s_E b n (s_E b n q)))).toInt = -1 by omega), s_ifT k2, s_ifT v3.1.1, s_ifT v3.1, s_ifT k4, s_ifT v5.1.1, s_ifT v5.1, s_ifT k6, s_ifT hv.1, s_ifF hv.2], q88.1 b n _ t6_ (by rw [m6.1, (hC75.1 69 18 rfl).1, e74, x_up2_ne (by decide), m4.1, (hC57.1 69 18 rfl).1, e56, x_up2_ne (by decide), m2.1, e39, x_up2_ne (by decide), (hC37.1 69 18 rfl).1, e30, x_up2_ne (by decide), m1.1, m0.1]; exact h.2.2.1)⟩))⟩⟩
                                · have l89 : 0 ≤ (gi76 69 15).toInt := t_lel (t_nlt h86) (by decide : (0:Int) ≤ (0:Int32).toInt)
                                  refine ev_loc f_X12_number (nx := 23) rfl rfl rfl rfl ?_
                                  refine ev_gvI f_X12_number (nx := 26) (w := (gi76 69 15)) rfl (hI.wf.s rfl) rfl rfl rfl rfl ?_
                                  refine ev_loc f_X12_number (nx := 27) rfl rfl rfl rfl ?_
                                  refine ev_if f_X12_number (t1 := 36) (t2 := 30) rfl rfl rfl (fun h90 => ?_) (fun h90 => ?_)
                                  · have u91 : (gi76 69 15).toInt ≤ 99 := t_leu h90 (by decide : (99:Int32).toInt ≤ (99:Int))
                                    refine ev_loc f_X12_number (nx := 37) rfl rfl rfl rfl ?_
                                    refine ev_getR f_X12_number (nx := 40) rfl (hI.wf.s rfl) rfl rfl (hI.wf.r rfl) rfl rfl ?_
                                    refine ev_loc f_X12_number (nx := 41) rfl rfl rfl rfl ?_
                                    refine ev_loc f_X12_number (nx := 42) rfl rfl rfl rfl ?_
                                    refine ev_gvI f_X12_number (nx := 45) (w := (gi76 69 15)) rfl (hI.wf.s rfl) rfl rfl rfl rfl ?_
                                    refine ev_iastT f_X12_number (nx := 46) rfl (hI.wf.s rfl) l81 (by decide) u81 (by decide) rfl (hI.astA (x := (gi 70 1401)) (hI.wf.s rfl) (by decide +kernel : t_abwa 70 1455 5 0 5 0 99 = true) (by omega) (by omega) (by omega) l89 u91 rfl) (hX.upI (t_inR (p := 1455) (m := 1485) rfl l81 (by decide) u81 (by decide) (by decide))) (fun g92 e92 hI hX => ?_)
                                    refine ev_loc f_X12_number (nx := 47) rfl rfl rfl rfl ?_
                                    refine ev_qN f_X12_number (nx := 50) (r := []) rfl rfl rfl rfl rfl rfl rfl (c_n_ahead hI ) rfl hX rfl (fun gi93 gl93 gr93 hI hX hC93 q93 => ?_)
                                    have q93 : ∀ (b : Nat → Int32) (n q : Nat), t_Sm b n q g92 → t_TM b n q gi93 := q93
                                    refine ev_ic f_X12_number (nx := 51) (v := 1) rfl (by decide) rfl ?_
                                    refine ev_retK1 f_X12_number rfl rfl rfl ?_
                                    refine ev_f f_X12_passes (t1 := 74) (t2 := 70) rfl rfl rfl (by decide) ?_
                                    refine ev_ic f_X12_passes (nx := 71) (v := 1) rfl (by decide) rfl ?_
                                    refine ev_jmp f_X12_passes (nx := 75) rfl rfl rfl ?_
                                    refine ev_retK1 f_X12_passes rfl rfl rfl ?_
                                    refine ev_f f_X12_aShip (t1 := 140) (t2 := 142) rfl rfl rfl (by decide) ?_
                                    refine ev_loc f_X12_aShip (nx := 143) rfl rfl rfl rfl ?_
                                    refine ev_heap f_X12_aShip (nx := 145) rfl rfl rfl rfl ?_
                                    refine ev_qI0 f_X12_aShip (nx := 148) (r := []) rfl rfl rfl rfl rfl rfl rfl (c_n_inWords hI ) rfl (fun w94 l94 u94 q94 => ?_)
                                    have q94 : (∀ (b : Nat → Int32) (n q : Nat), t_TM b n q gi93 → w94.toInt = s_mi (s_W b n q)) ∧ (0 ≤ w94.toInt → (gi93 69 12).toInt = 2) := q94
                                    refine ev_bp f_X12_aShip (nx := 150) (v := 12) rfl (by decide) rfl ?_
                                    refine ev_if f_X12_aShip (t1 := 153) (t2 := 166) rfl rfl rfl (fun h95 => ?_) (fun h95 => ?_)
                                    · have u96 : w94.toInt ≤ 12 := t_equ h95 (by decide : (12:Int32).toInt ≤ (12:Int))
                                      have l97 : 12 ≤ w94.toInt := t_eql h95 (by decide : (12:Int) ≤ (12:Int32).toInt)
                                      refine ev_loc f_X12_aShip (nx := 154) rfl rfl rfl rfl ?_
                                      refine ev_getR f_X12_aShip (nx := 157) rfl (hI.wf.s rfl) rfl rfl (hI.wf.r rfl) rfl rfl ?_
                                      refine ev_loc f_X12_aShip (nx := 158) rfl rfl rfl rfl ?_
                                      refine ev_ic f_X12_aShip (nx := 159) (v := 4) rfl (by decide) rfl ?_
                                      refine ev_addC f_X12_aShip (nx := 160) (c := 4) (l := 1456) (u := 1486) rfl (by decide) l3 u3 rfl rfl (by decide) (by decide) rfl (fun z98 e98 l98 u98 => ?_)
                                      refine ev_ic f_X12_aShip (nx := 161) (v := 1) rfl (by decide) rfl ?_
                                      refine ev_iastT f_X12_aShip (nx := 162) rfl (hI.wf.s rfl) l98 (by decide) u98 (by decide) rfl (hI.astA (x := (gi 70 1401)) (hI.wf.s rfl) (by decide +kernel : t_abwa 70 1456 5 0 5 1 1 = true) (by omega) (by omega) (by omega) (by decide : (1:Int) ≤ (1:Int32).toInt) (by decide : (1:Int32).toInt ≤ (1:Int)) rfl) (hX.upI (t_inR (p := 1456) (m := 1486) rfl l98 (by decide) u98 (by decide) (by decide))) (fun g99 e99 hI hX => ?_)
                                      refine ev_loc f_X12_aShip (nx := 163) rfl rfl rfl rfl ?_
                                      refine ev_qN f_X12_aShip (nx := 166) (r := []) rfl rfl rfl rfl rfl rfl rfl (c_n_ahead hI ) rfl hX rfl (fun gi100 gl100 gr100 hI hX hC100 q100 => ?_)
                                      have q100 : ∀ (b : Nat → Int32) (n q : Nat), t_Sm b n q g99 → t_TM b n q gi100 := q100
                                      refine ev_loc f_X12_aShip (nx := 167) rfl rfl rfl rfl ?_
                                      refine ev_getR f_X12_aShip (nx := 170) rfl (hI.wf.s rfl) rfl rfl (hI.wf.r rfl) rfl rfl ?_
                                      refine ev_sp f_X12_aShip (nx := 173) (v := 1401) rfl (by decide) rfl ?_
                                      refine ev_alu f_X12_aShip (nx := 174) rfl rfl rfl rfl ?_
                                      refine ev_ialdv f_X12_aShip (nx := 175) (w := (gi 70 1401)) rfl (hI.wf.s rfl) (by decide) (rfl : (1401 : Int32).toNatClampNeg = 1401) (by decide) ((hC100.1 70 1401 rfl).1.trans ((by rw [e99]; exact x_up2_off (Or.inr (t_neCl l98 (by decide))) : g99 70 1401 = gi93 70 1401).trans ((hC93.1 70 1401 rfl).1.trans ((by rw [e92]; exact x_up2_off (Or.inr (t_neCl l81 (by decide))) : g92 70 1401 = gi76 70 1401).trans ((hC76.1 70 1401 rfl).1.trans ((hC75.1 70 1401 rfl).1.trans ((by rw [e74]; exact x_up2_off (Or.inr (t_neCl l63 (by decide))) : g74 70 1401 = gi58 70 1401).trans ((hC58.1 70 1401 rfl).1.trans ((hC57.1 70 1401 rfl).1.trans ((by rw [e56]; exact x_up2_off (Or.inr (t_neCl l40 (by decide))) : g56 70 1401 = gi41 70 1401).trans ((hC41.1 70 1401 rfl).1.trans ((by rw [e39]; exact x_up2_off (Or.inr (t_neCl l38 (by decide))) : g39 70 1401 = gi37 70 1401).trans ((hC37.1 70 1401 rfl).1.trans ((by rw [e30]; exact x_up2_off (Or.inr (t_neCl l3 (by decide))) : g30 70 1401 = gi17 70 1401).trans ((hC17.1 70 1401 rfl).1.trans ((hC12.1 70 1401 rfl).1.trans rfl)))))))))))))))) rfl ?_
                                      refine ev_ic f_X12_aShip (nx := 176) (v := 1) rfl (by decide) rfl ?_
                                      refine ev_addC f_X12_aShip (nx := 177) (c := 1) (l := 1) (u := 6) rfl (by decide) l1 u9 rfl rfl (by decide) (by decide) rfl (fun z102 e102 l102 u102 => ?_)
                                      refine ev_iastT f_X12_aShip (nx := 178) rfl (hI.wf.s rfl) (by decide : (1401:Int) ≤ (1401:Int32).toInt) (by decide) (by decide : (1401:Int32).toInt ≤ (1401:Int)) (by decide) rfl (hI.astL (hI.wf.s rfl) (by decide +kernel : t_abw 70 1401 1401 1 6 = true) (t_cl1 (by decide : (1401:Int) ≤ (1401:Int32).toInt) (by decide)) (t_cl2 (by decide : (1401:Int) ≤ (1401:Int32).toInt) (by decide : (1401:Int32).toInt ≤ (1401:Int)) (by decide) (by decide)) l102 u102 rfl) (hX.upI (t_inR (p := 1401) (m := 1401) rfl (by decide : (1401:Int) ≤ (1401:Int32).toInt) (by decide) (by decide : (1401:Int32).toInt ≤ (1401:Int)) (by decide) (by decide))) (fun g103 e103 hI hX => ?_)
                                      refine ev_ic f_X12_aShip (nx := 179) (v := 1) rfl (by decide) rfl ?_
                                      exact ev_ret f_X12_aShip rfl rfl rfl ⟨_, _, _, rfl, hI, hX, ⟨_, rfl, (Int.le_trans (by decide : (0:Int) ≤ 1) (by decide : (1:Int) ≤ (1:Int32).toInt)), (by decide : (1:Int32).toInt ≤ (1:Int)), (show ∀ (b : Nat → Int32) (n q : Nat) (D : s_D), t_MS b n q D gi gl → ((1 : Int) = 1 ∧ ∃ q2 D2, s_ship b n q D = s_ok q2 D2 ∧ t_MS b n q2 D2 g103 gl100) ∨ ((1 : Int) = 0 ∧ ∃ p x D2, x ≠ 0 ∧ s_ship b n q D = s_bad b n p x D2 ∧ t_MF g103 (s_fk b n p x) (s_F b n p)) from (by
                                                            intro b n q D h
                                                            have d0 : (gi 70 1401).toInt = D 1 := h.2.1.2.1.1.1.2.1
                                                            have b0 := h.2.1.1.2.1
                                                            have hc0 := t_clamp (i := gi 70 1401) (by omega)
                                                            obtain ⟨_, hN, hU, t1, m1, n1⟩ := (q12 b n q D h).resolve_right (fun hh => by rcases hh with hh | hh <;> exact absurd hh.1 (by omega))
                                                            have m0 := m1
                                                            obtain ⟨_, w1, t1_, m1⟩ := (q17 b n _ t1).resolve_right (fun hh => absurd hh.1 (by omega))
                                                            have k1 := (s_mi_W (i := 7) (by decide)).mp w1
                                                            have hM := (q22 b n _ t1_).mp (by omega)
                                                            have dP : (gi17 70 1400).toInt = D 0 := by rw [(hC17.1 70 _ rfl).1, (hC12.1 70 _ rfl).1]; exact h.2.1.2.1.1.1.1
                                                            have bP := h.2.1.1.1
                                                            have cP := t_clamp (i := gi17 70 1400) (by omega)
                                                            have hz0 := t_clamp (i := z11) (by omega)
                                                            have nP : ∀ i : Nat, (i : Int) < D 0 → t_nr (gl17 71 (72 + i)) (D (200 + i)) := fun i hi => by rw [(hC17.1 71 _ rfl).2.1, n1, if_neg (by omega)]; exact h.2.1.2.2.1.1 i hi
                                                            have fP : w29.toInt = s_fp D (s_L b n (s_E b n (s_E b n (s_E b n q)))).toInt := by
                                                              unfold s_fp
                                                              rw [show (D 0).toNat = (gi17 70 1400).toNatClampNeg from (by omega)]
                                                              exact q29.1 b n _ _ _ t1_ hM (t_nr_f (base := 72) nP (by omega) hM)
                                                            have ta_ := q37 b n _ (t1_.st e30).S
                                                            have tb_ := ta_.st e39
                                                            obtain ⟨_, w2, t2_, m2⟩ := (q41 b n _ tb_).resolve_right (fun hh => absurd hh.1 (by omega))
                                                            have k2 := (s_mi_W (i := 8) (by decide)).mp w2
                                                            have v3 := t2_.vT (lo := 0) (hi := 120) (by omega) (by omega) (by omega)
                                                            have t3_ := q57 b n _ (t2_.st e56).S
                                                            obtain ⟨_, w4, t4_, m4⟩ := (q58 b n _ t3_).resolve_right (fun hh => absurd hh.1 (by omega))
                                                            have k4 := (s_mi_W (i := 9) (by decide)).mp w4
                                                            have v5 := t4_.vT (lo := 1) (hi := 20) (by omega) (by omega) (by omega)
                                                            have t5_ := q75 b n _ (t4_.st e74).S
                                                            obtain ⟨_, w6, t6_, m6⟩ := (q76 b n _ t5_).resolve_right (fun hh => absurd hh.1 (by omega))
                                                            have k6 := (s_mi_W (i := 10) (by decide)).mp w6
                                                            have v7 := t6_.vT (lo := 0) (hi := 99) (by omega) (by omega) (by omega)
                                                            have t7_ := q93 b n _ (t6_.st e92).S
                                                            have hS := (s_mi_W (i := 11) (by decide)).mp (show s_mi (s_W b n _) = s_mil.getD 11 0 from (by rw [← q94.1 b n _ t7_]; show w94.toInt = 12; omega))
                                                            have tc_ := q100 b n _ (t7_.st e99).S
                                                            have cl0_ := t_clamp (i := z3) (by omega)
                                                            have cl1_ := t_clamp (i := z38) (by omega)
                                                            have cl2_ := t_clamp (i := z40) (by omega)
                                                            have cl3_ := t_clamp (i := z63) (by omega)
                                                            have cl4_ := t_clamp (i := z81) (by omega)
                                                            have cl5_ := t_clamp (i := z98) (by omega)
                                                            have kc1401_ : (1401 : Int32).toNatClampNeg = 1401 := rfl
                                                            have y0 : g103 70 (1452 + 5 * (gi 70 1401).toNatClampNeg) = w29 := by
                                                              rw [e103, x_up2_off (Or.inr (by omega)), (hC100.1 70 _ rfl).1, e99, x_up2_off (Or.inr (by omega)), (hC93.1 70 _ rfl).1, e92, x_up2_off (Or.inr (by omega)), (hC76.1 70 _ rfl).1, (hC75.1 70 _ rfl).1, e74, x_up2_off (Or.inr (by omega)), (hC58.1 70 _ rfl).1, (hC57.1 70 _ rfl).1, e56, x_up2_off (Or.inr (by omega)), (hC41.1 70 _ rfl).1, e39, x_up2_off (Or.inr (by omega)), (hC37.1 70 _ rfl).1, e30]
                                                              rw [show 1452 + 5 * (gi 70 1401).toNatClampNeg = z3.toNatClampNeg from (by omega), x_up2_at]
                                                            have y1 : g103 70 (1453 + 5 * (gi 70 1401).toNatClampNeg) = (gi41 69 15) := by
                                                              rw [e103, x_up2_off (Or.inr (by omega)), (hC100.1 70 _ rfl).1, e99, x_up2_off (Or.inr (by omega)), (hC93.1 70 _ rfl).1, e92, x_up2_off (Or.inr (by omega)), (hC76.1 70 _ rfl).1, (hC75.1 70 _ rfl).1, e74, x_up2_off (Or.inr (by omega)), (hC58.1 70 _ rfl).1, (hC57.1 70 _ rfl).1, e56]
                                                              rw [show 1453 + 5 * (gi 70 1401).toNatClampNeg = z40.toNatClampNeg from (by omega), x_up2_at]
                                                            have y2 : g103 70 (1454 + 5 * (gi 70 1401).toNatClampNeg) = (gi58 69 15) := by
                                                              rw [e103, x_up2_off (Or.inr (by omega)), (hC100.1 70 _ rfl).1, e99, x_up2_off (Or.inr (by omega)), (hC93.1 70 _ rfl).1, e92, x_up2_off (Or.inr (by omega)), (hC76.1 70 _ rfl).1, (hC75.1 70 _ rfl).1, e74]
                                                              rw [show 1454 + 5 * (gi 70 1401).toNatClampNeg = z63.toNatClampNeg from (by omega), x_up2_at]
                                                            have y3 : g103 70 (1455 + 5 * (gi 70 1401).toNatClampNeg) = (gi76 69 15) := by
                                                              rw [e103, x_up2_off (Or.inr (by omega)), (hC100.1 70 _ rfl).1, e99, x_up2_off (Or.inr (by omega)), (hC93.1 70 _ rfl).1, e92]
                                                              rw [show 1455 + 5 * (gi 70 1401).toNatClampNeg = z81.toNatClampNeg from (by omega), x_up2_at]
                                                            have y4 : g103 70 (1456 + 5 * (gi 70 1401).toNatClampNeg) = (1 : Int32) := by
                                                              rw [e103, x_up2_off (Or.inr (by omega)), (hC100.1 70 _ rfl).1, e99]
                                                              rw [show 1456 + 5 * (gi 70 1401).toNatClampNeg = z98.toNatClampNeg from (by omega), x_up2_at]
                                                            have yr : ∀ j, j ≠ 1401 → (j < 1452 + 5 * (gi 70 1401).toNatClampNeg ∨ 1457 + 5 * (gi 70 1401).toNatClampNeg ≤ j) → g103 70 j = gi 70 j := fun j j1 j2 => by
                                                              rw [e103, x_up2_off (Or.inr (by omega)), (hC100.1 70 _ rfl).1, e99, x_up2_off (Or.inr (by omega)), (hC93.1 70 _ rfl).1, e92, x_up2_off (Or.inr (by omega)), (hC76.1 70 _ rfl).1, (hC75.1 70 _ rfl).1, e74, x_up2_off (Or.inr (by omega)), (hC58.1 70 _ rfl).1, (hC57.1 70 _ rfl).1, e56, x_up2_off (Or.inr (by omega)), (hC41.1 70 _ rfl).1, e39, x_up2_off (Or.inr (by omega)), (hC37.1 70 _ rfl).1, e30, x_up2_off (Or.inr (by omega)), (hC17.1 70 _ rfl).1, (hC12.1 70 _ rfl).1]
                                                            have yc : (g103 70 1401).toInt = D 1 + 1 := by
                                                              rw [e103, kc1401_, x_up2_at]; omega
                                                            have yl : ∀ j : Nat, gl100 71 j = gl12 71 j := fun j => by rw [(hC100.1 71 j rfl).2.1, (hC93.1 71 j rfl).2.1, (hC76.1 71 j rfl).2.1, (hC75.1 71 j rfl).2.1, (hC58.1 71 j rfl).2.1, (hC57.1 71 j rfl).2.1, (hC41.1 71 j rfl).2.1, (hC37.1 71 j rfl).2.1, (hC17.1 71 j rfl).2.1]
                                                            exact Or.inl ⟨rfl, _, _, by simp only [s_ship, s_name, s_kw, s_come, s_num, s_ifF (show ¬ D 1 = 6 by omega), s_ifT hN, s_ifF hU, s_ifT k1, s_ifT hM, s_ifF (show ¬ s_fp D (s_L b n (s_E b n (s_E b n (s_E b n q)))).toInt = -1 by omega), s_ifT k2, s_ifT v3.1.1, s_ifT v3.1, s_ifT k4, s_ifT v5.1.1, s_ifT v5.1, s_ifT k6, s_ifT v7.1.1, s_ifT v7.1, s_ifT hS], t_MS_ship h (by omega) hN (tc_.st e103) ⟨by rw [e103, x_up2_ne (by decide), (hC100.1 69 18 rfl).1, e99, x_up2_ne (by decide), (hC93.1 69 18 rfl).1, e92, x_up2_ne (by decide), m6.1, (hC75.1 69 18 rfl).1, e74, x_up2_ne (by decide), m4.1, (hC57.1 69 18 rfl).1, e56, x_up2_ne (by decide), m2.1, e39, x_up2_ne (by decide), (hC37.1 69 18 rfl).1, e30, x_up2_ne (by decide), m1.1, m0.1], by rw [e103, x_up2_ne (by decide), (hC100.1 69 17 rfl).1, e99, x_up2_ne (by decide), (hC93.1 69 17 rfl).1, e92, x_up2_ne (by decide), m6.2, (hC75.1 69 17 rfl).1, e74, x_up2_ne (by decide), m4.2, (hC57.1 69 17 rfl).1, e56, x_up2_ne (by decide), m2.2, e39, x_up2_ne (by decide), (hC37.1 69 17 rfl).1, e30, x_up2_ne (by decide), m1.2, m0.2]⟩ (d := (gi 70 1401).toNatClampNeg) (by omega) yr yc ((congrArg Int32.toInt y0).trans fP) ((congrArg Int32.toInt y1).trans v3.2) ((congrArg Int32.toInt y2).trans v5.2) ((congrArg Int32.toInt y3).trans v7.2) ((congrArg Int32.toInt y4).trans (show (1 : Int32).toInt = (1 : Int) from rfl)) (fun j => by rw [yl, n1 j, show 72 + z11.toNatClampNeg = 78 + (gi 70 1401).toNatClampNeg from (by omega)]) (by rw [e103, x_up2_ne (by decide), (hC100.1 69 20 rfl).1, e99, x_up2_ne (by decide), (hC93.1 69 20 rfl).1, e92, x_up2_ne (by decide), (hC76.1 69 20 rfl).1, (hC75.1 69 20 rfl).1, e74, x_up2_ne (by decide), (hC58.1 69 20 rfl).1, (hC57.1 69 20 rfl).1, e56, x_up2_ne (by decide), (hC41.1 69 20 rfl).1, e39, x_up2_ne (by decide), (hC37.1 69 20 rfl).1, e30, x_up2_ne (by decide), (hC17.1 69 20 rfl).1, (hC12.1 69 20 rfl).1])⟩))⟩⟩
                                    · have r104 : w94.toInt ≠ 12 := fun e => h95 (Int32.toInt_inj.mp (e.trans (by decide : (12:Int) = (12 : Int32).toInt)))
                                      refine ev_loc f_X12_aShip (nx := 167) rfl rfl rfl rfl ?_
                                      refine ev_getR f_X12_aShip (nx := 170) rfl (hI.wf.s rfl) rfl rfl (hI.wf.r rfl) rfl rfl ?_
                                      refine ev_sp f_X12_aShip (nx := 173) (v := 1401) rfl (by decide) rfl ?_
                                      refine ev_alu f_X12_aShip (nx := 174) rfl rfl rfl rfl ?_
                                      refine ev_ialdv f_X12_aShip (nx := 175) (w := (gi 70 1401)) rfl (hI.wf.s rfl) (by decide) (rfl : (1401 : Int32).toNatClampNeg = 1401) (by decide) ((hC93.1 70 1401 rfl).1.trans ((by rw [e92]; exact x_up2_off (Or.inr (t_neCl l81 (by decide))) : g92 70 1401 = gi76 70 1401).trans ((hC76.1 70 1401 rfl).1.trans ((hC75.1 70 1401 rfl).1.trans ((by rw [e74]; exact x_up2_off (Or.inr (t_neCl l63 (by decide))) : g74 70 1401 = gi58 70 1401).trans ((hC58.1 70 1401 rfl).1.trans ((hC57.1 70 1401 rfl).1.trans ((by rw [e56]; exact x_up2_off (Or.inr (t_neCl l40 (by decide))) : g56 70 1401 = gi41 70 1401).trans ((hC41.1 70 1401 rfl).1.trans ((by rw [e39]; exact x_up2_off (Or.inr (t_neCl l38 (by decide))) : g39 70 1401 = gi37 70 1401).trans ((hC37.1 70 1401 rfl).1.trans ((by rw [e30]; exact x_up2_off (Or.inr (t_neCl l3 (by decide))) : g30 70 1401 = gi17 70 1401).trans ((hC17.1 70 1401 rfl).1.trans ((hC12.1 70 1401 rfl).1.trans rfl)))))))))))))) rfl ?_
                                      refine ev_ic f_X12_aShip (nx := 176) (v := 1) rfl (by decide) rfl ?_
                                      refine ev_addC f_X12_aShip (nx := 177) (c := 1) (l := 1) (u := 6) rfl (by decide) l1 u9 rfl rfl (by decide) (by decide) rfl (fun z106 e106 l106 u106 => ?_)
                                      refine ev_iastT f_X12_aShip (nx := 178) rfl (hI.wf.s rfl) (by decide : (1401:Int) ≤ (1401:Int32).toInt) (by decide) (by decide : (1401:Int32).toInt ≤ (1401:Int)) (by decide) rfl (hI.astL (hI.wf.s rfl) (by decide +kernel : t_abw 70 1401 1401 1 6 = true) (t_cl1 (by decide : (1401:Int) ≤ (1401:Int32).toInt) (by decide)) (t_cl2 (by decide : (1401:Int) ≤ (1401:Int32).toInt) (by decide : (1401:Int32).toInt ≤ (1401:Int)) (by decide) (by decide)) l106 u106 rfl) (hX.upI (t_inR (p := 1401) (m := 1401) rfl (by decide : (1401:Int) ≤ (1401:Int32).toInt) (by decide) (by decide : (1401:Int32).toInt ≤ (1401:Int)) (by decide) (by decide))) (fun g107 e107 hI hX => ?_)
                                      refine ev_ic f_X12_aShip (nx := 179) (v := 1) rfl (by decide) rfl ?_
                                      exact ev_ret f_X12_aShip rfl rfl rfl ⟨_, _, _, rfl, hI, hX, ⟨_, rfl, (Int.le_trans (by decide : (0:Int) ≤ 1) (by decide : (1:Int) ≤ (1:Int32).toInt)), (by decide : (1:Int32).toInt ≤ (1:Int)), (show ∀ (b : Nat → Int32) (n q : Nat) (D : s_D), t_MS b n q D gi gl → ((1 : Int) = 1 ∧ ∃ q2 D2, s_ship b n q D = s_ok q2 D2 ∧ t_MS b n q2 D2 g107 gl93) ∨ ((1 : Int) = 0 ∧ ∃ p x D2, x ≠ 0 ∧ s_ship b n q D = s_bad b n p x D2 ∧ t_MF g107 (s_fk b n p x) (s_F b n p)) from (by
                                                            intro b n q D h
                                                            have d0 : (gi 70 1401).toInt = D 1 := h.2.1.2.1.1.1.2.1
                                                            have b0 := h.2.1.1.2.1
                                                            have hc0 := t_clamp (i := gi 70 1401) (by omega)
                                                            obtain ⟨_, hN, hU, t1, m1, n1⟩ := (q12 b n q D h).resolve_right (fun hh => by rcases hh with hh | hh <;> exact absurd hh.1 (by omega))
                                                            have m0 := m1
                                                            obtain ⟨_, w1, t1_, m1⟩ := (q17 b n _ t1).resolve_right (fun hh => absurd hh.1 (by omega))
                                                            have k1 := (s_mi_W (i := 7) (by decide)).mp w1
                                                            have hM := (q22 b n _ t1_).mp (by omega)
                                                            have dP : (gi17 70 1400).toInt = D 0 := by rw [(hC17.1 70 _ rfl).1, (hC12.1 70 _ rfl).1]; exact h.2.1.2.1.1.1.1
                                                            have bP := h.2.1.1.1
                                                            have cP := t_clamp (i := gi17 70 1400) (by omega)
                                                            have hz0 := t_clamp (i := z11) (by omega)
                                                            have nP : ∀ i : Nat, (i : Int) < D 0 → t_nr (gl17 71 (72 + i)) (D (200 + i)) := fun i hi => by rw [(hC17.1 71 _ rfl).2.1, n1, if_neg (by omega)]; exact h.2.1.2.2.1.1 i hi
                                                            have fP : w29.toInt = s_fp D (s_L b n (s_E b n (s_E b n (s_E b n q)))).toInt := by
                                                              unfold s_fp
                                                              rw [show (D 0).toNat = (gi17 70 1400).toNatClampNeg from (by omega)]
                                                              exact q29.1 b n _ _ _ t1_ hM (t_nr_f (base := 72) nP (by omega) hM)
                                                            have ta_ := q37 b n _ (t1_.st e30).S
                                                            have tb_ := ta_.st e39
                                                            obtain ⟨_, w2, t2_, m2⟩ := (q41 b n _ tb_).resolve_right (fun hh => absurd hh.1 (by omega))
                                                            have k2 := (s_mi_W (i := 8) (by decide)).mp w2
                                                            have v3 := t2_.vT (lo := 0) (hi := 120) (by omega) (by omega) (by omega)
                                                            have t3_ := q57 b n _ (t2_.st e56).S
                                                            obtain ⟨_, w4, t4_, m4⟩ := (q58 b n _ t3_).resolve_right (fun hh => absurd hh.1 (by omega))
                                                            have k4 := (s_mi_W (i := 9) (by decide)).mp w4
                                                            have v5 := t4_.vT (lo := 1) (hi := 20) (by omega) (by omega) (by omega)
                                                            have t5_ := q75 b n _ (t4_.st e74).S
                                                            obtain ⟨_, w6, t6_, m6⟩ := (q76 b n _ t5_).resolve_right (fun hh => absurd hh.1 (by omega))
                                                            have k6 := (s_mi_W (i := 10) (by decide)).mp w6
                                                            have v7 := t6_.vT (lo := 0) (hi := 99) (by omega) (by omega) (by omega)
                                                            have t7_ := q93 b n _ (t6_.st e92).S
                                                            have hS : ¬ s_W b n _ = some 11 := fun hw => absurd ((q94.1 b n _ t7_).trans ((s_mi_W (i := 11) (by decide)).mpr hw)) (show ¬ w94.toInt = 12 by omega)
                                                            have cl0_ := t_clamp (i := z3) (by omega)
                                                            have cl1_ := t_clamp (i := z38) (by omega)
                                                            have cl2_ := t_clamp (i := z40) (by omega)
                                                            have cl3_ := t_clamp (i := z63) (by omega)
                                                            have cl4_ := t_clamp (i := z81) (by omega)
                                                            have kc1401_ : (1401 : Int32).toNatClampNeg = 1401 := rfl
                                                            have y0 : g107 70 (1452 + 5 * (gi 70 1401).toNatClampNeg) = w29 := by
                                                              rw [e107, x_up2_off (Or.inr (by omega)), (hC93.1 70 _ rfl).1, e92, x_up2_off (Or.inr (by omega)), (hC76.1 70 _ rfl).1, (hC75.1 70 _ rfl).1, e74, x_up2_off (Or.inr (by omega)), (hC58.1 70 _ rfl).1, (hC57.1 70 _ rfl).1, e56, x_up2_off (Or.inr (by omega)), (hC41.1 70 _ rfl).1, e39, x_up2_off (Or.inr (by omega)), (hC37.1 70 _ rfl).1, e30]
                                                              rw [show 1452 + 5 * (gi 70 1401).toNatClampNeg = z3.toNatClampNeg from (by omega), x_up2_at]
                                                            have y1 : g107 70 (1453 + 5 * (gi 70 1401).toNatClampNeg) = (gi41 69 15) := by
                                                              rw [e107, x_up2_off (Or.inr (by omega)), (hC93.1 70 _ rfl).1, e92, x_up2_off (Or.inr (by omega)), (hC76.1 70 _ rfl).1, (hC75.1 70 _ rfl).1, e74, x_up2_off (Or.inr (by omega)), (hC58.1 70 _ rfl).1, (hC57.1 70 _ rfl).1, e56]
                                                              rw [show 1453 + 5 * (gi 70 1401).toNatClampNeg = z40.toNatClampNeg from (by omega), x_up2_at]
                                                            have y2 : g107 70 (1454 + 5 * (gi 70 1401).toNatClampNeg) = (gi58 69 15) := by
                                                              rw [e107, x_up2_off (Or.inr (by omega)), (hC93.1 70 _ rfl).1, e92, x_up2_off (Or.inr (by omega)), (hC76.1 70 _ rfl).1, (hC75.1 70 _ rfl).1, e74]
                                                              rw [show 1454 + 5 * (gi 70 1401).toNatClampNeg = z63.toNatClampNeg from (by omega), x_up2_at]
                                                            have y3 : g107 70 (1455 + 5 * (gi 70 1401).toNatClampNeg) = (gi76 69 15) := by
                                                              rw [e107, x_up2_off (Or.inr (by omega)), (hC93.1 70 _ rfl).1, e92]
                                                              rw [show 1455 + 5 * (gi 70 1401).toNatClampNeg = z81.toNatClampNeg from (by omega), x_up2_at]
                                                            have y4 : g107 70 (1456 + 5 * (gi 70 1401).toNatClampNeg) = (0 : Int32) := by
                                                              rw [e107, x_up2_off (Or.inr (by omega)), (hC93.1 70 _ rfl).1, e92, x_up2_off (Or.inr (by omega)), (hC76.1 70 _ rfl).1, (hC75.1 70 _ rfl).1, e74, x_up2_off (Or.inr (by omega)), (hC58.1 70 _ rfl).1, (hC57.1 70 _ rfl).1, e56, x_up2_off (Or.inr (by omega)), (hC41.1 70 _ rfl).1, e39]
                                                              rw [show 1456 + 5 * (gi 70 1401).toNatClampNeg = z38.toNatClampNeg from (by omega), x_up2_at]
                                                            have yr : ∀ j, j ≠ 1401 → (j < 1452 + 5 * (gi 70 1401).toNatClampNeg ∨ 1457 + 5 * (gi 70 1401).toNatClampNeg ≤ j) → g107 70 j = gi 70 j := fun j j1 j2 => by
                                                              rw [e107, x_up2_off (Or.inr (by omega)), (hC93.1 70 _ rfl).1, e92, x_up2_off (Or.inr (by omega)), (hC76.1 70 _ rfl).1, (hC75.1 70 _ rfl).1, e74, x_up2_off (Or.inr (by omega)), (hC58.1 70 _ rfl).1, (hC57.1 70 _ rfl).1, e56, x_up2_off (Or.inr (by omega)), (hC41.1 70 _ rfl).1, e39, x_up2_off (Or.inr (by omega)), (hC37.1 70 _ rfl).1, e30, x_up2_off (Or.inr (by omega)), (hC17.1 70 _ rfl).1, (hC12.1 70 _ rfl).1]
                                                            have yc : (g107 70 1401).toInt = D 1 + 1 := by
                                                              rw [e107, kc1401_, x_up2_at]; omega
                                                            have yl : ∀ j : Nat, gl93 71 j = gl12 71 j := fun j => by rw [(hC93.1 71 j rfl).2.1, (hC76.1 71 j rfl).2.1, (hC75.1 71 j rfl).2.1, (hC58.1 71 j rfl).2.1, (hC57.1 71 j rfl).2.1, (hC41.1 71 j rfl).2.1, (hC37.1 71 j rfl).2.1, (hC17.1 71 j rfl).2.1]
                                                            exact Or.inl ⟨rfl, _, _, by simp only [s_ship, s_name, s_kw, s_come, s_num, s_ifF (show ¬ D 1 = 6 by omega), s_ifT hN, s_ifF hU, s_ifT k1, s_ifT hM, s_ifF (show ¬ s_fp D (s_L b n (s_E b n (s_E b n (s_E b n q)))).toInt = -1 by omega), s_ifT k2, s_ifT v3.1.1, s_ifT v3.1, s_ifT k4, s_ifT v5.1.1, s_ifT v5.1, s_ifT k6, s_ifT v7.1.1, s_ifT v7.1, s_ifF hS], t_MS_ship h (by omega) hN (t7_.st e107) ⟨by rw [e107, x_up2_ne (by decide), (hC93.1 69 18 rfl).1, e92, x_up2_ne (by decide), m6.1, (hC75.1 69 18 rfl).1, e74, x_up2_ne (by decide), m4.1, (hC57.1 69 18 rfl).1, e56, x_up2_ne (by decide), m2.1, e39, x_up2_ne (by decide), (hC37.1 69 18 rfl).1, e30, x_up2_ne (by decide), m1.1, m0.1], by rw [e107, x_up2_ne (by decide), (hC93.1 69 17 rfl).1, e92, x_up2_ne (by decide), m6.2, (hC75.1 69 17 rfl).1, e74, x_up2_ne (by decide), m4.2, (hC57.1 69 17 rfl).1, e56, x_up2_ne (by decide), m2.2, e39, x_up2_ne (by decide), (hC37.1 69 17 rfl).1, e30, x_up2_ne (by decide), m1.2, m0.2]⟩ (d := (gi 70 1401).toNatClampNeg) (by omega) yr yc ((congrArg Int32.toInt y0).trans fP) ((congrArg Int32.toInt y1).trans v3.2) ((congrArg Int32.toInt y2).trans v5.2) ((congrArg Int32.toInt y3).trans v7.2) ((congrArg Int32.toInt y4).trans (show (0 : Int32).toInt = (0 : Int) from rfl)) (fun j => by rw [yl, n1 j, show 72 + z11.toNatClampNeg = 78 + (gi 70 1401).toNatClampNeg from (by omega)]) (by rw [e107, x_up2_ne (by decide), (hC93.1 69 20 rfl).1, e92, x_up2_ne (by decide), (hC76.1 69 20 rfl).1, (hC75.1 69 20 rfl).1, e74, x_up2_ne (by decide), (hC58.1 69 20 rfl).1, (hC57.1 69 20 rfl).1, e56, x_up2_ne (by decide), (hC41.1 69 20 rfl).1, e39, x_up2_ne (by decide), (hC37.1 69 20 rfl).1, e30, x_up2_ne (by decide), (hC17.1 69 20 rfl).1, (hC12.1 69 20 rfl).1])⟩))⟩⟩
                                  · have l108 : 100 ≤ (gi76 69 15).toInt := t_ltl (t_nle h90) (by decide : (99:Int) ≤ (99:Int32).toInt) rfl
                                    refine ev_loc f_X12_number (nx := 31) rfl rfl rfl rfl ?_
                                    refine ev_ic f_X12_number (nx := 32) (v := 4) rfl (by decide) rfl ?_
                                    refine ev_qI f_X12_number (nx := 35) (r := []) rfl rfl rfl rfl rfl rfl rfl (c_n_fails hI (4) (Int.le_trans (by decide : (2:Int) ≤ 4) (by decide : (4:Int) ≤ (4:Int32).toInt)) (Int.le_trans (by decide : (4:Int32).toInt ≤ (4:Int)) (by decide : (4:Int) ≤ 7))) rfl hX rfl (fun w109 gi109 gl109 gr109 l109 u109 hI hX hC109 q109 => ?_)
                                    have q109 : (∀ (b : Nat → Int32) (n q : Nat), t_TM b n q gi76 → (gi76 69 18).toInt = 0 → t_MF gi109 (s_fk b n q 4) (s_F b n q)) ∧ w109.toInt = 0 := q109
                                    refine ev_retK1 f_X12_number rfl rfl (t_rz l109 (Int.le_trans u109 (by decide : (0:Int) ≤ 1))) ?_
                                    refine ev_t f_X12_passes (t1 := 74) (t2 := 70) rfl rfl rfl (t_eqT u109 l109 (by decide : (0:Int32).toInt ≤ (0:Int)) (by decide : (0:Int) ≤ (0:Int32).toInt)) ?_
                                    refine ev_ic f_X12_passes (nx := 75) (v := 0) rfl (by decide) rfl ?_
                                    refine ev_retK1 f_X12_passes rfl rfl rfl ?_
                                    refine ev_t f_X12_aShip (t1 := 140) (t2 := 142) rfl rfl rfl (by decide) ?_
                                    refine ev_ic f_X12_aShip (nx := 141) (v := 0) rfl (by decide) rfl ?_
                                    exact ev_ret f_X12_aShip rfl rfl rfl ⟨_, _, _, rfl, hI, hX, ⟨_, rfl, (by decide : (0:Int) ≤ (0:Int32).toInt), (Int.le_trans (by decide : (0:Int32).toInt ≤ (0:Int)) (by decide : (0:Int) ≤ 1)), (show ∀ (b : Nat → Int32) (n q : Nat) (D : s_D), t_MS b n q D gi gl → ((0 : Int) = 1 ∧ ∃ q2 D2, s_ship b n q D = s_ok q2 D2 ∧ t_MS b n q2 D2 gi109 gl109) ∨ ((0 : Int) = 0 ∧ ∃ p x D2, x ≠ 0 ∧ s_ship b n q D = s_bad b n p x D2 ∧ t_MF gi109 (s_fk b n p x) (s_F b n p)) from (by
                                                            intro b n q D h
                                                            have d0 : (gi 70 1401).toInt = D 1 := h.2.1.2.1.1.1.2.1
                                                            have b0 := h.2.1.1.2.1
                                                            have hc0 := t_clamp (i := gi 70 1401) (by omega)
                                                            obtain ⟨_, hN, hU, t1, m1, n1⟩ := (q12 b n q D h).resolve_right (fun hh => by rcases hh with hh | hh <;> exact absurd hh.1 (by omega))
                                                            have m0 := m1
                                                            obtain ⟨_, w1, t1_, m1⟩ := (q17 b n _ t1).resolve_right (fun hh => absurd hh.1 (by omega))
                                                            have k1 := (s_mi_W (i := 7) (by decide)).mp w1
                                                            have hM := (q22 b n _ t1_).mp (by omega)
                                                            have dP : (gi17 70 1400).toInt = D 0 := by rw [(hC17.1 70 _ rfl).1, (hC12.1 70 _ rfl).1]; exact h.2.1.2.1.1.1.1
                                                            have bP := h.2.1.1.1
                                                            have cP := t_clamp (i := gi17 70 1400) (by omega)
                                                            have hz0 := t_clamp (i := z11) (by omega)
                                                            have nP : ∀ i : Nat, (i : Int) < D 0 → t_nr (gl17 71 (72 + i)) (D (200 + i)) := fun i hi => by rw [(hC17.1 71 _ rfl).2.1, n1, if_neg (by omega)]; exact h.2.1.2.2.1.1 i hi
                                                            have fP : w29.toInt = s_fp D (s_L b n (s_E b n (s_E b n (s_E b n q)))).toInt := by
                                                              unfold s_fp
                                                              rw [show (D 0).toNat = (gi17 70 1400).toNatClampNeg from (by omega)]
                                                              exact q29.1 b n _ _ _ t1_ hM (t_nr_f (base := 72) nP (by omega) hM)
                                                            have ta_ := q37 b n _ (t1_.st e30).S
                                                            have tb_ := ta_.st e39
                                                            obtain ⟨_, w2, t2_, m2⟩ := (q41 b n _ tb_).resolve_right (fun hh => absurd hh.1 (by omega))
                                                            have k2 := (s_mi_W (i := 8) (by decide)).mp w2
                                                            have v3 := t2_.vT (lo := 0) (hi := 120) (by omega) (by omega) (by omega)
                                                            have t3_ := q57 b n _ (t2_.st e56).S
                                                            obtain ⟨_, w4, t4_, m4⟩ := (q58 b n _ t3_).resolve_right (fun hh => absurd hh.1 (by omega))
                                                            have k4 := (s_mi_W (i := 9) (by decide)).mp w4
                                                            have v5 := t4_.vT (lo := 1) (hi := 20) (by omega) (by omega) (by omega)
                                                            have t5_ := q75 b n _ (t4_.st e74).S
                                                            obtain ⟨_, w6, t6_, m6⟩ := (q76 b n _ t5_).resolve_right (fun hh => absurd hh.1 (by omega))
                                                            have k6 := (s_mi_W (i := 10) (by decide)).mp w6
                                                            have hv := t6_.vF (lo := 0) (hi := 99) (by omega) (by omega)
                                                            exact Or.inr ⟨rfl, _, 4, D, by decide, by simp only [s_ship, s_name, s_kw, s_come, s_num, s_ifF (show ¬ D 1 = 6 by omega), s_ifT hN, s_ifF hU, s_ifT k1, s_ifT hM, s_ifF (show ¬ s_fp D (s_L b n (s_E b n (s_E b n (s_E b n q)))).toInt = -1 by omega), s_ifT k2, s_ifT v3.1.1, s_ifT v3.1, s_ifT k4, s_ifT v5.1.1, s_ifT v5.1, s_ifT k6, s_ifT hv.1, s_ifF hv.2], q109.1 b n _ t6_ (by rw [m6.1, (hC75.1 69 18 rfl).1, e74, x_up2_ne (by decide), m4.1, (hC57.1 69 18 rfl).1, e56, x_up2_ne (by decide), m2.1, e39, x_up2_ne (by decide), (hC37.1 69 18 rfl).1, e30, x_up2_ne (by decide), m1.1, m0.1]; exact h.2.2.1)⟩))⟩⟩
                              · have r110 : (gi76 69 12).toInt ≠ 3 := fun e => h83 (Int32.toInt_inj.mp (e.trans (by decide : (3:Int) = (3 : Int32).toInt)))
                                refine ev_loc f_X12_number (nx := 9) rfl rfl rfl rfl ?_
                                refine ev_ic f_X12_number (nx := 10) (v := 2) rfl (by decide) rfl ?_
                                refine ev_qI f_X12_number (nx := 13) (r := []) rfl rfl rfl rfl rfl rfl rfl (c_n_fails hI (2) (by decide : (2:Int) ≤ (2:Int32).toInt) (Int.le_trans (by decide : (2:Int32).toInt ≤ (2:Int)) (by decide : (2:Int) ≤ 7))) rfl hX rfl (fun w111 gi111 gl111 gr111 l111 u111 hI hX hC111 q111 => ?_)
                                have q111 : (∀ (b : Nat → Int32) (n q : Nat), t_TM b n q gi76 → (gi76 69 18).toInt = 0 → t_MF gi111 (s_fk b n q 2) (s_F b n q)) ∧ w111.toInt = 0 := q111
                                refine ev_retK1 f_X12_number rfl rfl (t_rz l111 (Int.le_trans u111 (by decide : (0:Int) ≤ 1))) ?_
                                refine ev_t f_X12_passes (t1 := 74) (t2 := 70) rfl rfl rfl (t_eqT u111 l111 (by decide : (0:Int32).toInt ≤ (0:Int)) (by decide : (0:Int) ≤ (0:Int32).toInt)) ?_
                                refine ev_ic f_X12_passes (nx := 75) (v := 0) rfl (by decide) rfl ?_
                                refine ev_retK1 f_X12_passes rfl rfl rfl ?_
                                refine ev_t f_X12_aShip (t1 := 140) (t2 := 142) rfl rfl rfl (by decide) ?_
                                refine ev_ic f_X12_aShip (nx := 141) (v := 0) rfl (by decide) rfl ?_
                                exact ev_ret f_X12_aShip rfl rfl rfl ⟨_, _, _, rfl, hI, hX, ⟨_, rfl, (by decide : (0:Int) ≤ (0:Int32).toInt), (Int.le_trans (by decide : (0:Int32).toInt ≤ (0:Int)) (by decide : (0:Int) ≤ 1)), (show ∀ (b : Nat → Int32) (n q : Nat) (D : s_D), t_MS b n q D gi gl → ((0 : Int) = 1 ∧ ∃ q2 D2, s_ship b n q D = s_ok q2 D2 ∧ t_MS b n q2 D2 gi111 gl111) ∨ ((0 : Int) = 0 ∧ ∃ p x D2, x ≠ 0 ∧ s_ship b n q D = s_bad b n p x D2 ∧ t_MF gi111 (s_fk b n p x) (s_F b n p)) from (by
                                                            intro b n q D h
                                                            have d0 : (gi 70 1401).toInt = D 1 := h.2.1.2.1.1.1.2.1
                                                            have b0 := h.2.1.1.2.1
                                                            have hc0 := t_clamp (i := gi 70 1401) (by omega)
                                                            obtain ⟨_, hN, hU, t1, m1, n1⟩ := (q12 b n q D h).resolve_right (fun hh => by rcases hh with hh | hh <;> exact absurd hh.1 (by omega))
                                                            have m0 := m1
                                                            obtain ⟨_, w1, t1_, m1⟩ := (q17 b n _ t1).resolve_right (fun hh => absurd hh.1 (by omega))
                                                            have k1 := (s_mi_W (i := 7) (by decide)).mp w1
                                                            have hM := (q22 b n _ t1_).mp (by omega)
                                                            have dP : (gi17 70 1400).toInt = D 0 := by rw [(hC17.1 70 _ rfl).1, (hC12.1 70 _ rfl).1]; exact h.2.1.2.1.1.1.1
                                                            have bP := h.2.1.1.1
                                                            have cP := t_clamp (i := gi17 70 1400) (by omega)
                                                            have hz0 := t_clamp (i := z11) (by omega)
                                                            have nP : ∀ i : Nat, (i : Int) < D 0 → t_nr (gl17 71 (72 + i)) (D (200 + i)) := fun i hi => by rw [(hC17.1 71 _ rfl).2.1, n1, if_neg (by omega)]; exact h.2.1.2.2.1.1 i hi
                                                            have fP : w29.toInt = s_fp D (s_L b n (s_E b n (s_E b n (s_E b n q)))).toInt := by
                                                              unfold s_fp
                                                              rw [show (D 0).toNat = (gi17 70 1400).toNatClampNeg from (by omega)]
                                                              exact q29.1 b n _ _ _ t1_ hM (t_nr_f (base := 72) nP (by omega) hM)
                                                            have ta_ := q37 b n _ (t1_.st e30).S
                                                            have tb_ := ta_.st e39
                                                            obtain ⟨_, w2, t2_, m2⟩ := (q41 b n _ tb_).resolve_right (fun hh => absurd hh.1 (by omega))
                                                            have k2 := (s_mi_W (i := 8) (by decide)).mp w2
                                                            have v3 := t2_.vT (lo := 0) (hi := 120) (by omega) (by omega) (by omega)
                                                            have t3_ := q57 b n _ (t2_.st e56).S
                                                            obtain ⟨_, w4, t4_, m4⟩ := (q58 b n _ t3_).resolve_right (fun hh => absurd hh.1 (by omega))
                                                            have k4 := (s_mi_W (i := 9) (by decide)).mp w4
                                                            have v5 := t4_.vT (lo := 1) (hi := 20) (by omega) (by omega) (by omega)
                                                            have t5_ := q75 b n _ (t4_.st e74).S
                                                            obtain ⟨_, w6, t6_, m6⟩ := (q76 b n _ t5_).resolve_right (fun hh => absurd hh.1 (by omega))
                                                            have k6 := (s_mi_W (i := 10) (by decide)).mp w6
                                                            exact Or.inr ⟨rfl, _, 2, D, by decide, by simp only [s_ship, s_name, s_kw, s_come, s_num, s_ifF (show ¬ D 1 = 6 by omega), s_ifT hN, s_ifF hU, s_ifT k1, s_ifT hM, s_ifF (show ¬ s_fp D (s_L b n (s_E b n (s_E b n (s_E b n q)))).toInt = -1 by omega), s_ifT k2, s_ifT v3.1.1, s_ifT v3.1, s_ifT k4, s_ifT v5.1.1, s_ifT v5.1, s_ifT k6, s_ifF (t6_.vK (by omega))], q111.1 b n _ t6_ (by rw [m6.1, (hC75.1 69 18 rfl).1, e74, x_up2_ne (by decide), m4.1, (hC57.1 69 18 rfl).1, e56, x_up2_ne (by decide), m2.1, e39, x_up2_ne (by decide), (hC37.1 69 18 rfl).1, e30, x_up2_ne (by decide), m1.1, m0.1]; exact h.2.2.1)⟩))⟩⟩
                          · have l112 : 21 ≤ (gi58 69 15).toInt := t_ltl (t_nle h72) (by decide : (20:Int) ≤ (20:Int32).toInt) rfl
                            refine ev_loc f_X12_number (nx := 31) rfl rfl rfl rfl ?_
                            refine ev_ic f_X12_number (nx := 32) (v := 4) rfl (by decide) rfl ?_
                            refine ev_qI f_X12_number (nx := 35) (r := []) rfl rfl rfl rfl rfl rfl rfl (c_n_fails hI (4) (Int.le_trans (by decide : (2:Int) ≤ 4) (by decide : (4:Int) ≤ (4:Int32).toInt)) (Int.le_trans (by decide : (4:Int32).toInt ≤ (4:Int)) (by decide : (4:Int) ≤ 7))) rfl hX rfl (fun w113 gi113 gl113 gr113 l113 u113 hI hX hC113 q113 => ?_)
                            have q113 : (∀ (b : Nat → Int32) (n q : Nat), t_TM b n q gi58 → (gi58 69 18).toInt = 0 → t_MF gi113 (s_fk b n q 4) (s_F b n q)) ∧ w113.toInt = 0 := q113
                            refine ev_retK1 f_X12_number rfl rfl (t_rz l113 (Int.le_trans u113 (by decide : (0:Int) ≤ 1))) ?_
                            refine ev_t f_X12_passes (t1 := 74) (t2 := 46) rfl rfl rfl (t_eqT u113 l113 (by decide : (0:Int32).toInt ≤ (0:Int)) (by decide : (0:Int) ≤ (0:Int32).toInt)) ?_
                            refine ev_ic f_X12_passes (nx := 75) (v := 0) rfl (by decide) rfl ?_
                            refine ev_retK1 f_X12_passes rfl rfl rfl ?_
                            refine ev_t f_X12_aShip (t1 := 140) (t2 := 142) rfl rfl rfl (by decide) ?_
                            refine ev_ic f_X12_aShip (nx := 141) (v := 0) rfl (by decide) rfl ?_
                            exact ev_ret f_X12_aShip rfl rfl rfl ⟨_, _, _, rfl, hI, hX, ⟨_, rfl, (by decide : (0:Int) ≤ (0:Int32).toInt), (Int.le_trans (by decide : (0:Int32).toInt ≤ (0:Int)) (by decide : (0:Int) ≤ 1)), (show ∀ (b : Nat → Int32) (n q : Nat) (D : s_D), t_MS b n q D gi gl → ((0 : Int) = 1 ∧ ∃ q2 D2, s_ship b n q D = s_ok q2 D2 ∧ t_MS b n q2 D2 gi113 gl113) ∨ ((0 : Int) = 0 ∧ ∃ p x D2, x ≠ 0 ∧ s_ship b n q D = s_bad b n p x D2 ∧ t_MF gi113 (s_fk b n p x) (s_F b n p)) from (by
                                                            intro b n q D h
                                                            have d0 : (gi 70 1401).toInt = D 1 := h.2.1.2.1.1.1.2.1
                                                            have b0 := h.2.1.1.2.1
                                                            have hc0 := t_clamp (i := gi 70 1401) (by omega)
                                                            obtain ⟨_, hN, hU, t1, m1, n1⟩ := (q12 b n q D h).resolve_right (fun hh => by rcases hh with hh | hh <;> exact absurd hh.1 (by omega))
                                                            have m0 := m1
                                                            obtain ⟨_, w1, t1_, m1⟩ := (q17 b n _ t1).resolve_right (fun hh => absurd hh.1 (by omega))
                                                            have k1 := (s_mi_W (i := 7) (by decide)).mp w1
                                                            have hM := (q22 b n _ t1_).mp (by omega)
                                                            have dP : (gi17 70 1400).toInt = D 0 := by rw [(hC17.1 70 _ rfl).1, (hC12.1 70 _ rfl).1]; exact h.2.1.2.1.1.1.1
                                                            have bP := h.2.1.1.1
                                                            have cP := t_clamp (i := gi17 70 1400) (by omega)
                                                            have hz0 := t_clamp (i := z11) (by omega)
                                                            have nP : ∀ i : Nat, (i : Int) < D 0 → t_nr (gl17 71 (72 + i)) (D (200 + i)) := fun i hi => by rw [(hC17.1 71 _ rfl).2.1, n1, if_neg (by omega)]; exact h.2.1.2.2.1.1 i hi
                                                            have fP : w29.toInt = s_fp D (s_L b n (s_E b n (s_E b n (s_E b n q)))).toInt := by
                                                              unfold s_fp
                                                              rw [show (D 0).toNat = (gi17 70 1400).toNatClampNeg from (by omega)]
                                                              exact q29.1 b n _ _ _ t1_ hM (t_nr_f (base := 72) nP (by omega) hM)
                                                            have ta_ := q37 b n _ (t1_.st e30).S
                                                            have tb_ := ta_.st e39
                                                            obtain ⟨_, w2, t2_, m2⟩ := (q41 b n _ tb_).resolve_right (fun hh => absurd hh.1 (by omega))
                                                            have k2 := (s_mi_W (i := 8) (by decide)).mp w2
                                                            have v3 := t2_.vT (lo := 0) (hi := 120) (by omega) (by omega) (by omega)
                                                            have t3_ := q57 b n _ (t2_.st e56).S
                                                            obtain ⟨_, w4, t4_, m4⟩ := (q58 b n _ t3_).resolve_right (fun hh => absurd hh.1 (by omega))
                                                            have k4 := (s_mi_W (i := 9) (by decide)).mp w4
                                                            have hv := t4_.vF (lo := 1) (hi := 20) (by omega) (by omega)
                                                            exact Or.inr ⟨rfl, _, 4, D, by decide, by simp only [s_ship, s_name, s_kw, s_come, s_num, s_ifF (show ¬ D 1 = 6 by omega), s_ifT hN, s_ifF hU, s_ifT k1, s_ifT hM, s_ifF (show ¬ s_fp D (s_L b n (s_E b n (s_E b n (s_E b n q)))).toInt = -1 by omega), s_ifT k2, s_ifT v3.1.1, s_ifT v3.1, s_ifT k4, s_ifT hv.1, s_ifF hv.2], q113.1 b n _ t4_ (by rw [m4.1, (hC57.1 69 18 rfl).1, e56, x_up2_ne (by decide), m2.1, e39, x_up2_ne (by decide), (hC37.1 69 18 rfl).1, e30, x_up2_ne (by decide), m1.1, m0.1]; exact h.2.2.1)⟩))⟩⟩
                      · have r114 : (gi58 69 12).toInt ≠ 3 := fun e => h65 (Int32.toInt_inj.mp (e.trans (by decide : (3:Int) = (3 : Int32).toInt)))
                        refine ev_loc f_X12_number (nx := 9) rfl rfl rfl rfl ?_
                        refine ev_ic f_X12_number (nx := 10) (v := 2) rfl (by decide) rfl ?_
                        refine ev_qI f_X12_number (nx := 13) (r := []) rfl rfl rfl rfl rfl rfl rfl (c_n_fails hI (2) (by decide : (2:Int) ≤ (2:Int32).toInt) (Int.le_trans (by decide : (2:Int32).toInt ≤ (2:Int)) (by decide : (2:Int) ≤ 7))) rfl hX rfl (fun w115 gi115 gl115 gr115 l115 u115 hI hX hC115 q115 => ?_)
                        have q115 : (∀ (b : Nat → Int32) (n q : Nat), t_TM b n q gi58 → (gi58 69 18).toInt = 0 → t_MF gi115 (s_fk b n q 2) (s_F b n q)) ∧ w115.toInt = 0 := q115
                        refine ev_retK1 f_X12_number rfl rfl (t_rz l115 (Int.le_trans u115 (by decide : (0:Int) ≤ 1))) ?_
                        refine ev_t f_X12_passes (t1 := 74) (t2 := 46) rfl rfl rfl (t_eqT u115 l115 (by decide : (0:Int32).toInt ≤ (0:Int)) (by decide : (0:Int) ≤ (0:Int32).toInt)) ?_
                        refine ev_ic f_X12_passes (nx := 75) (v := 0) rfl (by decide) rfl ?_
                        refine ev_retK1 f_X12_passes rfl rfl rfl ?_
                        refine ev_t f_X12_aShip (t1 := 140) (t2 := 142) rfl rfl rfl (by decide) ?_
                        refine ev_ic f_X12_aShip (nx := 141) (v := 0) rfl (by decide) rfl ?_
                        exact ev_ret f_X12_aShip rfl rfl rfl ⟨_, _, _, rfl, hI, hX, ⟨_, rfl, (by decide : (0:Int) ≤ (0:Int32).toInt), (Int.le_trans (by decide : (0:Int32).toInt ≤ (0:Int)) (by decide : (0:Int) ≤ 1)), (show ∀ (b : Nat → Int32) (n q : Nat) (D : s_D), t_MS b n q D gi gl → ((0 : Int) = 1 ∧ ∃ q2 D2, s_ship b n q D = s_ok q2 D2 ∧ t_MS b n q2 D2 gi115 gl115) ∨ ((0 : Int) = 0 ∧ ∃ p x D2, x ≠ 0 ∧ s_ship b n q D = s_bad b n p x D2 ∧ t_MF gi115 (s_fk b n p x) (s_F b n p)) from (by
                                                            intro b n q D h
                                                            have d0 : (gi 70 1401).toInt = D 1 := h.2.1.2.1.1.1.2.1
                                                            have b0 := h.2.1.1.2.1
                                                            have hc0 := t_clamp (i := gi 70 1401) (by omega)
                                                            obtain ⟨_, hN, hU, t1, m1, n1⟩ := (q12 b n q D h).resolve_right (fun hh => by rcases hh with hh | hh <;> exact absurd hh.1 (by omega))
                                                            have m0 := m1
                                                            obtain ⟨_, w1, t1_, m1⟩ := (q17 b n _ t1).resolve_right (fun hh => absurd hh.1 (by omega))
                                                            have k1 := (s_mi_W (i := 7) (by decide)).mp w1
                                                            have hM := (q22 b n _ t1_).mp (by omega)
                                                            have dP : (gi17 70 1400).toInt = D 0 := by rw [(hC17.1 70 _ rfl).1, (hC12.1 70 _ rfl).1]; exact h.2.1.2.1.1.1.1
                                                            have bP := h.2.1.1.1
                                                            have cP := t_clamp (i := gi17 70 1400) (by omega)
                                                            have hz0 := t_clamp (i := z11) (by omega)
                                                            have nP : ∀ i : Nat, (i : Int) < D 0 → t_nr (gl17 71 (72 + i)) (D (200 + i)) := fun i hi => by rw [(hC17.1 71 _ rfl).2.1, n1, if_neg (by omega)]; exact h.2.1.2.2.1.1 i hi
                                                            have fP : w29.toInt = s_fp D (s_L b n (s_E b n (s_E b n (s_E b n q)))).toInt := by
                                                              unfold s_fp
                                                              rw [show (D 0).toNat = (gi17 70 1400).toNatClampNeg from (by omega)]
                                                              exact q29.1 b n _ _ _ t1_ hM (t_nr_f (base := 72) nP (by omega) hM)
                                                            have ta_ := q37 b n _ (t1_.st e30).S
                                                            have tb_ := ta_.st e39
                                                            obtain ⟨_, w2, t2_, m2⟩ := (q41 b n _ tb_).resolve_right (fun hh => absurd hh.1 (by omega))
                                                            have k2 := (s_mi_W (i := 8) (by decide)).mp w2
                                                            have v3 := t2_.vT (lo := 0) (hi := 120) (by omega) (by omega) (by omega)
                                                            have t3_ := q57 b n _ (t2_.st e56).S
                                                            obtain ⟨_, w4, t4_, m4⟩ := (q58 b n _ t3_).resolve_right (fun hh => absurd hh.1 (by omega))
                                                            have k4 := (s_mi_W (i := 9) (by decide)).mp w4
                                                            exact Or.inr ⟨rfl, _, 2, D, by decide, by simp only [s_ship, s_name, s_kw, s_come, s_num, s_ifF (show ¬ D 1 = 6 by omega), s_ifT hN, s_ifF hU, s_ifT k1, s_ifT hM, s_ifF (show ¬ s_fp D (s_L b n (s_E b n (s_E b n (s_E b n q)))).toInt = -1 by omega), s_ifT k2, s_ifT v3.1.1, s_ifT v3.1, s_ifT k4, s_ifF (t4_.vK (by omega))], q115.1 b n _ t4_ (by rw [m4.1, (hC57.1 69 18 rfl).1, e56, x_up2_ne (by decide), m2.1, e39, x_up2_ne (by decide), (hC37.1 69 18 rfl).1, e30, x_up2_ne (by decide), m1.1, m0.1]; exact h.2.2.1)⟩))⟩⟩
                  · have l116 : 121 ≤ (gi41 69 15).toInt := t_ltl (t_nle h54) (by decide : (120:Int) ≤ (120:Int32).toInt) rfl
                    refine ev_loc f_X12_number (nx := 31) rfl rfl rfl rfl ?_
                    refine ev_ic f_X12_number (nx := 32) (v := 4) rfl (by decide) rfl ?_
                    refine ev_qI f_X12_number (nx := 35) (r := []) rfl rfl rfl rfl rfl rfl rfl (c_n_fails hI (4) (Int.le_trans (by decide : (2:Int) ≤ 4) (by decide : (4:Int) ≤ (4:Int32).toInt)) (Int.le_trans (by decide : (4:Int32).toInt ≤ (4:Int)) (by decide : (4:Int) ≤ 7))) rfl hX rfl (fun w117 gi117 gl117 gr117 l117 u117 hI hX hC117 q117 => ?_)
                    have q117 : (∀ (b : Nat → Int32) (n q : Nat), t_TM b n q gi41 → (gi41 69 18).toInt = 0 → t_MF gi117 (s_fk b n q 4) (s_F b n q)) ∧ w117.toInt = 0 := q117
                    refine ev_retK1 f_X12_number rfl rfl (t_rz l117 (Int.le_trans u117 (by decide : (0:Int) ≤ 1))) ?_
                    refine ev_t f_X12_passes (t1 := 74) (t2 := 22) rfl rfl rfl (t_eqT u117 l117 (by decide : (0:Int32).toInt ≤ (0:Int)) (by decide : (0:Int) ≤ (0:Int32).toInt)) ?_
                    refine ev_ic f_X12_passes (nx := 75) (v := 0) rfl (by decide) rfl ?_
                    refine ev_retK1 f_X12_passes rfl rfl rfl ?_
                    refine ev_t f_X12_aShip (t1 := 140) (t2 := 142) rfl rfl rfl (by decide) ?_
                    refine ev_ic f_X12_aShip (nx := 141) (v := 0) rfl (by decide) rfl ?_
                    exact ev_ret f_X12_aShip rfl rfl rfl ⟨_, _, _, rfl, hI, hX, ⟨_, rfl, (by decide : (0:Int) ≤ (0:Int32).toInt), (Int.le_trans (by decide : (0:Int32).toInt ≤ (0:Int)) (by decide : (0:Int) ≤ 1)), (show ∀ (b : Nat → Int32) (n q : Nat) (D : s_D), t_MS b n q D gi gl → ((0 : Int) = 1 ∧ ∃ q2 D2, s_ship b n q D = s_ok q2 D2 ∧ t_MS b n q2 D2 gi117 gl117) ∨ ((0 : Int) = 0 ∧ ∃ p x D2, x ≠ 0 ∧ s_ship b n q D = s_bad b n p x D2 ∧ t_MF gi117 (s_fk b n p x) (s_F b n p)) from (by
                                                            intro b n q D h
                                                            have d0 : (gi 70 1401).toInt = D 1 := h.2.1.2.1.1.1.2.1
                                                            have b0 := h.2.1.1.2.1
                                                            have hc0 := t_clamp (i := gi 70 1401) (by omega)
                                                            obtain ⟨_, hN, hU, t1, m1, n1⟩ := (q12 b n q D h).resolve_right (fun hh => by rcases hh with hh | hh <;> exact absurd hh.1 (by omega))
                                                            have m0 := m1
                                                            obtain ⟨_, w1, t1_, m1⟩ := (q17 b n _ t1).resolve_right (fun hh => absurd hh.1 (by omega))
                                                            have k1 := (s_mi_W (i := 7) (by decide)).mp w1
                                                            have hM := (q22 b n _ t1_).mp (by omega)
                                                            have dP : (gi17 70 1400).toInt = D 0 := by rw [(hC17.1 70 _ rfl).1, (hC12.1 70 _ rfl).1]; exact h.2.1.2.1.1.1.1
                                                            have bP := h.2.1.1.1
                                                            have cP := t_clamp (i := gi17 70 1400) (by omega)
                                                            have hz0 := t_clamp (i := z11) (by omega)
                                                            have nP : ∀ i : Nat, (i : Int) < D 0 → t_nr (gl17 71 (72 + i)) (D (200 + i)) := fun i hi => by rw [(hC17.1 71 _ rfl).2.1, n1, if_neg (by omega)]; exact h.2.1.2.2.1.1 i hi
                                                            have fP : w29.toInt = s_fp D (s_L b n (s_E b n (s_E b n (s_E b n q)))).toInt := by
                                                              unfold s_fp
                                                              rw [show (D 0).toNat = (gi17 70 1400).toNatClampNeg from (by omega)]
                                                              exact q29.1 b n _ _ _ t1_ hM (t_nr_f (base := 72) nP (by omega) hM)
                                                            have ta_ := q37 b n _ (t1_.st e30).S
                                                            have tb_ := ta_.st e39
                                                            obtain ⟨_, w2, t2_, m2⟩ := (q41 b n _ tb_).resolve_right (fun hh => absurd hh.1 (by omega))
                                                            have k2 := (s_mi_W (i := 8) (by decide)).mp w2
                                                            have hv := t2_.vF (lo := 0) (hi := 120) (by omega) (by omega)
                                                            exact Or.inr ⟨rfl, _, 4, D, by decide, by simp only [s_ship, s_name, s_kw, s_come, s_num, s_ifF (show ¬ D 1 = 6 by omega), s_ifT hN, s_ifF hU, s_ifT k1, s_ifT hM, s_ifF (show ¬ s_fp D (s_L b n (s_E b n (s_E b n (s_E b n q)))).toInt = -1 by omega), s_ifT k2, s_ifT hv.1, s_ifF hv.2], q117.1 b n _ t2_ (by rw [m2.1, e39, x_up2_ne (by decide), (hC37.1 69 18 rfl).1, e30, x_up2_ne (by decide), m1.1, m0.1]; exact h.2.2.1)⟩))⟩⟩
              · have r118 : (gi41 69 12).toInt ≠ 3 := fun e => h47 (Int32.toInt_inj.mp (e.trans (by decide : (3:Int) = (3 : Int32).toInt)))
                refine ev_loc f_X12_number (nx := 9) rfl rfl rfl rfl ?_
                refine ev_ic f_X12_number (nx := 10) (v := 2) rfl (by decide) rfl ?_
                refine ev_qI f_X12_number (nx := 13) (r := []) rfl rfl rfl rfl rfl rfl rfl (c_n_fails hI (2) (by decide : (2:Int) ≤ (2:Int32).toInt) (Int.le_trans (by decide : (2:Int32).toInt ≤ (2:Int)) (by decide : (2:Int) ≤ 7))) rfl hX rfl (fun w119 gi119 gl119 gr119 l119 u119 hI hX hC119 q119 => ?_)
                have q119 : (∀ (b : Nat → Int32) (n q : Nat), t_TM b n q gi41 → (gi41 69 18).toInt = 0 → t_MF gi119 (s_fk b n q 2) (s_F b n q)) ∧ w119.toInt = 0 := q119
                refine ev_retK1 f_X12_number rfl rfl (t_rz l119 (Int.le_trans u119 (by decide : (0:Int) ≤ 1))) ?_
                refine ev_t f_X12_passes (t1 := 74) (t2 := 22) rfl rfl rfl (t_eqT u119 l119 (by decide : (0:Int32).toInt ≤ (0:Int)) (by decide : (0:Int) ≤ (0:Int32).toInt)) ?_
                refine ev_ic f_X12_passes (nx := 75) (v := 0) rfl (by decide) rfl ?_
                refine ev_retK1 f_X12_passes rfl rfl rfl ?_
                refine ev_t f_X12_aShip (t1 := 140) (t2 := 142) rfl rfl rfl (by decide) ?_
                refine ev_ic f_X12_aShip (nx := 141) (v := 0) rfl (by decide) rfl ?_
                exact ev_ret f_X12_aShip rfl rfl rfl ⟨_, _, _, rfl, hI, hX, ⟨_, rfl, (by decide : (0:Int) ≤ (0:Int32).toInt), (Int.le_trans (by decide : (0:Int32).toInt ≤ (0:Int)) (by decide : (0:Int) ≤ 1)), (show ∀ (b : Nat → Int32) (n q : Nat) (D : s_D), t_MS b n q D gi gl → ((0 : Int) = 1 ∧ ∃ q2 D2, s_ship b n q D = s_ok q2 D2 ∧ t_MS b n q2 D2 gi119 gl119) ∨ ((0 : Int) = 0 ∧ ∃ p x D2, x ≠ 0 ∧ s_ship b n q D = s_bad b n p x D2 ∧ t_MF gi119 (s_fk b n p x) (s_F b n p)) from (by
                                                            intro b n q D h
                                                            have d0 : (gi 70 1401).toInt = D 1 := h.2.1.2.1.1.1.2.1
                                                            have b0 := h.2.1.1.2.1
                                                            have hc0 := t_clamp (i := gi 70 1401) (by omega)
                                                            obtain ⟨_, hN, hU, t1, m1, n1⟩ := (q12 b n q D h).resolve_right (fun hh => by rcases hh with hh | hh <;> exact absurd hh.1 (by omega))
                                                            have m0 := m1
                                                            obtain ⟨_, w1, t1_, m1⟩ := (q17 b n _ t1).resolve_right (fun hh => absurd hh.1 (by omega))
                                                            have k1 := (s_mi_W (i := 7) (by decide)).mp w1
                                                            have hM := (q22 b n _ t1_).mp (by omega)
                                                            have dP : (gi17 70 1400).toInt = D 0 := by rw [(hC17.1 70 _ rfl).1, (hC12.1 70 _ rfl).1]; exact h.2.1.2.1.1.1.1
                                                            have bP := h.2.1.1.1
                                                            have cP := t_clamp (i := gi17 70 1400) (by omega)
                                                            have hz0 := t_clamp (i := z11) (by omega)
                                                            have nP : ∀ i : Nat, (i : Int) < D 0 → t_nr (gl17 71 (72 + i)) (D (200 + i)) := fun i hi => by rw [(hC17.1 71 _ rfl).2.1, n1, if_neg (by omega)]; exact h.2.1.2.2.1.1 i hi
                                                            have fP : w29.toInt = s_fp D (s_L b n (s_E b n (s_E b n (s_E b n q)))).toInt := by
                                                              unfold s_fp
                                                              rw [show (D 0).toNat = (gi17 70 1400).toNatClampNeg from (by omega)]
                                                              exact q29.1 b n _ _ _ t1_ hM (t_nr_f (base := 72) nP (by omega) hM)
                                                            have ta_ := q37 b n _ (t1_.st e30).S
                                                            have tb_ := ta_.st e39
                                                            obtain ⟨_, w2, t2_, m2⟩ := (q41 b n _ tb_).resolve_right (fun hh => absurd hh.1 (by omega))
                                                            have k2 := (s_mi_W (i := 8) (by decide)).mp w2
                                                            exact Or.inr ⟨rfl, _, 2, D, by decide, by simp only [s_ship, s_name, s_kw, s_come, s_num, s_ifF (show ¬ D 1 = 6 by omega), s_ifT hN, s_ifF hU, s_ifT k1, s_ifT hM, s_ifF (show ¬ s_fp D (s_L b n (s_E b n (s_E b n (s_E b n q)))).toInt = -1 by omega), s_ifT k2, s_ifF (t2_.vK (by omega))], q119.1 b n _ t2_ (by rw [m2.1, e39, x_up2_ne (by decide), (hC37.1 69 18 rfl).1, e30, x_up2_ne (by decide), m1.1, m0.1]; exact h.2.2.1)⟩))⟩⟩
/-! ===== printed by riv.py: the RIVER of the other side ===== -/
noncomputable def wl_n_aCart : List (Nat × Nat) := [(69, 12), (69, 13), (69, 14), (69, 15), (69, 17), (69, 18), (70, 140211402), (70, 148211500), (70, 148311501), (70, 148411502), (71, 7210089)]
noncomputable def Q_n_aCart (gi : Nat → Nat → Int32) (gl : Nat → Nat → Int64) (gr : Nat → Nat → Value) : Int32 → (Nat → Nat → Int32) → (Nat → Nat → Int64) → (Nat → Nat → Value) → Prop := fun (v : Int32) (gi2 : Nat → Nat → Int32) (gl2 : Nat → Nat → Int64) (gr2 : Nat → Nat → Value) => ∀ (b : Nat → Int32) (n q : Nat) (D : s_D), t_MS b n q D gi gl → (v.toInt = 1 ∧ ∃ q2 D2, s_cart b n q D = s_ok q2 D2 ∧ t_MS b n q2 D2 gi2 gl2) ∨ (v.toInt = 0 ∧ ∃ p x D2, x ≠ 0 ∧ s_cart b n q D = s_bad b n p x D2 ∧ t_MF gi2 (s_fk b n p x) (s_F b n p))
theorem c_n_aCart {X : x_Ext} {d : Nat} {sh : List (Nat ⊕ (Nat × Nat))} {gi : Nat → Nat → Int32} {gl : Nat → Nat → Int64} {gr : Nat → Nat → Value} (hI : t_I sh gi gr) : x_Me X (d + 8) n_X12_aCart [.ref 69] (sh, gi, gl, gr) (t_PI wl_n_aCart sh gi gl gr 0 1 (Q_n_aCart gi gl gr)) := by
  have hX : t_X wl_n_aCart sh gi gl gr gi gl gr := t_X.rf
  refine me_i f_X12_aCart (hI.wf.s rfl) rfl rfl rfl ?_
  refine ev_sp f_X12_aCart (nx := 3) (v := 1482) rfl (by decide) rfl ?_
  refine ev_ic f_X12_aCart (nx := 4) (v := 3) rfl (by decide) rfl ?_
  refine ev_loc f_X12_aCart (nx := 5) rfl rfl rfl rfl ?_
  refine ev_getR f_X12_aCart (nx := 8) rfl (hI.wf.s rfl) rfl rfl (hI.wf.r rfl) rfl rfl ?_
  refine ev_sp f_X12_aCart (nx := 11) (v := 1402) rfl (by decide) rfl ?_
  obtain ⟨l1, u1⟩ := hI.ab (by decide +kernel : t_abr 70 1402 1402 0 6 = true) (Nat.le_refl _) (Nat.le_refl _)
  refine ev_ialdv f_X12_aCart (nx := 12) (w := (gi 70 1402)) rfl (hI.wf.s rfl) (by decide) (rfl : (1402 : Int32).toNatClampNeg = 1402) (by decide) rfl rfl ?_
  refine ev_mulL f_X12_aCart (nx := 13) (c := 3) (l := 0) (u := 18) rfl (by decide) (by decide) l1 u1 rfl rfl (by decide) (by decide) rfl (fun z2 e2 l2 u2 => ?_)
  refine ev_addK f_X12_aCart (nx := 14) (c := 1482) (l := 1482) (u := 1500) rfl (by decide) l2 u2 rfl rfl (by decide) (by decide) rfl (fun z3 e3 l3 u3 => ?_)
  refine ev_loc f_X12_aCart (nx := 15) (lo' := [(1, .int z3), (0, .ref 69)]) rfl rfl rfl rfl ?_
  refine ev_loc f_X12_aCart (nx := 16) rfl rfl rfl rfl ?_
  refine ev_getR f_X12_aCart (nx := 19) rfl (hI.wf.s rfl) rfl rfl (hI.wf.r rfl) rfl rfl ?_
  refine ev_sp f_X12_aCart (nx := 22) (v := 1402) rfl (by decide) rfl ?_
  refine ev_ialdv f_X12_aCart (nx := 23) (w := (gi 70 1402)) rfl (hI.wf.s rfl) (by decide) (rfl : (1402 : Int32).toNatClampNeg = 1402) (by decide) rfl rfl ?_
  refine ev_bp f_X12_aCart (nx := 25) (v := 6) rfl (by decide) rfl ?_
  refine ev_if f_X12_aCart (t1 := 28) (t2 := 35) rfl rfl rfl (fun h5 => ?_) (fun h5 => ?_)
  · have l6 : 6 ≤ (gi 70 1402).toInt := t_eql h5 (by decide : (6:Int) ≤ (6:Int32).toInt)
    refine ev_loc f_X12_aCart (nx := 29) rfl rfl rfl rfl ?_
    refine ev_bp f_X12_aCart (nx := 31) (v := 6) rfl (by decide) rfl ?_
    refine ev_qI f_X12_aCart (nx := 34) (r := []) rfl rfl rfl rfl rfl rfl rfl (c_n_fails hI (6) (Int.le_trans (by decide : (2:Int) ≤ 6) (by decide : (6:Int) ≤ (6:Int32).toInt)) (Int.le_trans (by decide : (6:Int32).toInt ≤ (6:Int)) (by decide : (6:Int) ≤ 7))) rfl hX rfl (fun w7 gi7 gl7 gr7 l7 u7 hI hX hC7 q7 => ?_)
    have q7 : (∀ (b : Nat → Int32) (n q : Nat), t_TM b n q gi → (gi 69 18).toInt = 0 → t_MF gi7 (s_fk b n q 6) (s_F b n q)) ∧ w7.toInt = 0 := q7
    exact ev_retZ f_X12_aCart rfl l7 (Int.le_trans u7 (by decide : (0:Int) ≤ 1)) ⟨_, _, _, rfl, hI, hX, ⟨_, rfl, l7, (Int.le_trans u7 (by decide : (0:Int) ≤ 1)), (show ∀ (b : Nat → Int32) (n q : Nat) (D : s_D), t_MS b n q D gi gl → (w7.toInt = 1 ∧ ∃ q2 D2, s_cart b n q D = s_ok q2 D2 ∧ t_MS b n q2 D2 gi7 gl7) ∨ (w7.toInt = 0 ∧ ∃ p x D2, x ≠ 0 ∧ s_cart b n q D = s_bad b n p x D2 ∧ t_MF gi7 (s_fk b n p x) (s_F b n p)) from (by
                                                            intro b n q D h
                                                            have d0 : (gi 70 1402).toInt = D 2 := h.2.1.2.1.1.1.2.2
                                                            have b0 := h.2.1.1.2.2
                                                            have hc0 := t_clamp (i := gi 70 1402) (by omega)
                                                            exact Or.inr ⟨q7.2, q, 6, D, by decide, by simp only [s_cart, s_ifT (show D 2 = 6 by omega)], q7.1 b n q h.1 h.2.2.1⟩))⟩⟩
  · have r8 : (gi 70 1402).toInt ≠ 6 := fun e => h5 (Int32.toInt_inj.mp (e.trans (by decide : (6:Int) = (6 : Int32).toInt)))
    have u9 : (gi 70 1402).toInt ≤ 5 := t_neu h5 u1 rfl rfl
    refine ev_loc f_X12_aCart (nx := 36) rfl rfl rfl rfl ?_
    refine ev_bp f_X12_aCart (nx := 38) (v := 12) rfl (by decide) rfl ?_
    refine ev_loc f_X12_aCart (nx := 39) rfl rfl rfl rfl ?_
    refine ev_getR f_X12_aCart (nx := 42) rfl (hI.wf.s rfl) rfl rfl (hI.wf.r rfl) rfl rfl ?_
    refine ev_sp f_X12_aCart (nx := 45) (v := 1402) rfl (by decide) rfl ?_
    refine ev_ialdv f_X12_aCart (nx := 46) (w := (gi 70 1402)) rfl (hI.wf.s rfl) (by decide) (rfl : (1402 : Int32).toNatClampNeg = 1402) (by decide) rfl rfl ?_
    refine ev_addK f_X12_aCart (nx := 47) (c := 12) (l := 12) (u := 17) rfl (by decide) l1 u9 rfl rfl (by decide) (by decide) rfl (fun z11 e11 l11 u11 => ?_)
    refine ev_qI f_X12_aCart (nx := 50) (r := []) rfl rfl rfl rfl rfl rfl rfl (c_n_aNewName hI (z11) (Int.le_trans (by decide : (0:Int) ≤ 12) l11) u11) rfl hX rfl (fun w12 gi12 gl12 gr12 l12 u12 hI hX hC12 q12 => ?_)
    have q12 : ∀ (b : Nat → Int32) (n q : Nat) (D : s_D), t_MS b n q D gi gl → (w12.toInt = 1 ∧ s_isN b n (s_E b n q) ∧ ¬ s_used D (s_L b n (s_E b n q)).toInt ∧ t_TM b n (s_E b n (s_E b n q)) gi12 ∧ t_mf gi gi12 ∧ ∀ j : Nat, gl12 71 j = if j = 72 + z11.toNatClampNeg then s_m8 b (s_F b n (s_E b n q)) (s_E b n (s_E b n q) - s_F b n (s_E b n q)) else gl 71 j) ∨ (w12.toInt = 0 ∧ ¬ s_isN b n (s_E b n q) ∧ t_MF gi12 (s_fk b n (s_E b n q) 2) (s_F b n (s_E b n q))) ∨ (w12.toInt = 0 ∧ s_isN b n (s_E b n q) ∧ s_used D (s_L b n (s_E b n q)).toInt ∧ t_MF gi12 (s_fk b n (s_E b n q) 3) (s_F b n (s_E b n q))) := q12
    refine ev_if f_X12_aCart (t1 := 61) (t2 := 53) rfl rfl rfl (fun h13 => ?_) (fun h13 => ?_)
    · have u14 : w12.toInt ≤ 0 := t_equ h13 (by decide : (0:Int32).toInt ≤ (0:Int))
      refine ev_ic f_X12_aCart (nx := 62) (v := 0) rfl (by decide) rfl ?_
      exact ev_ret f_X12_aCart rfl rfl rfl ⟨_, _, _, rfl, hI, hX, ⟨_, rfl, (by decide : (0:Int) ≤ (0:Int32).toInt), (Int.le_trans (by decide : (0:Int32).toInt ≤ (0:Int)) (by decide : (0:Int) ≤ 1)), (show ∀ (b : Nat → Int32) (n q : Nat) (D : s_D), t_MS b n q D gi gl → ((0 : Int) = 1 ∧ ∃ q2 D2, s_cart b n q D = s_ok q2 D2 ∧ t_MS b n q2 D2 gi12 gl12) ∨ ((0 : Int) = 0 ∧ ∃ p x D2, x ≠ 0 ∧ s_cart b n q D = s_bad b n p x D2 ∧ t_MF gi12 (s_fk b n p x) (s_F b n p)) from (by
                                                            intro b n q D h
                                                            have d0 : (gi 70 1402).toInt = D 2 := h.2.1.2.1.1.1.2.2
                                                            have b0 := h.2.1.1.2.2
                                                            have hc0 := t_clamp (i := gi 70 1402) (by omega)
                                                            rcases q12 b n q D h with hh | hh | hh
                                                            · exact absurd hh.1 (by omega)
                                                            · exact Or.inr ⟨rfl, _, 2, D, by decide, by simp only [s_cart, s_name, s_kw, s_come, s_num, s_ifF (show ¬ D 2 = 6 by omega), s_ifF hh.2.1], hh.2.2⟩
                                                            · exact Or.inr ⟨rfl, _, 3, D, by decide, by simp only [s_cart, s_name, s_kw, s_come, s_num, s_ifF (show ¬ D 2 = 6 by omega), s_ifT hh.2.1, s_ifT hh.2.2.1], hh.2.2.2⟩))⟩⟩
    · have r15 : w12.toInt ≠ 0 := fun e => h13 (Int32.toInt_inj.mp (e.trans (by decide : (0:Int) = (0 : Int32).toInt)))
      have l16 : 1 ≤ w12.toInt := t_nel h13 l12 rfl rfl
      refine ev_loc f_X12_aCart (nx := 54) rfl rfl rfl rfl ?_
      refine ev_loc f_X12_aCart (nx := 55) rfl rfl rfl rfl ?_
      refine ev_inV2 f_X12_aCart (nx := 58) (lo2 := [(0, .ref 69), (1, .int z3)]) rfl rfl rfl rfl f_X12_passes (hI.wf.s rfl) rfl rfl rfl rfl rfl ?_
      refine ev_loc f_X12_passes (nx := 1) rfl rfl rfl rfl ?_
      refine ev_heap f_X12_passes (nx := 3) rfl rfl rfl rfl ?_
      refine ev_bp f_X12_passes (nx := 5) (v := 9) rfl (by decide) rfl ?_
      refine ev_qI f_X12_passes (nx := 8) (r := []) rfl rfl rfl rfl rfl rfl rfl (c_n_wantWord hI (9)) rfl hX rfl (fun w17 gi17 gl17 gr17 l17 u17 hI hX hC17 q17 => ?_)
      have q17 : ∀ (b : Nat → Int32) (n q : Nat), t_TM b n q gi12 → (w17.toInt = 1 ∧ s_mi (s_W b n q) = 9 ∧ t_TM b n (s_E b n q) gi17 ∧ t_mf gi12 gi17) ∨ (w17.toInt = 0 ∧ ¬ s_mi (s_W b n q) = 9 ∧ ((gi12 69 18).toInt = 0 → t_MF gi17 (s_fk b n q 2) (s_F b n q))) := q17
      refine ev_if f_X12_passes (t1 := 74) (t2 := 11) rfl rfl rfl (fun h18 => ?_) (fun h18 => ?_)
      · have u19 : w17.toInt ≤ 0 := t_equ h18 (by decide : (0:Int32).toInt ≤ (0:Int))
        refine ev_ic f_X12_passes (nx := 75) (v := 0) rfl (by decide) rfl ?_
        refine ev_retK1 f_X12_passes rfl rfl rfl ?_
        refine ev_t f_X12_aCart (t1 := 61) (t2 := 63) rfl rfl rfl (by decide) ?_
        refine ev_ic f_X12_aCart (nx := 62) (v := 0) rfl (by decide) rfl ?_
        exact ev_ret f_X12_aCart rfl rfl rfl ⟨_, _, _, rfl, hI, hX, ⟨_, rfl, (by decide : (0:Int) ≤ (0:Int32).toInt), (Int.le_trans (by decide : (0:Int32).toInt ≤ (0:Int)) (by decide : (0:Int) ≤ 1)), (show ∀ (b : Nat → Int32) (n q : Nat) (D : s_D), t_MS b n q D gi gl → ((0 : Int) = 1 ∧ ∃ q2 D2, s_cart b n q D = s_ok q2 D2 ∧ t_MS b n q2 D2 gi17 gl17) ∨ ((0 : Int) = 0 ∧ ∃ p x D2, x ≠ 0 ∧ s_cart b n q D = s_bad b n p x D2 ∧ t_MF gi17 (s_fk b n p x) (s_F b n p)) from (by
                                                            intro b n q D h
                                                            have d0 : (gi 70 1402).toInt = D 2 := h.2.1.2.1.1.1.2.2
                                                            have b0 := h.2.1.1.2.2
                                                            have hc0 := t_clamp (i := gi 70 1402) (by omega)
                                                            obtain ⟨_, hN, hU, t1, m1, n1⟩ := (q12 b n q D h).resolve_right (fun hh => by rcases hh with hh | hh <;> exact absurd hh.1 (by omega))
                                                            have m0 := m1
                                                            rcases q17 b n _ t1 with hh | hh
                                                            · exact absurd hh.1 (by omega)
                                                            · exact Or.inr ⟨rfl, _, 2, D, by decide, by simp only [s_cart, s_name, s_kw, s_come, s_num, s_ifF (show ¬ D 2 = 6 by omega), s_ifT hN, s_ifF hU, s_ifF (fun hw => hh.2.1 ((s_mi_W (i := 8) (by decide)).mpr hw))], hh.2.2 (by rw [m0.1]; exact h.2.2.1)⟩))⟩⟩
      · have r20 : w17.toInt ≠ 0 := fun e => h18 (Int32.toInt_inj.mp (e.trans (by decide : (0:Int) = (0 : Int32).toInt)))
        have l21 : 1 ≤ w17.toInt := t_nel h18 l17 rfl rfl
        refine ev_loc f_X12_passes (nx := 12) rfl rfl rfl rfl ?_
        refine ev_loc f_X12_passes (nx := 13) rfl rfl rfl rfl ?_
        refine ev_ic f_X12_passes (nx := 14) (v := 0) rfl (by decide) rfl ?_
        refine ev_bp f_X12_passes (nx := 16) (v := 120) rfl (by decide) rfl ?_
        refine ev_inV4 f_X12_passes (nx := 19) (lo2 := [(0, .ref 69), (1, .int z3), (2, .int 0), (3, .int 120)]) rfl rfl rfl rfl f_X12_number (hI.wf.s rfl) rfl rfl rfl rfl rfl ?_
        refine ev_loc f_X12_number (nx := 1) rfl rfl rfl rfl ?_
        refine ev_getI f_X12_number (nx := 4) rfl (hI.wf.s rfl) rfl rfl rfl ?_
        obtain ⟨l22, u22⟩ := hI.b (hI.wf.s (k := 69) rfl) (t_bdK rfl : t_bd 11 12 = some (0, 4))
        refine ev_ic f_X12_number (nx := 5) (v := 3) rfl (by decide) rfl ?_
        refine ev_if f_X12_number (t1 := 14) (t2 := 8) rfl rfl rfl (fun h23 => ?_) (fun h23 => ?_)
        · have u24 : (gi17 69 12).toInt ≤ 3 := t_equ h23 (by decide : (3:Int32).toInt ≤ (3:Int))
          have l25 : 3 ≤ (gi17 69 12).toInt := t_eql h23 (by decide : (3:Int) ≤ (3:Int32).toInt)
          refine ev_loc f_X12_number (nx := 15) rfl rfl rfl rfl ?_
          refine ev_getI f_X12_number (nx := 18) rfl (hI.wf.s rfl) rfl rfl rfl ?_
          refine ev_loc f_X12_number (nx := 19) rfl rfl rfl rfl ?_
          refine ev_if f_X12_number (t1 := 30) (t2 := 22) rfl rfl rfl (fun h26 => ?_) (fun h26 => ?_)
          · have u27 : (gi17 69 15).toInt ≤ (-1) := t_ltu h26 (by decide : (0:Int32).toInt ≤ (0:Int)) rfl
            refine ev_loc f_X12_number (nx := 31) rfl rfl rfl rfl ?_
            refine ev_ic f_X12_number (nx := 32) (v := 4) rfl (by decide) rfl ?_
            refine ev_qI f_X12_number (nx := 35) (r := []) rfl rfl rfl rfl rfl rfl rfl (c_n_fails hI (4) (Int.le_trans (by decide : (2:Int) ≤ 4) (by decide : (4:Int) ≤ (4:Int32).toInt)) (Int.le_trans (by decide : (4:Int32).toInt ≤ (4:Int)) (by decide : (4:Int) ≤ 7))) rfl hX rfl (fun w28 gi28 gl28 gr28 l28 u28 hI hX hC28 q28 => ?_)
            have q28 : (∀ (b : Nat → Int32) (n q : Nat), t_TM b n q gi17 → (gi17 69 18).toInt = 0 → t_MF gi28 (s_fk b n q 4) (s_F b n q)) ∧ w28.toInt = 0 := q28
            refine ev_retK1 f_X12_number rfl rfl (t_rz l28 (Int.le_trans u28 (by decide : (0:Int) ≤ 1))) ?_
            refine ev_t f_X12_passes (t1 := 74) (t2 := 22) rfl rfl rfl (t_eqT u28 l28 (by decide : (0:Int32).toInt ≤ (0:Int)) (by decide : (0:Int) ≤ (0:Int32).toInt)) ?_
            refine ev_ic f_X12_passes (nx := 75) (v := 0) rfl (by decide) rfl ?_
            refine ev_retK1 f_X12_passes rfl rfl rfl ?_
            refine ev_t f_X12_aCart (t1 := 61) (t2 := 63) rfl rfl rfl (by decide) ?_
            refine ev_ic f_X12_aCart (nx := 62) (v := 0) rfl (by decide) rfl ?_
            exact ev_ret f_X12_aCart rfl rfl rfl ⟨_, _, _, rfl, hI, hX, ⟨_, rfl, (by decide : (0:Int) ≤ (0:Int32).toInt), (Int.le_trans (by decide : (0:Int32).toInt ≤ (0:Int)) (by decide : (0:Int) ≤ 1)), (show ∀ (b : Nat → Int32) (n q : Nat) (D : s_D), t_MS b n q D gi gl → ((0 : Int) = 1 ∧ ∃ q2 D2, s_cart b n q D = s_ok q2 D2 ∧ t_MS b n q2 D2 gi28 gl28) ∨ ((0 : Int) = 0 ∧ ∃ p x D2, x ≠ 0 ∧ s_cart b n q D = s_bad b n p x D2 ∧ t_MF gi28 (s_fk b n p x) (s_F b n p)) from (by
                                                            intro b n q D h
                                                            have d0 : (gi 70 1402).toInt = D 2 := h.2.1.2.1.1.1.2.2
                                                            have b0 := h.2.1.1.2.2
                                                            have hc0 := t_clamp (i := gi 70 1402) (by omega)
                                                            obtain ⟨_, hN, hU, t1, m1, n1⟩ := (q12 b n q D h).resolve_right (fun hh => by rcases hh with hh | hh <;> exact absurd hh.1 (by omega))
                                                            have m0 := m1
                                                            obtain ⟨_, w1, t1_, m1⟩ := (q17 b n _ t1).resolve_right (fun hh => absurd hh.1 (by omega))
                                                            have k1 := (s_mi_W (i := 8) (by decide)).mp w1
                                                            have hv := t1_.vF (lo := 0) (hi := 120) (by omega) (by omega)
                                                            exact Or.inr ⟨rfl, _, 4, D, by decide, by simp only [s_cart, s_name, s_kw, s_come, s_num, s_ifF (show ¬ D 2 = 6 by omega), s_ifT hN, s_ifF hU, s_ifT k1, s_ifT hv.1, s_ifF hv.2], q28.1 b n _ t1_ (by rw [m1.1, m0.1]; exact h.2.2.1)⟩))⟩⟩
          · have l29 : 0 ≤ (gi17 69 15).toInt := t_lel (t_nlt h26) (by decide : (0:Int) ≤ (0:Int32).toInt)
            refine ev_loc f_X12_number (nx := 23) rfl rfl rfl rfl ?_
            refine ev_gvI f_X12_number (nx := 26) (w := (gi17 69 15)) rfl (hI.wf.s rfl) rfl rfl rfl rfl ?_
            refine ev_loc f_X12_number (nx := 27) rfl rfl rfl rfl ?_
            refine ev_if f_X12_number (t1 := 36) (t2 := 30) rfl rfl rfl (fun h30 => ?_) (fun h30 => ?_)
            · have u31 : (gi17 69 15).toInt ≤ 120 := t_leu h30 (by decide : (120:Int32).toInt ≤ (120:Int))
              refine ev_loc f_X12_number (nx := 37) rfl rfl rfl rfl ?_
              refine ev_getR f_X12_number (nx := 40) rfl (hI.wf.s rfl) rfl rfl (hI.wf.r rfl) rfl rfl ?_
              refine ev_loc f_X12_number (nx := 41) rfl rfl rfl rfl ?_
              refine ev_loc f_X12_number (nx := 42) rfl rfl rfl rfl ?_
              refine ev_gvI f_X12_number (nx := 45) (w := (gi17 69 15)) rfl (hI.wf.s rfl) rfl rfl rfl rfl ?_
              refine ev_iastT f_X12_number (nx := 46) rfl (hI.wf.s rfl) l3 (by decide) u3 (by decide) rfl (hI.astA (x := (gi 70 1402)) (hI.wf.s rfl) (by decide +kernel : t_abwa 70 1482 3 0 5 0 120 = true) (by omega) (by omega) (by omega) l29 u31 rfl) (hX.upI (t_inR (p := 1482) (m := 1500) rfl l3 (by decide) u3 (by decide) (by decide))) (fun g32 e32 hI hX => ?_)
              refine ev_loc f_X12_number (nx := 47) rfl rfl rfl rfl ?_
              refine ev_qN f_X12_number (nx := 50) (r := []) rfl rfl rfl rfl rfl rfl rfl (c_n_ahead hI ) rfl hX rfl (fun gi33 gl33 gr33 hI hX hC33 q33 => ?_)
              have q33 : ∀ (b : Nat → Int32) (n q : Nat), t_Sm b n q g32 → t_TM b n q gi33 := q33
              refine ev_ic f_X12_number (nx := 51) (v := 1) rfl (by decide) rfl ?_
              refine ev_retK1 f_X12_number rfl rfl rfl ?_
              refine ev_f f_X12_passes (t1 := 74) (t2 := 22) rfl rfl rfl (by decide) ?_
              refine ev_loc f_X12_passes (nx := 23) rfl rfl rfl rfl ?_
              refine ev_heap f_X12_passes (nx := 25) rfl rfl rfl rfl ?_
              refine ev_bp f_X12_passes (nx := 27) (v := 10) rfl (by decide) rfl ?_
              refine ev_qI f_X12_passes (nx := 30) (r := []) rfl rfl rfl rfl rfl rfl rfl (c_n_wantWord hI (10)) rfl hX rfl (fun w34 gi34 gl34 gr34 l34 u34 hI hX hC34 q34 => ?_)
              have q34 : ∀ (b : Nat → Int32) (n q : Nat), t_TM b n q gi33 → (w34.toInt = 1 ∧ s_mi (s_W b n q) = 10 ∧ t_TM b n (s_E b n q) gi34 ∧ t_mf gi33 gi34) ∨ (w34.toInt = 0 ∧ ¬ s_mi (s_W b n q) = 10 ∧ ((gi33 69 18).toInt = 0 → t_MF gi34 (s_fk b n q 2) (s_F b n q))) := q34
              refine ev_if f_X12_passes (t1 := 74) (t2 := 33) rfl rfl rfl (fun h35 => ?_) (fun h35 => ?_)
              · have u36 : w34.toInt ≤ 0 := t_equ h35 (by decide : (0:Int32).toInt ≤ (0:Int))
                refine ev_ic f_X12_passes (nx := 75) (v := 0) rfl (by decide) rfl ?_
                refine ev_retK1 f_X12_passes rfl rfl rfl ?_
                refine ev_t f_X12_aCart (t1 := 61) (t2 := 63) rfl rfl rfl (by decide) ?_
                refine ev_ic f_X12_aCart (nx := 62) (v := 0) rfl (by decide) rfl ?_
                exact ev_ret f_X12_aCart rfl rfl rfl ⟨_, _, _, rfl, hI, hX, ⟨_, rfl, (by decide : (0:Int) ≤ (0:Int32).toInt), (Int.le_trans (by decide : (0:Int32).toInt ≤ (0:Int)) (by decide : (0:Int) ≤ 1)), (show ∀ (b : Nat → Int32) (n q : Nat) (D : s_D), t_MS b n q D gi gl → ((0 : Int) = 1 ∧ ∃ q2 D2, s_cart b n q D = s_ok q2 D2 ∧ t_MS b n q2 D2 gi34 gl34) ∨ ((0 : Int) = 0 ∧ ∃ p x D2, x ≠ 0 ∧ s_cart b n q D = s_bad b n p x D2 ∧ t_MF gi34 (s_fk b n p x) (s_F b n p)) from (by
                                                            intro b n q D h
                                                            have d0 : (gi 70 1402).toInt = D 2 := h.2.1.2.1.1.1.2.2
                                                            have b0 := h.2.1.1.2.2
                                                            have hc0 := t_clamp (i := gi 70 1402) (by omega)
                                                            obtain ⟨_, hN, hU, t1, m1, n1⟩ := (q12 b n q D h).resolve_right (fun hh => by rcases hh with hh | hh <;> exact absurd hh.1 (by omega))
                                                            have m0 := m1
                                                            obtain ⟨_, w1, t1_, m1⟩ := (q17 b n _ t1).resolve_right (fun hh => absurd hh.1 (by omega))
                                                            have k1 := (s_mi_W (i := 8) (by decide)).mp w1
                                                            have v2 := t1_.vT (lo := 0) (hi := 120) (by omega) (by omega) (by omega)
                                                            have t2_ := q33 b n _ (t1_.st e32).S
                                                            rcases q34 b n _ t2_ with hh | hh
                                                            · exact absurd hh.1 (by omega)
                                                            · exact Or.inr ⟨rfl, _, 2, D, by decide, by simp only [s_cart, s_name, s_kw, s_come, s_num, s_ifF (show ¬ D 2 = 6 by omega), s_ifT hN, s_ifF hU, s_ifT k1, s_ifT v2.1.1, s_ifT v2.1, s_ifF (fun hw => hh.2.1 ((s_mi_W (i := 9) (by decide)).mpr hw))], hh.2.2 (by rw [(hC33.1 69 18 rfl).1, e32, x_up2_ne (by decide), m1.1, m0.1]; exact h.2.2.1)⟩))⟩⟩
              · have r37 : w34.toInt ≠ 0 := fun e => h35 (Int32.toInt_inj.mp (e.trans (by decide : (0:Int) = (0 : Int32).toInt)))
                have l38 : 1 ≤ w34.toInt := t_nel h35 l34 rfl rfl
                refine ev_loc f_X12_passes (nx := 34) rfl rfl rfl rfl ?_
                refine ev_loc f_X12_passes (nx := 35) rfl rfl rfl rfl ?_
                refine ev_ic f_X12_passes (nx := 36) (v := 1) rfl (by decide) rfl ?_
                refine ev_addC f_X12_passes (nx := 37) (c := 1) (l := 1483) (u := 1501) rfl (by decide) l3 u3 rfl rfl (by decide) (by decide) rfl (fun z39 e39 l39 u39 => ?_)
                refine ev_ic f_X12_passes (nx := 38) (v := 1) rfl (by decide) rfl ?_
                refine ev_bp f_X12_passes (nx := 40) (v := 20) rfl (by decide) rfl ?_
                refine ev_inV4 f_X12_passes (nx := 43) (lo2 := [(0, .ref 69), (1, .int z39), (2, .int 1), (3, .int 20)]) rfl rfl rfl rfl f_X12_number (hI.wf.s rfl) rfl rfl rfl rfl rfl ?_
                refine ev_loc f_X12_number (nx := 1) rfl rfl rfl rfl ?_
                refine ev_getI f_X12_number (nx := 4) rfl (hI.wf.s rfl) rfl rfl rfl ?_
                obtain ⟨l40, u40⟩ := hI.b (hI.wf.s (k := 69) rfl) (t_bdK rfl : t_bd 11 12 = some (0, 4))
                refine ev_ic f_X12_number (nx := 5) (v := 3) rfl (by decide) rfl ?_
                refine ev_if f_X12_number (t1 := 14) (t2 := 8) rfl rfl rfl (fun h41 => ?_) (fun h41 => ?_)
                · have u42 : (gi34 69 12).toInt ≤ 3 := t_equ h41 (by decide : (3:Int32).toInt ≤ (3:Int))
                  have l43 : 3 ≤ (gi34 69 12).toInt := t_eql h41 (by decide : (3:Int) ≤ (3:Int32).toInt)
                  refine ev_loc f_X12_number (nx := 15) rfl rfl rfl rfl ?_
                  refine ev_getI f_X12_number (nx := 18) rfl (hI.wf.s rfl) rfl rfl rfl ?_
                  refine ev_loc f_X12_number (nx := 19) rfl rfl rfl rfl ?_
                  refine ev_if f_X12_number (t1 := 30) (t2 := 22) rfl rfl rfl (fun h44 => ?_) (fun h44 => ?_)
                  · have u45 : (gi34 69 15).toInt ≤ 0 := t_ltu h44 (by decide : (1:Int32).toInt ≤ (1:Int)) rfl
                    refine ev_loc f_X12_number (nx := 31) rfl rfl rfl rfl ?_
                    refine ev_ic f_X12_number (nx := 32) (v := 4) rfl (by decide) rfl ?_
                    refine ev_qI f_X12_number (nx := 35) (r := []) rfl rfl rfl rfl rfl rfl rfl (c_n_fails hI (4) (Int.le_trans (by decide : (2:Int) ≤ 4) (by decide : (4:Int) ≤ (4:Int32).toInt)) (Int.le_trans (by decide : (4:Int32).toInt ≤ (4:Int)) (by decide : (4:Int) ≤ 7))) rfl hX rfl (fun w46 gi46 gl46 gr46 l46 u46 hI hX hC46 q46 => ?_)
                    have q46 : (∀ (b : Nat → Int32) (n q : Nat), t_TM b n q gi34 → (gi34 69 18).toInt = 0 → t_MF gi46 (s_fk b n q 4) (s_F b n q)) ∧ w46.toInt = 0 := q46
                    refine ev_retK1 f_X12_number rfl rfl (t_rz l46 (Int.le_trans u46 (by decide : (0:Int) ≤ 1))) ?_
                    refine ev_t f_X12_passes (t1 := 74) (t2 := 46) rfl rfl rfl (t_eqT u46 l46 (by decide : (0:Int32).toInt ≤ (0:Int)) (by decide : (0:Int) ≤ (0:Int32).toInt)) ?_
                    refine ev_ic f_X12_passes (nx := 75) (v := 0) rfl (by decide) rfl ?_
                    refine ev_retK1 f_X12_passes rfl rfl rfl ?_
                    refine ev_t f_X12_aCart (t1 := 61) (t2 := 63) rfl rfl rfl (by decide) ?_
                    refine ev_ic f_X12_aCart (nx := 62) (v := 0) rfl (by decide) rfl ?_
                    exact ev_ret f_X12_aCart rfl rfl rfl ⟨_, _, _, rfl, hI, hX, ⟨_, rfl, (by decide : (0:Int) ≤ (0:Int32).toInt), (Int.le_trans (by decide : (0:Int32).toInt ≤ (0:Int)) (by decide : (0:Int) ≤ 1)), (show ∀ (b : Nat → Int32) (n q : Nat) (D : s_D), t_MS b n q D gi gl → ((0 : Int) = 1 ∧ ∃ q2 D2, s_cart b n q D = s_ok q2 D2 ∧ t_MS b n q2 D2 gi46 gl46) ∨ ((0 : Int) = 0 ∧ ∃ p x D2, x ≠ 0 ∧ s_cart b n q D = s_bad b n p x D2 ∧ t_MF gi46 (s_fk b n p x) (s_F b n p)) from (by
                                                            intro b n q D h
                                                            have d0 : (gi 70 1402).toInt = D 2 := h.2.1.2.1.1.1.2.2
                                                            have b0 := h.2.1.1.2.2
                                                            have hc0 := t_clamp (i := gi 70 1402) (by omega)
                                                            obtain ⟨_, hN, hU, t1, m1, n1⟩ := (q12 b n q D h).resolve_right (fun hh => by rcases hh with hh | hh <;> exact absurd hh.1 (by omega))
                                                            have m0 := m1
                                                            obtain ⟨_, w1, t1_, m1⟩ := (q17 b n _ t1).resolve_right (fun hh => absurd hh.1 (by omega))
                                                            have k1 := (s_mi_W (i := 8) (by decide)).mp w1
                                                            have v2 := t1_.vT (lo := 0) (hi := 120) (by omega) (by omega) (by omega)
                                                            have t2_ := q33 b n _ (t1_.st e32).S
                                                            obtain ⟨_, w3, t3_, m3⟩ := (q34 b n _ t2_).resolve_right (fun hh => absurd hh.1 (by omega))
                                                            have k3 := (s_mi_W (i := 9) (by decide)).mp w3
                                                            have hv := t3_.vF (lo := 1) (hi := 20) (by omega) (by omega)
                                                            exact Or.inr ⟨rfl, _, 4, D, by decide, by simp only [s_cart, s_name, s_kw, s_come, s_num, s_ifF (show ¬ D 2 = 6 by omega), s_ifT hN, s_ifF hU, s_ifT k1, s_ifT v2.1.1, s_ifT v2.1, s_ifT k3, s_ifT hv.1, s_ifF hv.2], q46.1 b n _ t3_ (by rw [m3.1, (hC33.1 69 18 rfl).1, e32, x_up2_ne (by decide), m1.1, m0.1]; exact h.2.2.1)⟩))⟩⟩
                  · have l47 : 1 ≤ (gi34 69 15).toInt := t_lel (t_nlt h44) (by decide : (1:Int) ≤ (1:Int32).toInt)
                    refine ev_loc f_X12_number (nx := 23) rfl rfl rfl rfl ?_
                    refine ev_gvI f_X12_number (nx := 26) (w := (gi34 69 15)) rfl (hI.wf.s rfl) rfl rfl rfl rfl ?_
                    refine ev_loc f_X12_number (nx := 27) rfl rfl rfl rfl ?_
                    refine ev_if f_X12_number (t1 := 36) (t2 := 30) rfl rfl rfl (fun h48 => ?_) (fun h48 => ?_)
                    · have u49 : (gi34 69 15).toInt ≤ 20 := t_leu h48 (by decide : (20:Int32).toInt ≤ (20:Int))
                      refine ev_loc f_X12_number (nx := 37) rfl rfl rfl rfl ?_
                      refine ev_getR f_X12_number (nx := 40) rfl (hI.wf.s rfl) rfl rfl (hI.wf.r rfl) rfl rfl ?_
                      refine ev_loc f_X12_number (nx := 41) rfl rfl rfl rfl ?_
                      refine ev_loc f_X12_number (nx := 42) rfl rfl rfl rfl ?_
                      refine ev_gvI f_X12_number (nx := 45) (w := (gi34 69 15)) rfl (hI.wf.s rfl) rfl rfl rfl rfl ?_
                      refine ev_iastT f_X12_number (nx := 46) rfl (hI.wf.s rfl) l39 (by decide) u39 (by decide) rfl (hI.astA (x := (gi 70 1402)) (hI.wf.s rfl) (by decide +kernel : t_abwa 70 1483 3 0 5 1 20 = true) (by omega) (by omega) (by omega) l47 u49 rfl) (hX.upI (t_inR (p := 1483) (m := 1501) rfl l39 (by decide) u39 (by decide) (by decide))) (fun g50 e50 hI hX => ?_)
                      refine ev_loc f_X12_number (nx := 47) rfl rfl rfl rfl ?_
                      refine ev_qN f_X12_number (nx := 50) (r := []) rfl rfl rfl rfl rfl rfl rfl (c_n_ahead hI ) rfl hX rfl (fun gi51 gl51 gr51 hI hX hC51 q51 => ?_)
                      have q51 : ∀ (b : Nat → Int32) (n q : Nat), t_Sm b n q g50 → t_TM b n q gi51 := q51
                      refine ev_ic f_X12_number (nx := 51) (v := 1) rfl (by decide) rfl ?_
                      refine ev_retK1 f_X12_number rfl rfl rfl ?_
                      refine ev_f f_X12_passes (t1 := 74) (t2 := 46) rfl rfl rfl (by decide) ?_
                      refine ev_loc f_X12_passes (nx := 47) rfl rfl rfl rfl ?_
                      refine ev_heap f_X12_passes (nx := 49) rfl rfl rfl rfl ?_
                      refine ev_bp f_X12_passes (nx := 51) (v := 11) rfl (by decide) rfl ?_
                      refine ev_qI f_X12_passes (nx := 54) (r := []) rfl rfl rfl rfl rfl rfl rfl (c_n_wantWord hI (11)) rfl hX rfl (fun w52 gi52 gl52 gr52 l52 u52 hI hX hC52 q52 => ?_)
                      have q52 : ∀ (b : Nat → Int32) (n q : Nat), t_TM b n q gi51 → (w52.toInt = 1 ∧ s_mi (s_W b n q) = 11 ∧ t_TM b n (s_E b n q) gi52 ∧ t_mf gi51 gi52) ∨ (w52.toInt = 0 ∧ ¬ s_mi (s_W b n q) = 11 ∧ ((gi51 69 18).toInt = 0 → t_MF gi52 (s_fk b n q 2) (s_F b n q))) := q52
                      refine ev_if f_X12_passes (t1 := 74) (t2 := 57) rfl rfl rfl (fun h53 => ?_) (fun h53 => ?_)
                      · have u54 : w52.toInt ≤ 0 := t_equ h53 (by decide : (0:Int32).toInt ≤ (0:Int))
                        refine ev_ic f_X12_passes (nx := 75) (v := 0) rfl (by decide) rfl ?_
                        refine ev_retK1 f_X12_passes rfl rfl rfl ?_
                        refine ev_t f_X12_aCart (t1 := 61) (t2 := 63) rfl rfl rfl (by decide) ?_
                        refine ev_ic f_X12_aCart (nx := 62) (v := 0) rfl (by decide) rfl ?_
                        exact ev_ret f_X12_aCart rfl rfl rfl ⟨_, _, _, rfl, hI, hX, ⟨_, rfl, (by decide : (0:Int) ≤ (0:Int32).toInt), (Int.le_trans (by decide : (0:Int32).toInt ≤ (0:Int)) (by decide : (0:Int) ≤ 1)), (show ∀ (b : Nat → Int32) (n q : Nat) (D : s_D), t_MS b n q D gi gl → ((0 : Int) = 1 ∧ ∃ q2 D2, s_cart b n q D = s_ok q2 D2 ∧ t_MS b n q2 D2 gi52 gl52) ∨ ((0 : Int) = 0 ∧ ∃ p x D2, x ≠ 0 ∧ s_cart b n q D = s_bad b n p x D2 ∧ t_MF gi52 (s_fk b n p x) (s_F b n p)) from (by
                                                            intro b n q D h
                                                            have d0 : (gi 70 1402).toInt = D 2 := h.2.1.2.1.1.1.2.2
                                                            have b0 := h.2.1.1.2.2
                                                            have hc0 := t_clamp (i := gi 70 1402) (by omega)
                                                            obtain ⟨_, hN, hU, t1, m1, n1⟩ := (q12 b n q D h).resolve_right (fun hh => by rcases hh with hh | hh <;> exact absurd hh.1 (by omega))
                                                            have m0 := m1
                                                            obtain ⟨_, w1, t1_, m1⟩ := (q17 b n _ t1).resolve_right (fun hh => absurd hh.1 (by omega))
                                                            have k1 := (s_mi_W (i := 8) (by decide)).mp w1
                                                            have v2 := t1_.vT (lo := 0) (hi := 120) (by omega) (by omega) (by omega)
                                                            have t2_ := q33 b n _ (t1_.st e32).S
                                                            obtain ⟨_, w3, t3_, m3⟩ := (q34 b n _ t2_).resolve_right (fun hh => absurd hh.1 (by omega))
                                                            have k3 := (s_mi_W (i := 9) (by decide)).mp w3
                                                            have v4 := t3_.vT (lo := 1) (hi := 20) (by omega) (by omega) (by omega)
                                                            have t4_ := q51 b n _ (t3_.st e50).S
                                                            rcases q52 b n _ t4_ with hh | hh
                                                            · exact absurd hh.1 (by omega)
                                                            · exact Or.inr ⟨rfl, _, 2, D, by decide, by simp only [s_cart, s_name, s_kw, s_come, s_num, s_ifF (show ¬ D 2 = 6 by omega), s_ifT hN, s_ifF hU, s_ifT k1, s_ifT v2.1.1, s_ifT v2.1, s_ifT k3, s_ifT v4.1.1, s_ifT v4.1, s_ifF (fun hw => hh.2.1 ((s_mi_W (i := 10) (by decide)).mpr hw))], hh.2.2 (by rw [(hC51.1 69 18 rfl).1, e50, x_up2_ne (by decide), m3.1, (hC33.1 69 18 rfl).1, e32, x_up2_ne (by decide), m1.1, m0.1]; exact h.2.2.1)⟩))⟩⟩
                      · have r55 : w52.toInt ≠ 0 := fun e => h53 (Int32.toInt_inj.mp (e.trans (by decide : (0:Int) = (0 : Int32).toInt)))
                        have l56 : 1 ≤ w52.toInt := t_nel h53 l52 rfl rfl
                        refine ev_loc f_X12_passes (nx := 58) rfl rfl rfl rfl ?_
                        refine ev_loc f_X12_passes (nx := 59) rfl rfl rfl rfl ?_
                        refine ev_ic f_X12_passes (nx := 60) (v := 2) rfl (by decide) rfl ?_
                        refine ev_addC f_X12_passes (nx := 61) (c := 2) (l := 1484) (u := 1502) rfl (by decide) l3 u3 rfl rfl (by decide) (by decide) rfl (fun z57 e57 l57 u57 => ?_)
                        refine ev_ic f_X12_passes (nx := 62) (v := 0) rfl (by decide) rfl ?_
                        refine ev_bp f_X12_passes (nx := 64) (v := 99) rfl (by decide) rfl ?_
                        refine ev_inV4 f_X12_passes (nx := 67) (lo2 := [(0, .ref 69), (1, .int z57), (2, .int 0), (3, .int 99)]) rfl rfl rfl rfl f_X12_number (hI.wf.s rfl) rfl rfl rfl rfl rfl ?_
                        refine ev_loc f_X12_number (nx := 1) rfl rfl rfl rfl ?_
                        refine ev_getI f_X12_number (nx := 4) rfl (hI.wf.s rfl) rfl rfl rfl ?_
                        obtain ⟨l58, u58⟩ := hI.b (hI.wf.s (k := 69) rfl) (t_bdK rfl : t_bd 11 12 = some (0, 4))
                        refine ev_ic f_X12_number (nx := 5) (v := 3) rfl (by decide) rfl ?_
                        refine ev_if f_X12_number (t1 := 14) (t2 := 8) rfl rfl rfl (fun h59 => ?_) (fun h59 => ?_)
                        · have u60 : (gi52 69 12).toInt ≤ 3 := t_equ h59 (by decide : (3:Int32).toInt ≤ (3:Int))
                          have l61 : 3 ≤ (gi52 69 12).toInt := t_eql h59 (by decide : (3:Int) ≤ (3:Int32).toInt)
                          refine ev_loc f_X12_number (nx := 15) rfl rfl rfl rfl ?_
                          refine ev_getI f_X12_number (nx := 18) rfl (hI.wf.s rfl) rfl rfl rfl ?_
                          refine ev_loc f_X12_number (nx := 19) rfl rfl rfl rfl ?_
                          refine ev_if f_X12_number (t1 := 30) (t2 := 22) rfl rfl rfl (fun h62 => ?_) (fun h62 => ?_)
                          · have u63 : (gi52 69 15).toInt ≤ (-1) := t_ltu h62 (by decide : (0:Int32).toInt ≤ (0:Int)) rfl
                            refine ev_loc f_X12_number (nx := 31) rfl rfl rfl rfl ?_
                            refine ev_ic f_X12_number (nx := 32) (v := 4) rfl (by decide) rfl ?_
                            refine ev_qI f_X12_number (nx := 35) (r := []) rfl rfl rfl rfl rfl rfl rfl (c_n_fails hI (4) (Int.le_trans (by decide : (2:Int) ≤ 4) (by decide : (4:Int) ≤ (4:Int32).toInt)) (Int.le_trans (by decide : (4:Int32).toInt ≤ (4:Int)) (by decide : (4:Int) ≤ 7))) rfl hX rfl (fun w64 gi64 gl64 gr64 l64 u64 hI hX hC64 q64 => ?_)
                            have q64 : (∀ (b : Nat → Int32) (n q : Nat), t_TM b n q gi52 → (gi52 69 18).toInt = 0 → t_MF gi64 (s_fk b n q 4) (s_F b n q)) ∧ w64.toInt = 0 := q64
                            refine ev_retK1 f_X12_number rfl rfl (t_rz l64 (Int.le_trans u64 (by decide : (0:Int) ≤ 1))) ?_
                            refine ev_t f_X12_passes (t1 := 74) (t2 := 70) rfl rfl rfl (t_eqT u64 l64 (by decide : (0:Int32).toInt ≤ (0:Int)) (by decide : (0:Int) ≤ (0:Int32).toInt)) ?_
                            refine ev_ic f_X12_passes (nx := 75) (v := 0) rfl (by decide) rfl ?_
                            refine ev_retK1 f_X12_passes rfl rfl rfl ?_
                            refine ev_t f_X12_aCart (t1 := 61) (t2 := 63) rfl rfl rfl (by decide) ?_
                            refine ev_ic f_X12_aCart (nx := 62) (v := 0) rfl (by decide) rfl ?_
                            exact ev_ret f_X12_aCart rfl rfl rfl ⟨_, _, _, rfl, hI, hX, ⟨_, rfl, (by decide : (0:Int) ≤ (0:Int32).toInt), (Int.le_trans (by decide : (0:Int32).toInt ≤ (0:Int)) (by decide : (0:Int) ≤ 1)), (show ∀ (b : Nat → Int32) (n q : Nat) (D : s_D), t_MS b n q D gi gl → ((0 : Int) = 1 ∧ ∃ q2 D2, s_cart b n q D = s_ok q2 D2 ∧ t_MS b n q2 D2 gi64 gl64) ∨ ((0 : Int) = 0 ∧ ∃ p x D2, x ≠ 0 ∧ s_cart b n q D = s_bad b n p x D2 ∧ t_MF gi64 (s_fk b n p x) (s_F b n p)) from (by
                                                            intro b n q D h
                                                            have d0 : (gi 70 1402).toInt = D 2 := h.2.1.2.1.1.1.2.2
                                                            have b0 := h.2.1.1.2.2
                                                            have hc0 := t_clamp (i := gi 70 1402) (by omega)
                                                            obtain ⟨_, hN, hU, t1, m1, n1⟩ := (q12 b n q D h).resolve_right (fun hh => by rcases hh with hh | hh <;> exact absurd hh.1 (by omega))
                                                            have m0 := m1
                                                            obtain ⟨_, w1, t1_, m1⟩ := (q17 b n _ t1).resolve_right (fun hh => absurd hh.1 (by omega))
                                                            have k1 := (s_mi_W (i := 8) (by decide)).mp w1
                                                            have v2 := t1_.vT (lo := 0) (hi := 120) (by omega) (by omega) (by omega)
                                                            have t2_ := q33 b n _ (t1_.st e32).S
                                                            obtain ⟨_, w3, t3_, m3⟩ := (q34 b n _ t2_).resolve_right (fun hh => absurd hh.1 (by omega))
                                                            have k3 := (s_mi_W (i := 9) (by decide)).mp w3
                                                            have v4 := t3_.vT (lo := 1) (hi := 20) (by omega) (by omega) (by omega)
                                                            have t4_ := q51 b n _ (t3_.st e50).S
                                                            obtain ⟨_, w5, t5_, m5⟩ := (q52 b n _ t4_).resolve_right (fun hh => absurd hh.1 (by omega))
                                                            have k5 := (s_mi_W (i := 10) (by decide)).mp w5
                                                            have hv := t5_.vF (lo := 0) (hi := 99) (by omega) (by omega)
                                                            exact Or.inr ⟨rfl, _, 4, D, by decide, by simp only [s_cart, s_name, s_kw, s_come, s_num, s_ifF (show ¬ D 2 = 6 by omega), s_ifT hN, s_ifF hU, s_ifT k1, s_ifT v2.1.1, s_ifT v2.1, s_ifT k3, s_ifT v4.1.1, s_ifT v4.1, s_ifT k5, s_ifT hv.1, s_ifF hv.2], q64.1 b n _ t5_ (by rw [m5.1, (hC51.1 69 18 rfl).1, e50, x_up2_ne (by decide), m3.1, (hC33.1 69 18 rfl).1, e32, x_up2_ne (by decide), m1.1, m0.1]; exact h.2.2.1)⟩))⟩⟩
                          · have l65 : 0 ≤ (gi52 69 15).toInt := t_lel (t_nlt h62) (by decide : (0:Int) ≤ (0:Int32).toInt)
                            refine ev_loc f_X12_number (nx := 23) rfl rfl rfl rfl ?_
                            refine ev_gvI f_X12_number (nx := 26) (w := (gi52 69 15)) rfl (hI.wf.s rfl) rfl rfl rfl rfl ?_
                            refine ev_loc f_X12_number (nx := 27) rfl rfl rfl rfl ?_
                            refine ev_if f_X12_number (t1 := 36) (t2 := 30) rfl rfl rfl (fun h66 => ?_) (fun h66 => ?_)
                            · have u67 : (gi52 69 15).toInt ≤ 99 := t_leu h66 (by decide : (99:Int32).toInt ≤ (99:Int))
                              refine ev_loc f_X12_number (nx := 37) rfl rfl rfl rfl ?_
                              refine ev_getR f_X12_number (nx := 40) rfl (hI.wf.s rfl) rfl rfl (hI.wf.r rfl) rfl rfl ?_
                              refine ev_loc f_X12_number (nx := 41) rfl rfl rfl rfl ?_
                              refine ev_loc f_X12_number (nx := 42) rfl rfl rfl rfl ?_
                              refine ev_gvI f_X12_number (nx := 45) (w := (gi52 69 15)) rfl (hI.wf.s rfl) rfl rfl rfl rfl ?_
                              refine ev_iastT f_X12_number (nx := 46) rfl (hI.wf.s rfl) l57 (by decide) u57 (by decide) rfl (hI.astA (x := (gi 70 1402)) (hI.wf.s rfl) (by decide +kernel : t_abwa 70 1484 3 0 5 0 99 = true) (by omega) (by omega) (by omega) l65 u67 rfl) (hX.upI (t_inR (p := 1484) (m := 1502) rfl l57 (by decide) u57 (by decide) (by decide))) (fun g68 e68 hI hX => ?_)
                              refine ev_loc f_X12_number (nx := 47) rfl rfl rfl rfl ?_
                              refine ev_qN f_X12_number (nx := 50) (r := []) rfl rfl rfl rfl rfl rfl rfl (c_n_ahead hI ) rfl hX rfl (fun gi69 gl69 gr69 hI hX hC69 q69 => ?_)
                              have q69 : ∀ (b : Nat → Int32) (n q : Nat), t_Sm b n q g68 → t_TM b n q gi69 := q69
                              refine ev_ic f_X12_number (nx := 51) (v := 1) rfl (by decide) rfl ?_
                              refine ev_retK1 f_X12_number rfl rfl rfl ?_
                              refine ev_f f_X12_passes (t1 := 74) (t2 := 70) rfl rfl rfl (by decide) ?_
                              refine ev_ic f_X12_passes (nx := 71) (v := 1) rfl (by decide) rfl ?_
                              refine ev_jmp f_X12_passes (nx := 75) rfl rfl rfl ?_
                              refine ev_retK1 f_X12_passes rfl rfl rfl ?_
                              refine ev_f f_X12_aCart (t1 := 61) (t2 := 63) rfl rfl rfl (by decide) ?_
                              refine ev_loc f_X12_aCart (nx := 64) rfl rfl rfl rfl ?_
                              refine ev_getR f_X12_aCart (nx := 67) rfl (hI.wf.s rfl) rfl rfl (hI.wf.r rfl) rfl rfl ?_
                              refine ev_sp f_X12_aCart (nx := 70) (v := 1402) rfl (by decide) rfl ?_
                              refine ev_alu f_X12_aCart (nx := 71) rfl rfl rfl rfl ?_
                              refine ev_ialdv f_X12_aCart (nx := 72) (w := (gi 70 1402)) rfl (hI.wf.s rfl) (by decide) (rfl : (1402 : Int32).toNatClampNeg = 1402) (by decide) ((hC69.1 70 1402 rfl).1.trans ((by rw [e68]; exact x_up2_off (Or.inr (t_neCl l57 (by decide))) : g68 70 1402 = gi52 70 1402).trans ((hC52.1 70 1402 rfl).1.trans ((hC51.1 70 1402 rfl).1.trans ((by rw [e50]; exact x_up2_off (Or.inr (t_neCl l39 (by decide))) : g50 70 1402 = gi34 70 1402).trans ((hC34.1 70 1402 rfl).1.trans ((hC33.1 70 1402 rfl).1.trans ((by rw [e32]; exact x_up2_off (Or.inr (t_neCl l3 (by decide))) : g32 70 1402 = gi17 70 1402).trans ((hC17.1 70 1402 rfl).1.trans ((hC12.1 70 1402 rfl).1.trans rfl)))))))))) rfl ?_
                              refine ev_ic f_X12_aCart (nx := 73) (v := 1) rfl (by decide) rfl ?_
                              refine ev_addC f_X12_aCart (nx := 74) (c := 1) (l := 1) (u := 6) rfl (by decide) l1 u9 rfl rfl (by decide) (by decide) rfl (fun z71 e71 l71 u71 => ?_)
                              refine ev_iastT f_X12_aCart (nx := 75) rfl (hI.wf.s rfl) (by decide : (1402:Int) ≤ (1402:Int32).toInt) (by decide) (by decide : (1402:Int32).toInt ≤ (1402:Int)) (by decide) rfl (hI.astL (hI.wf.s rfl) (by decide +kernel : t_abw 70 1402 1402 1 6 = true) (t_cl1 (by decide : (1402:Int) ≤ (1402:Int32).toInt) (by decide)) (t_cl2 (by decide : (1402:Int) ≤ (1402:Int32).toInt) (by decide : (1402:Int32).toInt ≤ (1402:Int)) (by decide) (by decide)) l71 u71 rfl) (hX.upI (t_inR (p := 1402) (m := 1402) rfl (by decide : (1402:Int) ≤ (1402:Int32).toInt) (by decide) (by decide : (1402:Int32).toInt ≤ (1402:Int)) (by decide) (by decide))) (fun g72 e72 hI hX => ?_)
                              refine ev_ic f_X12_aCart (nx := 76) (v := 1) rfl (by decide) rfl ?_
                              exact ev_ret f_X12_aCart rfl rfl rfl ⟨_, _, _, rfl, hI, hX, ⟨_, rfl, (Int.le_trans (by decide : (0:Int) ≤ 1) (by decide : (1:Int) ≤ (1:Int32).toInt)), (by decide : (1:Int32).toInt ≤ (1:Int)), (show ∀ (b : Nat → Int32) (n q : Nat) (D : s_D), t_MS b n q D gi gl → ((1 : Int) = 1 ∧ ∃ q2 D2, s_cart b n q D = s_ok q2 D2 ∧ t_MS b n q2 D2 g72 gl69) ∨ ((1 : Int) = 0 ∧ ∃ p x D2, x ≠ 0 ∧ s_cart b n q D = s_bad b n p x D2 ∧ t_MF g72 (s_fk b n p x) (s_F b n p)) from (by
                                                            intro b n q D h
                                                            have d0 : (gi 70 1402).toInt = D 2 := h.2.1.2.1.1.1.2.2
                                                            have b0 := h.2.1.1.2.2
                                                            have hc0 := t_clamp (i := gi 70 1402) (by omega)
                                                            obtain ⟨_, hN, hU, t1, m1, n1⟩ := (q12 b n q D h).resolve_right (fun hh => by rcases hh with hh | hh <;> exact absurd hh.1 (by omega))
                                                            have m0 := m1
                                                            obtain ⟨_, w1, t1_, m1⟩ := (q17 b n _ t1).resolve_right (fun hh => absurd hh.1 (by omega))
                                                            have k1 := (s_mi_W (i := 8) (by decide)).mp w1
                                                            have v2 := t1_.vT (lo := 0) (hi := 120) (by omega) (by omega) (by omega)
                                                            have t2_ := q33 b n _ (t1_.st e32).S
                                                            obtain ⟨_, w3, t3_, m3⟩ := (q34 b n _ t2_).resolve_right (fun hh => absurd hh.1 (by omega))
                                                            have k3 := (s_mi_W (i := 9) (by decide)).mp w3
                                                            have v4 := t3_.vT (lo := 1) (hi := 20) (by omega) (by omega) (by omega)
                                                            have t4_ := q51 b n _ (t3_.st e50).S
                                                            obtain ⟨_, w5, t5_, m5⟩ := (q52 b n _ t4_).resolve_right (fun hh => absurd hh.1 (by omega))
                                                            have k5 := (s_mi_W (i := 10) (by decide)).mp w5
                                                            have v6 := t5_.vT (lo := 0) (hi := 99) (by omega) (by omega) (by omega)
                                                            have t6_ := q69 b n _ (t5_.st e68).S
                                                            have cl0_ := t_clamp (i := z3) (by omega)
                                                            have cl1_ := t_clamp (i := z39) (by omega)
                                                            have cl2_ := t_clamp (i := z57) (by omega)
                                                            have kc1402_ : (1402 : Int32).toNatClampNeg = 1402 := rfl
                                                            have hz0 := t_clamp (i := z11) (by omega)
                                                            have y0 : g72 70 (1482 + 3 * (gi 70 1402).toNatClampNeg) = (gi17 69 15) := by
                                                              rw [e72, x_up2_off (Or.inr (by omega)), (hC69.1 70 _ rfl).1, e68, x_up2_off (Or.inr (by omega)), (hC52.1 70 _ rfl).1, (hC51.1 70 _ rfl).1, e50, x_up2_off (Or.inr (by omega)), (hC34.1 70 _ rfl).1, (hC33.1 70 _ rfl).1, e32]
                                                              rw [show 1482 + 3 * (gi 70 1402).toNatClampNeg = z3.toNatClampNeg from (by omega), x_up2_at]
                                                            have y1 : g72 70 (1483 + 3 * (gi 70 1402).toNatClampNeg) = (gi34 69 15) := by
                                                              rw [e72, x_up2_off (Or.inr (by omega)), (hC69.1 70 _ rfl).1, e68, x_up2_off (Or.inr (by omega)), (hC52.1 70 _ rfl).1, (hC51.1 70 _ rfl).1, e50]
                                                              rw [show 1483 + 3 * (gi 70 1402).toNatClampNeg = z39.toNatClampNeg from (by omega), x_up2_at]
                                                            have y2 : g72 70 (1484 + 3 * (gi 70 1402).toNatClampNeg) = (gi52 69 15) := by
                                                              rw [e72, x_up2_off (Or.inr (by omega)), (hC69.1 70 _ rfl).1, e68]
                                                              rw [show 1484 + 3 * (gi 70 1402).toNatClampNeg = z57.toNatClampNeg from (by omega), x_up2_at]
                                                            have yr : ∀ j, j ≠ 1402 → (j < 1482 + 3 * (gi 70 1402).toNatClampNeg ∨ 1485 + 3 * (gi 70 1402).toNatClampNeg ≤ j) → g72 70 j = gi 70 j := fun j j1 j2 => by
                                                              rw [e72, x_up2_off (Or.inr (by omega)), (hC69.1 70 _ rfl).1, e68, x_up2_off (Or.inr (by omega)), (hC52.1 70 _ rfl).1, (hC51.1 70 _ rfl).1, e50, x_up2_off (Or.inr (by omega)), (hC34.1 70 _ rfl).1, (hC33.1 70 _ rfl).1, e32, x_up2_off (Or.inr (by omega)), (hC17.1 70 _ rfl).1, (hC12.1 70 _ rfl).1]
                                                            have yc : (g72 70 1402).toInt = D 2 + 1 := by
                                                              rw [e72, kc1402_, x_up2_at]; omega
                                                            have yl : ∀ j : Nat, gl69 71 j = gl12 71 j := fun j => by rw [(hC69.1 71 j rfl).2.1, (hC52.1 71 j rfl).2.1, (hC51.1 71 j rfl).2.1, (hC34.1 71 j rfl).2.1, (hC33.1 71 j rfl).2.1, (hC17.1 71 j rfl).2.1]
                                                            exact Or.inl ⟨rfl, _, _, by simp only [s_cart, s_name, s_kw, s_come, s_num, s_ifF (show ¬ D 2 = 6 by omega), s_ifT hN, s_ifF hU, s_ifT k1, s_ifT v2.1.1, s_ifT v2.1, s_ifT k3, s_ifT v4.1.1, s_ifT v4.1, s_ifT k5, s_ifT v6.1.1, s_ifT v6.1], t_MS_cart h (by omega) hN (t6_.st e72) ⟨by rw [e72, x_up2_ne (by decide), (hC69.1 69 18 rfl).1, e68, x_up2_ne (by decide), m5.1, (hC51.1 69 18 rfl).1, e50, x_up2_ne (by decide), m3.1, (hC33.1 69 18 rfl).1, e32, x_up2_ne (by decide), m1.1, m0.1], by rw [e72, x_up2_ne (by decide), (hC69.1 69 17 rfl).1, e68, x_up2_ne (by decide), m5.2, (hC51.1 69 17 rfl).1, e50, x_up2_ne (by decide), m3.2, (hC33.1 69 17 rfl).1, e32, x_up2_ne (by decide), m1.2, m0.2]⟩ (d := (gi 70 1402).toNatClampNeg) (by omega) yr yc ((congrArg Int32.toInt y0).trans v2.2) ((congrArg Int32.toInt y1).trans v4.2) ((congrArg Int32.toInt y2).trans v6.2) (fun j => by rw [yl, n1 j, show 72 + z11.toNatClampNeg = 84 + (gi 70 1402).toNatClampNeg from (by omega)]) (by rw [e72, x_up2_ne (by decide), (hC69.1 69 20 rfl).1, e68, x_up2_ne (by decide), (hC52.1 69 20 rfl).1, (hC51.1 69 20 rfl).1, e50, x_up2_ne (by decide), (hC34.1 69 20 rfl).1, (hC33.1 69 20 rfl).1, e32, x_up2_ne (by decide), (hC17.1 69 20 rfl).1, (hC12.1 69 20 rfl).1])⟩))⟩⟩
                            · have l73 : 100 ≤ (gi52 69 15).toInt := t_ltl (t_nle h66) (by decide : (99:Int) ≤ (99:Int32).toInt) rfl
                              refine ev_loc f_X12_number (nx := 31) rfl rfl rfl rfl ?_
                              refine ev_ic f_X12_number (nx := 32) (v := 4) rfl (by decide) rfl ?_
                              refine ev_qI f_X12_number (nx := 35) (r := []) rfl rfl rfl rfl rfl rfl rfl (c_n_fails hI (4) (Int.le_trans (by decide : (2:Int) ≤ 4) (by decide : (4:Int) ≤ (4:Int32).toInt)) (Int.le_trans (by decide : (4:Int32).toInt ≤ (4:Int)) (by decide : (4:Int) ≤ 7))) rfl hX rfl (fun w74 gi74 gl74 gr74 l74 u74 hI hX hC74 q74 => ?_)
                              have q74 : (∀ (b : Nat → Int32) (n q : Nat), t_TM b n q gi52 → (gi52 69 18).toInt = 0 → t_MF gi74 (s_fk b n q 4) (s_F b n q)) ∧ w74.toInt = 0 := q74
                              refine ev_retK1 f_X12_number rfl rfl (t_rz l74 (Int.le_trans u74 (by decide : (0:Int) ≤ 1))) ?_
                              refine ev_t f_X12_passes (t1 := 74) (t2 := 70) rfl rfl rfl (t_eqT u74 l74 (by decide : (0:Int32).toInt ≤ (0:Int)) (by decide : (0:Int) ≤ (0:Int32).toInt)) ?_
                              refine ev_ic f_X12_passes (nx := 75) (v := 0) rfl (by decide) rfl ?_
                              refine ev_retK1 f_X12_passes rfl rfl rfl ?_
                              refine ev_t f_X12_aCart (t1 := 61) (t2 := 63) rfl rfl rfl (by decide) ?_
                              refine ev_ic f_X12_aCart (nx := 62) (v := 0) rfl (by decide) rfl ?_
                              exact ev_ret f_X12_aCart rfl rfl rfl ⟨_, _, _, rfl, hI, hX, ⟨_, rfl, (by decide : (0:Int) ≤ (0:Int32).toInt), (Int.le_trans (by decide : (0:Int32).toInt ≤ (0:Int)) (by decide : (0:Int) ≤ 1)), (show ∀ (b : Nat → Int32) (n q : Nat) (D : s_D), t_MS b n q D gi gl → ((0 : Int) = 1 ∧ ∃ q2 D2, s_cart b n q D = s_ok q2 D2 ∧ t_MS b n q2 D2 gi74 gl74) ∨ ((0 : Int) = 0 ∧ ∃ p x D2, x ≠ 0 ∧ s_cart b n q D = s_bad b n p x D2 ∧ t_MF gi74 (s_fk b n p x) (s_F b n p)) from (by
                                                            intro b n q D h
                                                            have d0 : (gi 70 1402).toInt = D 2 := h.2.1.2.1.1.1.2.2
                                                            have b0 := h.2.1.1.2.2
                                                            have hc0 := t_clamp (i := gi 70 1402) (by omega)
                                                            obtain ⟨_, hN, hU, t1, m1, n1⟩ := (q12 b n q D h).resolve_right (fun hh => by rcases hh with hh | hh <;> exact absurd hh.1 (by omega))
                                                            have m0 := m1
                                                            obtain ⟨_, w1, t1_, m1⟩ := (q17 b n _ t1).resolve_right (fun hh => absurd hh.1 (by omega))
                                                            have k1 := (s_mi_W (i := 8) (by decide)).mp w1
                                                            have v2 := t1_.vT (lo := 0) (hi := 120) (by omega) (by omega) (by omega)
                                                            have t2_ := q33 b n _ (t1_.st e32).S
                                                            obtain ⟨_, w3, t3_, m3⟩ := (q34 b n _ t2_).resolve_right (fun hh => absurd hh.1 (by omega))
                                                            have k3 := (s_mi_W (i := 9) (by decide)).mp w3
                                                            have v4 := t3_.vT (lo := 1) (hi := 20) (by omega) (by omega) (by omega)
                                                            have t4_ := q51 b n _ (t3_.st e50).S
                                                            obtain ⟨_, w5, t5_, m5⟩ := (q52 b n _ t4_).resolve_right (fun hh => absurd hh.1 (by omega))
                                                            have k5 := (s_mi_W (i := 10) (by decide)).mp w5
                                                            have hv := t5_.vF (lo := 0) (hi := 99) (by omega) (by omega)
                                                            exact Or.inr ⟨rfl, _, 4, D, by decide, by simp only [s_cart, s_name, s_kw, s_come, s_num, s_ifF (show ¬ D 2 = 6 by omega), s_ifT hN, s_ifF hU, s_ifT k1, s_ifT v2.1.1, s_ifT v2.1, s_ifT k3, s_ifT v4.1.1, s_ifT v4.1, s_ifT k5, s_ifT hv.1, s_ifF hv.2], q74.1 b n _ t5_ (by rw [m5.1, (hC51.1 69 18 rfl).1, e50, x_up2_ne (by decide), m3.1, (hC33.1 69 18 rfl).1, e32, x_up2_ne (by decide), m1.1, m0.1]; exact h.2.2.1)⟩))⟩⟩
                        · have r75 : (gi52 69 12).toInt ≠ 3 := fun e => h59 (Int32.toInt_inj.mp (e.trans (by decide : (3:Int) = (3 : Int32).toInt)))
                          refine ev_loc f_X12_number (nx := 9) rfl rfl rfl rfl ?_
                          refine ev_ic f_X12_number (nx := 10) (v := 2) rfl (by decide) rfl ?_
                          refine ev_qI f_X12_number (nx := 13) (r := []) rfl rfl rfl rfl rfl rfl rfl (c_n_fails hI (2) (by decide : (2:Int) ≤ (2:Int32).toInt) (Int.le_trans (by decide : (2:Int32).toInt ≤ (2:Int)) (by decide : (2:Int) ≤ 7))) rfl hX rfl (fun w76 gi76 gl76 gr76 l76 u76 hI hX hC76 q76 => ?_)
                          have q76 : (∀ (b : Nat → Int32) (n q : Nat), t_TM b n q gi52 → (gi52 69 18).toInt = 0 → t_MF gi76 (s_fk b n q 2) (s_F b n q)) ∧ w76.toInt = 0 := q76
                          refine ev_retK1 f_X12_number rfl rfl (t_rz l76 (Int.le_trans u76 (by decide : (0:Int) ≤ 1))) ?_
                          refine ev_t f_X12_passes (t1 := 74) (t2 := 70) rfl rfl rfl (t_eqT u76 l76 (by decide : (0:Int32).toInt ≤ (0:Int)) (by decide : (0:Int) ≤ (0:Int32).toInt)) ?_
                          refine ev_ic f_X12_passes (nx := 75) (v := 0) rfl (by decide) rfl ?_
                          refine ev_retK1 f_X12_passes rfl rfl rfl ?_
                          refine ev_t f_X12_aCart (t1 := 61) (t2 := 63) rfl rfl rfl (by decide) ?_
                          refine ev_ic f_X12_aCart (nx := 62) (v := 0) rfl (by decide) rfl ?_
                          exact ev_ret f_X12_aCart rfl rfl rfl ⟨_, _, _, rfl, hI, hX, ⟨_, rfl, (by decide : (0:Int) ≤ (0:Int32).toInt), (Int.le_trans (by decide : (0:Int32).toInt ≤ (0:Int)) (by decide : (0:Int) ≤ 1)), (show ∀ (b : Nat → Int32) (n q : Nat) (D : s_D), t_MS b n q D gi gl → ((0 : Int) = 1 ∧ ∃ q2 D2, s_cart b n q D = s_ok q2 D2 ∧ t_MS b n q2 D2 gi76 gl76) ∨ ((0 : Int) = 0 ∧ ∃ p x D2, x ≠ 0 ∧ s_cart b n q D = s_bad b n p x D2 ∧ t_MF gi76 (s_fk b n p x) (s_F b n p)) from (by
                                                            intro b n q D h
                                                            have d0 : (gi 70 1402).toInt = D 2 := h.2.1.2.1.1.1.2.2
                                                            have b0 := h.2.1.1.2.2
                                                            have hc0 := t_clamp (i := gi 70 1402) (by omega)
                                                            obtain ⟨_, hN, hU, t1, m1, n1⟩ := (q12 b n q D h).resolve_right (fun hh => by rcases hh with hh | hh <;> exact absurd hh.1 (by omega))
                                                            have m0 := m1
                                                            obtain ⟨_, w1, t1_, m1⟩ := (q17 b n _ t1).resolve_right (fun hh => absurd hh.1 (by omega))
                                                            have k1 := (s_mi_W (i := 8) (by decide)).mp w1
                                                            have v2 := t1_.vT (lo := 0) (hi := 120) (by omega) (by omega) (by omega)
                                                            have t2_ := q33 b n _ (t1_.st e32).S
                                                            obtain ⟨_, w3, t3_, m3⟩ := (q34 b n _ t2_).resolve_right (fun hh => absurd hh.1 (by omega))
                                                            have k3 := (s_mi_W (i := 9) (by decide)).mp w3
                                                            have v4 := t3_.vT (lo := 1) (hi := 20) (by omega) (by omega) (by omega)
                                                            have t4_ := q51 b n _ (t3_.st e50).S
                                                            obtain ⟨_, w5, t5_, m5⟩ := (q52 b n _ t4_).resolve_right (fun hh => absurd hh.1 (by omega))
                                                            have k5 := (s_mi_W (i := 10) (by decide)).mp w5
                                                            exact Or.inr ⟨rfl, _, 2, D, by decide, by simp only [s_cart, s_name, s_kw, s_come, s_num, s_ifF (show ¬ D 2 = 6 by omega), s_ifT hN, s_ifF hU, s_ifT k1, s_ifT v2.1.1, s_ifT v2.1, s_ifT k3, s_ifT v4.1.1, s_ifT v4.1, s_ifT k5, s_ifF (t5_.vK (by omega))], q76.1 b n _ t5_ (by rw [m5.1, (hC51.1 69 18 rfl).1, e50, x_up2_ne (by decide), m3.1, (hC33.1 69 18 rfl).1, e32, x_up2_ne (by decide), m1.1, m0.1]; exact h.2.2.1)⟩))⟩⟩
                    · have l77 : 21 ≤ (gi34 69 15).toInt := t_ltl (t_nle h48) (by decide : (20:Int) ≤ (20:Int32).toInt) rfl
                      refine ev_loc f_X12_number (nx := 31) rfl rfl rfl rfl ?_
                      refine ev_ic f_X12_number (nx := 32) (v := 4) rfl (by decide) rfl ?_
                      refine ev_qI f_X12_number (nx := 35) (r := []) rfl rfl rfl rfl rfl rfl rfl (c_n_fails hI (4) (Int.le_trans (by decide : (2:Int) ≤ 4) (by decide : (4:Int) ≤ (4:Int32).toInt)) (Int.le_trans (by decide : (4:Int32).toInt ≤ (4:Int)) (by decide : (4:Int) ≤ 7))) rfl hX rfl (fun w78 gi78 gl78 gr78 l78 u78 hI hX hC78 q78 => ?_)
                      have q78 : (∀ (b : Nat → Int32) (n q : Nat), t_TM b n q gi34 → (gi34 69 18).toInt = 0 → t_MF gi78 (s_fk b n q 4) (s_F b n q)) ∧ w78.toInt = 0 := q78
                      refine ev_retK1 f_X12_number rfl rfl (t_rz l78 (Int.le_trans u78 (by decide : (0:Int) ≤ 1))) ?_
                      refine ev_t f_X12_passes (t1 := 74) (t2 := 46) rfl rfl rfl (t_eqT u78 l78 (by decide : (0:Int32).toInt ≤ (0:Int)) (by decide : (0:Int) ≤ (0:Int32).toInt)) ?_
                      refine ev_ic f_X12_passes (nx := 75) (v := 0) rfl (by decide) rfl ?_
                      refine ev_retK1 f_X12_passes rfl rfl rfl ?_
                      refine ev_t f_X12_aCart (t1 := 61) (t2 := 63) rfl rfl rfl (by decide) ?_
                      refine ev_ic f_X12_aCart (nx := 62) (v := 0) rfl (by decide) rfl ?_
                      exact ev_ret f_X12_aCart rfl rfl rfl ⟨_, _, _, rfl, hI, hX, ⟨_, rfl, (by decide : (0:Int) ≤ (0:Int32).toInt), (Int.le_trans (by decide : (0:Int32).toInt ≤ (0:Int)) (by decide : (0:Int) ≤ 1)), (show ∀ (b : Nat → Int32) (n q : Nat) (D : s_D), t_MS b n q D gi gl → ((0 : Int) = 1 ∧ ∃ q2 D2, s_cart b n q D = s_ok q2 D2 ∧ t_MS b n q2 D2 gi78 gl78) ∨ ((0 : Int) = 0 ∧ ∃ p x D2, x ≠ 0 ∧ s_cart b n q D = s_bad b n p x D2 ∧ t_MF gi78 (s_fk b n p x) (s_F b n p)) from (by
                                                            intro b n q D h
                                                            have d0 : (gi 70 1402).toInt = D 2 := h.2.1.2.1.1.1.2.2
                                                            have b0 := h.2.1.1.2.2
                                                            have hc0 := t_clamp (i := gi 70 1402) (by omega)
                                                            obtain ⟨_, hN, hU, t1, m1, n1⟩ := (q12 b n q D h).resolve_right (fun hh => by rcases hh with hh | hh <;> exact absurd hh.1 (by omega))
                                                            have m0 := m1
                                                            obtain ⟨_, w1, t1_, m1⟩ := (q17 b n _ t1).resolve_right (fun hh => absurd hh.1 (by omega))
                                                            have k1 := (s_mi_W (i := 8) (by decide)).mp w1
                                                            have v2 := t1_.vT (lo := 0) (hi := 120) (by omega) (by omega) (by omega)
                                                            have t2_ := q33 b n _ (t1_.st e32).S
                                                            obtain ⟨_, w3, t3_, m3⟩ := (q34 b n _ t2_).resolve_right (fun hh => absurd hh.1 (by omega))
                                                            have k3 := (s_mi_W (i := 9) (by decide)).mp w3
                                                            have hv := t3_.vF (lo := 1) (hi := 20) (by omega) (by omega)
                                                            exact Or.inr ⟨rfl, _, 4, D, by decide, by simp only [s_cart, s_name, s_kw, s_come, s_num, s_ifF (show ¬ D 2 = 6 by omega), s_ifT hN, s_ifF hU, s_ifT k1, s_ifT v2.1.1, s_ifT v2.1, s_ifT k3, s_ifT hv.1, s_ifF hv.2], q78.1 b n _ t3_ (by rw [m3.1, (hC33.1 69 18 rfl).1, e32, x_up2_ne (by decide), m1.1, m0.1]; exact h.2.2.1)⟩))⟩⟩
                · have r79 : (gi34 69 12).toInt ≠ 3 := fun e => h41 (Int32.toInt_inj.mp (e.trans (by decide : (3:Int) = (3 : Int32).toInt)))
                  refine ev_loc f_X12_number (nx := 9) rfl rfl rfl rfl ?_
                  refine ev_ic f_X12_number (nx := 10) (v := 2) rfl (by decide) rfl ?_
                  refine ev_qI f_X12_number (nx := 13) (r := []) rfl rfl rfl rfl rfl rfl rfl (c_n_fails hI (2) (by decide : (2:Int) ≤ (2:Int32).toInt) (Int.le_trans (by decide : (2:Int32).toInt ≤ (2:Int)) (by decide : (2:Int) ≤ 7))) rfl hX rfl (fun w80 gi80 gl80 gr80 l80 u80 hI hX hC80 q80 => ?_)
                  have q80 : (∀ (b : Nat → Int32) (n q : Nat), t_TM b n q gi34 → (gi34 69 18).toInt = 0 → t_MF gi80 (s_fk b n q 2) (s_F b n q)) ∧ w80.toInt = 0 := q80
                  refine ev_retK1 f_X12_number rfl rfl (t_rz l80 (Int.le_trans u80 (by decide : (0:Int) ≤ 1))) ?_
                  refine ev_t f_X12_passes (t1 := 74) (t2 := 46) rfl rfl rfl (t_eqT u80 l80 (by decide : (0:Int32).toInt ≤ (0:Int)) (by decide : (0:Int) ≤ (0:Int32).toInt)) ?_
                  refine ev_ic f_X12_passes (nx := 75) (v := 0) rfl (by decide) rfl ?_
                  refine ev_retK1 f_X12_passes rfl rfl rfl ?_
                  refine ev_t f_X12_aCart (t1 := 61) (t2 := 63) rfl rfl rfl (by decide) ?_
                  refine ev_ic f_X12_aCart (nx := 62) (v := 0) rfl (by decide) rfl ?_
                  exact ev_ret f_X12_aCart rfl rfl rfl ⟨_, _, _, rfl, hI, hX, ⟨_, rfl, (by decide : (0:Int) ≤ (0:Int32).toInt), (Int.le_trans (by decide : (0:Int32).toInt ≤ (0:Int)) (by decide : (0:Int) ≤ 1)), (show ∀ (b : Nat → Int32) (n q : Nat) (D : s_D), t_MS b n q D gi gl → ((0 : Int) = 1 ∧ ∃ q2 D2, s_cart b n q D = s_ok q2 D2 ∧ t_MS b n q2 D2 gi80 gl80) ∨ ((0 : Int) = 0 ∧ ∃ p x D2, x ≠ 0 ∧ s_cart b n q D = s_bad b n p x D2 ∧ t_MF gi80 (s_fk b n p x) (s_F b n p)) from (by
                                                            intro b n q D h
                                                            have d0 : (gi 70 1402).toInt = D 2 := h.2.1.2.1.1.1.2.2
                                                            have b0 := h.2.1.1.2.2
                                                            have hc0 := t_clamp (i := gi 70 1402) (by omega)
                                                            obtain ⟨_, hN, hU, t1, m1, n1⟩ := (q12 b n q D h).resolve_right (fun hh => by rcases hh with hh | hh <;> exact absurd hh.1 (by omega))
                                                            have m0 := m1
                                                            obtain ⟨_, w1, t1_, m1⟩ := (q17 b n _ t1).resolve_right (fun hh => absurd hh.1 (by omega))
                                                            have k1 := (s_mi_W (i := 8) (by decide)).mp w1
                                                            have v2 := t1_.vT (lo := 0) (hi := 120) (by omega) (by omega) (by omega)
                                                            have t2_ := q33 b n _ (t1_.st e32).S
                                                            obtain ⟨_, w3, t3_, m3⟩ := (q34 b n _ t2_).resolve_right (fun hh => absurd hh.1 (by omega))
                                                            have k3 := (s_mi_W (i := 9) (by decide)).mp w3
                                                            exact Or.inr ⟨rfl, _, 2, D, by decide, by simp only [s_cart, s_name, s_kw, s_come, s_num, s_ifF (show ¬ D 2 = 6 by omega), s_ifT hN, s_ifF hU, s_ifT k1, s_ifT v2.1.1, s_ifT v2.1, s_ifT k3, s_ifF (t3_.vK (by omega))], q80.1 b n _ t3_ (by rw [m3.1, (hC33.1 69 18 rfl).1, e32, x_up2_ne (by decide), m1.1, m0.1]; exact h.2.2.1)⟩))⟩⟩
            · have l81 : 121 ≤ (gi17 69 15).toInt := t_ltl (t_nle h30) (by decide : (120:Int) ≤ (120:Int32).toInt) rfl
              refine ev_loc f_X12_number (nx := 31) rfl rfl rfl rfl ?_
              refine ev_ic f_X12_number (nx := 32) (v := 4) rfl (by decide) rfl ?_
              refine ev_qI f_X12_number (nx := 35) (r := []) rfl rfl rfl rfl rfl rfl rfl (c_n_fails hI (4) (Int.le_trans (by decide : (2:Int) ≤ 4) (by decide : (4:Int) ≤ (4:Int32).toInt)) (Int.le_trans (by decide : (4:Int32).toInt ≤ (4:Int)) (by decide : (4:Int) ≤ 7))) rfl hX rfl (fun w82 gi82 gl82 gr82 l82 u82 hI hX hC82 q82 => ?_)
              have q82 : (∀ (b : Nat → Int32) (n q : Nat), t_TM b n q gi17 → (gi17 69 18).toInt = 0 → t_MF gi82 (s_fk b n q 4) (s_F b n q)) ∧ w82.toInt = 0 := q82
              refine ev_retK1 f_X12_number rfl rfl (t_rz l82 (Int.le_trans u82 (by decide : (0:Int) ≤ 1))) ?_
              refine ev_t f_X12_passes (t1 := 74) (t2 := 22) rfl rfl rfl (t_eqT u82 l82 (by decide : (0:Int32).toInt ≤ (0:Int)) (by decide : (0:Int) ≤ (0:Int32).toInt)) ?_
              refine ev_ic f_X12_passes (nx := 75) (v := 0) rfl (by decide) rfl ?_
              refine ev_retK1 f_X12_passes rfl rfl rfl ?_
              refine ev_t f_X12_aCart (t1 := 61) (t2 := 63) rfl rfl rfl (by decide) ?_
              refine ev_ic f_X12_aCart (nx := 62) (v := 0) rfl (by decide) rfl ?_
              exact ev_ret f_X12_aCart rfl rfl rfl ⟨_, _, _, rfl, hI, hX, ⟨_, rfl, (by decide : (0:Int) ≤ (0:Int32).toInt), (Int.le_trans (by decide : (0:Int32).toInt ≤ (0:Int)) (by decide : (0:Int) ≤ 1)), (show ∀ (b : Nat → Int32) (n q : Nat) (D : s_D), t_MS b n q D gi gl → ((0 : Int) = 1 ∧ ∃ q2 D2, s_cart b n q D = s_ok q2 D2 ∧ t_MS b n q2 D2 gi82 gl82) ∨ ((0 : Int) = 0 ∧ ∃ p x D2, x ≠ 0 ∧ s_cart b n q D = s_bad b n p x D2 ∧ t_MF gi82 (s_fk b n p x) (s_F b n p)) from (by
                                                            intro b n q D h
                                                            have d0 : (gi 70 1402).toInt = D 2 := h.2.1.2.1.1.1.2.2
                                                            have b0 := h.2.1.1.2.2
                                                            have hc0 := t_clamp (i := gi 70 1402) (by omega)
                                                            obtain ⟨_, hN, hU, t1, m1, n1⟩ := (q12 b n q D h).resolve_right (fun hh => by rcases hh with hh | hh <;> exact absurd hh.1 (by omega))
                                                            have m0 := m1
                                                            obtain ⟨_, w1, t1_, m1⟩ := (q17 b n _ t1).resolve_right (fun hh => absurd hh.1 (by omega))
                                                            have k1 := (s_mi_W (i := 8) (by decide)).mp w1
                                                            have hv := t1_.vF (lo := 0) (hi := 120) (by omega) (by omega)
                                                            exact Or.inr ⟨rfl, _, 4, D, by decide, by simp only [s_cart, s_name, s_kw, s_come, s_num, s_ifF (show ¬ D 2 = 6 by omega), s_ifT hN, s_ifF hU, s_ifT k1, s_ifT hv.1, s_ifF hv.2], q82.1 b n _ t1_ (by rw [m1.1, m0.1]; exact h.2.2.1)⟩))⟩⟩
        · have r83 : (gi17 69 12).toInt ≠ 3 := fun e => h23 (Int32.toInt_inj.mp (e.trans (by decide : (3:Int) = (3 : Int32).toInt)))
          refine ev_loc f_X12_number (nx := 9) rfl rfl rfl rfl ?_
          refine ev_ic f_X12_number (nx := 10) (v := 2) rfl (by decide) rfl ?_
          refine ev_qI f_X12_number (nx := 13) (r := []) rfl rfl rfl rfl rfl rfl rfl (c_n_fails hI (2) (by decide : (2:Int) ≤ (2:Int32).toInt) (Int.le_trans (by decide : (2:Int32).toInt ≤ (2:Int)) (by decide : (2:Int) ≤ 7))) rfl hX rfl (fun w84 gi84 gl84 gr84 l84 u84 hI hX hC84 q84 => ?_)
          have q84 : (∀ (b : Nat → Int32) (n q : Nat), t_TM b n q gi17 → (gi17 69 18).toInt = 0 → t_MF gi84 (s_fk b n q 2) (s_F b n q)) ∧ w84.toInt = 0 := q84
          refine ev_retK1 f_X12_number rfl rfl (t_rz l84 (Int.le_trans u84 (by decide : (0:Int) ≤ 1))) ?_
          refine ev_t f_X12_passes (t1 := 74) (t2 := 22) rfl rfl rfl (t_eqT u84 l84 (by decide : (0:Int32).toInt ≤ (0:Int)) (by decide : (0:Int) ≤ (0:Int32).toInt)) ?_
          refine ev_ic f_X12_passes (nx := 75) (v := 0) rfl (by decide) rfl ?_
          refine ev_retK1 f_X12_passes rfl rfl rfl ?_
          refine ev_t f_X12_aCart (t1 := 61) (t2 := 63) rfl rfl rfl (by decide) ?_
          refine ev_ic f_X12_aCart (nx := 62) (v := 0) rfl (by decide) rfl ?_
          exact ev_ret f_X12_aCart rfl rfl rfl ⟨_, _, _, rfl, hI, hX, ⟨_, rfl, (by decide : (0:Int) ≤ (0:Int32).toInt), (Int.le_trans (by decide : (0:Int32).toInt ≤ (0:Int)) (by decide : (0:Int) ≤ 1)), (show ∀ (b : Nat → Int32) (n q : Nat) (D : s_D), t_MS b n q D gi gl → ((0 : Int) = 1 ∧ ∃ q2 D2, s_cart b n q D = s_ok q2 D2 ∧ t_MS b n q2 D2 gi84 gl84) ∨ ((0 : Int) = 0 ∧ ∃ p x D2, x ≠ 0 ∧ s_cart b n q D = s_bad b n p x D2 ∧ t_MF gi84 (s_fk b n p x) (s_F b n p)) from (by
                                                            intro b n q D h
                                                            have d0 : (gi 70 1402).toInt = D 2 := h.2.1.2.1.1.1.2.2
                                                            have b0 := h.2.1.1.2.2
                                                            have hc0 := t_clamp (i := gi 70 1402) (by omega)
                                                            obtain ⟨_, hN, hU, t1, m1, n1⟩ := (q12 b n q D h).resolve_right (fun hh => by rcases hh with hh | hh <;> exact absurd hh.1 (by omega))
                                                            have m0 := m1
                                                            obtain ⟨_, w1, t1_, m1⟩ := (q17 b n _ t1).resolve_right (fun hh => absurd hh.1 (by omega))
                                                            have k1 := (s_mi_W (i := 8) (by decide)).mp w1
                                                            exact Or.inr ⟨rfl, _, 2, D, by decide, by simp only [s_cart, s_name, s_kw, s_come, s_num, s_ifF (show ¬ D 2 = 6 by omega), s_ifT hN, s_ifF hU, s_ifT k1, s_ifF (t1_.vK (by omega))], q84.1 b n _ t1_ (by rw [m1.1, m0.1]; exact h.2.2.1)⟩))⟩⟩
noncomputable def wl_n_once1 : List (Nat × Nat) := [(69, 12), (69, 13), (69, 14), (69, 15), (69, 17), (69, 18), (69, 20), (70, 140411404)]
noncomputable def Q_n_once1 (gi : Nat → Nat → Int32) (gl : Nat → Nat → Int64) (gr : Nat → Nat → Value) (ar1 : Int32) : Int32 → (Nat → Nat → Int32) → (Nat → Nat → Int64) → (Nat → Nat → Value) → Prop := fun (v : Int32) (gi2 : Nat → Nat → Int32) (gl2 : Nat → Nat → Int64) (gr2 : Nat → Nat → Value) => ∀ (b : Nat → Int32) (n q : Nat) (D : s_D), t_MS b n q D gi gl → (v.toInt = 1 ∧ ∃ q2 D2, s_turns b n q D = s_ok q2 D2 ∧ t_MS b n q2 D2 gi2 gl2) ∨ (v.toInt = 0 ∧ ∃ p x D2, x ≠ 0 ∧ s_turns b n q D = s_bad b n p x D2 ∧ t_MF gi2 (s_fk b n p x) (s_F b n p))
theorem c_n_once1 {X : x_Ext} {d : Nat} {sh : List (Nat ⊕ (Nat × Nat))} {gi : Nat → Nat → Int32} {gl : Nat → Nat → Int64} {gr : Nat → Nat → Value} (hI : t_I sh gi gr) (ar1 : Int32) (l_a1 : 1 ≤ ar1.toInt) (u_a1 : ar1.toInt ≤ 1) : x_Me X (d + 4) n_X12_once [.ref 69, .int ar1] (sh, gi, gl, gr) (t_PI wl_n_once1 sh gi gl gr 0 1 (Q_n_once1 gi gl gr ar1)) := by
  have hX : t_X wl_n_once1 sh gi gl gr gi gl gr := t_X.rf
  refine me_i f_X12_once (hI.wf.s rfl) rfl rfl rfl ?_
  refine ev_loc f_X12_once (nx := 1) rfl rfl rfl rfl ?_
  refine ev_getI f_X12_once (nx := 4) rfl (hI.wf.s rfl) rfl rfl rfl ?_
  refine ev_loc f_X12_once (nx := 5) rfl rfl rfl rfl ?_
  refine ev_anyIE f_X12_once (nx := 6) rfl rfl rfl rfl (fun z1 e1 => ?_)
  refine ev_ic f_X12_once (nx := 7) (v := 1) rfl (by decide) rfl ?_
  refine ev_anyIE f_X12_once (nx := 8) rfl rfl rfl rfl (fun z2 e2 => ?_)
  refine ev_ic f_X12_once (nx := 9) (v := 1) rfl (by decide) rfl ?_
  refine ev_if f_X12_once (t1 := 12) (t2 := 18) rfl rfl rfl (fun h3 => ?_) (fun h3 => ?_)
  · have u4 : z2.toInt ≤ 1 := t_equ h3 (by decide : (1:Int32).toInt ≤ (1:Int))
    have l5 : 1 ≤ z2.toInt := t_eql h3 (by decide : (1:Int) ≤ (1:Int32).toInt)
    refine ev_loc f_X12_once (nx := 13) rfl rfl rfl rfl ?_
    refine ev_ic f_X12_once (nx := 14) (v := 5) rfl (by decide) rfl ?_
    refine ev_qI f_X12_once (nx := 17) (r := []) rfl rfl rfl rfl rfl rfl rfl (c_n_fails hI (5) (Int.le_trans (by decide : (2:Int) ≤ 5) (by decide : (5:Int) ≤ (5:Int32).toInt)) (Int.le_trans (by decide : (5:Int32).toInt ≤ (5:Int)) (by decide : (5:Int) ≤ 7))) rfl hX rfl (fun w6 gi6 gl6 gr6 l6 u6 hI hX hC6 q6 => ?_)
    have q6 : (∀ (b : Nat → Int32) (n q : Nat), t_TM b n q gi → (gi 69 18).toInt = 0 → t_MF gi6 (s_fk b n q 5) (s_F b n q)) ∧ w6.toInt = 0 := q6
    exact ev_retZ f_X12_once rfl l6 (Int.le_trans u6 (by decide : (0:Int) ≤ 1)) ⟨_, _, _, rfl, hI, hX, ⟨_, rfl, l6, (Int.le_trans u6 (by decide : (0:Int) ≤ 1)), (show ∀ (b : Nat → Int32) (n q : Nat) (D : s_D), t_MS b n q D gi gl → (w6.toInt = 1 ∧ ∃ q2 D2, s_turns b n q D = s_ok q2 D2 ∧ t_MS b n q2 D2 gi6 gl6) ∨ (w6.toInt = 0 ∧ ∃ p x D2, x ≠ 0 ∧ s_turns b n q D = s_bad b n p x D2 ∧ t_MF gi6 (s_fk b n p x) (s_F b n p)) from (by
                                                            intro b n q D h
                                                            have hk : ar1.toInt = (0 : Int) + 1 := by omega
                                                            have hbit := t_mtb h.2.1.2.2.2 (x := (gi 69 20)) rfl (kk := 0) hk (by decide) e1 e2
                                                            have hbit : z2.toInt = D 221 := hbit
                                                            exact Or.inr ⟨q6.2, q, 5, D, by decide, by simp only [s_turns, s_ifF (show ¬ D 221 = 0 by omega)], q6.1 b n q h.1 h.2.2.1⟩))⟩⟩
  · have r7 : z2.toInt ≠ 1 := fun e => h3 (Int32.toInt_inj.mp (e.trans (by decide : (1:Int) = (1 : Int32).toInt)))
    refine ev_loc f_X12_once (nx := 19) rfl rfl rfl rfl ?_
    refine ev_alu f_X12_once (nx := 20) rfl rfl rfl rfl ?_
    refine ev_gvI f_X12_once (nx := 23) (w := (gi 69 20)) rfl (hI.wf.s rfl) rfl rfl rfl rfl ?_
    refine ev_ic f_X12_once (nx := 24) (v := 1) rfl (by decide) rfl ?_
    refine ev_loc f_X12_once (nx := 25) rfl rfl rfl rfl ?_
    refine ev_shl1E f_X12_once (nx := 26) rfl l_a1 u_a1 (by decide) (by decide) rfl (fun z8 s8 => ?_)
    have l8 : 2 ≤ z8.toInt := by have := l_a1; have := u_a1; omega
    have u8 : z8.toInt ≤ 2 := by have := l_a1; have := u_a1; omega
    refine ev_anyIE f_X12_once (nx := 27) rfl rfl rfl rfl (fun z9 e9 => ?_)
    refine ev_putIT f_X12_once (nx := 30) rfl (hI.wf.s rfl) rfl rfl rfl (hI.put0 (hI.wf.s rfl) rfl rfl) (hX.upI rfl) (fun g10 e10 hI hX => ?_)
    refine ev_loc f_X12_once (nx := 31) rfl rfl rfl rfl ?_
    refine ev_qN f_X12_once (nx := 34) (r := []) rfl rfl rfl rfl rfl rfl rfl (c_n_ahead hI ) rfl hX rfl (fun gi11 gl11 gr11 hI hX hC11 q11 => ?_)
    have q11 : ∀ (b : Nat → Int32) (n q : Nat), t_Sm b n q g10 → t_TM b n q gi11 := q11
    refine ev_loc f_X12_once (nx := 35) rfl rfl rfl rfl ?_
    refine ev_ic f_X12_once (nx := 36) (v := 1) rfl (by decide) rfl ?_
    refine ev_t f_X12_once (t1 := 39) (t2 := 50) rfl rfl rfl (t_eqT u_a1 l_a1 (by decide : (1:Int32).toInt ≤ (1:Int)) (by decide : (1:Int) ≤ (1:Int32).toInt)) ?_
    refine ev_loc f_X12_once (nx := 40) rfl rfl rfl rfl ?_
    refine ev_sp f_X12_once (nx := 43) (v := 1404) rfl (by decide) rfl ?_
    refine ev_ic f_X12_once (nx := 44) (v := 1) rfl (by decide) rfl ?_
    refine ev_bp f_X12_once (nx := 46) (v := 20) rfl (by decide) rfl ?_
    refine ev_inV4 f_X12_once (nx := 49) (lo2 := [(0, .ref 69), (1, .int 1404), (2, .int 1), (3, .int 20)]) rfl rfl rfl rfl f_X12_number (hI.wf.s rfl) rfl rfl rfl rfl rfl ?_
    refine ev_loc f_X12_number (nx := 1) rfl rfl rfl rfl ?_
    refine ev_getI f_X12_number (nx := 4) rfl (hI.wf.s rfl) rfl rfl rfl ?_
    obtain ⟨l12, u12⟩ := hI.b (hI.wf.s (k := 69) rfl) (t_bdK rfl : t_bd 11 12 = some (0, 4))
    refine ev_ic f_X12_number (nx := 5) (v := 3) rfl (by decide) rfl ?_
    refine ev_if f_X12_number (t1 := 14) (t2 := 8) rfl rfl rfl (fun h13 => ?_) (fun h13 => ?_)
    · have u14 : (gi11 69 12).toInt ≤ 3 := t_equ h13 (by decide : (3:Int32).toInt ≤ (3:Int))
      have l15 : 3 ≤ (gi11 69 12).toInt := t_eql h13 (by decide : (3:Int) ≤ (3:Int32).toInt)
      refine ev_loc f_X12_number (nx := 15) rfl rfl rfl rfl ?_
      refine ev_getI f_X12_number (nx := 18) rfl (hI.wf.s rfl) rfl rfl rfl ?_
      refine ev_loc f_X12_number (nx := 19) rfl rfl rfl rfl ?_
      refine ev_if f_X12_number (t1 := 30) (t2 := 22) rfl rfl rfl (fun h16 => ?_) (fun h16 => ?_)
      · have u17 : (gi11 69 15).toInt ≤ 0 := t_ltu h16 (by decide : (1:Int32).toInt ≤ (1:Int)) rfl
        refine ev_loc f_X12_number (nx := 31) rfl rfl rfl rfl ?_
        refine ev_ic f_X12_number (nx := 32) (v := 4) rfl (by decide) rfl ?_
        refine ev_qI f_X12_number (nx := 35) (r := []) rfl rfl rfl rfl rfl rfl rfl (c_n_fails hI (4) (Int.le_trans (by decide : (2:Int) ≤ 4) (by decide : (4:Int) ≤ (4:Int32).toInt)) (Int.le_trans (by decide : (4:Int32).toInt ≤ (4:Int)) (by decide : (4:Int) ≤ 7))) rfl hX rfl (fun w18 gi18 gl18 gr18 l18 u18 hI hX hC18 q18 => ?_)
        have q18 : (∀ (b : Nat → Int32) (n q : Nat), t_TM b n q gi11 → (gi11 69 18).toInt = 0 → t_MF gi18 (s_fk b n q 4) (s_F b n q)) ∧ w18.toInt = 0 := q18
        refine ev_retK1 f_X12_number rfl rfl (t_rz l18 (Int.le_trans u18 (by decide : (0:Int) ≤ 1))) ?_
        exact ev_retZ f_X12_once rfl l18 (Int.le_trans u18 (by decide : (0:Int) ≤ 1)) ⟨_, _, _, rfl, hI, hX, ⟨_, rfl, l18, (Int.le_trans u18 (by decide : (0:Int) ≤ 1)), (show ∀ (b : Nat → Int32) (n q : Nat) (D : s_D), t_MS b n q D gi gl → (w18.toInt = 1 ∧ ∃ q2 D2, s_turns b n q D = s_ok q2 D2 ∧ t_MS b n q2 D2 gi18 gl18) ∨ (w18.toInt = 0 ∧ ∃ p x D2, x ≠ 0 ∧ s_turns b n q D = s_bad b n p x D2 ∧ t_MF gi18 (s_fk b n p x) (s_F b n p)) from (by
                                                            intro b n q D h
                                                            have hk : ar1.toInt = (0 : Int) + 1 := by omega
                                                            have hbit := t_mtb h.2.1.2.2.2 (x := (gi 69 20)) rfl (kk := 0) hk (by decide) e1 e2
                                                            have hbit : z2.toInt = D 221 := hbit
                                                            have hz : D 221 = 0 := by
                                                              rcases h.2.1.2.2.2.2.1 with e | e
                                                              · exact e
                                                              · rw [e] at hbit; omega
                                                            have t0_ := q11 b n _ (h.1.eq (g1 := g10) (fun j => by rw [e10, x_up2_ne (by decide)]) (fun j j1 j2 => by rw [e10, x_up2_off (Or.inr (by omega))])).S
                                                            have hv := t0_.vF (lo := 1) (hi := 20) (by omega) (by omega)
                                                            exact Or.inr ⟨q18.2, _, 4, D, by decide, by simp only [s_turns, s_num, s_ifT hz, s_ifT hv.1, s_ifF hv.2], q18.1 b n _ t0_ (by rw [(hC11.1 69 18 rfl).1, e10, x_up2_off (Or.inr (by decide))]; exact h.2.2.1)⟩))⟩⟩
      · have l19 : 1 ≤ (gi11 69 15).toInt := t_lel (t_nlt h16) (by decide : (1:Int) ≤ (1:Int32).toInt)
        refine ev_loc f_X12_number (nx := 23) rfl rfl rfl rfl ?_
        refine ev_gvI f_X12_number (nx := 26) (w := (gi11 69 15)) rfl (hI.wf.s rfl) rfl rfl rfl rfl ?_
        refine ev_loc f_X12_number (nx := 27) rfl rfl rfl rfl ?_
        refine ev_if f_X12_number (t1 := 36) (t2 := 30) rfl rfl rfl (fun h20 => ?_) (fun h20 => ?_)
        · have u21 : (gi11 69 15).toInt ≤ 20 := t_leu h20 (by decide : (20:Int32).toInt ≤ (20:Int))
          refine ev_loc f_X12_number (nx := 37) rfl rfl rfl rfl ?_
          refine ev_getR f_X12_number (nx := 40) rfl (hI.wf.s rfl) rfl rfl (hI.wf.r rfl) rfl rfl ?_
          refine ev_loc f_X12_number (nx := 41) rfl rfl rfl rfl ?_
          refine ev_loc f_X12_number (nx := 42) rfl rfl rfl rfl ?_
          refine ev_gvI f_X12_number (nx := 45) (w := (gi11 69 15)) rfl (hI.wf.s rfl) rfl rfl rfl rfl ?_
          refine ev_iastT f_X12_number (nx := 46) rfl (hI.wf.s rfl) (by decide : (1404:Int) ≤ (1404:Int32).toInt) (by decide) (by decide : (1404:Int32).toInt ≤ (1404:Int)) (by decide) rfl (hI.astL (hI.wf.s rfl) (by decide +kernel : t_abw 70 1404 1404 1 20 = true) (t_cl1 (by decide : (1404:Int) ≤ (1404:Int32).toInt) (by decide)) (t_cl2 (by decide : (1404:Int) ≤ (1404:Int32).toInt) (by decide : (1404:Int32).toInt ≤ (1404:Int)) (by decide) (by decide)) l19 u21 rfl) (hX.upI (t_inR (p := 1404) (m := 1404) rfl (by decide : (1404:Int) ≤ (1404:Int32).toInt) (by decide) (by decide : (1404:Int32).toInt ≤ (1404:Int)) (by decide) (by decide))) (fun g22 e22 hI hX => ?_)
          refine ev_loc f_X12_number (nx := 47) rfl rfl rfl rfl ?_
          refine ev_qN f_X12_number (nx := 50) (r := []) rfl rfl rfl rfl rfl rfl rfl (c_n_ahead hI ) rfl hX rfl (fun gi23 gl23 gr23 hI hX hC23 q23 => ?_)
          have q23 : ∀ (b : Nat → Int32) (n q : Nat), t_Sm b n q g22 → t_TM b n q gi23 := q23
          refine ev_ic f_X12_number (nx := 51) (v := 1) rfl (by decide) rfl ?_
          refine ev_retK1 f_X12_number rfl rfl rfl ?_
          exact ev_ret f_X12_once rfl rfl rfl ⟨_, _, _, rfl, hI, hX, ⟨_, rfl, (Int.le_trans (by decide : (0:Int) ≤ 1) (by decide : (1:Int) ≤ (1:Int32).toInt)), (by decide : (1:Int32).toInt ≤ (1:Int)), (show ∀ (b : Nat → Int32) (n q : Nat) (D : s_D), t_MS b n q D gi gl → ((1 : Int) = 1 ∧ ∃ q2 D2, s_turns b n q D = s_ok q2 D2 ∧ t_MS b n q2 D2 gi23 gl23) ∨ ((1 : Int) = 0 ∧ ∃ p x D2, x ≠ 0 ∧ s_turns b n q D = s_bad b n p x D2 ∧ t_MF gi23 (s_fk b n p x) (s_F b n p)) from (by
                                                            intro b n q D h
                                                            have hk : ar1.toInt = (0 : Int) + 1 := by omega
                                                            have hbit := t_mtb h.2.1.2.2.2 (x := (gi 69 20)) rfl (kk := 0) hk (by decide) e1 e2
                                                            have hbit : z2.toInt = D 221 := hbit
                                                            have hz : D 221 = 0 := by
                                                              rcases h.2.1.2.2.2.2.1 with e | e
                                                              · exact e
                                                              · rw [e] at hbit; omega
                                                            have t0_ := q11 b n _ (h.1.eq (g1 := g10) (fun j => by rw [e10, x_up2_ne (by decide)]) (fun j j1 j2 => by rw [e10, x_up2_off (Or.inr (by omega))])).S
                                                            have v1 := t0_.vT (lo := 1) (hi := 20) (by omega) (by omega) (by omega)
                                                            have t1_ := q23 b n _ (t0_.st e22).S
                                                            have kc1404_ : (1404 : Int32).toNatClampNeg = 1404 := rfl
                                                            have y4 : (gi23 70 1404).toInt = s_V b n (s_E b n q) := by
                                                              rw [(hC23.1 70 _ rfl).1, e22]
                                                              rw [show 1404 = (1404 : Int32).toNatClampNeg from rfl, x_up2_at]; exact v1.2
                                                            have yr : ∀ j, (∀ x, x ∈ [1404] → j ≠ x) → gi23 70 j = gi 70 j := fun j j1 => by
                                                              rw [(hC23.1 70 _ rfl).1, e22, x_up2_off (Or.inr (j1 _ (by decide))), (hC11.1 70 _ rfl).1, e10, x_up2_ne (by decide)]
                                                            have y5 : (gi23 70 1405).toInt = D 5 := by rw [yr _ (by decide)]; exact h.2.1.2.1.1.2.2.1
                                                            have y6 : (gi23 70 1406).toInt = D 6 := by rw [yr _ (by decide)]; exact h.2.1.2.1.1.2.2.2.1
                                                            have y7 : (gi23 70 1407).toInt = D 7 := by rw [yr _ (by decide)]; exact h.2.1.2.1.1.2.2.2.2
                                                            have ybit := t_mts h.2.1.2.2.2 (x := (gi 69 20)) rfl (kk := 0) hk (by decide) hz (p := 2) rfl (by omega) e9
                                                            have y20 : gi23 69 20 = z9 := by rw [(hC23.1 69 20 rfl).1, e22, x_up2_ne (by decide), (hC11.1 69 20 rfl).1, e10, x_up2_at]
                                                            have hm : t_Mt gi23 (s_set (s_set D 221 1) 4 (s_V b n (s_E b n q))) := by
                                                              obtain ⟨x0, x1, x2, x3⟩ := h.2.1.2.2.2
                                                              have s1 : (s_set (s_set D 221 1) 4 (s_V b n (s_E b n q))) 221 = 1 := rfl
                                                              have s2 : (s_set (s_set D 221 1) 4 (s_V b n (s_E b n q))) 222 = D 222 := rfl
                                                              have s3 : (s_set (s_set D 221 1) 4 (s_V b n (s_E b n q))) 223 = D 223 := rfl
                                                              refine ⟨?_, by rw [s1]; omega, by rw [s2]; omega, by rw [s3]; omega⟩
                                                              have hp : (2 : Int) ^ (0 + 1) = 2 := rfl
                                                              rw [hp] at ybit
                                                              rw [y20, ybit, s1, s2, s3, x0]; omega
                                                            exact Or.inl ⟨rfl, _, (s_set (s_set D 221 1) 4 (s_V b n (s_E b n q))), by simp only [s_turns, s_num, s_ifT hz, s_ifT v1.1.1, s_ifT v1.1], t_MS_tel h t1_ ⟨by rw [(hC23.1 69 18 rfl).1, e22, x_up2_ne (by decide), (hC11.1 69 18 rfl).1, e10, x_up2_off (Or.inr (by decide))], by rw [(hC23.1 69 17 rfl).1, e22, x_up2_ne (by decide), (hC11.1 69 17 rfl).1, e10, x_up2_off (Or.inr (by decide))]⟩ (fun j hj => yr j (fun x hx => by simp only [List.mem_cons, List.not_mem_nil, or_false] at hx; omega)) y4 y5 y6 y7 (fun j => by rw [(hC23.1 71 j rfl).2.1, (hC11.1 71 j rfl).2.1]) (fun j hj => (by unfold s_set; rw [if_neg (by omega), if_neg (by omega)])) hm⟩))⟩⟩
        · have l24 : 21 ≤ (gi11 69 15).toInt := t_ltl (t_nle h20) (by decide : (20:Int) ≤ (20:Int32).toInt) rfl
          refine ev_loc f_X12_number (nx := 31) rfl rfl rfl rfl ?_
          refine ev_ic f_X12_number (nx := 32) (v := 4) rfl (by decide) rfl ?_
          refine ev_qI f_X12_number (nx := 35) (r := []) rfl rfl rfl rfl rfl rfl rfl (c_n_fails hI (4) (Int.le_trans (by decide : (2:Int) ≤ 4) (by decide : (4:Int) ≤ (4:Int32).toInt)) (Int.le_trans (by decide : (4:Int32).toInt ≤ (4:Int)) (by decide : (4:Int) ≤ 7))) rfl hX rfl (fun w25 gi25 gl25 gr25 l25 u25 hI hX hC25 q25 => ?_)
          have q25 : (∀ (b : Nat → Int32) (n q : Nat), t_TM b n q gi11 → (gi11 69 18).toInt = 0 → t_MF gi25 (s_fk b n q 4) (s_F b n q)) ∧ w25.toInt = 0 := q25
          refine ev_retK1 f_X12_number rfl rfl (t_rz l25 (Int.le_trans u25 (by decide : (0:Int) ≤ 1))) ?_
          exact ev_retZ f_X12_once rfl l25 (Int.le_trans u25 (by decide : (0:Int) ≤ 1)) ⟨_, _, _, rfl, hI, hX, ⟨_, rfl, l25, (Int.le_trans u25 (by decide : (0:Int) ≤ 1)), (show ∀ (b : Nat → Int32) (n q : Nat) (D : s_D), t_MS b n q D gi gl → (w25.toInt = 1 ∧ ∃ q2 D2, s_turns b n q D = s_ok q2 D2 ∧ t_MS b n q2 D2 gi25 gl25) ∨ (w25.toInt = 0 ∧ ∃ p x D2, x ≠ 0 ∧ s_turns b n q D = s_bad b n p x D2 ∧ t_MF gi25 (s_fk b n p x) (s_F b n p)) from (by
                                                            intro b n q D h
                                                            have hk : ar1.toInt = (0 : Int) + 1 := by omega
                                                            have hbit := t_mtb h.2.1.2.2.2 (x := (gi 69 20)) rfl (kk := 0) hk (by decide) e1 e2
                                                            have hbit : z2.toInt = D 221 := hbit
                                                            have hz : D 221 = 0 := by
                                                              rcases h.2.1.2.2.2.2.1 with e | e
                                                              · exact e
                                                              · rw [e] at hbit; omega
                                                            have t0_ := q11 b n _ (h.1.eq (g1 := g10) (fun j => by rw [e10, x_up2_ne (by decide)]) (fun j j1 j2 => by rw [e10, x_up2_off (Or.inr (by omega))])).S
                                                            have hv := t0_.vF (lo := 1) (hi := 20) (by omega) (by omega)
                                                            exact Or.inr ⟨q25.2, _, 4, D, by decide, by simp only [s_turns, s_num, s_ifT hz, s_ifT hv.1, s_ifF hv.2], q25.1 b n _ t0_ (by rw [(hC11.1 69 18 rfl).1, e10, x_up2_off (Or.inr (by decide))]; exact h.2.2.1)⟩))⟩⟩
    · have r26 : (gi11 69 12).toInt ≠ 3 := fun e => h13 (Int32.toInt_inj.mp (e.trans (by decide : (3:Int) = (3 : Int32).toInt)))
      refine ev_loc f_X12_number (nx := 9) rfl rfl rfl rfl ?_
      refine ev_ic f_X12_number (nx := 10) (v := 2) rfl (by decide) rfl ?_
      refine ev_qI f_X12_number (nx := 13) (r := []) rfl rfl rfl rfl rfl rfl rfl (c_n_fails hI (2) (by decide : (2:Int) ≤ (2:Int32).toInt) (Int.le_trans (by decide : (2:Int32).toInt ≤ (2:Int)) (by decide : (2:Int) ≤ 7))) rfl hX rfl (fun w27 gi27 gl27 gr27 l27 u27 hI hX hC27 q27 => ?_)
      have q27 : (∀ (b : Nat → Int32) (n q : Nat), t_TM b n q gi11 → (gi11 69 18).toInt = 0 → t_MF gi27 (s_fk b n q 2) (s_F b n q)) ∧ w27.toInt = 0 := q27
      refine ev_retK1 f_X12_number rfl rfl (t_rz l27 (Int.le_trans u27 (by decide : (0:Int) ≤ 1))) ?_
      exact ev_retZ f_X12_once rfl l27 (Int.le_trans u27 (by decide : (0:Int) ≤ 1)) ⟨_, _, _, rfl, hI, hX, ⟨_, rfl, l27, (Int.le_trans u27 (by decide : (0:Int) ≤ 1)), (show ∀ (b : Nat → Int32) (n q : Nat) (D : s_D), t_MS b n q D gi gl → (w27.toInt = 1 ∧ ∃ q2 D2, s_turns b n q D = s_ok q2 D2 ∧ t_MS b n q2 D2 gi27 gl27) ∨ (w27.toInt = 0 ∧ ∃ p x D2, x ≠ 0 ∧ s_turns b n q D = s_bad b n p x D2 ∧ t_MF gi27 (s_fk b n p x) (s_F b n p)) from (by
                                                            intro b n q D h
                                                            have hk : ar1.toInt = (0 : Int) + 1 := by omega
                                                            have hbit := t_mtb h.2.1.2.2.2 (x := (gi 69 20)) rfl (kk := 0) hk (by decide) e1 e2
                                                            have hbit : z2.toInt = D 221 := hbit
                                                            have hz : D 221 = 0 := by
                                                              rcases h.2.1.2.2.2.2.1 with e | e
                                                              · exact e
                                                              · rw [e] at hbit; omega
                                                            have t0_ := q11 b n _ (h.1.eq (g1 := g10) (fun j => by rw [e10, x_up2_ne (by decide)]) (fun j j1 j2 => by rw [e10, x_up2_off (Or.inr (by omega))])).S
                                                            exact Or.inr ⟨q27.2, _, 2, D, by decide, by simp only [s_turns, s_num, s_ifT hz, s_ifF (t0_.vK (by omega))], q27.1 b n _ t0_ (by rw [(hC11.1 69 18 rfl).1, e10, x_up2_off (Or.inr (by decide))]; exact h.2.2.1)⟩))⟩⟩
/-! ===== printed by riv.py: the RIVER of the other side ===== -/
noncomputable def wl_n_once2 : List (Nat × Nat) := [(69, 12), (69, 13), (69, 14), (69, 15), (69, 17), (69, 18), (69, 20), (70, 140511405), (70, 140611406)]
noncomputable def Q_n_once2 (gi : Nat → Nat → Int32) (gl : Nat → Nat → Int64) (gr : Nat → Nat → Value) (ar1 : Int32) : Int32 → (Nat → Nat → Int32) → (Nat → Nat → Int64) → (Nat → Nat → Value) → Prop := fun (v : Int32) (gi2 : Nat → Nat → Int32) (gl2 : Nat → Nat → Int64) (gr2 : Nat → Nat → Value) => ∀ (b : Nat → Int32) (n q : Nat) (D : s_D), t_MS b n q D gi gl → (v.toInt = 1 ∧ ∃ q2 D2, s_frost b n q D = s_ok q2 D2 ∧ t_MS b n q2 D2 gi2 gl2) ∨ (v.toInt = 0 ∧ ∃ p x D2, x ≠ 0 ∧ s_frost b n q D = s_bad b n p x D2 ∧ t_MF gi2 (s_fk b n p x) (s_F b n p))
theorem c_n_once2 {X : x_Ext} {d : Nat} {sh : List (Nat ⊕ (Nat × Nat))} {gi : Nat → Nat → Int32} {gl : Nat → Nat → Int64} {gr : Nat → Nat → Value} (hI : t_I sh gi gr) (ar1 : Int32) (l_a1 : 2 ≤ ar1.toInt) (u_a1 : ar1.toInt ≤ 2) : x_Me X (d + 7) n_X12_once [.ref 69, .int ar1] (sh, gi, gl, gr) (t_PI wl_n_once2 sh gi gl gr 0 1 (Q_n_once2 gi gl gr ar1)) := by
  have hX : t_X wl_n_once2 sh gi gl gr gi gl gr := t_X.rf
  refine me_i f_X12_once (hI.wf.s rfl) rfl rfl rfl ?_
  refine ev_loc f_X12_once (nx := 1) rfl rfl rfl rfl ?_
  refine ev_getI f_X12_once (nx := 4) rfl (hI.wf.s rfl) rfl rfl rfl ?_
  refine ev_loc f_X12_once (nx := 5) rfl rfl rfl rfl ?_
  refine ev_anyIE f_X12_once (nx := 6) rfl rfl rfl rfl (fun z1 e1 => ?_)
  refine ev_ic f_X12_once (nx := 7) (v := 1) rfl (by decide) rfl ?_
  refine ev_anyIE f_X12_once (nx := 8) rfl rfl rfl rfl (fun z2 e2 => ?_)
  refine ev_ic f_X12_once (nx := 9) (v := 1) rfl (by decide) rfl ?_
  refine ev_if f_X12_once (t1 := 12) (t2 := 18) rfl rfl rfl (fun h3 => ?_) (fun h3 => ?_)
  · have u4 : z2.toInt ≤ 1 := t_equ h3 (by decide : (1:Int32).toInt ≤ (1:Int))
    have l5 : 1 ≤ z2.toInt := t_eql h3 (by decide : (1:Int) ≤ (1:Int32).toInt)
    refine ev_loc f_X12_once (nx := 13) rfl rfl rfl rfl ?_
    refine ev_ic f_X12_once (nx := 14) (v := 5) rfl (by decide) rfl ?_
    refine ev_qI f_X12_once (nx := 17) (r := []) rfl rfl rfl rfl rfl rfl rfl (c_n_fails hI (5) (Int.le_trans (by decide : (2:Int) ≤ 5) (by decide : (5:Int) ≤ (5:Int32).toInt)) (Int.le_trans (by decide : (5:Int32).toInt ≤ (5:Int)) (by decide : (5:Int) ≤ 7))) rfl hX rfl (fun w6 gi6 gl6 gr6 l6 u6 hI hX hC6 q6 => ?_)
    have q6 : (∀ (b : Nat → Int32) (n q : Nat), t_TM b n q gi → (gi 69 18).toInt = 0 → t_MF gi6 (s_fk b n q 5) (s_F b n q)) ∧ w6.toInt = 0 := q6
    exact ev_retZ f_X12_once rfl l6 (Int.le_trans u6 (by decide : (0:Int) ≤ 1)) ⟨_, _, _, rfl, hI, hX, ⟨_, rfl, l6, (Int.le_trans u6 (by decide : (0:Int) ≤ 1)), (show ∀ (b : Nat → Int32) (n q : Nat) (D : s_D), t_MS b n q D gi gl → (w6.toInt = 1 ∧ ∃ q2 D2, s_frost b n q D = s_ok q2 D2 ∧ t_MS b n q2 D2 gi6 gl6) ∨ (w6.toInt = 0 ∧ ∃ p x D2, x ≠ 0 ∧ s_frost b n q D = s_bad b n p x D2 ∧ t_MF gi6 (s_fk b n p x) (s_F b n p)) from (by
                                                            intro b n q D h
                                                            have hk : ar1.toInt = (1 : Int) + 1 := by omega
                                                            have hbit := t_mtb h.2.1.2.2.2 (x := (gi 69 20)) rfl (kk := 1) hk (by decide) e1 e2
                                                            have hbit : z2.toInt = D 222 := hbit
                                                            exact Or.inr ⟨q6.2, q, 5, D, by decide, by simp only [s_frost, s_ifF (show ¬ D 222 = 0 by omega)], q6.1 b n q h.1 h.2.2.1⟩))⟩⟩
  · have r7 : z2.toInt ≠ 1 := fun e => h3 (Int32.toInt_inj.mp (e.trans (by decide : (1:Int) = (1 : Int32).toInt)))
    refine ev_loc f_X12_once (nx := 19) rfl rfl rfl rfl ?_
    refine ev_alu f_X12_once (nx := 20) rfl rfl rfl rfl ?_
    refine ev_gvI f_X12_once (nx := 23) (w := (gi 69 20)) rfl (hI.wf.s rfl) rfl rfl rfl rfl ?_
    refine ev_ic f_X12_once (nx := 24) (v := 1) rfl (by decide) rfl ?_
    refine ev_loc f_X12_once (nx := 25) rfl rfl rfl rfl ?_
    refine ev_shl1E f_X12_once (nx := 26) rfl l_a1 u_a1 (by decide) (by decide) rfl (fun z8 s8 => ?_)
    have l8 : 4 ≤ z8.toInt := by have := l_a1; have := u_a1; omega
    have u8 : z8.toInt ≤ 4 := by have := l_a1; have := u_a1; omega
    refine ev_anyIE f_X12_once (nx := 27) rfl rfl rfl rfl (fun z9 e9 => ?_)
    refine ev_putIT f_X12_once (nx := 30) rfl (hI.wf.s rfl) rfl rfl rfl (hI.put0 (hI.wf.s rfl) rfl rfl) (hX.upI rfl) (fun g10 e10 hI hX => ?_)
    refine ev_loc f_X12_once (nx := 31) rfl rfl rfl rfl ?_
    refine ev_qN f_X12_once (nx := 34) (r := []) rfl rfl rfl rfl rfl rfl rfl (c_n_ahead hI ) rfl hX rfl (fun gi11 gl11 gr11 hI hX hC11 q11 => ?_)
    have q11 : ∀ (b : Nat → Int32) (n q : Nat), t_Sm b n q g10 → t_TM b n q gi11 := q11
    refine ev_loc f_X12_once (nx := 35) rfl rfl rfl rfl ?_
    refine ev_ic f_X12_once (nx := 36) (v := 1) rfl (by decide) rfl ?_
    refine ev_f f_X12_once (t1 := 39) (t2 := 50) rfl rfl rfl (t_neT' (by decide : (1:Int32).toInt ≤ (1:Int)) l_a1 (by decide)) ?_
    refine ev_loc f_X12_once (nx := 51) rfl rfl rfl rfl ?_
    refine ev_ic f_X12_once (nx := 52) (v := 3) rfl (by decide) rfl ?_
    refine ev_f f_X12_once (t1 := 55) (t2 := 66) rfl rfl rfl (t_neT u_a1 (by decide : (3:Int) ≤ (3:Int32).toInt) (by decide)) ?_
    refine ev_loc f_X12_once (nx := 67) rfl rfl rfl rfl ?_
    refine ev_sp f_X12_once (nx := 70) (v := 1405) rfl (by decide) rfl ?_
    refine ev_ic f_X12_once (nx := 71) (v := 0) rfl (by decide) rfl ?_
    refine ev_bp f_X12_once (nx := 73) (v := 20) rfl (by decide) rfl ?_
    refine ev_inV4 f_X12_once (nx := 76) (lo2 := [(0, .ref 69), (1, .int 1405), (2, .int 0), (3, .int 20)]) rfl rfl rfl rfl f_X12_number (hI.wf.s rfl) rfl rfl rfl rfl rfl ?_
    refine ev_loc f_X12_number (nx := 1) rfl rfl rfl rfl ?_
    refine ev_getI f_X12_number (nx := 4) rfl (hI.wf.s rfl) rfl rfl rfl ?_
    obtain ⟨l12, u12⟩ := hI.b (hI.wf.s (k := 69) rfl) (t_bdK rfl : t_bd 11 12 = some (0, 4))
    refine ev_ic f_X12_number (nx := 5) (v := 3) rfl (by decide) rfl ?_
    refine ev_if f_X12_number (t1 := 14) (t2 := 8) rfl rfl rfl (fun h13 => ?_) (fun h13 => ?_)
    · have u14 : (gi11 69 12).toInt ≤ 3 := t_equ h13 (by decide : (3:Int32).toInt ≤ (3:Int))
      have l15 : 3 ≤ (gi11 69 12).toInt := t_eql h13 (by decide : (3:Int) ≤ (3:Int32).toInt)
      refine ev_loc f_X12_number (nx := 15) rfl rfl rfl rfl ?_
      refine ev_getI f_X12_number (nx := 18) rfl (hI.wf.s rfl) rfl rfl rfl ?_
      refine ev_loc f_X12_number (nx := 19) rfl rfl rfl rfl ?_
      refine ev_if f_X12_number (t1 := 30) (t2 := 22) rfl rfl rfl (fun h16 => ?_) (fun h16 => ?_)
      · have u17 : (gi11 69 15).toInt ≤ (-1) := t_ltu h16 (by decide : (0:Int32).toInt ≤ (0:Int)) rfl
        refine ev_loc f_X12_number (nx := 31) rfl rfl rfl rfl ?_
        refine ev_ic f_X12_number (nx := 32) (v := 4) rfl (by decide) rfl ?_
        refine ev_qI f_X12_number (nx := 35) (r := []) rfl rfl rfl rfl rfl rfl rfl (c_n_fails hI (4) (Int.le_trans (by decide : (2:Int) ≤ 4) (by decide : (4:Int) ≤ (4:Int32).toInt)) (Int.le_trans (by decide : (4:Int32).toInt ≤ (4:Int)) (by decide : (4:Int) ≤ 7))) rfl hX rfl (fun w18 gi18 gl18 gr18 l18 u18 hI hX hC18 q18 => ?_)
        have q18 : (∀ (b : Nat → Int32) (n q : Nat), t_TM b n q gi11 → (gi11 69 18).toInt = 0 → t_MF gi18 (s_fk b n q 4) (s_F b n q)) ∧ w18.toInt = 0 := q18
        refine ev_retK1 f_X12_number rfl rfl (t_rz l18 (Int.le_trans u18 (by decide : (0:Int) ≤ 1))) ?_
        refine ev_t f_X12_once (t1 := 108) (t2 := 79) rfl rfl rfl (t_eqT u18 l18 (by decide : (0:Int32).toInt ≤ (0:Int)) (by decide : (0:Int) ≤ (0:Int32).toInt)) ?_
        refine ev_ic f_X12_once (nx := 109) (v := 0) rfl (by decide) rfl ?_
        exact ev_ret f_X12_once rfl rfl rfl ⟨_, _, _, rfl, hI, hX, ⟨_, rfl, (by decide : (0:Int) ≤ (0:Int32).toInt), (Int.le_trans (by decide : (0:Int32).toInt ≤ (0:Int)) (by decide : (0:Int) ≤ 1)), (show ∀ (b : Nat → Int32) (n q : Nat) (D : s_D), t_MS b n q D gi gl → ((0 : Int) = 1 ∧ ∃ q2 D2, s_frost b n q D = s_ok q2 D2 ∧ t_MS b n q2 D2 gi18 gl18) ∨ ((0 : Int) = 0 ∧ ∃ p x D2, x ≠ 0 ∧ s_frost b n q D = s_bad b n p x D2 ∧ t_MF gi18 (s_fk b n p x) (s_F b n p)) from (by
                                                            intro b n q D h
                                                            have hk : ar1.toInt = (1 : Int) + 1 := by omega
                                                            have hbit := t_mtb h.2.1.2.2.2 (x := (gi 69 20)) rfl (kk := 1) hk (by decide) e1 e2
                                                            have hbit : z2.toInt = D 222 := hbit
                                                            have hz : D 222 = 0 := by
                                                              rcases h.2.1.2.2.2.2.2.1 with e | e
                                                              · exact e
                                                              · rw [e] at hbit; omega
                                                            have t0_ := q11 b n _ (h.1.eq (g1 := g10) (fun j => by rw [e10, x_up2_ne (by decide)]) (fun j j1 j2 => by rw [e10, x_up2_off (Or.inr (by omega))])).S
                                                            have hv := t0_.vF (lo := 0) (hi := 20) (by omega) (by omega)
                                                            exact Or.inr ⟨rfl, _, 4, D, by decide, by simp only [s_frost, s_num, s_kw, s_ifT hz, s_ifT hv.1, s_ifF hv.2], q18.1 b n _ t0_ (by rw [(hC11.1 69 18 rfl).1, e10, x_up2_off (Or.inr (by decide))]; exact h.2.2.1)⟩))⟩⟩
      · have l19 : 0 ≤ (gi11 69 15).toInt := t_lel (t_nlt h16) (by decide : (0:Int) ≤ (0:Int32).toInt)
        refine ev_loc f_X12_number (nx := 23) rfl rfl rfl rfl ?_
        refine ev_gvI f_X12_number (nx := 26) (w := (gi11 69 15)) rfl (hI.wf.s rfl) rfl rfl rfl rfl ?_
        refine ev_loc f_X12_number (nx := 27) rfl rfl rfl rfl ?_
        refine ev_if f_X12_number (t1 := 36) (t2 := 30) rfl rfl rfl (fun h20 => ?_) (fun h20 => ?_)
        · have u21 : (gi11 69 15).toInt ≤ 20 := t_leu h20 (by decide : (20:Int32).toInt ≤ (20:Int))
          refine ev_loc f_X12_number (nx := 37) rfl rfl rfl rfl ?_
          refine ev_getR f_X12_number (nx := 40) rfl (hI.wf.s rfl) rfl rfl (hI.wf.r rfl) rfl rfl ?_
          refine ev_loc f_X12_number (nx := 41) rfl rfl rfl rfl ?_
          refine ev_loc f_X12_number (nx := 42) rfl rfl rfl rfl ?_
          refine ev_gvI f_X12_number (nx := 45) (w := (gi11 69 15)) rfl (hI.wf.s rfl) rfl rfl rfl rfl ?_
          refine ev_iastT f_X12_number (nx := 46) rfl (hI.wf.s rfl) (by decide : (1405:Int) ≤ (1405:Int32).toInt) (by decide) (by decide : (1405:Int32).toInt ≤ (1405:Int)) (by decide) rfl (hI.astL (hI.wf.s rfl) (by decide +kernel : t_abw 70 1405 1405 0 20 = true) (t_cl1 (by decide : (1405:Int) ≤ (1405:Int32).toInt) (by decide)) (t_cl2 (by decide : (1405:Int) ≤ (1405:Int32).toInt) (by decide : (1405:Int32).toInt ≤ (1405:Int)) (by decide) (by decide)) l19 u21 rfl) (hX.upI (t_inR (p := 1405) (m := 1405) rfl (by decide : (1405:Int) ≤ (1405:Int32).toInt) (by decide) (by decide : (1405:Int32).toInt ≤ (1405:Int)) (by decide) (by decide))) (fun g22 e22 hI hX => ?_)
          refine ev_loc f_X12_number (nx := 47) rfl rfl rfl rfl ?_
          refine ev_qN f_X12_number (nx := 50) (r := []) rfl rfl rfl rfl rfl rfl rfl (c_n_ahead hI ) rfl hX rfl (fun gi23 gl23 gr23 hI hX hC23 q23 => ?_)
          have q23 : ∀ (b : Nat → Int32) (n q : Nat), t_Sm b n q g22 → t_TM b n q gi23 := q23
          refine ev_ic f_X12_number (nx := 51) (v := 1) rfl (by decide) rfl ?_
          refine ev_retK1 f_X12_number rfl rfl rfl ?_
          refine ev_f f_X12_once (t1 := 108) (t2 := 79) rfl rfl rfl (by decide) ?_
          refine ev_loc f_X12_once (nx := 80) rfl rfl rfl rfl ?_
          refine ev_heap f_X12_once (nx := 82) rfl rfl rfl rfl ?_
          refine ev_bp f_X12_once (nx := 84) (v := 7) rfl (by decide) rfl ?_
          refine ev_qI f_X12_once (nx := 87) (r := []) rfl rfl rfl rfl rfl rfl rfl (c_n_wantWord hI (7)) rfl hX rfl (fun w24 gi24 gl24 gr24 l24 u24 hI hX hC24 q24 => ?_)
          have q24 : ∀ (b : Nat → Int32) (n q : Nat), t_TM b n q gi23 → (w24.toInt = 1 ∧ s_mi (s_W b n q) = 7 ∧ t_TM b n (s_E b n q) gi24 ∧ t_mf gi23 gi24) ∨ (w24.toInt = 0 ∧ ¬ s_mi (s_W b n q) = 7 ∧ ((gi23 69 18).toInt = 0 → t_MF gi24 (s_fk b n q 2) (s_F b n q))) := q24
          refine ev_if f_X12_once (t1 := 108) (t2 := 90) rfl rfl rfl (fun h25 => ?_) (fun h25 => ?_)
          · have u26 : w24.toInt ≤ 0 := t_equ h25 (by decide : (0:Int32).toInt ≤ (0:Int))
            refine ev_ic f_X12_once (nx := 109) (v := 0) rfl (by decide) rfl ?_
            exact ev_ret f_X12_once rfl rfl rfl ⟨_, _, _, rfl, hI, hX, ⟨_, rfl, (by decide : (0:Int) ≤ (0:Int32).toInt), (Int.le_trans (by decide : (0:Int32).toInt ≤ (0:Int)) (by decide : (0:Int) ≤ 1)), (show ∀ (b : Nat → Int32) (n q : Nat) (D : s_D), t_MS b n q D gi gl → ((0 : Int) = 1 ∧ ∃ q2 D2, s_frost b n q D = s_ok q2 D2 ∧ t_MS b n q2 D2 gi24 gl24) ∨ ((0 : Int) = 0 ∧ ∃ p x D2, x ≠ 0 ∧ s_frost b n q D = s_bad b n p x D2 ∧ t_MF gi24 (s_fk b n p x) (s_F b n p)) from (by
                                                            intro b n q D h
                                                            have hk : ar1.toInt = (1 : Int) + 1 := by omega
                                                            have hbit := t_mtb h.2.1.2.2.2 (x := (gi 69 20)) rfl (kk := 1) hk (by decide) e1 e2
                                                            have hbit : z2.toInt = D 222 := hbit
                                                            have hz : D 222 = 0 := by
                                                              rcases h.2.1.2.2.2.2.2.1 with e | e
                                                              · exact e
                                                              · rw [e] at hbit; omega
                                                            have t0_ := q11 b n _ (h.1.eq (g1 := g10) (fun j => by rw [e10, x_up2_ne (by decide)]) (fun j j1 j2 => by rw [e10, x_up2_off (Or.inr (by omega))])).S
                                                            have v1 := t0_.vT (lo := 0) (hi := 20) (by omega) (by omega) (by omega)
                                                            have t1_ := q23 b n _ (t0_.st e22).S
                                                            rcases q24 b n _ t1_ with hh | hh
                                                            · exact absurd hh.1 (by omega)
                                                            · exact Or.inr ⟨rfl, _, 2, D, by decide, by simp only [s_frost, s_num, s_kw, s_ifT hz, s_ifT v1.1.1, s_ifT v1.1, s_ifF (fun hw => hh.2.1 ((s_mi_W (i := 4) (by decide)).mpr hw))], hh.2.2 (by rw [(hC23.1 69 18 rfl).1, e22, x_up2_ne (by decide), (hC11.1 69 18 rfl).1, e10, x_up2_off (Or.inr (by decide))]; exact h.2.2.1)⟩))⟩⟩
          · have r27 : w24.toInt ≠ 0 := fun e => h25 (Int32.toInt_inj.mp (e.trans (by decide : (0:Int) = (0 : Int32).toInt)))
            have l28 : 1 ≤ w24.toInt := t_nel h25 l24 rfl rfl
            refine ev_loc f_X12_once (nx := 91) rfl rfl rfl rfl ?_
            refine ev_sp f_X12_once (nx := 94) (v := 1406) rfl (by decide) rfl ?_
            refine ev_ic f_X12_once (nx := 95) (v := 0) rfl (by decide) rfl ?_
            refine ev_sp f_X12_once (nx := 98) (v := 200) rfl (by decide) rfl ?_
            refine ev_inV4 f_X12_once (nx := 101) (lo2 := [(0, .ref 69), (1, .int 1406), (2, .int 0), (3, .int 200)]) rfl rfl rfl rfl f_X12_number (hI.wf.s rfl) rfl rfl rfl rfl rfl ?_
            refine ev_loc f_X12_number (nx := 1) rfl rfl rfl rfl ?_
            refine ev_getI f_X12_number (nx := 4) rfl (hI.wf.s rfl) rfl rfl rfl ?_
            obtain ⟨l29, u29⟩ := hI.b (hI.wf.s (k := 69) rfl) (t_bdK rfl : t_bd 11 12 = some (0, 4))
            refine ev_ic f_X12_number (nx := 5) (v := 3) rfl (by decide) rfl ?_
            refine ev_if f_X12_number (t1 := 14) (t2 := 8) rfl rfl rfl (fun h30 => ?_) (fun h30 => ?_)
            · have u31 : (gi24 69 12).toInt ≤ 3 := t_equ h30 (by decide : (3:Int32).toInt ≤ (3:Int))
              have l32 : 3 ≤ (gi24 69 12).toInt := t_eql h30 (by decide : (3:Int) ≤ (3:Int32).toInt)
              refine ev_loc f_X12_number (nx := 15) rfl rfl rfl rfl ?_
              refine ev_getI f_X12_number (nx := 18) rfl (hI.wf.s rfl) rfl rfl rfl ?_
              refine ev_loc f_X12_number (nx := 19) rfl rfl rfl rfl ?_
              refine ev_if f_X12_number (t1 := 30) (t2 := 22) rfl rfl rfl (fun h33 => ?_) (fun h33 => ?_)
              · have u34 : (gi24 69 15).toInt ≤ (-1) := t_ltu h33 (by decide : (0:Int32).toInt ≤ (0:Int)) rfl
                refine ev_loc f_X12_number (nx := 31) rfl rfl rfl rfl ?_
                refine ev_ic f_X12_number (nx := 32) (v := 4) rfl (by decide) rfl ?_
                refine ev_qI f_X12_number (nx := 35) (r := []) rfl rfl rfl rfl rfl rfl rfl (c_n_fails hI (4) (Int.le_trans (by decide : (2:Int) ≤ 4) (by decide : (4:Int) ≤ (4:Int32).toInt)) (Int.le_trans (by decide : (4:Int32).toInt ≤ (4:Int)) (by decide : (4:Int) ≤ 7))) rfl hX rfl (fun w35 gi35 gl35 gr35 l35 u35 hI hX hC35 q35 => ?_)
                have q35 : (∀ (b : Nat → Int32) (n q : Nat), t_TM b n q gi24 → (gi24 69 18).toInt = 0 → t_MF gi35 (s_fk b n q 4) (s_F b n q)) ∧ w35.toInt = 0 := q35
                refine ev_retK1 f_X12_number rfl rfl (t_rz l35 (Int.le_trans u35 (by decide : (0:Int) ≤ 1))) ?_
                refine ev_t f_X12_once (t1 := 108) (t2 := 104) rfl rfl rfl (t_eqT u35 l35 (by decide : (0:Int32).toInt ≤ (0:Int)) (by decide : (0:Int) ≤ (0:Int32).toInt)) ?_
                refine ev_ic f_X12_once (nx := 109) (v := 0) rfl (by decide) rfl ?_
                exact ev_ret f_X12_once rfl rfl rfl ⟨_, _, _, rfl, hI, hX, ⟨_, rfl, (by decide : (0:Int) ≤ (0:Int32).toInt), (Int.le_trans (by decide : (0:Int32).toInt ≤ (0:Int)) (by decide : (0:Int) ≤ 1)), (show ∀ (b : Nat → Int32) (n q : Nat) (D : s_D), t_MS b n q D gi gl → ((0 : Int) = 1 ∧ ∃ q2 D2, s_frost b n q D = s_ok q2 D2 ∧ t_MS b n q2 D2 gi35 gl35) ∨ ((0 : Int) = 0 ∧ ∃ p x D2, x ≠ 0 ∧ s_frost b n q D = s_bad b n p x D2 ∧ t_MF gi35 (s_fk b n p x) (s_F b n p)) from (by
                                                            intro b n q D h
                                                            have hk : ar1.toInt = (1 : Int) + 1 := by omega
                                                            have hbit := t_mtb h.2.1.2.2.2 (x := (gi 69 20)) rfl (kk := 1) hk (by decide) e1 e2
                                                            have hbit : z2.toInt = D 222 := hbit
                                                            have hz : D 222 = 0 := by
                                                              rcases h.2.1.2.2.2.2.2.1 with e | e
                                                              · exact e
                                                              · rw [e] at hbit; omega
                                                            have t0_ := q11 b n _ (h.1.eq (g1 := g10) (fun j => by rw [e10, x_up2_ne (by decide)]) (fun j j1 j2 => by rw [e10, x_up2_off (Or.inr (by omega))])).S
                                                            have v1 := t0_.vT (lo := 0) (hi := 20) (by omega) (by omega) (by omega)
                                                            have t1_ := q23 b n _ (t0_.st e22).S
                                                            obtain ⟨_, w2, t2_, m2⟩ := (q24 b n _ t1_).resolve_right (fun hh => absurd hh.1 (by omega))
                                                            have k2 := (s_mi_W (i := 4) (by decide)).mp w2
                                                            have hv := t2_.vF (lo := 0) (hi := 200) (by omega) (by omega)
                                                            exact Or.inr ⟨rfl, _, 4, D, by decide, by simp only [s_frost, s_num, s_kw, s_ifT hz, s_ifT v1.1.1, s_ifT v1.1, s_ifT k2, s_ifT hv.1, s_ifF hv.2], q35.1 b n _ t2_ (by rw [m2.1, (hC23.1 69 18 rfl).1, e22, x_up2_ne (by decide), (hC11.1 69 18 rfl).1, e10, x_up2_off (Or.inr (by decide))]; exact h.2.2.1)⟩))⟩⟩
              · have l36 : 0 ≤ (gi24 69 15).toInt := t_lel (t_nlt h33) (by decide : (0:Int) ≤ (0:Int32).toInt)
                refine ev_loc f_X12_number (nx := 23) rfl rfl rfl rfl ?_
                refine ev_gvI f_X12_number (nx := 26) (w := (gi24 69 15)) rfl (hI.wf.s rfl) rfl rfl rfl rfl ?_
                refine ev_loc f_X12_number (nx := 27) rfl rfl rfl rfl ?_
                refine ev_if f_X12_number (t1 := 36) (t2 := 30) rfl rfl rfl (fun h37 => ?_) (fun h37 => ?_)
                · have u38 : (gi24 69 15).toInt ≤ 200 := t_leu h37 (by decide : (200:Int32).toInt ≤ (200:Int))
                  refine ev_loc f_X12_number (nx := 37) rfl rfl rfl rfl ?_
                  refine ev_getR f_X12_number (nx := 40) rfl (hI.wf.s rfl) rfl rfl (hI.wf.r rfl) rfl rfl ?_
                  refine ev_loc f_X12_number (nx := 41) rfl rfl rfl rfl ?_
                  refine ev_loc f_X12_number (nx := 42) rfl rfl rfl rfl ?_
                  refine ev_gvI f_X12_number (nx := 45) (w := (gi24 69 15)) rfl (hI.wf.s rfl) rfl rfl rfl rfl ?_
                  refine ev_iastT f_X12_number (nx := 46) rfl (hI.wf.s rfl) (by decide : (1406:Int) ≤ (1406:Int32).toInt) (by decide) (by decide : (1406:Int32).toInt ≤ (1406:Int)) (by decide) rfl (hI.astL (hI.wf.s rfl) (by decide +kernel : t_abw 70 1406 1406 0 200 = true) (t_cl1 (by decide : (1406:Int) ≤ (1406:Int32).toInt) (by decide)) (t_cl2 (by decide : (1406:Int) ≤ (1406:Int32).toInt) (by decide : (1406:Int32).toInt ≤ (1406:Int)) (by decide) (by decide)) l36 u38 rfl) (hX.upI (t_inR (p := 1406) (m := 1406) rfl (by decide : (1406:Int) ≤ (1406:Int32).toInt) (by decide) (by decide : (1406:Int32).toInt ≤ (1406:Int)) (by decide) (by decide))) (fun g39 e39 hI hX => ?_)
                  refine ev_loc f_X12_number (nx := 47) rfl rfl rfl rfl ?_
                  refine ev_qN f_X12_number (nx := 50) (r := []) rfl rfl rfl rfl rfl rfl rfl (c_n_ahead hI ) rfl hX rfl (fun gi40 gl40 gr40 hI hX hC40 q40 => ?_)
                  have q40 : ∀ (b : Nat → Int32) (n q : Nat), t_Sm b n q g39 → t_TM b n q gi40 := q40
                  refine ev_ic f_X12_number (nx := 51) (v := 1) rfl (by decide) rfl ?_
                  refine ev_retK1 f_X12_number rfl rfl rfl ?_
                  refine ev_f f_X12_once (t1 := 108) (t2 := 104) rfl rfl rfl (by decide) ?_
                  refine ev_ic f_X12_once (nx := 105) (v := 1) rfl (by decide) rfl ?_
                  refine ev_jmp f_X12_once (nx := 109) rfl rfl rfl ?_
                  exact ev_ret f_X12_once rfl rfl rfl ⟨_, _, _, rfl, hI, hX, ⟨_, rfl, (Int.le_trans (by decide : (0:Int) ≤ 1) (by decide : (1:Int) ≤ (1:Int32).toInt)), (by decide : (1:Int32).toInt ≤ (1:Int)), (show ∀ (b : Nat → Int32) (n q : Nat) (D : s_D), t_MS b n q D gi gl → ((1 : Int) = 1 ∧ ∃ q2 D2, s_frost b n q D = s_ok q2 D2 ∧ t_MS b n q2 D2 gi40 gl40) ∨ ((1 : Int) = 0 ∧ ∃ p x D2, x ≠ 0 ∧ s_frost b n q D = s_bad b n p x D2 ∧ t_MF gi40 (s_fk b n p x) (s_F b n p)) from (by
                                                            intro b n q D h
                                                            have hk : ar1.toInt = (1 : Int) + 1 := by omega
                                                            have hbit := t_mtb h.2.1.2.2.2 (x := (gi 69 20)) rfl (kk := 1) hk (by decide) e1 e2
                                                            have hbit : z2.toInt = D 222 := hbit
                                                            have hz : D 222 = 0 := by
                                                              rcases h.2.1.2.2.2.2.2.1 with e | e
                                                              · exact e
                                                              · rw [e] at hbit; omega
                                                            have t0_ := q11 b n _ (h.1.eq (g1 := g10) (fun j => by rw [e10, x_up2_ne (by decide)]) (fun j j1 j2 => by rw [e10, x_up2_off (Or.inr (by omega))])).S
                                                            have v1 := t0_.vT (lo := 0) (hi := 20) (by omega) (by omega) (by omega)
                                                            have t1_ := q23 b n _ (t0_.st e22).S
                                                            obtain ⟨_, w2, t2_, m2⟩ := (q24 b n _ t1_).resolve_right (fun hh => absurd hh.1 (by omega))
                                                            have k2 := (s_mi_W (i := 4) (by decide)).mp w2
                                                            have v3 := t2_.vT (lo := 0) (hi := 200) (by omega) (by omega) (by omega)
                                                            have t3_ := q40 b n _ (t2_.st e39).S
                                                            have kc1405_ : (1405 : Int32).toNatClampNeg = 1405 := rfl
                                                            have kc1406_ : (1406 : Int32).toNatClampNeg = 1406 := rfl
                                                            have y5 : (gi40 70 1405).toInt = s_V b n (s_E b n q) := by
                                                              rw [(hC40.1 70 _ rfl).1, e39, x_up2_off (Or.inr (by omega)), (hC24.1 70 _ rfl).1, (hC23.1 70 _ rfl).1, e22]
                                                              rw [show 1405 = (1405 : Int32).toNatClampNeg from rfl, x_up2_at]; exact v1.2
                                                            have y6 : (gi40 70 1406).toInt = s_V b n (s_E b n (s_E b n (s_E b n q))) := by
                                                              rw [(hC40.1 70 _ rfl).1, e39]
                                                              rw [show 1406 = (1406 : Int32).toNatClampNeg from rfl, x_up2_at]; exact v3.2
                                                            have yr : ∀ j, (∀ x, x ∈ [1405, 1406] → j ≠ x) → gi40 70 j = gi 70 j := fun j j1 => by
                                                              rw [(hC40.1 70 _ rfl).1, e39, x_up2_off (Or.inr (j1 _ (by decide))), (hC24.1 70 _ rfl).1, (hC23.1 70 _ rfl).1, e22, x_up2_off (Or.inr (j1 _ (by decide))), (hC11.1 70 _ rfl).1, e10, x_up2_ne (by decide)]
                                                            have y4 : (gi40 70 1404).toInt = D 4 := by rw [yr _ (by decide)]; exact h.2.1.2.1.1.2.1
                                                            have y7 : (gi40 70 1407).toInt = D 7 := by rw [yr _ (by decide)]; exact h.2.1.2.1.1.2.2.2.2
                                                            have ybit := t_mts h.2.1.2.2.2 (x := (gi 69 20)) rfl (kk := 1) hk (by decide) hz (p := 4) rfl (by omega) e9
                                                            have y20 : gi40 69 20 = z9 := by rw [(hC40.1 69 20 rfl).1, e39, x_up2_ne (by decide), (hC24.1 69 20 rfl).1, (hC23.1 69 20 rfl).1, e22, x_up2_ne (by decide), (hC11.1 69 20 rfl).1, e10, x_up2_at]
                                                            have hm : t_Mt gi40 (s_set (s_set (s_set D 222 1) 5 (s_V b n (s_E b n q))) 6 (s_V b n (s_E b n (s_E b n (s_E b n q))))) := by
                                                              obtain ⟨x0, x1, x2, x3⟩ := h.2.1.2.2.2
                                                              have s1 : (s_set (s_set (s_set D 222 1) 5 (s_V b n (s_E b n q))) 6 (s_V b n (s_E b n (s_E b n (s_E b n q))))) 221 = D 221 := rfl
                                                              have s2 : (s_set (s_set (s_set D 222 1) 5 (s_V b n (s_E b n q))) 6 (s_V b n (s_E b n (s_E b n (s_E b n q))))) 222 = 1 := rfl
                                                              have s3 : (s_set (s_set (s_set D 222 1) 5 (s_V b n (s_E b n q))) 6 (s_V b n (s_E b n (s_E b n (s_E b n q))))) 223 = D 223 := rfl
                                                              refine ⟨?_, by rw [s1]; omega, by rw [s2]; omega, by rw [s3]; omega⟩
                                                              have hp : (2 : Int) ^ (1 + 1) = 4 := rfl
                                                              rw [hp] at ybit
                                                              rw [y20, ybit, s1, s2, s3, x0]; omega
                                                            exact Or.inl ⟨rfl, _, (s_set (s_set (s_set D 222 1) 5 (s_V b n (s_E b n q))) 6 (s_V b n (s_E b n (s_E b n (s_E b n q))))), by simp only [s_frost, s_num, s_kw, s_ifT hz, s_ifT v1.1.1, s_ifT v1.1, s_ifT k2, s_ifT v3.1.1, s_ifT v3.1], t_MS_tel h t3_ ⟨by rw [(hC40.1 69 18 rfl).1, e39, x_up2_ne (by decide), m2.1, (hC23.1 69 18 rfl).1, e22, x_up2_ne (by decide), (hC11.1 69 18 rfl).1, e10, x_up2_off (Or.inr (by decide))], by rw [(hC40.1 69 17 rfl).1, e39, x_up2_ne (by decide), m2.2, (hC23.1 69 17 rfl).1, e22, x_up2_ne (by decide), (hC11.1 69 17 rfl).1, e10, x_up2_off (Or.inr (by decide))]⟩ (fun j hj => yr j (fun x hx => by simp only [List.mem_cons, List.not_mem_nil, or_false] at hx; omega)) y4 y5 y6 y7 (fun j => by rw [(hC40.1 71 j rfl).2.1, (hC24.1 71 j rfl).2.1, (hC23.1 71 j rfl).2.1, (hC11.1 71 j rfl).2.1]) (fun j hj => (by unfold s_set; rw [if_neg (by omega), if_neg (by omega), if_neg (by omega)])) hm⟩))⟩⟩
                · have l41 : 201 ≤ (gi24 69 15).toInt := t_ltl (t_nle h37) (by decide : (200:Int) ≤ (200:Int32).toInt) rfl
                  refine ev_loc f_X12_number (nx := 31) rfl rfl rfl rfl ?_
                  refine ev_ic f_X12_number (nx := 32) (v := 4) rfl (by decide) rfl ?_
                  refine ev_qI f_X12_number (nx := 35) (r := []) rfl rfl rfl rfl rfl rfl rfl (c_n_fails hI (4) (Int.le_trans (by decide : (2:Int) ≤ 4) (by decide : (4:Int) ≤ (4:Int32).toInt)) (Int.le_trans (by decide : (4:Int32).toInt ≤ (4:Int)) (by decide : (4:Int) ≤ 7))) rfl hX rfl (fun w42 gi42 gl42 gr42 l42 u42 hI hX hC42 q42 => ?_)
                  have q42 : (∀ (b : Nat → Int32) (n q : Nat), t_TM b n q gi24 → (gi24 69 18).toInt = 0 → t_MF gi42 (s_fk b n q 4) (s_F b n q)) ∧ w42.toInt = 0 := q42
                  refine ev_retK1 f_X12_number rfl rfl (t_rz l42 (Int.le_trans u42 (by decide : (0:Int) ≤ 1))) ?_
                  refine ev_t f_X12_once (t1 := 108) (t2 := 104) rfl rfl rfl (t_eqT u42 l42 (by decide : (0:Int32).toInt ≤ (0:Int)) (by decide : (0:Int) ≤ (0:Int32).toInt)) ?_
                  refine ev_ic f_X12_once (nx := 109) (v := 0) rfl (by decide) rfl ?_
                  exact ev_ret f_X12_once rfl rfl rfl ⟨_, _, _, rfl, hI, hX, ⟨_, rfl, (by decide : (0:Int) ≤ (0:Int32).toInt), (Int.le_trans (by decide : (0:Int32).toInt ≤ (0:Int)) (by decide : (0:Int) ≤ 1)), (show ∀ (b : Nat → Int32) (n q : Nat) (D : s_D), t_MS b n q D gi gl → ((0 : Int) = 1 ∧ ∃ q2 D2, s_frost b n q D = s_ok q2 D2 ∧ t_MS b n q2 D2 gi42 gl42) ∨ ((0 : Int) = 0 ∧ ∃ p x D2, x ≠ 0 ∧ s_frost b n q D = s_bad b n p x D2 ∧ t_MF gi42 (s_fk b n p x) (s_F b n p)) from (by
                                                            intro b n q D h
                                                            have hk : ar1.toInt = (1 : Int) + 1 := by omega
                                                            have hbit := t_mtb h.2.1.2.2.2 (x := (gi 69 20)) rfl (kk := 1) hk (by decide) e1 e2
                                                            have hbit : z2.toInt = D 222 := hbit
                                                            have hz : D 222 = 0 := by
                                                              rcases h.2.1.2.2.2.2.2.1 with e | e
                                                              · exact e
                                                              · rw [e] at hbit; omega
                                                            have t0_ := q11 b n _ (h.1.eq (g1 := g10) (fun j => by rw [e10, x_up2_ne (by decide)]) (fun j j1 j2 => by rw [e10, x_up2_off (Or.inr (by omega))])).S
                                                            have v1 := t0_.vT (lo := 0) (hi := 20) (by omega) (by omega) (by omega)
                                                            have t1_ := q23 b n _ (t0_.st e22).S
                                                            obtain ⟨_, w2, t2_, m2⟩ := (q24 b n _ t1_).resolve_right (fun hh => absurd hh.1 (by omega))
                                                            have k2 := (s_mi_W (i := 4) (by decide)).mp w2
                                                            have hv := t2_.vF (lo := 0) (hi := 200) (by omega) (by omega)
                                                            exact Or.inr ⟨rfl, _, 4, D, by decide, by simp only [s_frost, s_num, s_kw, s_ifT hz, s_ifT v1.1.1, s_ifT v1.1, s_ifT k2, s_ifT hv.1, s_ifF hv.2], q42.1 b n _ t2_ (by rw [m2.1, (hC23.1 69 18 rfl).1, e22, x_up2_ne (by decide), (hC11.1 69 18 rfl).1, e10, x_up2_off (Or.inr (by decide))]; exact h.2.2.1)⟩))⟩⟩
            · have r43 : (gi24 69 12).toInt ≠ 3 := fun e => h30 (Int32.toInt_inj.mp (e.trans (by decide : (3:Int) = (3 : Int32).toInt)))
              refine ev_loc f_X12_number (nx := 9) rfl rfl rfl rfl ?_
              refine ev_ic f_X12_number (nx := 10) (v := 2) rfl (by decide) rfl ?_
              refine ev_qI f_X12_number (nx := 13) (r := []) rfl rfl rfl rfl rfl rfl rfl (c_n_fails hI (2) (by decide : (2:Int) ≤ (2:Int32).toInt) (Int.le_trans (by decide : (2:Int32).toInt ≤ (2:Int)) (by decide : (2:Int) ≤ 7))) rfl hX rfl (fun w44 gi44 gl44 gr44 l44 u44 hI hX hC44 q44 => ?_)
              have q44 : (∀ (b : Nat → Int32) (n q : Nat), t_TM b n q gi24 → (gi24 69 18).toInt = 0 → t_MF gi44 (s_fk b n q 2) (s_F b n q)) ∧ w44.toInt = 0 := q44
              refine ev_retK1 f_X12_number rfl rfl (t_rz l44 (Int.le_trans u44 (by decide : (0:Int) ≤ 1))) ?_
              refine ev_t f_X12_once (t1 := 108) (t2 := 104) rfl rfl rfl (t_eqT u44 l44 (by decide : (0:Int32).toInt ≤ (0:Int)) (by decide : (0:Int) ≤ (0:Int32).toInt)) ?_
              refine ev_ic f_X12_once (nx := 109) (v := 0) rfl (by decide) rfl ?_
              exact ev_ret f_X12_once rfl rfl rfl ⟨_, _, _, rfl, hI, hX, ⟨_, rfl, (by decide : (0:Int) ≤ (0:Int32).toInt), (Int.le_trans (by decide : (0:Int32).toInt ≤ (0:Int)) (by decide : (0:Int) ≤ 1)), (show ∀ (b : Nat → Int32) (n q : Nat) (D : s_D), t_MS b n q D gi gl → ((0 : Int) = 1 ∧ ∃ q2 D2, s_frost b n q D = s_ok q2 D2 ∧ t_MS b n q2 D2 gi44 gl44) ∨ ((0 : Int) = 0 ∧ ∃ p x D2, x ≠ 0 ∧ s_frost b n q D = s_bad b n p x D2 ∧ t_MF gi44 (s_fk b n p x) (s_F b n p)) from (by
                                                            intro b n q D h
                                                            have hk : ar1.toInt = (1 : Int) + 1 := by omega
                                                            have hbit := t_mtb h.2.1.2.2.2 (x := (gi 69 20)) rfl (kk := 1) hk (by decide) e1 e2
                                                            have hbit : z2.toInt = D 222 := hbit
                                                            have hz : D 222 = 0 := by
                                                              rcases h.2.1.2.2.2.2.2.1 with e | e
                                                              · exact e
                                                              · rw [e] at hbit; omega
                                                            have t0_ := q11 b n _ (h.1.eq (g1 := g10) (fun j => by rw [e10, x_up2_ne (by decide)]) (fun j j1 j2 => by rw [e10, x_up2_off (Or.inr (by omega))])).S
                                                            have v1 := t0_.vT (lo := 0) (hi := 20) (by omega) (by omega) (by omega)
                                                            have t1_ := q23 b n _ (t0_.st e22).S
                                                            obtain ⟨_, w2, t2_, m2⟩ := (q24 b n _ t1_).resolve_right (fun hh => absurd hh.1 (by omega))
                                                            have k2 := (s_mi_W (i := 4) (by decide)).mp w2
                                                            exact Or.inr ⟨rfl, _, 2, D, by decide, by simp only [s_frost, s_num, s_kw, s_ifT hz, s_ifT v1.1.1, s_ifT v1.1, s_ifT k2, s_ifF (t2_.vK (by omega))], q44.1 b n _ t2_ (by rw [m2.1, (hC23.1 69 18 rfl).1, e22, x_up2_ne (by decide), (hC11.1 69 18 rfl).1, e10, x_up2_off (Or.inr (by decide))]; exact h.2.2.1)⟩))⟩⟩
        · have l45 : 21 ≤ (gi11 69 15).toInt := t_ltl (t_nle h20) (by decide : (20:Int) ≤ (20:Int32).toInt) rfl
          refine ev_loc f_X12_number (nx := 31) rfl rfl rfl rfl ?_
          refine ev_ic f_X12_number (nx := 32) (v := 4) rfl (by decide) rfl ?_
          refine ev_qI f_X12_number (nx := 35) (r := []) rfl rfl rfl rfl rfl rfl rfl (c_n_fails hI (4) (Int.le_trans (by decide : (2:Int) ≤ 4) (by decide : (4:Int) ≤ (4:Int32).toInt)) (Int.le_trans (by decide : (4:Int32).toInt ≤ (4:Int)) (by decide : (4:Int) ≤ 7))) rfl hX rfl (fun w46 gi46 gl46 gr46 l46 u46 hI hX hC46 q46 => ?_)
          have q46 : (∀ (b : Nat → Int32) (n q : Nat), t_TM b n q gi11 → (gi11 69 18).toInt = 0 → t_MF gi46 (s_fk b n q 4) (s_F b n q)) ∧ w46.toInt = 0 := q46
          refine ev_retK1 f_X12_number rfl rfl (t_rz l46 (Int.le_trans u46 (by decide : (0:Int) ≤ 1))) ?_
          refine ev_t f_X12_once (t1 := 108) (t2 := 79) rfl rfl rfl (t_eqT u46 l46 (by decide : (0:Int32).toInt ≤ (0:Int)) (by decide : (0:Int) ≤ (0:Int32).toInt)) ?_
          refine ev_ic f_X12_once (nx := 109) (v := 0) rfl (by decide) rfl ?_
          exact ev_ret f_X12_once rfl rfl rfl ⟨_, _, _, rfl, hI, hX, ⟨_, rfl, (by decide : (0:Int) ≤ (0:Int32).toInt), (Int.le_trans (by decide : (0:Int32).toInt ≤ (0:Int)) (by decide : (0:Int) ≤ 1)), (show ∀ (b : Nat → Int32) (n q : Nat) (D : s_D), t_MS b n q D gi gl → ((0 : Int) = 1 ∧ ∃ q2 D2, s_frost b n q D = s_ok q2 D2 ∧ t_MS b n q2 D2 gi46 gl46) ∨ ((0 : Int) = 0 ∧ ∃ p x D2, x ≠ 0 ∧ s_frost b n q D = s_bad b n p x D2 ∧ t_MF gi46 (s_fk b n p x) (s_F b n p)) from (by
                                                            intro b n q D h
                                                            have hk : ar1.toInt = (1 : Int) + 1 := by omega
                                                            have hbit := t_mtb h.2.1.2.2.2 (x := (gi 69 20)) rfl (kk := 1) hk (by decide) e1 e2
                                                            have hbit : z2.toInt = D 222 := hbit
                                                            have hz : D 222 = 0 := by
                                                              rcases h.2.1.2.2.2.2.2.1 with e | e
                                                              · exact e
                                                              · rw [e] at hbit; omega
                                                            have t0_ := q11 b n _ (h.1.eq (g1 := g10) (fun j => by rw [e10, x_up2_ne (by decide)]) (fun j j1 j2 => by rw [e10, x_up2_off (Or.inr (by omega))])).S
                                                            have hv := t0_.vF (lo := 0) (hi := 20) (by omega) (by omega)
                                                            exact Or.inr ⟨rfl, _, 4, D, by decide, by simp only [s_frost, s_num, s_kw, s_ifT hz, s_ifT hv.1, s_ifF hv.2], q46.1 b n _ t0_ (by rw [(hC11.1 69 18 rfl).1, e10, x_up2_off (Or.inr (by decide))]; exact h.2.2.1)⟩))⟩⟩
    · have r47 : (gi11 69 12).toInt ≠ 3 := fun e => h13 (Int32.toInt_inj.mp (e.trans (by decide : (3:Int) = (3 : Int32).toInt)))
      refine ev_loc f_X12_number (nx := 9) rfl rfl rfl rfl ?_
      refine ev_ic f_X12_number (nx := 10) (v := 2) rfl (by decide) rfl ?_
      refine ev_qI f_X12_number (nx := 13) (r := []) rfl rfl rfl rfl rfl rfl rfl (c_n_fails hI (2) (by decide : (2:Int) ≤ (2:Int32).toInt) (Int.le_trans (by decide : (2:Int32).toInt ≤ (2:Int)) (by decide : (2:Int) ≤ 7))) rfl hX rfl (fun w48 gi48 gl48 gr48 l48 u48 hI hX hC48 q48 => ?_)
      have q48 : (∀ (b : Nat → Int32) (n q : Nat), t_TM b n q gi11 → (gi11 69 18).toInt = 0 → t_MF gi48 (s_fk b n q 2) (s_F b n q)) ∧ w48.toInt = 0 := q48
      refine ev_retK1 f_X12_number rfl rfl (t_rz l48 (Int.le_trans u48 (by decide : (0:Int) ≤ 1))) ?_
      refine ev_t f_X12_once (t1 := 108) (t2 := 79) rfl rfl rfl (t_eqT u48 l48 (by decide : (0:Int32).toInt ≤ (0:Int)) (by decide : (0:Int) ≤ (0:Int32).toInt)) ?_
      refine ev_ic f_X12_once (nx := 109) (v := 0) rfl (by decide) rfl ?_
      exact ev_ret f_X12_once rfl rfl rfl ⟨_, _, _, rfl, hI, hX, ⟨_, rfl, (by decide : (0:Int) ≤ (0:Int32).toInt), (Int.le_trans (by decide : (0:Int32).toInt ≤ (0:Int)) (by decide : (0:Int) ≤ 1)), (show ∀ (b : Nat → Int32) (n q : Nat) (D : s_D), t_MS b n q D gi gl → ((0 : Int) = 1 ∧ ∃ q2 D2, s_frost b n q D = s_ok q2 D2 ∧ t_MS b n q2 D2 gi48 gl48) ∨ ((0 : Int) = 0 ∧ ∃ p x D2, x ≠ 0 ∧ s_frost b n q D = s_bad b n p x D2 ∧ t_MF gi48 (s_fk b n p x) (s_F b n p)) from (by
                                                            intro b n q D h
                                                            have hk : ar1.toInt = (1 : Int) + 1 := by omega
                                                            have hbit := t_mtb h.2.1.2.2.2 (x := (gi 69 20)) rfl (kk := 1) hk (by decide) e1 e2
                                                            have hbit : z2.toInt = D 222 := hbit
                                                            have hz : D 222 = 0 := by
                                                              rcases h.2.1.2.2.2.2.2.1 with e | e
                                                              · exact e
                                                              · rw [e] at hbit; omega
                                                            have t0_ := q11 b n _ (h.1.eq (g1 := g10) (fun j => by rw [e10, x_up2_ne (by decide)]) (fun j j1 j2 => by rw [e10, x_up2_off (Or.inr (by omega))])).S
                                                            exact Or.inr ⟨rfl, _, 2, D, by decide, by simp only [s_frost, s_num, s_kw, s_ifT hz, s_ifF (t0_.vK (by omega))], q48.1 b n _ t0_ (by rw [(hC11.1 69 18 rfl).1, e10, x_up2_off (Or.inr (by decide))]; exact h.2.2.1)⟩))⟩⟩
noncomputable def wl_n_once3 : List (Nat × Nat) := [(69, 12), (69, 13), (69, 14), (69, 15), (69, 17), (69, 18), (69, 20), (70, 140711407)]
noncomputable def Q_n_once3 (gi : Nat → Nat → Int32) (gl : Nat → Nat → Int64) (gr : Nat → Nat → Value) (ar1 : Int32) : Int32 → (Nat → Nat → Int32) → (Nat → Nat → Int64) → (Nat → Nat → Value) → Prop := fun (v : Int32) (gi2 : Nat → Nat → Int32) (gl2 : Nat → Nat → Int64) (gr2 : Nat → Nat → Value) => ∀ (b : Nat → Int32) (n q : Nat) (D : s_D), t_MS b n q D gi gl → (v.toInt = 1 ∧ ∃ q2 D2, s_echo b n q D = s_ok q2 D2 ∧ t_MS b n q2 D2 gi2 gl2) ∨ (v.toInt = 0 ∧ ∃ p x D2, x ≠ 0 ∧ s_echo b n q D = s_bad b n p x D2 ∧ t_MF gi2 (s_fk b n p x) (s_F b n p))
theorem c_n_once3 {X : x_Ext} {d : Nat} {sh : List (Nat ⊕ (Nat × Nat))} {gi : Nat → Nat → Int32} {gl : Nat → Nat → Int64} {gr : Nat → Nat → Value} (hI : t_I sh gi gr) (ar1 : Int32) (l_a1 : 3 ≤ ar1.toInt) (u_a1 : ar1.toInt ≤ 3) : x_Me X (d + 4) n_X12_once [.ref 69, .int ar1] (sh, gi, gl, gr) (t_PI wl_n_once3 sh gi gl gr 0 1 (Q_n_once3 gi gl gr ar1)) := by
  have hX : t_X wl_n_once3 sh gi gl gr gi gl gr := t_X.rf
  refine me_i f_X12_once (hI.wf.s rfl) rfl rfl rfl ?_
  refine ev_loc f_X12_once (nx := 1) rfl rfl rfl rfl ?_
  refine ev_getI f_X12_once (nx := 4) rfl (hI.wf.s rfl) rfl rfl rfl ?_
  refine ev_loc f_X12_once (nx := 5) rfl rfl rfl rfl ?_
  refine ev_anyIE f_X12_once (nx := 6) rfl rfl rfl rfl (fun z1 e1 => ?_)
  refine ev_ic f_X12_once (nx := 7) (v := 1) rfl (by decide) rfl ?_
  refine ev_anyIE f_X12_once (nx := 8) rfl rfl rfl rfl (fun z2 e2 => ?_)
  refine ev_ic f_X12_once (nx := 9) (v := 1) rfl (by decide) rfl ?_
  refine ev_if f_X12_once (t1 := 12) (t2 := 18) rfl rfl rfl (fun h3 => ?_) (fun h3 => ?_)
  · have u4 : z2.toInt ≤ 1 := t_equ h3 (by decide : (1:Int32).toInt ≤ (1:Int))
    have l5 : 1 ≤ z2.toInt := t_eql h3 (by decide : (1:Int) ≤ (1:Int32).toInt)
    refine ev_loc f_X12_once (nx := 13) rfl rfl rfl rfl ?_
    refine ev_ic f_X12_once (nx := 14) (v := 5) rfl (by decide) rfl ?_
    refine ev_qI f_X12_once (nx := 17) (r := []) rfl rfl rfl rfl rfl rfl rfl (c_n_fails hI (5) (Int.le_trans (by decide : (2:Int) ≤ 5) (by decide : (5:Int) ≤ (5:Int32).toInt)) (Int.le_trans (by decide : (5:Int32).toInt ≤ (5:Int)) (by decide : (5:Int) ≤ 7))) rfl hX rfl (fun w6 gi6 gl6 gr6 l6 u6 hI hX hC6 q6 => ?_)
    have q6 : (∀ (b : Nat → Int32) (n q : Nat), t_TM b n q gi → (gi 69 18).toInt = 0 → t_MF gi6 (s_fk b n q 5) (s_F b n q)) ∧ w6.toInt = 0 := q6
    exact ev_retZ f_X12_once rfl l6 (Int.le_trans u6 (by decide : (0:Int) ≤ 1)) ⟨_, _, _, rfl, hI, hX, ⟨_, rfl, l6, (Int.le_trans u6 (by decide : (0:Int) ≤ 1)), (show ∀ (b : Nat → Int32) (n q : Nat) (D : s_D), t_MS b n q D gi gl → (w6.toInt = 1 ∧ ∃ q2 D2, s_echo b n q D = s_ok q2 D2 ∧ t_MS b n q2 D2 gi6 gl6) ∨ (w6.toInt = 0 ∧ ∃ p x D2, x ≠ 0 ∧ s_echo b n q D = s_bad b n p x D2 ∧ t_MF gi6 (s_fk b n p x) (s_F b n p)) from (by
                                                            intro b n q D h
                                                            have hk : ar1.toInt = (2 : Int) + 1 := by omega
                                                            have hbit := t_mtb h.2.1.2.2.2 (x := (gi 69 20)) rfl (kk := 2) hk (by decide) e1 e2
                                                            have hbit : z2.toInt = D 223 := hbit
                                                            exact Or.inr ⟨q6.2, q, 5, D, by decide, by simp only [s_echo, s_ifF (show ¬ D 223 = 0 by omega)], q6.1 b n q h.1 h.2.2.1⟩))⟩⟩
  · have r7 : z2.toInt ≠ 1 := fun e => h3 (Int32.toInt_inj.mp (e.trans (by decide : (1:Int) = (1 : Int32).toInt)))
    refine ev_loc f_X12_once (nx := 19) rfl rfl rfl rfl ?_
    refine ev_alu f_X12_once (nx := 20) rfl rfl rfl rfl ?_
    refine ev_gvI f_X12_once (nx := 23) (w := (gi 69 20)) rfl (hI.wf.s rfl) rfl rfl rfl rfl ?_
    refine ev_ic f_X12_once (nx := 24) (v := 1) rfl (by decide) rfl ?_
    refine ev_loc f_X12_once (nx := 25) rfl rfl rfl rfl ?_
    refine ev_shl1E f_X12_once (nx := 26) rfl l_a1 u_a1 (by decide) (by decide) rfl (fun z8 s8 => ?_)
    have l8 : 8 ≤ z8.toInt := by have := l_a1; have := u_a1; omega
    have u8 : z8.toInt ≤ 8 := by have := l_a1; have := u_a1; omega
    refine ev_anyIE f_X12_once (nx := 27) rfl rfl rfl rfl (fun z9 e9 => ?_)
    refine ev_putIT f_X12_once (nx := 30) rfl (hI.wf.s rfl) rfl rfl rfl (hI.put0 (hI.wf.s rfl) rfl rfl) (hX.upI rfl) (fun g10 e10 hI hX => ?_)
    refine ev_loc f_X12_once (nx := 31) rfl rfl rfl rfl ?_
    refine ev_qN f_X12_once (nx := 34) (r := []) rfl rfl rfl rfl rfl rfl rfl (c_n_ahead hI ) rfl hX rfl (fun gi11 gl11 gr11 hI hX hC11 q11 => ?_)
    have q11 : ∀ (b : Nat → Int32) (n q : Nat), t_Sm b n q g10 → t_TM b n q gi11 := q11
    refine ev_loc f_X12_once (nx := 35) rfl rfl rfl rfl ?_
    refine ev_ic f_X12_once (nx := 36) (v := 1) rfl (by decide) rfl ?_
    refine ev_f f_X12_once (t1 := 39) (t2 := 50) rfl rfl rfl (t_neT' (by decide : (1:Int32).toInt ≤ (1:Int)) l_a1 (by decide)) ?_
    refine ev_loc f_X12_once (nx := 51) rfl rfl rfl rfl ?_
    refine ev_ic f_X12_once (nx := 52) (v := 3) rfl (by decide) rfl ?_
    refine ev_t f_X12_once (t1 := 55) (t2 := 66) rfl rfl rfl (t_eqT u_a1 l_a1 (by decide : (3:Int32).toInt ≤ (3:Int)) (by decide : (3:Int) ≤ (3:Int32).toInt)) ?_
    refine ev_loc f_X12_once (nx := 56) rfl rfl rfl rfl ?_
    refine ev_sp f_X12_once (nx := 59) (v := 1407) rfl (by decide) rfl ?_
    refine ev_ic f_X12_once (nx := 60) (v := 0) rfl (by decide) rfl ?_
    refine ev_bp f_X12_once (nx := 62) (v := 9) rfl (by decide) rfl ?_
    refine ev_inV4 f_X12_once (nx := 65) (lo2 := [(0, .ref 69), (1, .int 1407), (2, .int 0), (3, .int 9)]) rfl rfl rfl rfl f_X12_number (hI.wf.s rfl) rfl rfl rfl rfl rfl ?_
    refine ev_loc f_X12_number (nx := 1) rfl rfl rfl rfl ?_
    refine ev_getI f_X12_number (nx := 4) rfl (hI.wf.s rfl) rfl rfl rfl ?_
    obtain ⟨l12, u12⟩ := hI.b (hI.wf.s (k := 69) rfl) (t_bdK rfl : t_bd 11 12 = some (0, 4))
    refine ev_ic f_X12_number (nx := 5) (v := 3) rfl (by decide) rfl ?_
    refine ev_if f_X12_number (t1 := 14) (t2 := 8) rfl rfl rfl (fun h13 => ?_) (fun h13 => ?_)
    · have u14 : (gi11 69 12).toInt ≤ 3 := t_equ h13 (by decide : (3:Int32).toInt ≤ (3:Int))
      have l15 : 3 ≤ (gi11 69 12).toInt := t_eql h13 (by decide : (3:Int) ≤ (3:Int32).toInt)
      refine ev_loc f_X12_number (nx := 15) rfl rfl rfl rfl ?_
      refine ev_getI f_X12_number (nx := 18) rfl (hI.wf.s rfl) rfl rfl rfl ?_
      refine ev_loc f_X12_number (nx := 19) rfl rfl rfl rfl ?_
      refine ev_if f_X12_number (t1 := 30) (t2 := 22) rfl rfl rfl (fun h16 => ?_) (fun h16 => ?_)
      · have u17 : (gi11 69 15).toInt ≤ (-1) := t_ltu h16 (by decide : (0:Int32).toInt ≤ (0:Int)) rfl
        refine ev_loc f_X12_number (nx := 31) rfl rfl rfl rfl ?_
        refine ev_ic f_X12_number (nx := 32) (v := 4) rfl (by decide) rfl ?_
        refine ev_qI f_X12_number (nx := 35) (r := []) rfl rfl rfl rfl rfl rfl rfl (c_n_fails hI (4) (Int.le_trans (by decide : (2:Int) ≤ 4) (by decide : (4:Int) ≤ (4:Int32).toInt)) (Int.le_trans (by decide : (4:Int32).toInt ≤ (4:Int)) (by decide : (4:Int) ≤ 7))) rfl hX rfl (fun w18 gi18 gl18 gr18 l18 u18 hI hX hC18 q18 => ?_)
        have q18 : (∀ (b : Nat → Int32) (n q : Nat), t_TM b n q gi11 → (gi11 69 18).toInt = 0 → t_MF gi18 (s_fk b n q 4) (s_F b n q)) ∧ w18.toInt = 0 := q18
        refine ev_retK1 f_X12_number rfl rfl (t_rz l18 (Int.le_trans u18 (by decide : (0:Int) ≤ 1))) ?_
        exact ev_retZ f_X12_once rfl l18 (Int.le_trans u18 (by decide : (0:Int) ≤ 1)) ⟨_, _, _, rfl, hI, hX, ⟨_, rfl, l18, (Int.le_trans u18 (by decide : (0:Int) ≤ 1)), (show ∀ (b : Nat → Int32) (n q : Nat) (D : s_D), t_MS b n q D gi gl → (w18.toInt = 1 ∧ ∃ q2 D2, s_echo b n q D = s_ok q2 D2 ∧ t_MS b n q2 D2 gi18 gl18) ∨ (w18.toInt = 0 ∧ ∃ p x D2, x ≠ 0 ∧ s_echo b n q D = s_bad b n p x D2 ∧ t_MF gi18 (s_fk b n p x) (s_F b n p)) from (by
                                                            intro b n q D h
                                                            have hk : ar1.toInt = (2 : Int) + 1 := by omega
                                                            have hbit := t_mtb h.2.1.2.2.2 (x := (gi 69 20)) rfl (kk := 2) hk (by decide) e1 e2
                                                            have hbit : z2.toInt = D 223 := hbit
                                                            have hz : D 223 = 0 := by
                                                              rcases h.2.1.2.2.2.2.2.2 with e | e
                                                              · exact e
                                                              · rw [e] at hbit; omega
                                                            have t0_ := q11 b n _ (h.1.eq (g1 := g10) (fun j => by rw [e10, x_up2_ne (by decide)]) (fun j j1 j2 => by rw [e10, x_up2_off (Or.inr (by omega))])).S
                                                            have hv := t0_.vF (lo := 0) (hi := 9) (by omega) (by omega)
                                                            exact Or.inr ⟨q18.2, _, 4, D, by decide, by simp only [s_echo, s_num, s_ifT hz, s_ifT hv.1, s_ifF hv.2], q18.1 b n _ t0_ (by rw [(hC11.1 69 18 rfl).1, e10, x_up2_off (Or.inr (by decide))]; exact h.2.2.1)⟩))⟩⟩
      · have l19 : 0 ≤ (gi11 69 15).toInt := t_lel (t_nlt h16) (by decide : (0:Int) ≤ (0:Int32).toInt)
        refine ev_loc f_X12_number (nx := 23) rfl rfl rfl rfl ?_
        refine ev_gvI f_X12_number (nx := 26) (w := (gi11 69 15)) rfl (hI.wf.s rfl) rfl rfl rfl rfl ?_
        refine ev_loc f_X12_number (nx := 27) rfl rfl rfl rfl ?_
        refine ev_if f_X12_number (t1 := 36) (t2 := 30) rfl rfl rfl (fun h20 => ?_) (fun h20 => ?_)
        · have u21 : (gi11 69 15).toInt ≤ 9 := t_leu h20 (by decide : (9:Int32).toInt ≤ (9:Int))
          refine ev_loc f_X12_number (nx := 37) rfl rfl rfl rfl ?_
          refine ev_getR f_X12_number (nx := 40) rfl (hI.wf.s rfl) rfl rfl (hI.wf.r rfl) rfl rfl ?_
          refine ev_loc f_X12_number (nx := 41) rfl rfl rfl rfl ?_
          refine ev_loc f_X12_number (nx := 42) rfl rfl rfl rfl ?_
          refine ev_gvI f_X12_number (nx := 45) (w := (gi11 69 15)) rfl (hI.wf.s rfl) rfl rfl rfl rfl ?_
          refine ev_iastT f_X12_number (nx := 46) rfl (hI.wf.s rfl) (by decide : (1407:Int) ≤ (1407:Int32).toInt) (by decide) (by decide : (1407:Int32).toInt ≤ (1407:Int)) (by decide) rfl (hI.astL (hI.wf.s rfl) (by decide +kernel : t_abw 70 1407 1407 0 9 = true) (t_cl1 (by decide : (1407:Int) ≤ (1407:Int32).toInt) (by decide)) (t_cl2 (by decide : (1407:Int) ≤ (1407:Int32).toInt) (by decide : (1407:Int32).toInt ≤ (1407:Int)) (by decide) (by decide)) l19 u21 rfl) (hX.upI (t_inR (p := 1407) (m := 1407) rfl (by decide : (1407:Int) ≤ (1407:Int32).toInt) (by decide) (by decide : (1407:Int32).toInt ≤ (1407:Int)) (by decide) (by decide))) (fun g22 e22 hI hX => ?_)
          refine ev_loc f_X12_number (nx := 47) rfl rfl rfl rfl ?_
          refine ev_qN f_X12_number (nx := 50) (r := []) rfl rfl rfl rfl rfl rfl rfl (c_n_ahead hI ) rfl hX rfl (fun gi23 gl23 gr23 hI hX hC23 q23 => ?_)
          have q23 : ∀ (b : Nat → Int32) (n q : Nat), t_Sm b n q g22 → t_TM b n q gi23 := q23
          refine ev_ic f_X12_number (nx := 51) (v := 1) rfl (by decide) rfl ?_
          refine ev_retK1 f_X12_number rfl rfl rfl ?_
          exact ev_ret f_X12_once rfl rfl rfl ⟨_, _, _, rfl, hI, hX, ⟨_, rfl, (Int.le_trans (by decide : (0:Int) ≤ 1) (by decide : (1:Int) ≤ (1:Int32).toInt)), (by decide : (1:Int32).toInt ≤ (1:Int)), (show ∀ (b : Nat → Int32) (n q : Nat) (D : s_D), t_MS b n q D gi gl → ((1 : Int) = 1 ∧ ∃ q2 D2, s_echo b n q D = s_ok q2 D2 ∧ t_MS b n q2 D2 gi23 gl23) ∨ ((1 : Int) = 0 ∧ ∃ p x D2, x ≠ 0 ∧ s_echo b n q D = s_bad b n p x D2 ∧ t_MF gi23 (s_fk b n p x) (s_F b n p)) from (by
                                                            intro b n q D h
                                                            have hk : ar1.toInt = (2 : Int) + 1 := by omega
                                                            have hbit := t_mtb h.2.1.2.2.2 (x := (gi 69 20)) rfl (kk := 2) hk (by decide) e1 e2
                                                            have hbit : z2.toInt = D 223 := hbit
                                                            have hz : D 223 = 0 := by
                                                              rcases h.2.1.2.2.2.2.2.2 with e | e
                                                              · exact e
                                                              · rw [e] at hbit; omega
                                                            have t0_ := q11 b n _ (h.1.eq (g1 := g10) (fun j => by rw [e10, x_up2_ne (by decide)]) (fun j j1 j2 => by rw [e10, x_up2_off (Or.inr (by omega))])).S
                                                            have v1 := t0_.vT (lo := 0) (hi := 9) (by omega) (by omega) (by omega)
                                                            have t1_ := q23 b n _ (t0_.st e22).S
                                                            have kc1407_ : (1407 : Int32).toNatClampNeg = 1407 := rfl
                                                            have y7 : (gi23 70 1407).toInt = s_V b n (s_E b n q) := by
                                                              rw [(hC23.1 70 _ rfl).1, e22]
                                                              rw [show 1407 = (1407 : Int32).toNatClampNeg from rfl, x_up2_at]; exact v1.2
                                                            have yr : ∀ j, (∀ x, x ∈ [1407] → j ≠ x) → gi23 70 j = gi 70 j := fun j j1 => by
                                                              rw [(hC23.1 70 _ rfl).1, e22, x_up2_off (Or.inr (j1 _ (by decide))), (hC11.1 70 _ rfl).1, e10, x_up2_ne (by decide)]
                                                            have y4 : (gi23 70 1404).toInt = D 4 := by rw [yr _ (by decide)]; exact h.2.1.2.1.1.2.1
                                                            have y5 : (gi23 70 1405).toInt = D 5 := by rw [yr _ (by decide)]; exact h.2.1.2.1.1.2.2.1
                                                            have y6 : (gi23 70 1406).toInt = D 6 := by rw [yr _ (by decide)]; exact h.2.1.2.1.1.2.2.2.1
                                                            have ybit := t_mts h.2.1.2.2.2 (x := (gi 69 20)) rfl (kk := 2) hk (by decide) hz (p := 8) rfl (by omega) e9
                                                            have y20 : gi23 69 20 = z9 := by rw [(hC23.1 69 20 rfl).1, e22, x_up2_ne (by decide), (hC11.1 69 20 rfl).1, e10, x_up2_at]
                                                            have hm : t_Mt gi23 (s_set (s_set D 223 1) 7 (s_V b n (s_E b n q))) := by
                                                              obtain ⟨x0, x1, x2, x3⟩ := h.2.1.2.2.2
                                                              have s1 : (s_set (s_set D 223 1) 7 (s_V b n (s_E b n q))) 221 = D 221 := rfl
                                                              have s2 : (s_set (s_set D 223 1) 7 (s_V b n (s_E b n q))) 222 = D 222 := rfl
                                                              have s3 : (s_set (s_set D 223 1) 7 (s_V b n (s_E b n q))) 223 = 1 := rfl
                                                              refine ⟨?_, by rw [s1]; omega, by rw [s2]; omega, by rw [s3]; omega⟩
                                                              have hp : (2 : Int) ^ (2 + 1) = 8 := rfl
                                                              rw [hp] at ybit
                                                              rw [y20, ybit, s1, s2, s3, x0]; omega
                                                            exact Or.inl ⟨rfl, _, (s_set (s_set D 223 1) 7 (s_V b n (s_E b n q))), by simp only [s_echo, s_num, s_ifT hz, s_ifT v1.1.1, s_ifT v1.1], t_MS_tel h t1_ ⟨by rw [(hC23.1 69 18 rfl).1, e22, x_up2_ne (by decide), (hC11.1 69 18 rfl).1, e10, x_up2_off (Or.inr (by decide))], by rw [(hC23.1 69 17 rfl).1, e22, x_up2_ne (by decide), (hC11.1 69 17 rfl).1, e10, x_up2_off (Or.inr (by decide))]⟩ (fun j hj => yr j (fun x hx => by simp only [List.mem_cons, List.not_mem_nil, or_false] at hx; omega)) y4 y5 y6 y7 (fun j => by rw [(hC23.1 71 j rfl).2.1, (hC11.1 71 j rfl).2.1]) (fun j hj => (by unfold s_set; rw [if_neg (by omega), if_neg (by omega)])) hm⟩))⟩⟩
        · have l24 : 10 ≤ (gi11 69 15).toInt := t_ltl (t_nle h20) (by decide : (9:Int) ≤ (9:Int32).toInt) rfl
          refine ev_loc f_X12_number (nx := 31) rfl rfl rfl rfl ?_
          refine ev_ic f_X12_number (nx := 32) (v := 4) rfl (by decide) rfl ?_
          refine ev_qI f_X12_number (nx := 35) (r := []) rfl rfl rfl rfl rfl rfl rfl (c_n_fails hI (4) (Int.le_trans (by decide : (2:Int) ≤ 4) (by decide : (4:Int) ≤ (4:Int32).toInt)) (Int.le_trans (by decide : (4:Int32).toInt ≤ (4:Int)) (by decide : (4:Int) ≤ 7))) rfl hX rfl (fun w25 gi25 gl25 gr25 l25 u25 hI hX hC25 q25 => ?_)
          have q25 : (∀ (b : Nat → Int32) (n q : Nat), t_TM b n q gi11 → (gi11 69 18).toInt = 0 → t_MF gi25 (s_fk b n q 4) (s_F b n q)) ∧ w25.toInt = 0 := q25
          refine ev_retK1 f_X12_number rfl rfl (t_rz l25 (Int.le_trans u25 (by decide : (0:Int) ≤ 1))) ?_
          exact ev_retZ f_X12_once rfl l25 (Int.le_trans u25 (by decide : (0:Int) ≤ 1)) ⟨_, _, _, rfl, hI, hX, ⟨_, rfl, l25, (Int.le_trans u25 (by decide : (0:Int) ≤ 1)), (show ∀ (b : Nat → Int32) (n q : Nat) (D : s_D), t_MS b n q D gi gl → (w25.toInt = 1 ∧ ∃ q2 D2, s_echo b n q D = s_ok q2 D2 ∧ t_MS b n q2 D2 gi25 gl25) ∨ (w25.toInt = 0 ∧ ∃ p x D2, x ≠ 0 ∧ s_echo b n q D = s_bad b n p x D2 ∧ t_MF gi25 (s_fk b n p x) (s_F b n p)) from (by
                                                            intro b n q D h
                                                            have hk : ar1.toInt = (2 : Int) + 1 := by omega
                                                            have hbit := t_mtb h.2.1.2.2.2 (x := (gi 69 20)) rfl (kk := 2) hk (by decide) e1 e2
                                                            have hbit : z2.toInt = D 223 := hbit
                                                            have hz : D 223 = 0 := by
                                                              rcases h.2.1.2.2.2.2.2.2 with e | e
                                                              · exact e
                                                              · rw [e] at hbit; omega
                                                            have t0_ := q11 b n _ (h.1.eq (g1 := g10) (fun j => by rw [e10, x_up2_ne (by decide)]) (fun j j1 j2 => by rw [e10, x_up2_off (Or.inr (by omega))])).S
                                                            have hv := t0_.vF (lo := 0) (hi := 9) (by omega) (by omega)
                                                            exact Or.inr ⟨q25.2, _, 4, D, by decide, by simp only [s_echo, s_num, s_ifT hz, s_ifT hv.1, s_ifF hv.2], q25.1 b n _ t0_ (by rw [(hC11.1 69 18 rfl).1, e10, x_up2_off (Or.inr (by decide))]; exact h.2.2.1)⟩))⟩⟩
    · have r26 : (gi11 69 12).toInt ≠ 3 := fun e => h13 (Int32.toInt_inj.mp (e.trans (by decide : (3:Int) = (3 : Int32).toInt)))
      refine ev_loc f_X12_number (nx := 9) rfl rfl rfl rfl ?_
      refine ev_ic f_X12_number (nx := 10) (v := 2) rfl (by decide) rfl ?_
      refine ev_qI f_X12_number (nx := 13) (r := []) rfl rfl rfl rfl rfl rfl rfl (c_n_fails hI (2) (by decide : (2:Int) ≤ (2:Int32).toInt) (Int.le_trans (by decide : (2:Int32).toInt ≤ (2:Int)) (by decide : (2:Int) ≤ 7))) rfl hX rfl (fun w27 gi27 gl27 gr27 l27 u27 hI hX hC27 q27 => ?_)
      have q27 : (∀ (b : Nat → Int32) (n q : Nat), t_TM b n q gi11 → (gi11 69 18).toInt = 0 → t_MF gi27 (s_fk b n q 2) (s_F b n q)) ∧ w27.toInt = 0 := q27
      refine ev_retK1 f_X12_number rfl rfl (t_rz l27 (Int.le_trans u27 (by decide : (0:Int) ≤ 1))) ?_
      exact ev_retZ f_X12_once rfl l27 (Int.le_trans u27 (by decide : (0:Int) ≤ 1)) ⟨_, _, _, rfl, hI, hX, ⟨_, rfl, l27, (Int.le_trans u27 (by decide : (0:Int) ≤ 1)), (show ∀ (b : Nat → Int32) (n q : Nat) (D : s_D), t_MS b n q D gi gl → (w27.toInt = 1 ∧ ∃ q2 D2, s_echo b n q D = s_ok q2 D2 ∧ t_MS b n q2 D2 gi27 gl27) ∨ (w27.toInt = 0 ∧ ∃ p x D2, x ≠ 0 ∧ s_echo b n q D = s_bad b n p x D2 ∧ t_MF gi27 (s_fk b n p x) (s_F b n p)) from (by
                                                            intro b n q D h
                                                            have hk : ar1.toInt = (2 : Int) + 1 := by omega
                                                            have hbit := t_mtb h.2.1.2.2.2 (x := (gi 69 20)) rfl (kk := 2) hk (by decide) e1 e2
                                                            have hbit : z2.toInt = D 223 := hbit
                                                            have hz : D 223 = 0 := by
                                                              rcases h.2.1.2.2.2.2.2.2 with e | e
                                                              · exact e
                                                              · rw [e] at hbit; omega
                                                            have t0_ := q11 b n _ (h.1.eq (g1 := g10) (fun j => by rw [e10, x_up2_ne (by decide)]) (fun j j1 j2 => by rw [e10, x_up2_off (Or.inr (by omega))])).S
                                                            exact Or.inr ⟨q27.2, _, 2, D, by decide, by simp only [s_echo, s_num, s_ifT hz, s_ifF (t0_.vK (by omega))], q27.1 b n _ t0_ (by rw [(hC11.1 69 18 rfl).1, e10, x_up2_off (Or.inr (by decide))]; exact h.2.2.1)⟩))⟩⟩
/-! ===== printed by riv.py: the RIVER of the other side ===== -/
noncomputable def wl_n_riverPart : List (Nat × Nat) := [(69, 12), (69, 13), (69, 14), (69, 15), (69, 17), (69, 18), (69, 20), (70, 140011400), (70, 140111401), (70, 140211402), (70, 140411404), (70, 140511405), (70, 140611406), (70, 140711407), (70, 141011452), (70, 141111458), (70, 145211482), (70, 145311483), (70, 145411484), (70, 145511485), (70, 145611486), (70, 148211500), (70, 148311501), (70, 148411502), (71, 7210089)]
noncomputable def Q_n_riverPart (gi : Nat → Nat → Int32) (gl : Nat → Nat → Int64) (gr : Nat → Nat → Value) : Int32 → (Nat → Nat → Int32) → (Nat → Nat → Int64) → (Nat → Nat → Value) → Prop := fun (v : Int32) (gi2 : Nat → Nat → Int32) (gl2 : Nat → Nat → Int64) (gr2 : Nat → Nat → Value) => ∀ (b : Nat → Int32) (n q : Nat) (D : s_D), t_MS b n q D gi gl → (v.toInt = 1 ∧ ∃ q2 D2, s_semi b n (s_part b n q D) = s_ok q2 D2 ∧ t_MS b n q2 D2 gi2 gl2) ∨ (v.toInt = 0 ∧ ∃ p x D2, x ≠ 0 ∧ s_semi b n (s_part b n q D) = s_bad b n p x D2 ∧ t_MF gi2 (s_fk b n p x) (s_F b n p))
theorem c_n_riverPart {X : x_Ext} {d : Nat} {sh : List (Nat ⊕ (Nat × Nat))} {gi : Nat → Nat → Int32} {gl : Nat → Nat → Int64} {gr : Nat → Nat → Value} (hI : t_I sh gi gr) : x_Me X (d + 9) n_X12_riverPart [.ref 69] (sh, gi, gl, gr) (t_PI wl_n_riverPart sh gi gl gr 0 1 (Q_n_riverPart gi gl gr)) := by
  have hX : t_X wl_n_riverPart sh gi gl gr gi gl gr := t_X.rf
  refine me_i f_X12_riverPart (hI.wf.s rfl) rfl rfl rfl ?_
  refine ev_loc f_X12_riverPart (nx := 1) rfl rfl rfl rfl ?_
  refine ev_heap f_X12_riverPart (nx := 3) rfl rfl rfl rfl ?_
  refine ev_qI0 f_X12_riverPart (nx := 6) (r := []) rfl rfl rfl rfl rfl rfl rfl (c_n_inWords hI ) rfl (fun w1 l1 u1 q1 => ?_)
  have q1 : (∀ (b : Nat → Int32) (n q : Nat), t_TM b n q gi → w1.toInt = s_mi (s_W b n q)) ∧ (0 ≤ w1.toInt → (gi 69 12).toInt = 2) := q1
  refine ev_loc f_X12_riverPart (nx := 7) (lo' := [(2, .int w1), (0, .ref 69)]) rfl rfl rfl rfl ?_
  refine ev_loc f_X12_riverPart (nx := 8) rfl rfl rfl rfl ?_
  have h2 : w1.toInt = 0 ∨ w1.toInt = 1 ∨ w1.toInt = 2 ∨ w1.toInt = 3 ∨ w1.toInt = 4 ∨ w1.toInt = 5 ∨ (w1.toInt ≠ 0 ∧ w1.toInt ≠ 1 ∧ w1.toInt ≠ 2 ∧ w1.toInt ≠ 3 ∧ w1.toInt ≠ 4 ∧ w1.toInt ≠ 5) := by have := l1; have := u1; omega
  rcases h2 with h2 | h2 | h2 | h2 | h2 | h2 | h2
  · refine ev_swt f_X12_riverPart (nx := 48) (c := 0) rfl h2 rfl ?_
    refine ev_loc f_X12_riverPart (nx := 49) rfl rfl rfl rfl ?_
    refine ev_qI f_X12_riverPart (nx := 52) (r := []) rfl rfl rfl rfl rfl rfl rfl (c_n_aPort hI ) rfl hX rfl (fun w3 gi3 gl3 gr3 l3 u3 hI hX hC3 q3 => ?_)
    have q3 : ∀ (b : Nat → Int32) (n q : Nat) (D : s_D), t_MS b n q D gi gl → (w3.toInt = 1 ∧ ∃ q2 D2, s_port b n q D = s_ok q2 D2 ∧ t_MS b n q2 D2 gi3 gl3) ∨ (w3.toInt = 0 ∧ ∃ p x D2, x ≠ 0 ∧ s_port b n q D = s_bad b n p x D2 ∧ t_MF gi3 (s_fk b n p x) (s_F b n p)) := q3
    refine ev_loc f_X12_riverPart (nx := 53) (lo' := [(1, .int w3), (2, .int w1), (0, .ref 69)]) rfl rfl rfl rfl ?_
    refine ev_jmp f_X12_riverPart (nx := 87) rfl rfl rfl ?_
    refine ev_loc f_X12_riverPart (nx := 88) rfl rfl rfl rfl ?_
    refine ev_if f_X12_riverPart (t1 := 104) (t2 := 91) rfl rfl rfl (fun h4 => ?_) (fun h4 => ?_)
    · have u5 : w3.toInt ≤ 0 := t_equ h4 (by decide : (0:Int32).toInt ≤ (0:Int))
      refine ev_ic f_X12_riverPart (nx := 105) (v := 0) rfl (by decide) rfl ?_
      exact ev_ret f_X12_riverPart rfl rfl rfl ⟨_, _, _, rfl, hI, hX, ⟨_, rfl, (by decide : (0:Int) ≤ (0:Int32).toInt), (Int.le_trans (by decide : (0:Int32).toInt ≤ (0:Int)) (by decide : (0:Int) ≤ 1)), (show ∀ (b : Nat → Int32) (n q : Nat) (D : s_D), t_MS b n q D gi gl → ((0 : Int) = 1 ∧ ∃ q2 D2, s_semi b n (s_part b n q D) = s_ok q2 D2 ∧ t_MS b n q2 D2 gi3 gl3) ∨ ((0 : Int) = 0 ∧ ∃ p x D2, x ≠ 0 ∧ s_semi b n (s_part b n q D) = s_bad b n p x D2 ∧ t_MF gi3 (s_fk b n p x) (s_F b n p)) from (by
                                                            intro b n q D h
                                                            have hk := q1.1 b n q h.1
                                                            have hP := s_part_0 (D := D) ((s_mi_W (i := 0) (by decide)).mp (show s_mi (s_W b n q) = s_mil.getD 0 0 from (by rw [← hk]; show w1.toInt = 0; omega)))
                                                            obtain ⟨_, p, x, D2, hx, hX, hf⟩ := (q3 b n q D h).resolve_left (fun hh => absurd hh.1 (by omega))
                                                            exact Or.inr ⟨rfl, p, x, D2, hx, s_semi_b1 hx (hP.trans hX), hf⟩))⟩⟩
    · have r6 : w3.toInt ≠ 0 := fun e => h4 (Int32.toInt_inj.mp (e.trans (by decide : (0:Int) = (0 : Int32).toInt)))
      have l7 : 1 ≤ w3.toInt := t_nel h4 l3 rfl rfl
      refine ev_loc f_X12_riverPart (nx := 92) rfl rfl rfl rfl ?_
      refine ev_bp f_X12_riverPart (nx := 94) (v := 59) rfl (by decide) rfl ?_
      refine ev_qI f_X12_riverPart (nx := 97) (r := []) rfl rfl rfl rfl rfl rfl rfl (c_n_wantSign hI (59)) rfl hX rfl (fun w8 gi8 gl8 gr8 l8 u8 hI hX hC8 q8 => ?_)
      have q8 : ∀ (b : Nat → Int32) (n q : Nat), t_TM b n q gi3 → (w8.toInt = 1 ∧ s_isS b n q 59 ∧ t_TM b n (s_E b n q) gi8 ∧ t_mf gi3 gi8) ∨ (w8.toInt = 0 ∧ ¬ s_isS b n q 59 ∧ ((gi3 69 18).toInt = 0 → t_MF gi8 (s_fk b n q 2) (s_F b n q))) := q8
      refine ev_if f_X12_riverPart (t1 := 104) (t2 := 100) rfl rfl rfl (fun h9 => ?_) (fun h9 => ?_)
      · have u10 : w8.toInt ≤ 0 := t_equ h9 (by decide : (0:Int32).toInt ≤ (0:Int))
        refine ev_ic f_X12_riverPart (nx := 105) (v := 0) rfl (by decide) rfl ?_
        exact ev_ret f_X12_riverPart rfl rfl rfl ⟨_, _, _, rfl, hI, hX, ⟨_, rfl, (by decide : (0:Int) ≤ (0:Int32).toInt), (Int.le_trans (by decide : (0:Int32).toInt ≤ (0:Int)) (by decide : (0:Int) ≤ 1)), (show ∀ (b : Nat → Int32) (n q : Nat) (D : s_D), t_MS b n q D gi gl → ((0 : Int) = 1 ∧ ∃ q2 D2, s_semi b n (s_part b n q D) = s_ok q2 D2 ∧ t_MS b n q2 D2 gi8 gl8) ∨ ((0 : Int) = 0 ∧ ∃ p x D2, x ≠ 0 ∧ s_semi b n (s_part b n q D) = s_bad b n p x D2 ∧ t_MF gi8 (s_fk b n p x) (s_F b n p)) from (by
                                                            intro b n q D h
                                                            have hk := q1.1 b n q h.1
                                                            have hP := s_part_0 (D := D) ((s_mi_W (i := 0) (by decide)).mp (show s_mi (s_W b n q) = s_mil.getD 0 0 from (by rw [← hk]; show w1.toInt = 0; omega)))
                                                            obtain ⟨_, q2, D2, hX, h2⟩ := (q3 b n q D h).resolve_right (fun hh => absurd hh.1 (by omega))
                                                            obtain ⟨_, hS, hf⟩ := (q8 b n q2 h2.1).resolve_left (fun hh => absurd hh.1 (by omega))
                                                            exact Or.inr ⟨rfl, q2, 2, D2, by decide, s_semi_b2 (hP.trans hX) hS, hf h2.2.2.1⟩))⟩⟩
      · have r11 : w8.toInt ≠ 0 := fun e => h9 (Int32.toInt_inj.mp (e.trans (by decide : (0:Int) = (0 : Int32).toInt)))
        have l12 : 1 ≤ w8.toInt := t_nel h9 l8 rfl rfl
        refine ev_ic f_X12_riverPart (nx := 101) (v := 1) rfl (by decide) rfl ?_
        refine ev_jmp f_X12_riverPart (nx := 105) rfl rfl rfl ?_
        exact ev_ret f_X12_riverPart rfl rfl rfl ⟨_, _, _, rfl, hI, hX, ⟨_, rfl, (Int.le_trans (by decide : (0:Int) ≤ 1) (by decide : (1:Int) ≤ (1:Int32).toInt)), (by decide : (1:Int32).toInt ≤ (1:Int)), (show ∀ (b : Nat → Int32) (n q : Nat) (D : s_D), t_MS b n q D gi gl → ((1 : Int) = 1 ∧ ∃ q2 D2, s_semi b n (s_part b n q D) = s_ok q2 D2 ∧ t_MS b n q2 D2 gi8 gl8) ∨ ((1 : Int) = 0 ∧ ∃ p x D2, x ≠ 0 ∧ s_semi b n (s_part b n q D) = s_bad b n p x D2 ∧ t_MF gi8 (s_fk b n p x) (s_F b n p)) from (by
                                                            intro b n q D h
                                                            have hk := q1.1 b n q h.1
                                                            have hP := s_part_0 (D := D) ((s_mi_W (i := 0) (by decide)).mp (show s_mi (s_W b n q) = s_mil.getD 0 0 from (by rw [← hk]; show w1.toInt = 0; omega)))
                                                            obtain ⟨_, q2, D2, hX, h2⟩ := (q3 b n q D h).resolve_right (fun hh => absurd hh.1 (by omega))
                                                            obtain ⟨_, hS, hT, hM⟩ := (q8 b n q2 h2.1).resolve_right (fun hh => absurd hh.1 (by omega))
                                                            exact Or.inl ⟨rfl, _, _, s_semi_ok (hP.trans hX) hS, h2.tk hT hM (fun j => (hC8.1 70 j rfl).1) (fun j => (hC8.1 71 j rfl).2.1) (hC8.1 69 20 rfl).1⟩))⟩⟩
  · refine ev_swt f_X12_riverPart (nx := 72) (c := 1) rfl h2 rfl ?_
    refine ev_loc f_X12_riverPart (nx := 73) rfl rfl rfl rfl ?_
    refine ev_loc f_X12_riverPart (nx := 74) rfl rfl rfl rfl ?_
    refine ev_qI f_X12_riverPart (nx := 77) (r := []) rfl rfl rfl rfl rfl rfl rfl (c_n_once1 hI (w1) (Int.le_of_eq h2.symm) (Int.le_of_eq h2)) rfl hX rfl (fun w13 gi13 gl13 gr13 l13 u13 hI hX hC13 q13 => ?_)
    have q13 : ∀ (b : Nat → Int32) (n q : Nat) (D : s_D), t_MS b n q D gi gl → (w13.toInt = 1 ∧ ∃ q2 D2, s_turns b n q D = s_ok q2 D2 ∧ t_MS b n q2 D2 gi13 gl13) ∨ (w13.toInt = 0 ∧ ∃ p x D2, x ≠ 0 ∧ s_turns b n q D = s_bad b n p x D2 ∧ t_MF gi13 (s_fk b n p x) (s_F b n p)) := q13
    refine ev_loc f_X12_riverPart (nx := 78) (lo' := [(1, .int w13), (2, .int w1), (0, .ref 69)]) rfl rfl rfl rfl ?_
    refine ev_jmp f_X12_riverPart (nx := 87) rfl rfl rfl ?_
    refine ev_loc f_X12_riverPart (nx := 88) rfl rfl rfl rfl ?_
    refine ev_if f_X12_riverPart (t1 := 104) (t2 := 91) rfl rfl rfl (fun h14 => ?_) (fun h14 => ?_)
    · have u15 : w13.toInt ≤ 0 := t_equ h14 (by decide : (0:Int32).toInt ≤ (0:Int))
      refine ev_ic f_X12_riverPart (nx := 105) (v := 0) rfl (by decide) rfl ?_
      exact ev_ret f_X12_riverPart rfl rfl rfl ⟨_, _, _, rfl, hI, hX, ⟨_, rfl, (by decide : (0:Int) ≤ (0:Int32).toInt), (Int.le_trans (by decide : (0:Int32).toInt ≤ (0:Int)) (by decide : (0:Int) ≤ 1)), (show ∀ (b : Nat → Int32) (n q : Nat) (D : s_D), t_MS b n q D gi gl → ((0 : Int) = 1 ∧ ∃ q2 D2, s_semi b n (s_part b n q D) = s_ok q2 D2 ∧ t_MS b n q2 D2 gi13 gl13) ∨ ((0 : Int) = 0 ∧ ∃ p x D2, x ≠ 0 ∧ s_semi b n (s_part b n q D) = s_bad b n p x D2 ∧ t_MF gi13 (s_fk b n p x) (s_F b n p)) from (by
                                                            intro b n q D h
                                                            have hk := q1.1 b n q h.1
                                                            have hP := s_part_2 (D := D) ((s_mi_W (i := 2) (by decide)).mp (show s_mi (s_W b n q) = s_mil.getD 2 0 from (by rw [← hk]; show w1.toInt = 1; omega)))
                                                            obtain ⟨_, p, x, D2, hx, hX, hf⟩ := (q13 b n q D h).resolve_left (fun hh => absurd hh.1 (by omega))
                                                            exact Or.inr ⟨rfl, p, x, D2, hx, s_semi_b1 hx (hP.trans hX), hf⟩))⟩⟩
    · have r16 : w13.toInt ≠ 0 := fun e => h14 (Int32.toInt_inj.mp (e.trans (by decide : (0:Int) = (0 : Int32).toInt)))
      have l17 : 1 ≤ w13.toInt := t_nel h14 l13 rfl rfl
      refine ev_loc f_X12_riverPart (nx := 92) rfl rfl rfl rfl ?_
      refine ev_bp f_X12_riverPart (nx := 94) (v := 59) rfl (by decide) rfl ?_
      refine ev_qI f_X12_riverPart (nx := 97) (r := []) rfl rfl rfl rfl rfl rfl rfl (c_n_wantSign hI (59)) rfl hX rfl (fun w18 gi18 gl18 gr18 l18 u18 hI hX hC18 q18 => ?_)
      have q18 : ∀ (b : Nat → Int32) (n q : Nat), t_TM b n q gi13 → (w18.toInt = 1 ∧ s_isS b n q 59 ∧ t_TM b n (s_E b n q) gi18 ∧ t_mf gi13 gi18) ∨ (w18.toInt = 0 ∧ ¬ s_isS b n q 59 ∧ ((gi13 69 18).toInt = 0 → t_MF gi18 (s_fk b n q 2) (s_F b n q))) := q18
      refine ev_if f_X12_riverPart (t1 := 104) (t2 := 100) rfl rfl rfl (fun h19 => ?_) (fun h19 => ?_)
      · have u20 : w18.toInt ≤ 0 := t_equ h19 (by decide : (0:Int32).toInt ≤ (0:Int))
        refine ev_ic f_X12_riverPart (nx := 105) (v := 0) rfl (by decide) rfl ?_
        exact ev_ret f_X12_riverPart rfl rfl rfl ⟨_, _, _, rfl, hI, hX, ⟨_, rfl, (by decide : (0:Int) ≤ (0:Int32).toInt), (Int.le_trans (by decide : (0:Int32).toInt ≤ (0:Int)) (by decide : (0:Int) ≤ 1)), (show ∀ (b : Nat → Int32) (n q : Nat) (D : s_D), t_MS b n q D gi gl → ((0 : Int) = 1 ∧ ∃ q2 D2, s_semi b n (s_part b n q D) = s_ok q2 D2 ∧ t_MS b n q2 D2 gi18 gl18) ∨ ((0 : Int) = 0 ∧ ∃ p x D2, x ≠ 0 ∧ s_semi b n (s_part b n q D) = s_bad b n p x D2 ∧ t_MF gi18 (s_fk b n p x) (s_F b n p)) from (by
                                                            intro b n q D h
                                                            have hk := q1.1 b n q h.1
                                                            have hP := s_part_2 (D := D) ((s_mi_W (i := 2) (by decide)).mp (show s_mi (s_W b n q) = s_mil.getD 2 0 from (by rw [← hk]; show w1.toInt = 1; omega)))
                                                            obtain ⟨_, q2, D2, hX, h2⟩ := (q13 b n q D h).resolve_right (fun hh => absurd hh.1 (by omega))
                                                            obtain ⟨_, hS, hf⟩ := (q18 b n q2 h2.1).resolve_left (fun hh => absurd hh.1 (by omega))
                                                            exact Or.inr ⟨rfl, q2, 2, D2, by decide, s_semi_b2 (hP.trans hX) hS, hf h2.2.2.1⟩))⟩⟩
      · have r21 : w18.toInt ≠ 0 := fun e => h19 (Int32.toInt_inj.mp (e.trans (by decide : (0:Int) = (0 : Int32).toInt)))
        have l22 : 1 ≤ w18.toInt := t_nel h19 l18 rfl rfl
        refine ev_ic f_X12_riverPart (nx := 101) (v := 1) rfl (by decide) rfl ?_
        refine ev_jmp f_X12_riverPart (nx := 105) rfl rfl rfl ?_
        exact ev_ret f_X12_riverPart rfl rfl rfl ⟨_, _, _, rfl, hI, hX, ⟨_, rfl, (Int.le_trans (by decide : (0:Int) ≤ 1) (by decide : (1:Int) ≤ (1:Int32).toInt)), (by decide : (1:Int32).toInt ≤ (1:Int)), (show ∀ (b : Nat → Int32) (n q : Nat) (D : s_D), t_MS b n q D gi gl → ((1 : Int) = 1 ∧ ∃ q2 D2, s_semi b n (s_part b n q D) = s_ok q2 D2 ∧ t_MS b n q2 D2 gi18 gl18) ∨ ((1 : Int) = 0 ∧ ∃ p x D2, x ≠ 0 ∧ s_semi b n (s_part b n q D) = s_bad b n p x D2 ∧ t_MF gi18 (s_fk b n p x) (s_F b n p)) from (by
                                                            intro b n q D h
                                                            have hk := q1.1 b n q h.1
                                                            have hP := s_part_2 (D := D) ((s_mi_W (i := 2) (by decide)).mp (show s_mi (s_W b n q) = s_mil.getD 2 0 from (by rw [← hk]; show w1.toInt = 1; omega)))
                                                            obtain ⟨_, q2, D2, hX, h2⟩ := (q13 b n q D h).resolve_right (fun hh => absurd hh.1 (by omega))
                                                            obtain ⟨_, hS, hT, hM⟩ := (q18 b n q2 h2.1).resolve_right (fun hh => absurd hh.1 (by omega))
                                                            exact Or.inl ⟨rfl, _, _, s_semi_ok (hP.trans hX) hS, h2.tk hT hM (fun j => (hC18.1 70 j rfl).1) (fun j => (hC18.1 71 j rfl).2.1) (hC18.1 69 20 rfl).1⟩))⟩⟩
  · refine ev_swt f_X12_riverPart (nx := 72) (c := 2) rfl h2 rfl ?_
    refine ev_loc f_X12_riverPart (nx := 73) rfl rfl rfl rfl ?_
    refine ev_loc f_X12_riverPart (nx := 74) rfl rfl rfl rfl ?_
    refine ev_qI f_X12_riverPart (nx := 77) (r := []) rfl rfl rfl rfl rfl rfl rfl (c_n_once2 hI (w1) (Int.le_of_eq h2.symm) (Int.le_of_eq h2)) rfl hX rfl (fun w23 gi23 gl23 gr23 l23 u23 hI hX hC23 q23 => ?_)
    have q23 : ∀ (b : Nat → Int32) (n q : Nat) (D : s_D), t_MS b n q D gi gl → (w23.toInt = 1 ∧ ∃ q2 D2, s_frost b n q D = s_ok q2 D2 ∧ t_MS b n q2 D2 gi23 gl23) ∨ (w23.toInt = 0 ∧ ∃ p x D2, x ≠ 0 ∧ s_frost b n q D = s_bad b n p x D2 ∧ t_MF gi23 (s_fk b n p x) (s_F b n p)) := q23
    refine ev_loc f_X12_riverPart (nx := 78) (lo' := [(1, .int w23), (2, .int w1), (0, .ref 69)]) rfl rfl rfl rfl ?_
    refine ev_jmp f_X12_riverPart (nx := 87) rfl rfl rfl ?_
    refine ev_loc f_X12_riverPart (nx := 88) rfl rfl rfl rfl ?_
    refine ev_if f_X12_riverPart (t1 := 104) (t2 := 91) rfl rfl rfl (fun h24 => ?_) (fun h24 => ?_)
    · have u25 : w23.toInt ≤ 0 := t_equ h24 (by decide : (0:Int32).toInt ≤ (0:Int))
      refine ev_ic f_X12_riverPart (nx := 105) (v := 0) rfl (by decide) rfl ?_
      exact ev_ret f_X12_riverPart rfl rfl rfl ⟨_, _, _, rfl, hI, hX, ⟨_, rfl, (by decide : (0:Int) ≤ (0:Int32).toInt), (Int.le_trans (by decide : (0:Int32).toInt ≤ (0:Int)) (by decide : (0:Int) ≤ 1)), (show ∀ (b : Nat → Int32) (n q : Nat) (D : s_D), t_MS b n q D gi gl → ((0 : Int) = 1 ∧ ∃ q2 D2, s_semi b n (s_part b n q D) = s_ok q2 D2 ∧ t_MS b n q2 D2 gi23 gl23) ∨ ((0 : Int) = 0 ∧ ∃ p x D2, x ≠ 0 ∧ s_semi b n (s_part b n q D) = s_bad b n p x D2 ∧ t_MF gi23 (s_fk b n p x) (s_F b n p)) from (by
                                                            intro b n q D h
                                                            have hk := q1.1 b n q h.1
                                                            have hP := s_part_3 (D := D) ((s_mi_W (i := 3) (by decide)).mp (show s_mi (s_W b n q) = s_mil.getD 3 0 from (by rw [← hk]; show w1.toInt = 2; omega)))
                                                            obtain ⟨_, p, x, D2, hx, hX, hf⟩ := (q23 b n q D h).resolve_left (fun hh => absurd hh.1 (by omega))
                                                            exact Or.inr ⟨rfl, p, x, D2, hx, s_semi_b1 hx (hP.trans hX), hf⟩))⟩⟩
    · have r26 : w23.toInt ≠ 0 := fun e => h24 (Int32.toInt_inj.mp (e.trans (by decide : (0:Int) = (0 : Int32).toInt)))
      have l27 : 1 ≤ w23.toInt := t_nel h24 l23 rfl rfl
      refine ev_loc f_X12_riverPart (nx := 92) rfl rfl rfl rfl ?_
      refine ev_bp f_X12_riverPart (nx := 94) (v := 59) rfl (by decide) rfl ?_
      refine ev_qI f_X12_riverPart (nx := 97) (r := []) rfl rfl rfl rfl rfl rfl rfl (c_n_wantSign hI (59)) rfl hX rfl (fun w28 gi28 gl28 gr28 l28 u28 hI hX hC28 q28 => ?_)
      have q28 : ∀ (b : Nat → Int32) (n q : Nat), t_TM b n q gi23 → (w28.toInt = 1 ∧ s_isS b n q 59 ∧ t_TM b n (s_E b n q) gi28 ∧ t_mf gi23 gi28) ∨ (w28.toInt = 0 ∧ ¬ s_isS b n q 59 ∧ ((gi23 69 18).toInt = 0 → t_MF gi28 (s_fk b n q 2) (s_F b n q))) := q28
      refine ev_if f_X12_riverPart (t1 := 104) (t2 := 100) rfl rfl rfl (fun h29 => ?_) (fun h29 => ?_)
      · have u30 : w28.toInt ≤ 0 := t_equ h29 (by decide : (0:Int32).toInt ≤ (0:Int))
        refine ev_ic f_X12_riverPart (nx := 105) (v := 0) rfl (by decide) rfl ?_
        exact ev_ret f_X12_riverPart rfl rfl rfl ⟨_, _, _, rfl, hI, hX, ⟨_, rfl, (by decide : (0:Int) ≤ (0:Int32).toInt), (Int.le_trans (by decide : (0:Int32).toInt ≤ (0:Int)) (by decide : (0:Int) ≤ 1)), (show ∀ (b : Nat → Int32) (n q : Nat) (D : s_D), t_MS b n q D gi gl → ((0 : Int) = 1 ∧ ∃ q2 D2, s_semi b n (s_part b n q D) = s_ok q2 D2 ∧ t_MS b n q2 D2 gi28 gl28) ∨ ((0 : Int) = 0 ∧ ∃ p x D2, x ≠ 0 ∧ s_semi b n (s_part b n q D) = s_bad b n p x D2 ∧ t_MF gi28 (s_fk b n p x) (s_F b n p)) from (by
                                                            intro b n q D h
                                                            have hk := q1.1 b n q h.1
                                                            have hP := s_part_3 (D := D) ((s_mi_W (i := 3) (by decide)).mp (show s_mi (s_W b n q) = s_mil.getD 3 0 from (by rw [← hk]; show w1.toInt = 2; omega)))
                                                            obtain ⟨_, q2, D2, hX, h2⟩ := (q23 b n q D h).resolve_right (fun hh => absurd hh.1 (by omega))
                                                            obtain ⟨_, hS, hf⟩ := (q28 b n q2 h2.1).resolve_left (fun hh => absurd hh.1 (by omega))
                                                            exact Or.inr ⟨rfl, q2, 2, D2, by decide, s_semi_b2 (hP.trans hX) hS, hf h2.2.2.1⟩))⟩⟩
      · have r31 : w28.toInt ≠ 0 := fun e => h29 (Int32.toInt_inj.mp (e.trans (by decide : (0:Int) = (0 : Int32).toInt)))
        have l32 : 1 ≤ w28.toInt := t_nel h29 l28 rfl rfl
        refine ev_ic f_X12_riverPart (nx := 101) (v := 1) rfl (by decide) rfl ?_
        refine ev_jmp f_X12_riverPart (nx := 105) rfl rfl rfl ?_
        exact ev_ret f_X12_riverPart rfl rfl rfl ⟨_, _, _, rfl, hI, hX, ⟨_, rfl, (Int.le_trans (by decide : (0:Int) ≤ 1) (by decide : (1:Int) ≤ (1:Int32).toInt)), (by decide : (1:Int32).toInt ≤ (1:Int)), (show ∀ (b : Nat → Int32) (n q : Nat) (D : s_D), t_MS b n q D gi gl → ((1 : Int) = 1 ∧ ∃ q2 D2, s_semi b n (s_part b n q D) = s_ok q2 D2 ∧ t_MS b n q2 D2 gi28 gl28) ∨ ((1 : Int) = 0 ∧ ∃ p x D2, x ≠ 0 ∧ s_semi b n (s_part b n q D) = s_bad b n p x D2 ∧ t_MF gi28 (s_fk b n p x) (s_F b n p)) from (by
                                                            intro b n q D h
                                                            have hk := q1.1 b n q h.1
                                                            have hP := s_part_3 (D := D) ((s_mi_W (i := 3) (by decide)).mp (show s_mi (s_W b n q) = s_mil.getD 3 0 from (by rw [← hk]; show w1.toInt = 2; omega)))
                                                            obtain ⟨_, q2, D2, hX, h2⟩ := (q23 b n q D h).resolve_right (fun hh => absurd hh.1 (by omega))
                                                            obtain ⟨_, hS, hT, hM⟩ := (q28 b n q2 h2.1).resolve_right (fun hh => absurd hh.1 (by omega))
                                                            exact Or.inl ⟨rfl, _, _, s_semi_ok (hP.trans hX) hS, h2.tk hT hM (fun j => (hC28.1 70 j rfl).1) (fun j => (hC28.1 71 j rfl).2.1) (hC28.1 69 20 rfl).1⟩))⟩⟩
  · refine ev_swt f_X12_riverPart (nx := 72) (c := 3) rfl h2 rfl ?_
    refine ev_loc f_X12_riverPart (nx := 73) rfl rfl rfl rfl ?_
    refine ev_loc f_X12_riverPart (nx := 74) rfl rfl rfl rfl ?_
    refine ev_qI f_X12_riverPart (nx := 77) (r := []) rfl rfl rfl rfl rfl rfl rfl (c_n_once3 hI (w1) (Int.le_of_eq h2.symm) (Int.le_of_eq h2)) rfl hX rfl (fun w33 gi33 gl33 gr33 l33 u33 hI hX hC33 q33 => ?_)
    have q33 : ∀ (b : Nat → Int32) (n q : Nat) (D : s_D), t_MS b n q D gi gl → (w33.toInt = 1 ∧ ∃ q2 D2, s_echo b n q D = s_ok q2 D2 ∧ t_MS b n q2 D2 gi33 gl33) ∨ (w33.toInt = 0 ∧ ∃ p x D2, x ≠ 0 ∧ s_echo b n q D = s_bad b n p x D2 ∧ t_MF gi33 (s_fk b n p x) (s_F b n p)) := q33
    refine ev_loc f_X12_riverPart (nx := 78) (lo' := [(1, .int w33), (2, .int w1), (0, .ref 69)]) rfl rfl rfl rfl ?_
    refine ev_jmp f_X12_riverPart (nx := 87) rfl rfl rfl ?_
    refine ev_loc f_X12_riverPart (nx := 88) rfl rfl rfl rfl ?_
    refine ev_if f_X12_riverPart (t1 := 104) (t2 := 91) rfl rfl rfl (fun h34 => ?_) (fun h34 => ?_)
    · have u35 : w33.toInt ≤ 0 := t_equ h34 (by decide : (0:Int32).toInt ≤ (0:Int))
      refine ev_ic f_X12_riverPart (nx := 105) (v := 0) rfl (by decide) rfl ?_
      exact ev_ret f_X12_riverPart rfl rfl rfl ⟨_, _, _, rfl, hI, hX, ⟨_, rfl, (by decide : (0:Int) ≤ (0:Int32).toInt), (Int.le_trans (by decide : (0:Int32).toInt ≤ (0:Int)) (by decide : (0:Int) ≤ 1)), (show ∀ (b : Nat → Int32) (n q : Nat) (D : s_D), t_MS b n q D gi gl → ((0 : Int) = 1 ∧ ∃ q2 D2, s_semi b n (s_part b n q D) = s_ok q2 D2 ∧ t_MS b n q2 D2 gi33 gl33) ∨ ((0 : Int) = 0 ∧ ∃ p x D2, x ≠ 0 ∧ s_semi b n (s_part b n q D) = s_bad b n p x D2 ∧ t_MF gi33 (s_fk b n p x) (s_F b n p)) from (by
                                                            intro b n q D h
                                                            have hk := q1.1 b n q h.1
                                                            have hP := s_part_5 (D := D) ((s_mi_W (i := 5) (by decide)).mp (show s_mi (s_W b n q) = s_mil.getD 5 0 from (by rw [← hk]; show w1.toInt = 3; omega)))
                                                            obtain ⟨_, p, x, D2, hx, hX, hf⟩ := (q33 b n q D h).resolve_left (fun hh => absurd hh.1 (by omega))
                                                            exact Or.inr ⟨rfl, p, x, D2, hx, s_semi_b1 hx (hP.trans hX), hf⟩))⟩⟩
    · have r36 : w33.toInt ≠ 0 := fun e => h34 (Int32.toInt_inj.mp (e.trans (by decide : (0:Int) = (0 : Int32).toInt)))
      have l37 : 1 ≤ w33.toInt := t_nel h34 l33 rfl rfl
      refine ev_loc f_X12_riverPart (nx := 92) rfl rfl rfl rfl ?_
      refine ev_bp f_X12_riverPart (nx := 94) (v := 59) rfl (by decide) rfl ?_
      refine ev_qI f_X12_riverPart (nx := 97) (r := []) rfl rfl rfl rfl rfl rfl rfl (c_n_wantSign hI (59)) rfl hX rfl (fun w38 gi38 gl38 gr38 l38 u38 hI hX hC38 q38 => ?_)
      have q38 : ∀ (b : Nat → Int32) (n q : Nat), t_TM b n q gi33 → (w38.toInt = 1 ∧ s_isS b n q 59 ∧ t_TM b n (s_E b n q) gi38 ∧ t_mf gi33 gi38) ∨ (w38.toInt = 0 ∧ ¬ s_isS b n q 59 ∧ ((gi33 69 18).toInt = 0 → t_MF gi38 (s_fk b n q 2) (s_F b n q))) := q38
      refine ev_if f_X12_riverPart (t1 := 104) (t2 := 100) rfl rfl rfl (fun h39 => ?_) (fun h39 => ?_)
      · have u40 : w38.toInt ≤ 0 := t_equ h39 (by decide : (0:Int32).toInt ≤ (0:Int))
        refine ev_ic f_X12_riverPart (nx := 105) (v := 0) rfl (by decide) rfl ?_
        exact ev_ret f_X12_riverPart rfl rfl rfl ⟨_, _, _, rfl, hI, hX, ⟨_, rfl, (by decide : (0:Int) ≤ (0:Int32).toInt), (Int.le_trans (by decide : (0:Int32).toInt ≤ (0:Int)) (by decide : (0:Int) ≤ 1)), (show ∀ (b : Nat → Int32) (n q : Nat) (D : s_D), t_MS b n q D gi gl → ((0 : Int) = 1 ∧ ∃ q2 D2, s_semi b n (s_part b n q D) = s_ok q2 D2 ∧ t_MS b n q2 D2 gi38 gl38) ∨ ((0 : Int) = 0 ∧ ∃ p x D2, x ≠ 0 ∧ s_semi b n (s_part b n q D) = s_bad b n p x D2 ∧ t_MF gi38 (s_fk b n p x) (s_F b n p)) from (by
                                                            intro b n q D h
                                                            have hk := q1.1 b n q h.1
                                                            have hP := s_part_5 (D := D) ((s_mi_W (i := 5) (by decide)).mp (show s_mi (s_W b n q) = s_mil.getD 5 0 from (by rw [← hk]; show w1.toInt = 3; omega)))
                                                            obtain ⟨_, q2, D2, hX, h2⟩ := (q33 b n q D h).resolve_right (fun hh => absurd hh.1 (by omega))
                                                            obtain ⟨_, hS, hf⟩ := (q38 b n q2 h2.1).resolve_left (fun hh => absurd hh.1 (by omega))
                                                            exact Or.inr ⟨rfl, q2, 2, D2, by decide, s_semi_b2 (hP.trans hX) hS, hf h2.2.2.1⟩))⟩⟩
      · have r41 : w38.toInt ≠ 0 := fun e => h39 (Int32.toInt_inj.mp (e.trans (by decide : (0:Int) = (0 : Int32).toInt)))
        have l42 : 1 ≤ w38.toInt := t_nel h39 l38 rfl rfl
        refine ev_ic f_X12_riverPart (nx := 101) (v := 1) rfl (by decide) rfl ?_
        refine ev_jmp f_X12_riverPart (nx := 105) rfl rfl rfl ?_
        exact ev_ret f_X12_riverPart rfl rfl rfl ⟨_, _, _, rfl, hI, hX, ⟨_, rfl, (Int.le_trans (by decide : (0:Int) ≤ 1) (by decide : (1:Int) ≤ (1:Int32).toInt)), (by decide : (1:Int32).toInt ≤ (1:Int)), (show ∀ (b : Nat → Int32) (n q : Nat) (D : s_D), t_MS b n q D gi gl → ((1 : Int) = 1 ∧ ∃ q2 D2, s_semi b n (s_part b n q D) = s_ok q2 D2 ∧ t_MS b n q2 D2 gi38 gl38) ∨ ((1 : Int) = 0 ∧ ∃ p x D2, x ≠ 0 ∧ s_semi b n (s_part b n q D) = s_bad b n p x D2 ∧ t_MF gi38 (s_fk b n p x) (s_F b n p)) from (by
                                                            intro b n q D h
                                                            have hk := q1.1 b n q h.1
                                                            have hP := s_part_5 (D := D) ((s_mi_W (i := 5) (by decide)).mp (show s_mi (s_W b n q) = s_mil.getD 5 0 from (by rw [← hk]; show w1.toInt = 3; omega)))
                                                            obtain ⟨_, q2, D2, hX, h2⟩ := (q33 b n q D h).resolve_right (fun hh => absurd hh.1 (by omega))
                                                            obtain ⟨_, hS, hT, hM⟩ := (q38 b n q2 h2.1).resolve_right (fun hh => absurd hh.1 (by omega))
                                                            exact Or.inl ⟨rfl, _, _, s_semi_ok (hP.trans hX) hS, h2.tk hT hM (fun j => (hC38.1 70 j rfl).1) (fun j => (hC38.1 71 j rfl).2.1) (hC38.1 69 20 rfl).1⟩))⟩⟩
  · refine ev_swt f_X12_riverPart (nx := 56) (c := 4) rfl h2 rfl ?_
    refine ev_loc f_X12_riverPart (nx := 57) rfl rfl rfl rfl ?_
    refine ev_qI f_X12_riverPart (nx := 60) (r := []) rfl rfl rfl rfl rfl rfl rfl (c_n_aShip hI ) rfl hX rfl (fun w43 gi43 gl43 gr43 l43 u43 hI hX hC43 q43 => ?_)
    have q43 : ∀ (b : Nat → Int32) (n q : Nat) (D : s_D), t_MS b n q D gi gl → (w43.toInt = 1 ∧ ∃ q2 D2, s_ship b n q D = s_ok q2 D2 ∧ t_MS b n q2 D2 gi43 gl43) ∨ (w43.toInt = 0 ∧ ∃ p x D2, x ≠ 0 ∧ s_ship b n q D = s_bad b n p x D2 ∧ t_MF gi43 (s_fk b n p x) (s_F b n p)) := q43
    refine ev_loc f_X12_riverPart (nx := 61) (lo' := [(1, .int w43), (2, .int w1), (0, .ref 69)]) rfl rfl rfl rfl ?_
    refine ev_jmp f_X12_riverPart (nx := 87) rfl rfl rfl ?_
    refine ev_loc f_X12_riverPart (nx := 88) rfl rfl rfl rfl ?_
    refine ev_if f_X12_riverPart (t1 := 104) (t2 := 91) rfl rfl rfl (fun h44 => ?_) (fun h44 => ?_)
    · have u45 : w43.toInt ≤ 0 := t_equ h44 (by decide : (0:Int32).toInt ≤ (0:Int))
      refine ev_ic f_X12_riverPart (nx := 105) (v := 0) rfl (by decide) rfl ?_
      exact ev_ret f_X12_riverPart rfl rfl rfl ⟨_, _, _, rfl, hI, hX, ⟨_, rfl, (by decide : (0:Int) ≤ (0:Int32).toInt), (Int.le_trans (by decide : (0:Int32).toInt ≤ (0:Int)) (by decide : (0:Int) ≤ 1)), (show ∀ (b : Nat → Int32) (n q : Nat) (D : s_D), t_MS b n q D gi gl → ((0 : Int) = 1 ∧ ∃ q2 D2, s_semi b n (s_part b n q D) = s_ok q2 D2 ∧ t_MS b n q2 D2 gi43 gl43) ∨ ((0 : Int) = 0 ∧ ∃ p x D2, x ≠ 0 ∧ s_semi b n (s_part b n q D) = s_bad b n p x D2 ∧ t_MF gi43 (s_fk b n p x) (s_F b n p)) from (by
                                                            intro b n q D h
                                                            have hk := q1.1 b n q h.1
                                                            have hP := s_part_6 (D := D) ((s_mi_W (i := 6) (by decide)).mp (show s_mi (s_W b n q) = s_mil.getD 6 0 from (by rw [← hk]; show w1.toInt = 4; omega)))
                                                            obtain ⟨_, p, x, D2, hx, hX, hf⟩ := (q43 b n q D h).resolve_left (fun hh => absurd hh.1 (by omega))
                                                            exact Or.inr ⟨rfl, p, x, D2, hx, s_semi_b1 hx (hP.trans hX), hf⟩))⟩⟩
    · have r46 : w43.toInt ≠ 0 := fun e => h44 (Int32.toInt_inj.mp (e.trans (by decide : (0:Int) = (0 : Int32).toInt)))
      have l47 : 1 ≤ w43.toInt := t_nel h44 l43 rfl rfl
      refine ev_loc f_X12_riverPart (nx := 92) rfl rfl rfl rfl ?_
      refine ev_bp f_X12_riverPart (nx := 94) (v := 59) rfl (by decide) rfl ?_
      refine ev_qI f_X12_riverPart (nx := 97) (r := []) rfl rfl rfl rfl rfl rfl rfl (c_n_wantSign hI (59)) rfl hX rfl (fun w48 gi48 gl48 gr48 l48 u48 hI hX hC48 q48 => ?_)
      have q48 : ∀ (b : Nat → Int32) (n q : Nat), t_TM b n q gi43 → (w48.toInt = 1 ∧ s_isS b n q 59 ∧ t_TM b n (s_E b n q) gi48 ∧ t_mf gi43 gi48) ∨ (w48.toInt = 0 ∧ ¬ s_isS b n q 59 ∧ ((gi43 69 18).toInt = 0 → t_MF gi48 (s_fk b n q 2) (s_F b n q))) := q48
      refine ev_if f_X12_riverPart (t1 := 104) (t2 := 100) rfl rfl rfl (fun h49 => ?_) (fun h49 => ?_)
      · have u50 : w48.toInt ≤ 0 := t_equ h49 (by decide : (0:Int32).toInt ≤ (0:Int))
        refine ev_ic f_X12_riverPart (nx := 105) (v := 0) rfl (by decide) rfl ?_
        exact ev_ret f_X12_riverPart rfl rfl rfl ⟨_, _, _, rfl, hI, hX, ⟨_, rfl, (by decide : (0:Int) ≤ (0:Int32).toInt), (Int.le_trans (by decide : (0:Int32).toInt ≤ (0:Int)) (by decide : (0:Int) ≤ 1)), (show ∀ (b : Nat → Int32) (n q : Nat) (D : s_D), t_MS b n q D gi gl → ((0 : Int) = 1 ∧ ∃ q2 D2, s_semi b n (s_part b n q D) = s_ok q2 D2 ∧ t_MS b n q2 D2 gi48 gl48) ∨ ((0 : Int) = 0 ∧ ∃ p x D2, x ≠ 0 ∧ s_semi b n (s_part b n q D) = s_bad b n p x D2 ∧ t_MF gi48 (s_fk b n p x) (s_F b n p)) from (by
                                                            intro b n q D h
                                                            have hk := q1.1 b n q h.1
                                                            have hP := s_part_6 (D := D) ((s_mi_W (i := 6) (by decide)).mp (show s_mi (s_W b n q) = s_mil.getD 6 0 from (by rw [← hk]; show w1.toInt = 4; omega)))
                                                            obtain ⟨_, q2, D2, hX, h2⟩ := (q43 b n q D h).resolve_right (fun hh => absurd hh.1 (by omega))
                                                            obtain ⟨_, hS, hf⟩ := (q48 b n q2 h2.1).resolve_left (fun hh => absurd hh.1 (by omega))
                                                            exact Or.inr ⟨rfl, q2, 2, D2, by decide, s_semi_b2 (hP.trans hX) hS, hf h2.2.2.1⟩))⟩⟩
      · have r51 : w48.toInt ≠ 0 := fun e => h49 (Int32.toInt_inj.mp (e.trans (by decide : (0:Int) = (0 : Int32).toInt)))
        have l52 : 1 ≤ w48.toInt := t_nel h49 l48 rfl rfl
        refine ev_ic f_X12_riverPart (nx := 101) (v := 1) rfl (by decide) rfl ?_
        refine ev_jmp f_X12_riverPart (nx := 105) rfl rfl rfl ?_
        exact ev_ret f_X12_riverPart rfl rfl rfl ⟨_, _, _, rfl, hI, hX, ⟨_, rfl, (Int.le_trans (by decide : (0:Int) ≤ 1) (by decide : (1:Int) ≤ (1:Int32).toInt)), (by decide : (1:Int32).toInt ≤ (1:Int)), (show ∀ (b : Nat → Int32) (n q : Nat) (D : s_D), t_MS b n q D gi gl → ((1 : Int) = 1 ∧ ∃ q2 D2, s_semi b n (s_part b n q D) = s_ok q2 D2 ∧ t_MS b n q2 D2 gi48 gl48) ∨ ((1 : Int) = 0 ∧ ∃ p x D2, x ≠ 0 ∧ s_semi b n (s_part b n q D) = s_bad b n p x D2 ∧ t_MF gi48 (s_fk b n p x) (s_F b n p)) from (by
                                                            intro b n q D h
                                                            have hk := q1.1 b n q h.1
                                                            have hP := s_part_6 (D := D) ((s_mi_W (i := 6) (by decide)).mp (show s_mi (s_W b n q) = s_mil.getD 6 0 from (by rw [← hk]; show w1.toInt = 4; omega)))
                                                            obtain ⟨_, q2, D2, hX, h2⟩ := (q43 b n q D h).resolve_right (fun hh => absurd hh.1 (by omega))
                                                            obtain ⟨_, hS, hT, hM⟩ := (q48 b n q2 h2.1).resolve_right (fun hh => absurd hh.1 (by omega))
                                                            exact Or.inl ⟨rfl, _, _, s_semi_ok (hP.trans hX) hS, h2.tk hT hM (fun j => (hC48.1 70 j rfl).1) (fun j => (hC48.1 71 j rfl).2.1) (hC48.1 69 20 rfl).1⟩))⟩⟩
  · refine ev_swt f_X12_riverPart (nx := 64) (c := 5) rfl h2 rfl ?_
    refine ev_loc f_X12_riverPart (nx := 65) rfl rfl rfl rfl ?_
    refine ev_qI f_X12_riverPart (nx := 68) (r := []) rfl rfl rfl rfl rfl rfl rfl (c_n_aCart hI ) rfl hX rfl (fun w53 gi53 gl53 gr53 l53 u53 hI hX hC53 q53 => ?_)
    have q53 : ∀ (b : Nat → Int32) (n q : Nat) (D : s_D), t_MS b n q D gi gl → (w53.toInt = 1 ∧ ∃ q2 D2, s_cart b n q D = s_ok q2 D2 ∧ t_MS b n q2 D2 gi53 gl53) ∨ (w53.toInt = 0 ∧ ∃ p x D2, x ≠ 0 ∧ s_cart b n q D = s_bad b n p x D2 ∧ t_MF gi53 (s_fk b n p x) (s_F b n p)) := q53
    refine ev_loc f_X12_riverPart (nx := 69) (lo' := [(1, .int w53), (2, .int w1), (0, .ref 69)]) rfl rfl rfl rfl ?_
    refine ev_jmp f_X12_riverPart (nx := 87) rfl rfl rfl ?_
    refine ev_loc f_X12_riverPart (nx := 88) rfl rfl rfl rfl ?_
    refine ev_if f_X12_riverPart (t1 := 104) (t2 := 91) rfl rfl rfl (fun h54 => ?_) (fun h54 => ?_)
    · have u55 : w53.toInt ≤ 0 := t_equ h54 (by decide : (0:Int32).toInt ≤ (0:Int))
      refine ev_ic f_X12_riverPart (nx := 105) (v := 0) rfl (by decide) rfl ?_
      exact ev_ret f_X12_riverPart rfl rfl rfl ⟨_, _, _, rfl, hI, hX, ⟨_, rfl, (by decide : (0:Int) ≤ (0:Int32).toInt), (Int.le_trans (by decide : (0:Int32).toInt ≤ (0:Int)) (by decide : (0:Int) ≤ 1)), (show ∀ (b : Nat → Int32) (n q : Nat) (D : s_D), t_MS b n q D gi gl → ((0 : Int) = 1 ∧ ∃ q2 D2, s_semi b n (s_part b n q D) = s_ok q2 D2 ∧ t_MS b n q2 D2 gi53 gl53) ∨ ((0 : Int) = 0 ∧ ∃ p x D2, x ≠ 0 ∧ s_semi b n (s_part b n q D) = s_bad b n p x D2 ∧ t_MF gi53 (s_fk b n p x) (s_F b n p)) from (by
                                                            intro b n q D h
                                                            have hk := q1.1 b n q h.1
                                                            have hP := s_part_12 (D := D) ((s_mi_W (i := 12) (by decide)).mp (show s_mi (s_W b n q) = s_mil.getD 12 0 from (by rw [← hk]; show w1.toInt = 5; omega)))
                                                            obtain ⟨_, p, x, D2, hx, hX, hf⟩ := (q53 b n q D h).resolve_left (fun hh => absurd hh.1 (by omega))
                                                            exact Or.inr ⟨rfl, p, x, D2, hx, s_semi_b1 hx (hP.trans hX), hf⟩))⟩⟩
    · have r56 : w53.toInt ≠ 0 := fun e => h54 (Int32.toInt_inj.mp (e.trans (by decide : (0:Int) = (0 : Int32).toInt)))
      have l57 : 1 ≤ w53.toInt := t_nel h54 l53 rfl rfl
      refine ev_loc f_X12_riverPart (nx := 92) rfl rfl rfl rfl ?_
      refine ev_bp f_X12_riverPart (nx := 94) (v := 59) rfl (by decide) rfl ?_
      refine ev_qI f_X12_riverPart (nx := 97) (r := []) rfl rfl rfl rfl rfl rfl rfl (c_n_wantSign hI (59)) rfl hX rfl (fun w58 gi58 gl58 gr58 l58 u58 hI hX hC58 q58 => ?_)
      have q58 : ∀ (b : Nat → Int32) (n q : Nat), t_TM b n q gi53 → (w58.toInt = 1 ∧ s_isS b n q 59 ∧ t_TM b n (s_E b n q) gi58 ∧ t_mf gi53 gi58) ∨ (w58.toInt = 0 ∧ ¬ s_isS b n q 59 ∧ ((gi53 69 18).toInt = 0 → t_MF gi58 (s_fk b n q 2) (s_F b n q))) := q58
      refine ev_if f_X12_riverPart (t1 := 104) (t2 := 100) rfl rfl rfl (fun h59 => ?_) (fun h59 => ?_)
      · have u60 : w58.toInt ≤ 0 := t_equ h59 (by decide : (0:Int32).toInt ≤ (0:Int))
        refine ev_ic f_X12_riverPart (nx := 105) (v := 0) rfl (by decide) rfl ?_
        exact ev_ret f_X12_riverPart rfl rfl rfl ⟨_, _, _, rfl, hI, hX, ⟨_, rfl, (by decide : (0:Int) ≤ (0:Int32).toInt), (Int.le_trans (by decide : (0:Int32).toInt ≤ (0:Int)) (by decide : (0:Int) ≤ 1)), (show ∀ (b : Nat → Int32) (n q : Nat) (D : s_D), t_MS b n q D gi gl → ((0 : Int) = 1 ∧ ∃ q2 D2, s_semi b n (s_part b n q D) = s_ok q2 D2 ∧ t_MS b n q2 D2 gi58 gl58) ∨ ((0 : Int) = 0 ∧ ∃ p x D2, x ≠ 0 ∧ s_semi b n (s_part b n q D) = s_bad b n p x D2 ∧ t_MF gi58 (s_fk b n p x) (s_F b n p)) from (by
                                                            intro b n q D h
                                                            have hk := q1.1 b n q h.1
                                                            have hP := s_part_12 (D := D) ((s_mi_W (i := 12) (by decide)).mp (show s_mi (s_W b n q) = s_mil.getD 12 0 from (by rw [← hk]; show w1.toInt = 5; omega)))
                                                            obtain ⟨_, q2, D2, hX, h2⟩ := (q53 b n q D h).resolve_right (fun hh => absurd hh.1 (by omega))
                                                            obtain ⟨_, hS, hf⟩ := (q58 b n q2 h2.1).resolve_left (fun hh => absurd hh.1 (by omega))
                                                            exact Or.inr ⟨rfl, q2, 2, D2, by decide, s_semi_b2 (hP.trans hX) hS, hf h2.2.2.1⟩))⟩⟩
      · have r61 : w58.toInt ≠ 0 := fun e => h59 (Int32.toInt_inj.mp (e.trans (by decide : (0:Int) = (0 : Int32).toInt)))
        have l62 : 1 ≤ w58.toInt := t_nel h59 l58 rfl rfl
        refine ev_ic f_X12_riverPart (nx := 101) (v := 1) rfl (by decide) rfl ?_
        refine ev_jmp f_X12_riverPart (nx := 105) rfl rfl rfl ?_
        exact ev_ret f_X12_riverPart rfl rfl rfl ⟨_, _, _, rfl, hI, hX, ⟨_, rfl, (Int.le_trans (by decide : (0:Int) ≤ 1) (by decide : (1:Int) ≤ (1:Int32).toInt)), (by decide : (1:Int32).toInt ≤ (1:Int)), (show ∀ (b : Nat → Int32) (n q : Nat) (D : s_D), t_MS b n q D gi gl → ((1 : Int) = 1 ∧ ∃ q2 D2, s_semi b n (s_part b n q D) = s_ok q2 D2 ∧ t_MS b n q2 D2 gi58 gl58) ∨ ((1 : Int) = 0 ∧ ∃ p x D2, x ≠ 0 ∧ s_semi b n (s_part b n q D) = s_bad b n p x D2 ∧ t_MF gi58 (s_fk b n p x) (s_F b n p)) from (by
                                                            intro b n q D h
                                                            have hk := q1.1 b n q h.1
                                                            have hP := s_part_12 (D := D) ((s_mi_W (i := 12) (by decide)).mp (show s_mi (s_W b n q) = s_mil.getD 12 0 from (by rw [← hk]; show w1.toInt = 5; omega)))
                                                            obtain ⟨_, q2, D2, hX, h2⟩ := (q53 b n q D h).resolve_right (fun hh => absurd hh.1 (by omega))
                                                            obtain ⟨_, hS, hT, hM⟩ := (q58 b n q2 h2.1).resolve_right (fun hh => absurd hh.1 (by omega))
                                                            exact Or.inl ⟨rfl, _, _, s_semi_ok (hP.trans hX) hS, h2.tk hT hM (fun j => (hC58.1 70 j rfl).1) (fun j => (hC58.1 71 j rfl).2.1) (hC58.1 69 20 rfl).1⟩))⟩⟩
  · refine ev_swtd f_X12_riverPart (nx := 81) rfl (by omega) (by decide) rfl ?_
    refine ev_loc f_X12_riverPart (nx := 82) rfl rfl rfl rfl ?_
    refine ev_ic f_X12_riverPart (nx := 83) (v := 2) rfl (by decide) rfl ?_
    refine ev_qI f_X12_riverPart (nx := 86) (r := []) rfl rfl rfl rfl rfl rfl rfl (c_n_fails hI (2) (by decide : (2:Int) ≤ (2:Int32).toInt) (Int.le_trans (by decide : (2:Int32).toInt ≤ (2:Int)) (by decide : (2:Int) ≤ 7))) rfl hX rfl (fun w63 gi63 gl63 gr63 l63 u63 hI hX hC63 q63 => ?_)
    have q63 : (∀ (b : Nat → Int32) (n q : Nat), t_TM b n q gi → (gi 69 18).toInt = 0 → t_MF gi63 (s_fk b n q 2) (s_F b n q)) ∧ w63.toInt = 0 := q63
    exact ev_retZ f_X12_riverPart rfl l63 (Int.le_trans u63 (by decide : (0:Int) ≤ 1)) ⟨_, _, _, rfl, hI, hX, ⟨_, rfl, l63, (Int.le_trans u63 (by decide : (0:Int) ≤ 1)), (show ∀ (b : Nat → Int32) (n q : Nat) (D : s_D), t_MS b n q D gi gl → (w63.toInt = 1 ∧ ∃ q2 D2, s_semi b n (s_part b n q D) = s_ok q2 D2 ∧ t_MS b n q2 D2 gi63 gl63) ∨ (w63.toInt = 0 ∧ ∃ p x D2, x ≠ 0 ∧ s_semi b n (s_part b n q D) = s_bad b n p x D2 ∧ t_MF gi63 (s_fk b n p x) (s_F b n p)) from (by
                                                            intro b n q D h
                                                            have hk := q1.1 b n q h.1
                                                            have hP := s_part_x (D := D) (fun hw => absurd (hk.trans ((s_mi_W (i := 0) (by decide)).mpr hw)) (show ¬ w1.toInt = 0 by omega)) (fun hw => absurd (hk.trans ((s_mi_W (i := 2) (by decide)).mpr hw)) (show ¬ w1.toInt = 1 by omega)) (fun hw => absurd (hk.trans ((s_mi_W (i := 3) (by decide)).mpr hw)) (show ¬ w1.toInt = 2 by omega)) (fun hw => absurd (hk.trans ((s_mi_W (i := 5) (by decide)).mpr hw)) (show ¬ w1.toInt = 3 by omega)) (fun hw => absurd (hk.trans ((s_mi_W (i := 6) (by decide)).mpr hw)) (show ¬ w1.toInt = 4 by omega)) (fun hw => absurd (hk.trans ((s_mi_W (i := 12) (by decide)).mpr hw)) (show ¬ w1.toInt = 5 by omega))
                                                            exact Or.inr ⟨q63.2, q, 2, D, by decide, s_semi_b1 (by decide) hP, q63.1 b n q h.1 h.2.2.1⟩))⟩⟩
noncomputable def Q_n_riverPartB (gi : Nat → Nat → Int32) (gl : Nat → Nat → Int64) (gr : Nat → Nat → Value) : Int32 → (Nat → Nat → Int32) → (Nat → Nat → Int64) → (Nat → Nat → Value) → Prop := fun (v : Int32) (gi2 : Nat → Nat → Int32) (gl2 : Nat → Nat → Int64) (gr2 : Nat → Nat → Value) => ((gi 69 14).toInt ≤ (gi2 69 14).toInt ∧ (v.toInt = 1 → (gi2 69 12).toInt ≠ 0 → (gi 69 14).toInt < (gi2 69 14).toInt) ∧ (1 ≤ (gi 70 1404).toInt → 1 ≤ (gi2 70 1404).toInt)) ∧ (∀ (b : Nat → Int32) (n q : Nat) (D : s_D), t_MS b n q D gi gl → (v.toInt = 1 ∧ ∃ q2 D2, s_semi b n (s_part b n q D) = s_ok q2 D2 ∧ t_MS b n q2 D2 gi2 gl2) ∨ (v.toInt = 0 ∧ ∃ p x D2, x ≠ 0 ∧ s_semi b n (s_part b n q D) = s_bad b n p x D2 ∧ t_MF gi2 (s_fk b n p x) (s_F b n p)))
theorem c_n_riverPartB {X : x_Ext} {d : Nat} {sh : List (Nat ⊕ (Nat × Nat))} {gi : Nat → Nat → Int32} {gl : Nat → Nat → Int64} {gr : Nat → Nat → Value} (hI : t_I sh gi gr) : x_Me X (d + 9) n_X12_riverPart [.ref 69] (sh, gi, gl, gr) (t_PI wl_m_riverPart sh gi gl gr 0 1 (Q_n_riverPartB gi gl gr)) := by
  refine ((x_Me.up (c_m_riverPart (X := X) (d := d) (gl := gl) hI) (by omega)).and (x_Me.up (c_n_riverPart (X := X) (d := d) (gl := gl) hI) (by omega))).mono ?_
  rintro v G' ⟨⟨g1, l1, r1, rfl, k1, k2, x, rfl, k3, k4, k5⟩, g2, l2, r2, e, _, _, x2, e2, _, _, q⟩
  cases e; cases e2
  exact ⟨g1, l1, r1, rfl, k1, k2, x, rfl, k3, k4, k5, q⟩
noncomputable def wl_n_begins : List (Nat × Nat) := [(69, 10), (69, 11), (69, 12), (69, 13), (69, 14), (69, 15), (69, 17), (69, 18), (69, 19), (76, 9999)]
noncomputable def Q_n_begins (gi : Nat → Nat → Int32) (gl : Nat → Nat → Int64) (gr : Nat → Nat → Value) (ar1 : Int32) (ar2 : Int32) : Int32 → (Nat → Nat → Int32) → (Nat → Nat → Int64) → (Nat → Nat → Value) → Prop := fun (v : Int32) (gi2 : Nat → Nat → Int32) (gl2 : Nat → Nat → Int64) (gr2 : Nat → Nat → Value) => (∀ (b : Nat → Int32) (n : Nat), (n : Int) = ar1.toInt → (∀ j : Nat, j < n → gi 75 j = b j) → t_by b n → v.toInt = 1 → t_TM b n 0 gi2 ∧ t_MF gi2 0 (-1)) ∧ (v.toInt = 1 → (0 ≤ ar1.toInt ∧ ar1.toInt ≤ (gi 69 10).toInt ∧ ar1.toInt ≤ ar2.toInt)) ∧ (v.toInt = 0 → ¬ (0 ≤ ar1.toInt ∧ ar1.toInt ≤ (gi 69 10).toInt ∧ ar1.toInt ≤ ar2.toInt))
theorem c_n_begins {X : x_Ext} {d : Nat} {sh : List (Nat ⊕ (Nat × Nat))} {gi : Nat → Nat → Int32} {gl : Nat → Nat → Int64} {gr : Nat → Nat → Value} (hI : t_I sh gi gr) (ar1 : Int32) (ar2 : Int32) : x_Me X (d + 3) n_X12_begins [.ref 69, .int ar1, .int ar2] (sh, gi, gl, gr) (t_PI wl_n_begins sh gi gl gr 0 1 (Q_n_begins gi gl gr ar1 ar2)) := by
  have hX : t_X wl_n_begins sh gi gl gr gi gl gr := t_X.rf
  refine me_i f_X12_begins (hI.wf.s rfl) rfl rfl rfl ?_
  obtain ⟨l1, u1⟩ := hI.b (hI.wf.s (k := 69) rfl) (t_bdK rfl : t_bd 11 10 = some (0, 900))
  refine ev_loc f_X12_begins (nx := 1) rfl rfl rfl rfl ?_
  refine ev_if f_X12_begins (t1 := 17) (t2 := 4) rfl rfl rfl (fun h2 => ?_) (fun h2 => ?_)
  · have u3 : ar1.toInt ≤ (-1) := t_ltu h2 (by decide : (0:Int32).toInt ≤ (0:Int)) rfl
    refine ev_ic f_X12_begins (nx := 18) (v := 0) rfl (by decide) rfl ?_
    exact ev_ret f_X12_begins rfl rfl rfl ⟨_, _, _, rfl, hI, hX, ⟨_, rfl, (by decide : (0:Int) ≤ (0:Int32).toInt), (Int.le_trans (by decide : (0:Int32).toInt ≤ (0:Int)) (by decide : (0:Int) ≤ 1)), (show (∀ (b : Nat → Int32) (n : Nat), (n : Int) = ar1.toInt → (∀ j : Nat, j < n → gi 75 j = b j) → t_by b n → (0 : Int) = 1 → t_TM b n 0 gi ∧ t_MF gi 0 (-1)) ∧ ((0 : Int) = 1 → (0 ≤ ar1.toInt ∧ ar1.toInt ≤ (gi 69 10).toInt ∧ ar1.toInt ≤ ar2.toInt)) ∧ ((0 : Int) = 0 → ¬ (0 ≤ ar1.toInt ∧ ar1.toInt ≤ (gi 69 10).toInt ∧ ar1.toInt ≤ ar2.toInt)) from ⟨fun b n hn hb hy hh => absurd hh (by decide), fun hh => absurd hh (by decide), fun _ => by omega⟩)⟩⟩
  · have l4 : 0 ≤ ar1.toInt := t_lel (t_nlt h2) (by decide : (0:Int) ≤ (0:Int32).toInt)
    refine ev_loc f_X12_begins (nx := 5) rfl rfl rfl rfl ?_
    refine ev_loc f_X12_begins (nx := 6) rfl rfl rfl rfl ?_
    refine ev_gvI f_X12_begins (nx := 9) (w := (gi 69 10)) rfl (hI.wf.s rfl) rfl rfl rfl rfl ?_
    refine ev_if f_X12_begins (t1 := 17) (t2 := 12) rfl rfl rfl (fun h5 => ?_) (fun h5 => ?_)
    · have r6 : (gi 69 10).toInt < ar1.toInt := Int32.lt_iff_toInt_lt.mp h5
      have l7 : 1 ≤ ar1.toInt := t_ltl h5 l1 rfl
      refine ev_ic f_X12_begins (nx := 18) (v := 0) rfl (by decide) rfl ?_
      exact ev_ret f_X12_begins rfl rfl rfl ⟨_, _, _, rfl, hI, hX, ⟨_, rfl, (by decide : (0:Int) ≤ (0:Int32).toInt), (Int.le_trans (by decide : (0:Int32).toInt ≤ (0:Int)) (by decide : (0:Int) ≤ 1)), (show (∀ (b : Nat → Int32) (n : Nat), (n : Int) = ar1.toInt → (∀ j : Nat, j < n → gi 75 j = b j) → t_by b n → (0 : Int) = 1 → t_TM b n 0 gi ∧ t_MF gi 0 (-1)) ∧ ((0 : Int) = 1 → (0 ≤ ar1.toInt ∧ ar1.toInt ≤ (gi 69 10).toInt ∧ ar1.toInt ≤ ar2.toInt)) ∧ ((0 : Int) = 0 → ¬ (0 ≤ ar1.toInt ∧ ar1.toInt ≤ (gi 69 10).toInt ∧ ar1.toInt ≤ ar2.toInt)) from ⟨fun b n hn hb hy hh => absurd hh (by decide), fun hh => absurd hh (by decide), fun _ => by omega⟩)⟩⟩
    · have r8 : ar1.toInt ≤ (gi 69 10).toInt := Int32.le_iff_toInt_le.mp (t_nlt h5)
      have u9 : ar1.toInt ≤ 900 := t_leu (t_nlt h5) u1
      refine ev_loc f_X12_begins (nx := 13) rfl rfl rfl rfl ?_
      refine ev_loc f_X12_begins (nx := 14) rfl rfl rfl rfl ?_
      refine ev_if f_X12_begins (t1 := 19) (t2 := 17) rfl rfl rfl (fun h10 => ?_) (fun h10 => ?_)
      · have r11 : ar1.toInt ≤ ar2.toInt := Int32.le_iff_toInt_le.mp h10
        have l12 : 0 ≤ ar2.toInt := t_lel h10 l4
        refine ev_loc f_X12_begins (nx := 20) rfl rfl rfl rfl ?_
        refine ev_loc f_X12_begins (nx := 21) rfl rfl rfl rfl ?_
        refine ev_putIT f_X12_begins (nx := 24) rfl (hI.wf.s rfl) rfl rfl rfl (hI.putB (hI.wf.s rfl) rfl rfl l4 (by decide) u9 (by decide)) (hX.upI rfl) (fun g13 e13 hI hX => ?_)
        refine ev_ic f_X12_begins (nx := 25) (v := 0) rfl (by decide) rfl ?_
        refine ev_loc f_X12_begins (nx := 26) (lo' := [(3, .int 0), (0, .ref 69), (1, .int ar1), (2, .int ar2)]) rfl rfl rfl rfl ?_
        have L14 : ∀ (m14 : Nat) (gi14 : Nat → Nat → Int32) (gl14 : Nat → Nat → Int64) (gr14 : Nat → Nat → Value) (y14_3 : Int32), t_I sh gi14 gr14 → t_X wl_n_begins sh gi gl gr gi14 gl14 gr14 → 0 ≤ y14_3.toInt → y14_3.toInt ≤ 900 → gi14 69 10 = (gi 69 10) → gi14 69 11 = ar1 → (∀ (b : Nat → Int32) (n : Nat), (n : Int) = ar1.toInt → (∀ j : Nat, j < n → gi 75 j = b j) → t_by b n → ∀ j : Nat, (j : Int) < y14_3.toInt → gi14 76 j = b j) → (900 - y14_3.toInt).toNat = m14 → x_Ev X (d + 3) n_X12_begins 26 [(3, .int y14_3), (0, .ref 69), (1, .int ar1), (2, .int ar2)] [] (sh, gi14, gl14, gr14) (t_PI wl_n_begins sh gi gl gr 0 1 (Q_n_begins gi gl gr ar1 ar2)) := by
          intro m14
          induction m14 using Nat.strongRecOn with
          | _ m14 ih14 =>
          intro gi14 gl14 gr14 y14_3 hI hX l14_3 u14_3 c14_0 c14_1 j14_0 hm14
          refine ev_loc f_X12_begins (nx := 27) rfl rfl rfl rfl ?_
          refine ev_loc f_X12_begins (nx := 28) rfl rfl rfl rfl ?_
          refine ev_if f_X12_begins (t1 := 49) (t2 := 31) rfl rfl rfl (fun h15 => ?_) (fun h15 => ?_)
          · have r16 : ar1.toInt ≤ y14_3.toInt := Int32.le_iff_toInt_le.mp h15
            refine ev_loc f_X12_begins (nx := 50) rfl rfl rfl rfl ?_
            refine ev_ic f_X12_begins (nx := 51) (v := 0) rfl (by decide) rfl ?_
            refine ev_putIT f_X12_begins (nx := 54) rfl (hI.wf.s rfl) rfl rfl rfl (hI.putB (hI.wf.s rfl) rfl rfl (by decide : (0:Int) ≤ (0:Int32).toInt) (by decide) (by decide : (0:Int32).toInt ≤ (0:Int)) (by decide)) (hX.upI rfl) (fun g17 e17 hI hX => ?_)
            refine ev_loc f_X12_begins (nx := 55) rfl rfl rfl rfl ?_
            refine ev_ic f_X12_begins (nx := 56) (v := 0) rfl (by decide) rfl ?_
            refine ev_putIT f_X12_begins (nx := 59) rfl (hI.wf.s rfl) rfl rfl rfl (hI.put0 (hI.wf.s rfl) rfl rfl) (hX.upI rfl) (fun g18 e18 hI hX => ?_)
            refine ev_loc f_X12_begins (nx := 60) rfl rfl rfl rfl ?_
            refine ev_ic f_X12_begins (nx := 61) (v := -1) rfl (by decide) rfl ?_
            refine ev_putIT f_X12_begins (nx := 64) rfl (hI.wf.s rfl) rfl rfl rfl (hI.put0 (hI.wf.s rfl) rfl rfl) (hX.upI rfl) (fun g19 e19 hI hX => ?_)
            refine ev_loc f_X12_begins (nx := 65) rfl rfl rfl rfl ?_
            refine ev_ic f_X12_begins (nx := 66) (v := 0) rfl (by decide) rfl ?_
            refine ev_putIT f_X12_begins (nx := 69) rfl (hI.wf.s rfl) rfl rfl rfl (hI.putB (hI.wf.s rfl) rfl rfl (by decide : (0:Int) ≤ (0:Int32).toInt) (by decide) (by decide : (0:Int32).toInt ≤ (0:Int)) (by decide)) (hX.upI rfl) (fun g20 e20 hI hX => ?_)
            refine ev_loc f_X12_begins (nx := 70) rfl rfl rfl rfl ?_
            refine ev_ic f_X12_begins (nx := 71) (v := 0) rfl (by decide) rfl ?_
            refine ev_putIT f_X12_begins (nx := 74) rfl (hI.wf.s rfl) rfl rfl rfl (hI.put0 (hI.wf.s rfl) rfl rfl) (hX.upI rfl) (fun g21 e21 hI hX => ?_)
            refine ev_loc f_X12_begins (nx := 75) rfl rfl rfl rfl ?_
            refine ev_qN f_X12_begins (nx := 78) (r := []) rfl rfl rfl rfl rfl rfl rfl (c_n_ahead hI ) rfl hX rfl (fun gi22 gl22 gr22 hI hX hC22 q22 => ?_)
            have q22 : ∀ (b : Nat → Int32) (n q : Nat), t_Sm b n q g21 → t_TM b n q gi22 := q22
            refine ev_ic f_X12_begins (nx := 79) (v := 1) rfl (by decide) rfl ?_
            exact ev_ret f_X12_begins rfl rfl rfl ⟨_, _, _, rfl, hI, hX, ⟨_, rfl, (Int.le_trans (by decide : (0:Int) ≤ 1) (by decide : (1:Int) ≤ (1:Int32).toInt)), (by decide : (1:Int32).toInt ≤ (1:Int)), (show (∀ (b : Nat → Int32) (n : Nat), (n : Int) = ar1.toInt → (∀ j : Nat, j < n → gi 75 j = b j) → t_by b n → (1 : Int) = 1 → t_TM b n 0 gi22 ∧ t_MF gi22 0 (-1)) ∧ ((1 : Int) = 1 → (0 ≤ ar1.toInt ∧ ar1.toInt ≤ (gi 69 10).toInt ∧ ar1.toInt ≤ ar2.toInt)) ∧ ((1 : Int) = 0 → ¬ (0 ≤ ar1.toInt ∧ ar1.toInt ≤ (gi 69 10).toInt ∧ ar1.toInt ≤ ar2.toInt)) from ⟨fun b n hn hb hy _ => (by
                                                            have h11 : (g21 69 11).toInt = (n : Int) := by rw [← (hC22.1 69 11 rfl).1, show gi22 69 11 = ar1 from ((hC22.1 69 11 rfl).1.trans ((by rw [e21]; exact x_up2_off (Or.inr (by decide)) : g21 69 11 = g20 69 11).trans ((by rw [e20]; exact x_up2_off (Or.inr (by decide)) : g20 69 11 = g19 69 11).trans ((by rw [e19]; exact x_up2_off (Or.inr (by decide)) : g19 69 11 = g18 69 11).trans ((by rw [e18]; exact x_up2_off (Or.inr (by decide)) : g18 69 11 = g17 69 11).trans ((by rw [e17]; exact x_up2_off (Or.inr (by decide)) : g17 69 11 = gi14 69 11).trans c14_1)))))), hn]
                                                            have h14 : (g21 69 14).toInt = ((0 : Nat) : Int) := by rw [e21, x_up2_off (Or.inr (by decide)), e20, x_up2_at]; rfl
                                                            have hS : t_Sm b n 0 g21 := ⟨⟨⟨fun k hk => ?_, hy⟩, h11⟩, h14, Nat.zero_le _⟩
                                                            exact ⟨q22 b n 0 hS, by rw [show gi22 69 18 = 0 from ((hC22.1 69 18 rfl).1.trans ((by rw [e21]; exact x_up2_off (Or.inr (by decide)) : g21 69 18 = g20 69 18).trans ((by rw [e20]; exact x_up2_off (Or.inr (by decide)) : g20 69 18 = g19 69 18).trans ((by rw [e19]; exact x_up2_off (Or.inr (by decide)) : g19 69 18 = g18 69 18).trans (by rw [e18]; exact x_up2_at _ _ _ _ : g18 69 18 = 0)))))]; rfl, by rw [show gi22 69 17 = -1 from ((hC22.1 69 17 rfl).1.trans ((by rw [e21]; exact x_up2_off (Or.inr (by decide)) : g21 69 17 = g20 69 17).trans ((by rw [e20]; exact x_up2_off (Or.inr (by decide)) : g20 69 17 = g19 69 17).trans (by rw [e19]; exact x_up2_at _ _ _ _ : g19 69 17 = (-1)))))]; rfl⟩
                                                            rw [e21, x_up2_ne (by decide), e20, x_up2_ne (by decide), e19, x_up2_ne (by decide), e18, x_up2_ne (by decide), e17, x_up2_ne (by decide)]; exact j14_0 b n hn hb hy k (by omega)), fun _ => by omega, fun hh => absurd hh (by decide)⟩)⟩⟩
          · have r23 : y14_3.toInt < ar1.toInt := Int32.lt_iff_toInt_lt.mp (t_nle h15)
            have u24 : y14_3.toInt ≤ 899 := t_ltu (t_nle h15) u9 rfl
            have l25 : 1 ≤ ar1.toInt := t_ltl (t_nle h15) l14_3 rfl
            refine ev_loc f_X12_begins (nx := 32) rfl rfl rfl rfl ?_
            refine ev_getR f_X12_begins (nx := 35) rfl (hI.wf.s rfl) rfl rfl (hI.wf.r rfl) rfl rfl ?_
            refine ev_loc f_X12_begins (nx := 36) rfl rfl rfl rfl ?_
            refine ev_loc f_X12_begins (nx := 37) rfl rfl rfl rfl ?_
            refine ev_getR f_X12_begins (nx := 40) rfl (hI.wf.s rfl) rfl rfl (hI.wf.r rfl) rfl rfl ?_
            refine ev_loc f_X12_begins (nx := 41) rfl rfl rfl rfl ?_
            refine ev_baldT f_X12_begins (nx := 42) rfl (hI.wf.s rfl) rfl l14_3 (by decide) u24 (by decide) rfl (fun w26 e26 => ?_)
            refine ev_bastE f_X12_begins (nx := 43) rfl (hI.wf.s rfl) l14_3 (by decide) u24 (by decide) rfl (fun x => (hI.astG (hI.wf.s rfl) (fun lo hi e => absurd e (t_nob (by decide +kernel) _)) (fun k hk e => by have := hk.2.1; omega))) (fun x => hX.upI (t_inA_ok rfl)) (fun g27 x27 f27 e27 hI hX => ?_)
            refine ev_incR f_X12_begins (nx := 46) (c := 1) (l := 1) (u := 900) rfl rfl (by decide) (by decide) l14_3 u24 rfl rfl (by decide) (by decide) rfl (fun z28 e28 l28 u28 => ?_)
            refine ev_jmp f_X12_begins (nx := 26) rfl rfl rfl ?_
            refine ev_sub (lo := [(3, .int z28), (0, .ref 69), (1, .int ar1), (2, .int ar2)]) rfl (t_sc rfl (t_sc rfl (t_sc rfl (t_sc rfl t_sn)))) ?_
            exact ih14 _ (by omega) g27 gl14 gr14 (z28) hI hX  (Int.le_trans (by decide : (0:Int) ≤ 1) l28) u28 ((by rw [e27]; exact x_up2_off (Or.inl (by decide)) : g27 69 10 = gi14 69 10).trans c14_0) ((by rw [e27]; exact x_up2_off (Or.inl (by decide)) : g27 69 11 = gi14 69 11).trans c14_1) (fun b n hn hb hy j hj => (by
                                                            have h1 := t_clamp (i := y14_3) (by omega)
                                                            by_cases hj2 : j = y14_3.toNatClampNeg
                                                            · have hx := (hX.1 75 j rfl).1
                                                              rw [e27, x_up2_ne (by decide)] at hx
                                                              have hw : w26 = b j := by rw [e26, ← hj2, hx]; exact hb j (by omega)
                                                              rw [e27, hj2, x_up2_at, f27, hw, ← hj2]
                                                              exact s_i8 (hy j (by omega)).1 (hy j (by omega)).2
                                                            · rw [e27, x_up2_off (Or.inr hj2)]; exact j14_0 b n hn hb hy j (by omega))) rfl
        refine ev_sub (lo := [(3, .int 0), (0, .ref 69), (1, .int ar1), (2, .int ar2)]) rfl (t_sc rfl (t_sc rfl (t_sc rfl (t_sc rfl t_sn)))) ?_
        exact L14 _ g13 gl gr (0) hI hX  (by decide : (0:Int) ≤ (0:Int32).toInt) (Int.le_trans (by decide : (0:Int32).toInt ≤ (0:Int)) (by decide : (0:Int) ≤ 900)) ((by rw [e13]; exact x_up2_off (Or.inr (by decide)) : g13 69 10 = gi 69 10).trans rfl) (by rw [e13]; exact x_up2_at _ _ _ _ : g13 69 11 = ar1) (fun b n hn hb hy j hj => absurd hj (by have : (0 : Int32).toInt = 0 := rfl; omega)) rfl
      · have r29 : ar2.toInt < ar1.toInt := Int32.lt_iff_toInt_lt.mp (t_nle h10)
        have u30 : ar2.toInt ≤ 899 := t_ltu (t_nle h10) u9 rfl
        refine ev_ic f_X12_begins (nx := 18) (v := 0) rfl (by decide) rfl ?_
        exact ev_ret f_X12_begins rfl rfl rfl ⟨_, _, _, rfl, hI, hX, ⟨_, rfl, (by decide : (0:Int) ≤ (0:Int32).toInt), (Int.le_trans (by decide : (0:Int32).toInt ≤ (0:Int)) (by decide : (0:Int) ≤ 1)), (show (∀ (b : Nat → Int32) (n : Nat), (n : Int) = ar1.toInt → (∀ j : Nat, j < n → gi 75 j = b j) → t_by b n → (0 : Int) = 1 → t_TM b n 0 gi ∧ t_MF gi 0 (-1)) ∧ ((0 : Int) = 1 → (0 ≤ ar1.toInt ∧ ar1.toInt ≤ (gi 69 10).toInt ∧ ar1.toInt ≤ ar2.toInt)) ∧ ((0 : Int) = 0 → ¬ (0 ≤ ar1.toInt ∧ ar1.toInt ≤ (gi 69 10).toInt ∧ ar1.toInt ≤ ar2.toInt)) from ⟨fun b n hn hb hy hh => absurd hh (by decide), fun hh => absurd hh (by decide), fun _ => by omega⟩)⟩⟩
