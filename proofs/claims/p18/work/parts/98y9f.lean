/-! ===== printed by riv.py: the RIVER of the other side ===== -/
noncomputable def wl_n_once2 : List (Nat × Nat) := [(69, 12), (69, 13), (69, 14), (69, 15), (69, 17), (69, 18), (69, 20), (70, 140511405), (70, 140611406)]
noncomputable def Q_n_once2 (gi : Nat → Nat → Int32) (gl : Nat → Nat → Int64) (gr : Nat → Nat → Value) (ar1 : Int32) : Int32 → (Nat → Nat → Int32) → (Nat → Nat → Int64) → (Nat → Nat → Value) → Prop := fun (v : Int32) (gi2 : Nat → Nat → Int32) (gl2 : Nat → Nat → Int64) (gr2 : Nat → Nat → Value) => ∀ (b : Nat → Int32) (n q : Nat) (D : s_D), t_MS b n q D gi gl → (v.toInt = 1 ∧ ∃ q2 D2, s_frost b n q D = s_ok q2 D2 ∧ t_MS b n q2 D2 gi2 gl2) ∨ (v.toInt = 0 ∧ ∃ p x D2, x ≠ 0 ∧ s_frost b n q D = s_bad b n p x D2 ∧ t_MF gi2 (s_fk b n p x) (s_F b n p))
theorem c_n_once2 {X : x_Ext} {d : Nat} {sh : List (Nat ⊕ (Nat × Nat))} {gi : Nat → Nat → Int32} {gl : Nat → Nat → Int64} {gr : Nat → Nat → Value} (hI : t_I sh gi gr) (ar1 : Int32) (l_a1 : 2 ≤ ar1.toInt) (u_a1 : ar1.toInt ≤ 2) : x_Me X (d + 7) n_X12_once [.ref 69, .int ar1] (sh, gi, gl, gr) (t_PI wl_n_once2 sh gi gl gr 0 1 (Q_n_once2 gi gl gr ar1)) := by
  have hX : t_X wl_n_once2 sh gi gl gr gi gl gr := t_X.rf
  refine me_i f_X12_once (hI.wf.s rfl) rfl rfl rfl ?_
  refine ev_loc f_X12_once (nx := 1) rfl rfl rfl rfl ?_
  refine ev_getI f_X12_once (nx := 4) rfl (hI.wf.s rfl) rfl rfl rfl ?_
  refine ev_loc f_X12_once (nx := 5) rfl rfl rfl rfl ?_
  refine ev_anyIE f_X12_once (nx := 6) rfl rfl rfl rfl (fun z1 e1 => ?_)
  refine ev_ic f_X12_once (nx := 7) (v := 1) rfl (by decide) rfl ?_
  refine ev_anyIE f_X12_once (nx := 8) rfl rfl rfl rfl (fun z2 e2 => ?_)
  refine ev_ic f_X12_once (nx := 9) (v := 1) rfl (by decide) rfl ?_
  refine ev_if f_X12_once (t1 := 12) (t2 := 18) rfl rfl rfl (fun h3 => ?_) (fun h3 => ?_)
  · have u4 : z2.toInt ≤ 1 := t_equ h3 (by decide : (1:Int32).toInt ≤ (1:Int))
    have l5 : 1 ≤ z2.toInt := t_eql h3 (by decide : (1:Int) ≤ (1:Int32).toInt)
    refine ev_loc f_X12_once (nx := 13) rfl rfl rfl rfl ?_
    refine ev_ic f_X12_once (nx := 14) (v := 5) rfl (by decide) rfl ?_
    refine ev_qI f_X12_once (nx := 17) (r := []) rfl rfl rfl rfl rfl rfl rfl (c_n_fails hI (5) (Int.le_trans (by decide : (2:Int) ≤ 5) (by decide : (5:Int) ≤ (5:Int32).toInt)) (Int.le_trans (by decide : (5:Int32).toInt ≤ (5:Int)) (by decide : (5:Int) ≤ 7))) rfl hX rfl (fun w6 gi6 gl6 gr6 l6 u6 hI hX hC6 q6 => ?_)
    have q6 : (∀ (b : Nat → Int32) (n q : Nat), t_TM b n q gi → (gi 69 18).toInt = 0 → t_MF gi6 (s_fk b n q 5) (s_F b n q)) ∧ w6.toInt = 0 := q6
    exact ev_retZ f_X12_once rfl l6 (Int.le_trans u6 (by decide : (0:Int) ≤ 1)) ⟨_, _, _, rfl, hI, hX, ⟨_, rfl, l6, (Int.le_trans u6 (by decide : (0:Int) ≤ 1)), (show ∀ (b : Nat → Int32) (n q : Nat) (D : s_D), t_MS b n q D gi gl → (w6.toInt = 1 ∧ ∃ q2 D2, s_frost b n q D = s_ok q2 D2 ∧ t_MS b n q2 D2 gi6 gl6) ∨ (w6.toInt = 0 ∧ ∃ p x D2, x ≠ 0 ∧ s_frost b n q D = s_bad b n p x D2 ∧ t_MF gi6 (s_fk b n p x) (s_F b n p)) from (by
                                                            intro b n q D h
                                                            have hk : ar1.toInt = (1 : Int) + 1 := by omega
                                                            have hbit := t_mtb h.2.1.2.2.2 (x := (gi 69 20)) rfl (kk := 1) hk (by decide) e1 e2
                                                            have hbit : z2.toInt = D 222 := hbit
                                                            exact Or.inr ⟨q6.2, q, 5, D, by decide, by simp only [s_frost, s_ifF (show ¬ D 222 = 0 by omega)], q6.1 b n q h.1 h.2.2.1⟩))⟩⟩
  · have r7 : z2.toInt ≠ 1 := fun e => h3 (Int32.toInt_inj.mp (e.trans (by decide : (1:Int) = (1 : Int32).toInt)))
    refine ev_loc f_X12_once (nx := 19) rfl rfl rfl rfl ?_
    refine ev_alu f_X12_once (nx := 20) rfl rfl rfl rfl ?_
    refine ev_gvI f_X12_once (nx := 23) (w := (gi 69 20)) rfl (hI.wf.s rfl) rfl rfl rfl rfl ?_
    refine ev_ic f_X12_once (nx := 24) (v := 1) rfl (by decide) rfl ?_
    refine ev_loc f_X12_once (nx := 25) rfl rfl rfl rfl ?_
    refine ev_shl1E f_X12_once (nx := 26) rfl l_a1 u_a1 (by decide) (by decide) rfl (fun z8 s8 => ?_)
    have l8 : 4 ≤ z8.toInt := by have := l_a1; have := u_a1; omega
    have u8 : z8.toInt ≤ 4 := by have := l_a1; have := u_a1; omega
    refine ev_anyIE f_X12_once (nx := 27) rfl rfl rfl rfl (fun z9 e9 => ?_)
    refine ev_putIT f_X12_once (nx := 30) rfl (hI.wf.s rfl) rfl rfl rfl (hI.put0 (hI.wf.s rfl) rfl rfl) (hX.upI rfl) (fun g10 e10 hI hX => ?_)
    refine ev_loc f_X12_once (nx := 31) rfl rfl rfl rfl ?_
    refine ev_qN f_X12_once (nx := 34) (r := []) rfl rfl rfl rfl rfl rfl rfl (c_n_ahead hI ) rfl hX rfl (fun gi11 gl11 gr11 hI hX hC11 q11 => ?_)
    have q11 : ∀ (b : Nat → Int32) (n q : Nat), t_Sm b n q g10 → t_TM b n q gi11 := q11
    refine ev_loc f_X12_once (nx := 35) rfl rfl rfl rfl ?_
    refine ev_ic f_X12_once (nx := 36) (v := 1) rfl (by decide) rfl ?_
    refine ev_f f_X12_once (t1 := 39) (t2 := 50) rfl rfl rfl (t_neT' (by decide : (1:Int32).toInt ≤ (1:Int)) l_a1 (by decide)) ?_
    refine ev_loc f_X12_once (nx := 51) rfl rfl rfl rfl ?_
    refine ev_ic f_X12_once (nx := 52) (v := 3) rfl (by decide) rfl ?_
    refine ev_f f_X12_once (t1 := 55) (t2 := 66) rfl rfl rfl (t_neT u_a1 (by decide : (3:Int) ≤ (3:Int32).toInt) (by decide)) ?_
    refine ev_loc f_X12_once (nx := 67) rfl rfl rfl rfl ?_
    refine ev_sp f_X12_once (nx := 70) (v := 1405) rfl (by decide) rfl ?_
    refine ev_ic f_X12_once (nx := 71) (v := 0) rfl (by decide) rfl ?_
    refine ev_bp f_X12_once (nx := 73) (v := 20) rfl (by decide) rfl ?_
    refine ev_inV4 f_X12_once (nx := 76) (lo2 := [(0, .ref 69), (1, .int 1405), (2, .int 0), (3, .int 20)]) rfl rfl rfl rfl f_X12_number (hI.wf.s rfl) rfl rfl rfl rfl rfl ?_
    refine ev_loc f_X12_number (nx := 1) rfl rfl rfl rfl ?_
    refine ev_getI f_X12_number (nx := 4) rfl (hI.wf.s rfl) rfl rfl rfl ?_
    obtain ⟨l12, u12⟩ := hI.b (hI.wf.s (k := 69) rfl) (t_bdK rfl : t_bd 11 12 = some (0, 4))
    refine ev_ic f_X12_number (nx := 5) (v := 3) rfl (by decide) rfl ?_
    refine ev_if f_X12_number (t1 := 14) (t2 := 8) rfl rfl rfl (fun h13 => ?_) (fun h13 => ?_)
    · have u14 : (gi11 69 12).toInt ≤ 3 := t_equ h13 (by decide : (3:Int32).toInt ≤ (3:Int))
      have l15 : 3 ≤ (gi11 69 12).toInt := t_eql h13 (by decide : (3:Int) ≤ (3:Int32).toInt)
      refine ev_loc f_X12_number (nx := 15) rfl rfl rfl rfl ?_
      refine ev_getI f_X12_number (nx := 18) rfl (hI.wf.s rfl) rfl rfl rfl ?_
      refine ev_loc f_X12_number (nx := 19) rfl rfl rfl rfl ?_
      refine ev_if f_X12_number (t1 := 30) (t2 := 22) rfl rfl rfl (fun h16 => ?_) (fun h16 => ?_)
      · have u17 : (gi11 69 15).toInt ≤ (-1) := t_ltu h16 (by decide : (0:Int32).toInt ≤ (0:Int)) rfl
        refine ev_loc f_X12_number (nx := 31) rfl rfl rfl rfl ?_
        refine ev_ic f_X12_number (nx := 32) (v := 4) rfl (by decide) rfl ?_
        refine ev_qI f_X12_number (nx := 35) (r := []) rfl rfl rfl rfl rfl rfl rfl (c_n_fails hI (4) (Int.le_trans (by decide : (2:Int) ≤ 4) (by decide : (4:Int) ≤ (4:Int32).toInt)) (Int.le_trans (by decide : (4:Int32).toInt ≤ (4:Int)) (by decide : (4:Int) ≤ 7))) rfl hX rfl (fun w18 gi18 gl18 gr18 l18 u18 hI hX hC18 q18 => ?_)
        have q18 : (∀ (b : Nat → Int32) (n q : Nat), t_TM b n q gi11 → (gi11 69 18).toInt = 0 → t_MF gi18 (s_fk b n q 4) (s_F b n q)) ∧ w18.toInt = 0 := q18
        refine ev_retK1 f_X12_number rfl rfl (t_rz l18 (Int.le_trans u18 (by decide : (0:Int) ≤ 1))) ?_
        refine ev_t f_X12_once (t1 := 108) (t2 := 79) rfl rfl rfl (t_eqT u18 l18 (by decide : (0:Int32).toInt ≤ (0:Int)) (by decide : (0:Int) ≤ (0:Int32).toInt)) ?_
        refine ev_ic f_X12_once (nx := 109) (v := 0) rfl (by decide) rfl ?_
        exact ev_ret f_X12_once rfl rfl rfl ⟨_, _, _, rfl, hI, hX, ⟨_, rfl, (by decide : (0:Int) ≤ (0:Int32).toInt), (Int.le_trans (by decide : (0:Int32).toInt ≤ (0:Int)) (by decide : (0:Int) ≤ 1)), (show ∀ (b : Nat → Int32) (n q : Nat) (D : s_D), t_MS b n q D gi gl → ((0 : Int) = 1 ∧ ∃ q2 D2, s_frost b n q D = s_ok q2 D2 ∧ t_MS b n q2 D2 gi18 gl18) ∨ ((0 : Int) = 0 ∧ ∃ p x D2, x ≠ 0 ∧ s_frost b n q D = s_bad b n p x D2 ∧ t_MF gi18 (s_fk b n p x) (s_F b n p)) from (by
                                                            intro b n q D h
                                                            have hk : ar1.toInt = (1 : Int) + 1 := by omega
                                                            have hbit := t_mtb h.2.1.2.2.2 (x := (gi 69 20)) rfl (kk := 1) hk (by decide) e1 e2
                                                            have hbit : z2.toInt = D 222 := hbit
                                                            have hz : D 222 = 0 := by
                                                              rcases h.2.1.2.2.2.2.2.1 with e | e
                                                              · exact e
                                                              · rw [e] at hbit; omega
                                                            have t0_ := q11 b n _ (h.1.eq (g1 := g10) (fun j => by rw [e10, x_up2_ne (by decide)]) (fun j j1 j2 => by rw [e10, x_up2_off (Or.inr (by omega))])).S
                                                            have hv := t0_.vF (lo := 0) (hi := 20) (by omega) (by omega)
                                                            exact Or.inr ⟨rfl, _, 4, D, by decide, by simp only [s_frost, s_num, s_kw, s_ifT hz, s_ifT hv.1, s_ifF hv.2], q18.1 b n _ t0_ (by rw [(hC11.1 69 18 rfl).1, e10, x_up2_off (Or.inr (by decide))]; exact h.2.2.1)⟩))⟩⟩
      · have l19 : 0 ≤ (gi11 69 15).toInt := t_lel (t_nlt h16) (by decide : (0:Int) ≤ (0:Int32).toInt)
        refine ev_loc f_X12_number (nx := 23) rfl rfl rfl rfl ?_
        refine ev_gvI f_X12_number (nx := 26) (w := (gi11 69 15)) rfl (hI.wf.s rfl) rfl rfl rfl rfl ?_
        refine ev_loc f_X12_number (nx := 27) rfl rfl rfl rfl ?_
        refine ev_if f_X12_number (t1 := 36) (t2 := 30) rfl rfl rfl (fun h20 => ?_) (fun h20 => ?_)
        · have u21 : (gi11 69 15).toInt ≤ 20 := t_leu h20 (by decide : (20:Int32).toInt ≤ (20:Int))
          refine ev_loc f_X12_number (nx := 37) rfl rfl rfl rfl ?_
          refine ev_getR f_X12_number (nx := 40) rfl (hI.wf.s rfl) rfl rfl (hI.wf.r rfl) rfl rfl ?_
          refine ev_loc f_X12_number (nx := 41) rfl rfl rfl rfl ?_
          refine ev_loc f_X12_number (nx := 42) rfl rfl rfl rfl ?_
          refine ev_gvI f_X12_number (nx := 45) (w := (gi11 69 15)) rfl (hI.wf.s rfl) rfl rfl rfl rfl ?_
          refine ev_iastT f_X12_number (nx := 46) rfl (hI.wf.s rfl) (by decide : (1405:Int) ≤ (1405:Int32).toInt) (by decide) (by decide : (1405:Int32).toInt ≤ (1405:Int)) (by decide) rfl (hI.astL (hI.wf.s rfl) (by decide +kernel : t_abw 70 1405 1405 0 20 = true) (t_cl1 (by decide : (1405:Int) ≤ (1405:Int32).toInt) (by decide)) (t_cl2 (by decide : (1405:Int) ≤ (1405:Int32).toInt) (by decide : (1405:Int32).toInt ≤ (1405:Int)) (by decide) (by decide)) l19 u21 rfl) (hX.upI (t_inR (p := 1405) (m := 1405) rfl (by decide : (1405:Int) ≤ (1405:Int32).toInt) (by decide) (by decide : (1405:Int32).toInt ≤ (1405:Int)) (by decide) (by decide))) (fun g22 e22 hI hX => ?_)
          refine ev_loc f_X12_number (nx := 47) rfl rfl rfl rfl ?_
          refine ev_qN f_X12_number (nx := 50) (r := []) rfl rfl rfl rfl rfl rfl rfl (c_n_ahead hI ) rfl hX rfl (fun gi23 gl23 gr23 hI hX hC23 q23 => ?_)
          have q23 : ∀ (b : Nat → Int32) (n q : Nat), t_Sm b n q g22 → t_TM b n q gi23 := q23
          refine ev_ic f_X12_number (nx := 51) (v := 1) rfl (by decide) rfl ?_
          refine ev_retK1 f_X12_number rfl rfl rfl ?_
          refine ev_f f_X12_once (t1 := 108) (t2 := 79) rfl rfl rfl (by decide) ?_
          refine ev_loc f_X12_once (nx := 80) rfl rfl rfl rfl ?_
          refine ev_heap f_X12_once (nx := 82) rfl rfl rfl rfl ?_
          refine ev_bp f_X12_once (nx := 84) (v := 7) rfl (by decide) rfl ?_
          refine ev_qI f_X12_once (nx := 87) (r := []) rfl rfl rfl rfl rfl rfl rfl (c_n_wantWord hI (7)) rfl hX rfl (fun w24 gi24 gl24 gr24 l24 u24 hI hX hC24 q24 => ?_)
          have q24 : ∀ (b : Nat → Int32) (n q : Nat), t_TM b n q gi23 → (w24.toInt = 1 ∧ s_mi (s_W b n q) = 7 ∧ t_TM b n (s_E b n q) gi24 ∧ t_mf gi23 gi24) ∨ (w24.toInt = 0 ∧ ¬ s_mi (s_W b n q) = 7 ∧ ((gi23 69 18).toInt = 0 → t_MF gi24 (s_fk b n q 2) (s_F b n q))) := q24
          refine ev_if f_X12_once (t1 := 108) (t2 := 90) rfl rfl rfl (fun h25 => ?_) (fun h25 => ?_)
          · have u26 : w24.toInt ≤ 0 := t_equ h25 (by decide : (0:Int32).toInt ≤ (0:Int))
            refine ev_ic f_X12_once (nx := 109) (v := 0) rfl (by decide) rfl ?_
            exact ev_ret f_X12_once rfl rfl rfl ⟨_, _, _, rfl, hI, hX, ⟨_, rfl, (by decide : (0:Int) ≤ (0:Int32).toInt), (Int.le_trans (by decide : (0:Int32).toInt ≤ (0:Int)) (by decide : (0:Int) ≤ 1)), (show ∀ (b : Nat → Int32) (n q : Nat) (D : s_D), t_MS b n q D gi gl → ((0 : Int) = 1 ∧ ∃ q2 D2, s_frost b n q D = s_ok q2 D2 ∧ t_MS b n q2 D2 gi24 gl24) ∨ ((0 : Int) = 0 ∧ ∃ p x D2, x ≠ 0 ∧ s_frost b n q D = s_bad b n p x D2 ∧ t_MF gi24 (s_fk b n p x) (s_F b n p)) from (by
                                                            intro b n q D h
                                                            have hk : ar1.toInt = (1 : Int) + 1 := by omega
                                                            have hbit := t_mtb h.2.1.2.2.2 (x := (gi 69 20)) rfl (kk := 1) hk (by decide) e1 e2
                                                            have hbit : z2.toInt = D 222 := hbit
                                                            have hz : D 222 = 0 := by
                                                              rcases h.2.1.2.2.2.2.2.1 with e | e
                                                              · exact e
                                                              · rw [e] at hbit; omega
                                                            have t0_ := q11 b n _ (h.1.eq (g1 := g10) (fun j => by rw [e10, x_up2_ne (by decide)]) (fun j j1 j2 => by rw [e10, x_up2_off (Or.inr (by omega))])).S
                                                            have v1 := t0_.vT (lo := 0) (hi := 20) (by omega) (by omega) (by omega)
                                                            have t1_ := q23 b n _ (t0_.st e22).S
                                                            rcases q24 b n _ t1_ with hh | hh
                                                            · exact absurd hh.1 (by omega)
                                                            · exact Or.inr ⟨rfl, _, 2, D, by decide, by simp only [s_frost, s_num, s_kw, s_ifT hz, s_ifT v1.1.1, s_ifT v1.1, s_ifF (fun hw => hh.2.1 ((s_mi_W (i := 4) (by decide)).mpr hw))], hh.2.2 (by rw [(hC23.1 69 18 rfl).1, e22, x_up2_ne (by decide), (hC11.1 69 18 rfl).1, e10, x_up2_off (Or.inr (by decide))]; exact h.2.2.1)⟩))⟩⟩
          · have r27 : w24.toInt ≠ 0 := fun e => h25 (Int32.toInt_inj.mp (e.trans (by decide : (0:Int) = (0 : Int32).toInt)))
            have l28 : 1 ≤ w24.toInt := t_nel h25 l24 rfl rfl
            refine ev_loc f_X12_once (nx := 91) rfl rfl rfl rfl ?_
            refine ev_sp f_X12_once (nx := 94) (v := 1406) rfl (by decide) rfl ?_
            refine ev_ic f_X12_once (nx := 95) (v := 0) rfl (by decide) rfl ?_
            refine ev_sp f_X12_once (nx := 98) (v := 200) rfl (by decide) rfl ?_
            refine ev_inV4 f_X12_once (nx := 101) (lo2 := [(0, .ref 69), (1, .int 1406), (2, .int 0), (3, .int 200)]) rfl rfl rfl rfl f_X12_number (hI.wf.s rfl) rfl rfl rfl rfl rfl ?_
            refine ev_loc f_X12_number (nx := 1) rfl rfl rfl rfl ?_
            refine ev_getI f_X12_number (nx := 4) rfl (hI.wf.s rfl) rfl rfl rfl ?_
            obtain ⟨l29, u29⟩ := hI.b (hI.wf.s (k := 69) rfl) (t_bdK rfl : t_bd 11 12 = some (0, 4))
            refine ev_ic f_X12_number (nx := 5) (v := 3) rfl (by decide) rfl ?_
            refine ev_if f_X12_number (t1 := 14) (t2 := 8) rfl rfl rfl (fun h30 => ?_) (fun h30 => ?_)
            · have u31 : (gi24 69 12).toInt ≤ 3 := t_equ h30 (by decide : (3:Int32).toInt ≤ (3:Int))
              have l32 : 3 ≤ (gi24 69 12).toInt := t_eql h30 (by decide : (3:Int) ≤ (3:Int32).toInt)
              refine ev_loc f_X12_number (nx := 15) rfl rfl rfl rfl ?_
              refine ev_getI f_X12_number (nx := 18) rfl (hI.wf.s rfl) rfl rfl rfl ?_
              refine ev_loc f_X12_number (nx := 19) rfl rfl rfl rfl ?_
              refine ev_if f_X12_number (t1 := 30) (t2 := 22) rfl rfl rfl (fun h33 => ?_) (fun h33 => ?_)
              · have u34 : (gi24 69 15).toInt ≤ (-1) := t_ltu h33 (by decide : (0:Int32).toInt ≤ (0:Int)) rfl
                refine ev_loc f_X12_number (nx := 31) rfl rfl rfl rfl ?_
                refine ev_ic f_X12_number (nx := 32) (v := 4) rfl (by decide) rfl ?_
                refine ev_qI f_X12_number (nx := 35) (r := []) rfl rfl rfl rfl rfl rfl rfl (c_n_fails hI (4) (Int.le_trans (by decide : (2:Int) ≤ 4) (by decide : (4:Int) ≤ (4:Int32).toInt)) (Int.le_trans (by decide : (4:Int32).toInt ≤ (4:Int)) (by decide : (4:Int) ≤ 7))) rfl hX rfl (fun w35 gi35 gl35 gr35 l35 u35 hI hX hC35 q35 => ?_)
                have q35 : (∀ (b : Nat → Int32) (n q : Nat), t_TM b n q gi24 → (gi24 69 18).toInt = 0 → t_MF gi35 (s_fk b n q 4) (s_F b n q)) ∧ w35.toInt = 0 := q35
                refine ev_retK1 f_X12_number rfl rfl (t_rz l35 (Int.le_trans u35 (by decide : (0:Int) ≤ 1))) ?_
                refine ev_t f_X12_once (t1 := 108) (t2 := 104) rfl rfl rfl (t_eqT u35 l35 (by decide : (0:Int32).toInt ≤ (0:Int)) (by decide : (0:Int) ≤ (0:Int32).toInt)) ?_
                refine ev_ic f_X12_once (nx := 109) (v := 0) rfl (by decide) rfl ?_
                exact ev_ret f_X12_once rfl rfl rfl ⟨_, _, _, rfl, hI, hX, ⟨_, rfl, (by decide : (0:Int) ≤ (0:Int32).toInt), (Int.le_trans (by decide : (0:Int32).toInt ≤ (0:Int)) (by decide : (0:Int) ≤ 1)), (show ∀ (b : Nat → Int32) (n q : Nat) (D : s_D), t_MS b n q D gi gl → ((0 : Int) = 1 ∧ ∃ q2 D2, s_frost b n q D = s_ok q2 D2 ∧ t_MS b n q2 D2 gi35 gl35) ∨ ((0 : Int) = 0 ∧ ∃ p x D2, x ≠ 0 ∧ s_frost b n q D = s_bad b n p x D2 ∧ t_MF gi35 (s_fk b n p x) (s_F b n p)) from (by
                                                            intro b n q D h
                                                            have hk : ar1.toInt = (1 : Int) + 1 := by omega
                                                            have hbit := t_mtb h.2.1.2.2.2 (x := (gi 69 20)) rfl (kk := 1) hk (by decide) e1 e2
                                                            have hbit : z2.toInt = D 222 := hbit
                                                            have hz : D 222 = 0 := by
                                                              rcases h.2.1.2.2.2.2.2.1 with e | e
                                                              · exact e
                                                              · rw [e] at hbit; omega
                                                            have t0_ := q11 b n _ (h.1.eq (g1 := g10) (fun j => by rw [e10, x_up2_ne (by decide)]) (fun j j1 j2 => by rw [e10, x_up2_off (Or.inr (by omega))])).S
                                                            have v1 := t0_.vT (lo := 0) (hi := 20) (by omega) (by omega) (by omega)
                                                            have t1_ := q23 b n _ (t0_.st e22).S
                                                            obtain ⟨_, w2, t2_, m2⟩ := (q24 b n _ t1_).resolve_right (fun hh => absurd hh.1 (by omega))
                                                            have k2 := (s_mi_W (i := 4) (by decide)).mp w2
                                                            have hv := t2_.vF (lo := 0) (hi := 200) (by omega) (by omega)
                                                            exact Or.inr ⟨rfl, _, 4, D, by decide, by simp only [s_frost, s_num, s_kw, s_ifT hz, s_ifT v1.1.1, s_ifT v1.1, s_ifT k2, s_ifT hv.1, s_ifF hv.2], q35.1 b n _ t2_ (by rw [m2.1, (hC23.1 69 18 rfl).1, e22, x_up2_ne (by decide), (hC11.1 69 18 rfl).1, e10, x_up2_off (Or.inr (by decide))]; exact h.2.2.1)⟩))⟩⟩
              · have l36 : 0 ≤ (gi24 69 15).toInt := t_lel (t_nlt h33) (by decide : (0:Int) ≤ (0:Int32).toInt)
                refine ev_loc f_X12_number (nx := 23) rfl rfl rfl rfl ?_
                refine ev_gvI f_X12_number (nx := 26) (w := (gi24 69 15)) rfl (hI.wf.s rfl) rfl rfl rfl rfl ?_
                refine ev_loc f_X12_number (nx := 27) rfl rfl rfl rfl ?_
                refine ev_if f_X12_number (t1 := 36) (t2 := 30) rfl rfl rfl (fun h37 => ?_) (fun h37 => ?_)
                · have u38 : (gi24 69 15).toInt ≤ 200 := t_leu h37 (by decide : (200:Int32).toInt ≤ (200:Int))
                  refine ev_loc f_X12_number (nx := 37) rfl rfl rfl rfl ?_
                  refine ev_getR f_X12_number (nx := 40) rfl (hI.wf.s rfl) rfl rfl (hI.wf.r rfl) rfl rfl ?_
                  refine ev_loc f_X12_number (nx := 41) rfl rfl rfl rfl ?_
                  refine ev_loc f_X12_number (nx := 42) rfl rfl rfl rfl ?_
                  refine ev_gvI f_X12_number (nx := 45) (w := (gi24 69 15)) rfl (hI.wf.s rfl) rfl rfl rfl rfl ?_
                  refine ev_iastT f_X12_number (nx := 46) rfl (hI.wf.s rfl) (by decide : (1406:Int) ≤ (1406:Int32).toInt) (by decide) (by decide : (1406:Int32).toInt ≤ (1406:Int)) (by decide) rfl (hI.astL (hI.wf.s rfl) (by decide +kernel : t_abw 70 1406 1406 0 200 = true) (t_cl1 (by decide : (1406:Int) ≤ (1406:Int32).toInt) (by decide)) (t_cl2 (by decide : (1406:Int) ≤ (1406:Int32).toInt) (by decide : (1406:Int32).toInt ≤ (1406:Int)) (by decide) (by decide)) l36 u38 rfl) (hX.upI (t_inR (p := 1406) (m := 1406) rfl (by decide : (1406:Int) ≤ (1406:Int32).toInt) (by decide) (by decide : (1406:Int32).toInt ≤ (1406:Int)) (by decide) (by decide))) (fun g39 e39 hI hX => ?_)
                  refine ev_loc f_X12_number (nx := 47) rfl rfl rfl rfl ?_
                  refine ev_qN f_X12_number (nx := 50) (r := []) rfl rfl rfl rfl rfl rfl rfl (c_n_ahead hI ) rfl hX rfl (fun gi40 gl40 gr40 hI hX hC40 q40 => ?_)
                  have q40 : ∀ (b : Nat → Int32) (n q : Nat), t_Sm b n q g39 → t_TM b n q gi40 := q40
                  refine ev_ic f_X12_number (nx := 51) (v := 1) rfl (by decide) rfl ?_
                  refine ev_retK1 f_X12_number rfl rfl rfl ?_
                  refine ev_f f_X12_once (t1 := 108) (t2 := 104) rfl rfl rfl (by decide) ?_
                  refine ev_ic f_X12_once (nx := 105) (v := 1) rfl (by decide) rfl ?_
                  refine ev_jmp f_X12_once (nx := 109) rfl rfl rfl ?_
                  exact ev_ret f_X12_once rfl rfl rfl ⟨_, _, _, rfl, hI, hX, ⟨_, rfl, (Int.le_trans (by decide : (0:Int) ≤ 1) (by decide : (1:Int) ≤ (1:Int32).toInt)), (by decide : (1:Int32).toInt ≤ (1:Int)), (show ∀ (b : Nat → Int32) (n q : Nat) (D : s_D), t_MS b n q D gi gl → ((1 : Int) = 1 ∧ ∃ q2 D2, s_frost b n q D = s_ok q2 D2 ∧ t_MS b n q2 D2 gi40 gl40) ∨ ((1 : Int) = 0 ∧ ∃ p x D2, x ≠ 0 ∧ s_frost b n q D = s_bad b n p x D2 ∧ t_MF gi40 (s_fk b n p x) (s_F b n p)) from (by
                                                            intro b n q D h
                                                            have hk : ar1.toInt = (1 : Int) + 1 := by omega
                                                            have hbit := t_mtb h.2.1.2.2.2 (x := (gi 69 20)) rfl (kk := 1) hk (by decide) e1 e2
                                                            have hbit : z2.toInt = D 222 := hbit
                                                            have hz : D 222 = 0 := by
                                                              rcases h.2.1.2.2.2.2.2.1 with e | e
                                                              · exact e
                                                              · rw [e] at hbit; omega
                                                            have t0_ := q11 b n _ (h.1.eq (g1 := g10) (fun j => by rw [e10, x_up2_ne (by decide)]) (fun j j1 j2 => by rw [e10, x_up2_off (Or.inr (by omega))])).S
                                                            have v1 := t0_.vT (lo := 0) (hi := 20) (by omega) (by omega) (by omega)
                                                            have t1_ := q23 b n _ (t0_.st e22).S
                                                            obtain ⟨_, w2, t2_, m2⟩ := (q24 b n _ t1_).resolve_right (fun hh => absurd hh.1 (by omega))
                                                            have k2 := (s_mi_W (i := 4) (by decide)).mp w2
                                                            have v3 := t2_.vT (lo := 0) (hi := 200) (by omega) (by omega) (by omega)
                                                            have t3_ := q40 b n _ (t2_.st e39).S
                                                            have kc1405_ : (1405 : Int32).toNatClampNeg = 1405 := rfl
                                                            have kc1406_ : (1406 : Int32).toNatClampNeg = 1406 := rfl
                                                            have y5 : (gi40 70 1405).toInt = s_V b n (s_E b n q) := by
                                                              rw [(hC40.1 70 _ rfl).1, e39, x_up2_off (Or.inr (by omega)), (hC24.1 70 _ rfl).1, (hC23.1 70 _ rfl).1, e22]
                                                              rw [show 1405 = (1405 : Int32).toNatClampNeg from rfl, x_up2_at]; exact v1.2
                                                            have y6 : (gi40 70 1406).toInt = s_V b n (s_E b n (s_E b n (s_E b n q))) := by
                                                              rw [(hC40.1 70 _ rfl).1, e39]
                                                              rw [show 1406 = (1406 : Int32).toNatClampNeg from rfl, x_up2_at]; exact v3.2
                                                            have yr : ∀ j, (∀ x, x ∈ [1405, 1406] → j ≠ x) → gi40 70 j = gi 70 j := fun j j1 => by
                                                              rw [(hC40.1 70 _ rfl).1, e39, x_up2_off (Or.inr (j1 _ (by decide))), (hC24.1 70 _ rfl).1, (hC23.1 70 _ rfl).1, e22, x_up2_off (Or.inr (j1 _ (by decide))), (hC11.1 70 _ rfl).1, e10, x_up2_ne (by decide)]
                                                            have y4 : (gi40 70 1404).toInt = D 4 := by rw [yr _ (by decide)]; exact h.2.1.2.1.1.2.1
                                                            have y7 : (gi40 70 1407).toInt = D 7 := by rw [yr _ (by decide)]; exact h.2.1.2.1.1.2.2.2.2
                                                            have ybit := t_mts h.2.1.2.2.2 (x := (gi 69 20)) rfl (kk := 1) hk (by decide) hz (p := 4) rfl (by omega) e9
                                                            have y20 : gi40 69 20 = z9 := by rw [(hC40.1 69 20 rfl).1, e39, x_up2_ne (by decide), (hC24.1 69 20 rfl).1, (hC23.1 69 20 rfl).1, e22, x_up2_ne (by decide), (hC11.1 69 20 rfl).1, e10, x_up2_at]
                                                            have hm : t_Mt gi40 (s_set (s_set (s_set D 222 1) 5 (s_V b n (s_E b n q))) 6 (s_V b n (s_E b n (s_E b n (s_E b n q))))) := by
                                                              obtain ⟨x0, x1, x2, x3⟩ := h.2.1.2.2.2
                                                              have s1 : (s_set (s_set (s_set D 222 1) 5 (s_V b n (s_E b n q))) 6 (s_V b n (s_E b n (s_E b n (s_E b n q))))) 221 = D 221 := rfl
                                                              have s2 : (s_set (s_set (s_set D 222 1) 5 (s_V b n (s_E b n q))) 6 (s_V b n (s_E b n (s_E b n (s_E b n q))))) 222 = 1 := rfl
                                                              have s3 : (s_set (s_set (s_set D 222 1) 5 (s_V b n (s_E b n q))) 6 (s_V b n (s_E b n (s_E b n (s_E b n q))))) 223 = D 223 := rfl
                                                              refine ⟨?_, by rw [s1]; omega, by rw [s2]; omega, by rw [s3]; omega⟩
                                                              have hp : (2 : Int) ^ (1 + 1) = 4 := rfl
                                                              rw [hp] at ybit
                                                              rw [y20, ybit, s1, s2, s3, x0]; omega
                                                            exact Or.inl ⟨rfl, _, (s_set (s_set (s_set D 222 1) 5 (s_V b n (s_E b n q))) 6 (s_V b n (s_E b n (s_E b n (s_E b n q))))), by simp only [s_frost, s_num, s_kw, s_ifT hz, s_ifT v1.1.1, s_ifT v1.1, s_ifT k2, s_ifT v3.1.1, s_ifT v3.1], t_MS_tel h t3_ ⟨by rw [(hC40.1 69 18 rfl).1, e39, x_up2_ne (by decide), m2.1, (hC23.1 69 18 rfl).1, e22, x_up2_ne (by decide), (hC11.1 69 18 rfl).1, e10, x_up2_off (Or.inr (by decide))], by rw [(hC40.1 69 17 rfl).1, e39, x_up2_ne (by decide), m2.2, (hC23.1 69 17 rfl).1, e22, x_up2_ne (by decide), (hC11.1 69 17 rfl).1, e10, x_up2_off (Or.inr (by decide))]⟩ (fun j hj => yr j (fun x hx => by simp only [List.mem_cons, List.not_mem_nil, or_false] at hx; omega)) y4 y5 y6 y7 (fun j => by rw [(hC40.1 71 j rfl).2.1, (hC24.1 71 j rfl).2.1, (hC23.1 71 j rfl).2.1, (hC11.1 71 j rfl).2.1]) (fun j hj => (by unfold s_set; rw [if_neg (by omega), if_neg (by omega), if_neg (by omega)])) hm⟩))⟩⟩
                · have l41 : 201 ≤ (gi24 69 15).toInt := t_ltl (t_nle h37) (by decide : (200:Int) ≤ (200:Int32).toInt) rfl
                  refine ev_loc f_X12_number (nx := 31) rfl rfl rfl rfl ?_
                  refine ev_ic f_X12_number (nx := 32) (v := 4) rfl (by decide) rfl ?_
                  refine ev_qI f_X12_number (nx := 35) (r := []) rfl rfl rfl rfl rfl rfl rfl (c_n_fails hI (4) (Int.le_trans (by decide : (2:Int) ≤ 4) (by decide : (4:Int) ≤ (4:Int32).toInt)) (Int.le_trans (by decide : (4:Int32).toInt ≤ (4:Int)) (by decide : (4:Int) ≤ 7))) rfl hX rfl (fun w42 gi42 gl42 gr42 l42 u42 hI hX hC42 q42 => ?_)
                  have q42 : (∀ (b : Nat → Int32) (n q : Nat), t_TM b n q gi24 → (gi24 69 18).toInt = 0 → t_MF gi42 (s_fk b n q 4) (s_F b n q)) ∧ w42.toInt = 0 := q42
                  refine ev_retK1 f_X12_number rfl rfl (t_rz l42 (Int.le_trans u42 (by decide : (0:Int) ≤ 1))) ?_
                  refine ev_t f_X12_once (t1 := 108) (t2 := 104) rfl rfl rfl (t_eqT u42 l42 (by decide : (0:Int32).toInt ≤ (0:Int)) (by decide : (0:Int) ≤ (0:Int32).toInt)) ?_
                  refine ev_ic f_X12_once (nx := 109) (v := 0) rfl (by decide) rfl ?_
                  exact ev_ret f_X12_once rfl rfl rfl ⟨_, _, _, rfl, hI, hX, ⟨_, rfl, (by decide : (0:Int) ≤ (0:Int32).toInt), (Int.le_trans (by decide : (0:Int32).toInt ≤ (0:Int)) (by decide : (0:Int) ≤ 1)), (show ∀ (b : Nat → Int32) (n q : Nat) (D : s_D), t_MS b n q D gi gl → ((0 : Int) = 1 ∧ ∃ q2 D2, s_frost b n q D = s_ok q2 D2 ∧ t_MS b n q2 D2 gi42 gl42) ∨ ((0 : Int) = 0 ∧ ∃ p x D2, x ≠ 0 ∧ s_frost b n q D = s_bad b n p x D2 ∧ t_MF gi42 (s_fk b n p x) (s_F b n p)) from (by
                                                            intro b n q D h
                                                            have hk : ar1.toInt = (1 : Int) + 1 := by omega
                                                            have hbit := t_mtb h.2.1.2.2.2 (x := (gi 69 20)) rfl (kk := 1) hk (by decide) e1 e2
                                                            have hbit : z2.toInt = D 222 := hbit
                                                            have hz : D 222 = 0 := by
                                                              rcases h.2.1.2.2.2.2.2.1 with e | e
                                                              · exact e
                                                              · rw [e] at hbit; omega
                                                            have t0_ := q11 b n _ (h.1.eq (g1 := g10) (fun j => by rw [e10, x_up2_ne (by decide)]) (fun j j1 j2 => by rw [e10, x_up2_off (Or.inr (by omega))])).S
                                                            have v1 := t0_.vT (lo := 0) (hi := 20) (by omega) (by omega) (by omega)
                                                            have t1_ := q23 b n _ (t0_.st e22).S
                                                            obtain ⟨_, w2, t2_, m2⟩ := (q24 b n _ t1_).resolve_right (fun hh => absurd hh.1 (by omega))
                                                            have k2 := (s_mi_W (i := 4) (by decide)).mp w2
                                                            have hv := t2_.vF (lo := 0) (hi := 200) (by omega) (by omega)
                                                            exact Or.inr ⟨rfl, _, 4, D, by decide, by simp only [s_frost, s_num, s_kw, s_ifT hz, s_ifT v1.1.1, s_ifT v1.1, s_ifT k2, s_ifT hv.1, s_ifF hv.2], q42.1 b n _ t2_ (by rw [m2.1, (hC23.1 69 18 rfl).1, e22, x_up2_ne (by decide), (hC11.1 69 18 rfl).1, e10, x_up2_off (Or.inr (by decide))]; exact h.2.2.1)⟩))⟩⟩
            · have r43 : (gi24 69 12).toInt ≠ 3 := fun e => h30 (Int32.toInt_inj.mp (e.trans (by decide : (3:Int) = (3 : Int32).toInt)))
              refine ev_loc f_X12_number (nx := 9) rfl rfl rfl rfl ?_
              refine ev_ic f_X12_number (nx := 10) (v := 2) rfl (by decide) rfl ?_
              refine ev_qI f_X12_number (nx := 13) (r := []) rfl rfl rfl rfl rfl rfl rfl (c_n_fails hI (2) (by decide : (2:Int) ≤ (2:Int32).toInt) (Int.le_trans (by decide : (2:Int32).toInt ≤ (2:Int)) (by decide : (2:Int) ≤ 7))) rfl hX rfl (fun w44 gi44 gl44 gr44 l44 u44 hI hX hC44 q44 => ?_)
              have q44 : (∀ (b : Nat → Int32) (n q : Nat), t_TM b n q gi24 → (gi24 69 18).toInt = 0 → t_MF gi44 (s_fk b n q 2) (s_F b n q)) ∧ w44.toInt = 0 := q44
              refine ev_retK1 f_X12_number rfl rfl (t_rz l44 (Int.le_trans u44 (by decide : (0:Int) ≤ 1))) ?_
              refine ev_t f_X12_once (t1 := 108) (t2 := 104) rfl rfl rfl (t_eqT u44 l44 (by decide : (0:Int32).toInt ≤ (0:Int)) (by decide : (0:Int) ≤ (0:Int32).toInt)) ?_
              refine ev_ic f_X12_once (nx := 109) (v := 0) rfl (by decide) rfl ?_
              exact ev_ret f_X12_once rfl rfl rfl ⟨_, _, _, rfl, hI, hX, ⟨_, rfl, (by decide : (0:Int) ≤ (0:Int32).toInt), (Int.le_trans (by decide : (0:Int32).toInt ≤ (0:Int)) (by decide : (0:Int) ≤ 1)), (show ∀ (b : Nat → Int32) (n q : Nat) (D : s_D), t_MS b n q D gi gl → ((0 : Int) = 1 ∧ ∃ q2 D2, s_frost b n q D = s_ok q2 D2 ∧ t_MS b n q2 D2 gi44 gl44) ∨ ((0 : Int) = 0 ∧ ∃ p x D2, x ≠ 0 ∧ s_frost b n q D = s_bad b n p x D2 ∧ t_MF gi44 (s_fk b n p x) (s_F b n p)) from (by
                                                            intro b n q D h
                                                            have hk : ar1.toInt = (1 : Int) + 1 := by omega
                                                            have hbit := t_mtb h.2.1.2.2.2 (x := (gi 69 20)) rfl (kk := 1) hk (by decide) e1 e2
                                                            have hbit : z2.toInt = D 222 := hbit
                                                            have hz : D 222 = 0 := by
                                                              rcases h.2.1.2.2.2.2.2.1 with e | e
                                                              · exact e
                                                              · rw [e] at hbit; omega
                                                            have t0_ := q11 b n _ (h.1.eq (g1 := g10) (fun j => by rw [e10, x_up2_ne (by decide)]) (fun j j1 j2 => by rw [e10, x_up2_off (Or.inr (by omega))])).S
                                                            have v1 := t0_.vT (lo := 0) (hi := 20) (by omega) (by omega) (by omega)
                                                            have t1_ := q23 b n _ (t0_.st e22).S
                                                            obtain ⟨_, w2, t2_, m2⟩ := (q24 b n _ t1_).resolve_right (fun hh => absurd hh.1 (by omega))
                                                            have k2 := (s_mi_W (i := 4) (by decide)).mp w2
                                                            exact Or.inr ⟨rfl, _, 2, D, by decide, by simp only [s_frost, s_num, s_kw, s_ifT hz, s_ifT v1.1.1, s_ifT v1.1, s_ifT k2, s_ifF (t2_.vK (by omega))], q44.1 b n _ t2_ (by rw [m2.1, (hC23.1 69 18 rfl).1, e22, x_up2_ne (by decide), (hC11.1 69 18 rfl).1, e10, x_up2_off (Or.inr (by decide))]; exact h.2.2.1)⟩))⟩⟩
        · have l45 : 21 ≤ (gi11 69 15).toInt := t_ltl (t_nle h20) (by decide : (20:Int) ≤ (20:Int32).toInt) rfl
          refine ev_loc f_X12_number (nx := 31) rfl rfl rfl rfl ?_
          refine ev_ic f_X12_number (nx := 32) (v := 4) rfl (by decide) rfl ?_
          refine ev_qI f_X12_number (nx := 35) (r := []) rfl rfl rfl rfl rfl rfl rfl (c_n_fails hI (4) (Int.le_trans (by decide : (2:Int) ≤ 4) (by decide : (4:Int) ≤ (4:Int32).toInt)) (Int.le_trans (by decide : (4:Int32).toInt ≤ (4:Int)) (by decide : (4:Int) ≤ 7))) rfl hX rfl (fun w46 gi46 gl46 gr46 l46 u46 hI hX hC46 q46 => ?_)
          have q46 : (∀ (b : Nat → Int32) (n q : Nat), t_TM b n q gi11 → (gi11 69 18).toInt = 0 → t_MF gi46 (s_fk b n q 4) (s_F b n q)) ∧ w46.toInt = 0 := q46
          refine ev_retK1 f_X12_number rfl rfl (t_rz l46 (Int.le_trans u46 (by decide : (0:Int) ≤ 1))) ?_
          refine ev_t f_X12_once (t1 := 108) (t2 := 79) rfl rfl rfl (t_eqT u46 l46 (by decide : (0:Int32).toInt ≤ (0:Int)) (by decide : (0:Int) ≤ (0:Int32).toInt)) ?_
          refine ev_ic f_X12_once (nx := 109) (v := 0) rfl (by decide) rfl ?_
          exact ev_ret f_X12_once rfl rfl rfl ⟨_, _, _, rfl, hI, hX, ⟨_, rfl, (by decide : (0:Int) ≤ (0:Int32).toInt), (Int.le_trans (by decide : (0:Int32).toInt ≤ (0:Int)) (by decide : (0:Int) ≤ 1)), (show ∀ (b : Nat → Int32) (n q : Nat) (D : s_D), t_MS b n q D gi gl → ((0 : Int) = 1 ∧ ∃ q2 D2, s_frost b n q D = s_ok q2 D2 ∧ t_MS b n q2 D2 gi46 gl46) ∨ ((0 : Int) = 0 ∧ ∃ p x D2, x ≠ 0 ∧ s_frost b n q D = s_bad b n p x D2 ∧ t_MF gi46 (s_fk b n p x) (s_F b n p)) from (by
                                                            intro b n q D h
                                                            have hk : ar1.toInt = (1 : Int) + 1 := by omega
                                                            have hbit := t_mtb h.2.1.2.2.2 (x := (gi 69 20)) rfl (kk := 1) hk (by decide) e1 e2
                                                            have hbit : z2.toInt = D 222 := hbit
                                                            have hz : D 222 = 0 := by
                                                              rcases h.2.1.2.2.2.2.2.1 with e | e
                                                              · exact e
                                                              · rw [e] at hbit; omega
                                                            have t0_ := q11 b n _ (h.1.eq (g1 := g10) (fun j => by rw [e10, x_up2_ne (by decide)]) (fun j j1 j2 => by rw [e10, x_up2_off (Or.inr (by omega))])).S
                                                            have hv := t0_.vF (lo := 0) (hi := 20) (by omega) (by omega)
                                                            exact Or.inr ⟨rfl, _, 4, D, by decide, by simp only [s_frost, s_num, s_kw, s_ifT hz, s_ifT hv.1, s_ifF hv.2], q46.1 b n _ t0_ (by rw [(hC11.1 69 18 rfl).1, e10, x_up2_off (Or.inr (by decide))]; exact h.2.2.1)⟩))⟩⟩
    · have r47 : (gi11 69 12).toInt ≠ 3 := fun e => h13 (Int32.toInt_inj.mp (e.trans (by decide : (3:Int) = (3 : Int32).toInt)))
      refine ev_loc f_X12_number (nx := 9) rfl rfl rfl rfl ?_
      refine ev_ic f_X12_number (nx := 10) (v := 2) rfl (by decide) rfl ?_
      refine ev_qI f_X12_number (nx := 13) (r := []) rfl rfl rfl rfl rfl rfl rfl (c_n_fails hI (2) (by decide : (2:Int) ≤ (2:Int32).toInt) (Int.le_trans (by decide : (2:Int32).toInt ≤ (2:Int)) (by decide : (2:Int) ≤ 7))) rfl hX rfl (fun w48 gi48 gl48 gr48 l48 u48 hI hX hC48 q48 => ?_)
      have q48 : (∀ (b : Nat → Int32) (n q : Nat), t_TM b n q gi11 → (gi11 69 18).toInt = 0 → t_MF gi48 (s_fk b n q 2) (s_F b n q)) ∧ w48.toInt = 0 := q48
      refine ev_retK1 f_X12_number rfl rfl (t_rz l48 (Int.le_trans u48 (by decide : (0:Int) ≤ 1))) ?_
      refine ev_t f_X12_once (t1 := 108) (t2 := 79) rfl rfl rfl (t_eqT u48 l48 (by decide : (0:Int32).toInt ≤ (0:Int)) (by decide : (0:Int) ≤ (0:Int32).toInt)) ?_
      refine ev_ic f_X12_once (nx := 109) (v := 0) rfl (by decide) rfl ?_
      exact ev_ret f_X12_once rfl rfl rfl ⟨_, _, _, rfl, hI, hX, ⟨_, rfl, (by decide : (0:Int) ≤ (0:Int32).toInt), (Int.le_trans (by decide : (0:Int32).toInt ≤ (0:Int)) (by decide : (0:Int) ≤ 1)), (show ∀ (b : Nat → Int32) (n q : Nat) (D : s_D), t_MS b n q D gi gl → ((0 : Int) = 1 ∧ ∃ q2 D2, s_frost b n q D = s_ok q2 D2 ∧ t_MS b n q2 D2 gi48 gl48) ∨ ((0 : Int) = 0 ∧ ∃ p x D2, x ≠ 0 ∧ s_frost b n q D = s_bad b n p x D2 ∧ t_MF gi48 (s_fk b n p x) (s_F b n p)) from (by
                                                            intro b n q D h
                                                            have hk : ar1.toInt = (1 : Int) + 1 := by omega
                                                            have hbit := t_mtb h.2.1.2.2.2 (x := (gi 69 20)) rfl (kk := 1) hk (by decide) e1 e2
                                                            have hbit : z2.toInt = D 222 := hbit
                                                            have hz : D 222 = 0 := by
                                                              rcases h.2.1.2.2.2.2.2.1 with e | e
                                                              · exact e
                                                              · rw [e] at hbit; omega
                                                            have t0_ := q11 b n _ (h.1.eq (g1 := g10) (fun j => by rw [e10, x_up2_ne (by decide)]) (fun j j1 j2 => by rw [e10, x_up2_off (Or.inr (by omega))])).S
                                                            exact Or.inr ⟨rfl, _, 2, D, by decide, by simp only [s_frost, s_num, s_kw, s_ifT hz, s_ifF (t0_.vK (by omega))], q48.1 b n _ t0_ (by rw [(hC11.1 69 18 rfl).1, e10, x_up2_off (Or.inr (by decide))]; exact h.2.2.1)⟩))⟩⟩
noncomputable def wl_n_once3 : List (Nat × Nat) := [(69, 12), (69, 13), (69, 14), (69, 15), (69, 17), (69, 18), (69, 20), (70, 140711407)]
noncomputable def Q_n_once3 (gi : Nat → Nat → Int32) (gl : Nat → Nat → Int64) (gr : Nat → Nat → Value) (ar1 : Int32) : Int32 → (Nat → Nat → Int32) → (Nat → Nat → Int64) → (Nat → Nat → Value) → Prop := fun (v : Int32) (gi2 : Nat → Nat → Int32) (gl2 : Nat → Nat → Int64) (gr2 : Nat → Nat → Value) => ∀ (b : Nat → Int32) (n q : Nat) (D : s_D), t_MS b n q D gi gl → (v.toInt = 1 ∧ ∃ q2 D2, s_echo b n q D = s_ok q2 D2 ∧ t_MS b n q2 D2 gi2 gl2) ∨ (v.toInt = 0 ∧ ∃ p x D2, x ≠ 0 ∧ s_echo b n q D = s_bad b n p x D2 ∧ t_MF gi2 (s_fk b n p x) (s_F b n p))
theorem c_n_once3 {X : x_Ext} {d : Nat} {sh : List (Nat ⊕ (Nat × Nat))} {gi : Nat → Nat → Int32} {gl : Nat → Nat → Int64} {gr : Nat → Nat → Value} (hI : t_I sh gi gr) (ar1 : Int32) (l_a1 : 3 ≤ ar1.toInt) (u_a1 : ar1.toInt ≤ 3) : x_Me X (d + 4) n_X12_once [.ref 69, .int ar1] (sh, gi, gl, gr) (t_PI wl_n_once3 sh gi gl gr 0 1 (Q_n_once3 gi gl gr ar1)) := by
  have hX : t_X wl_n_once3 sh gi gl gr gi gl gr := t_X.rf
  refine me_i f_X12_once (hI.wf.s rfl) rfl rfl rfl ?_
  refine ev_loc f_X12_once (nx := 1) rfl rfl rfl rfl ?_
  refine ev_getI f_X12_once (nx := 4) rfl (hI.wf.s rfl) rfl rfl rfl ?_
  refine ev_loc f_X12_once (nx := 5) rfl rfl rfl rfl ?_
  refine ev_anyIE f_X12_once (nx := 6) rfl rfl rfl rfl (fun z1 e1 => ?_)
  refine ev_ic f_X12_once (nx := 7) (v := 1) rfl (by decide) rfl ?_
  refine ev_anyIE f_X12_once (nx := 8) rfl rfl rfl rfl (fun z2 e2 => ?_)
  refine ev_ic f_X12_once (nx := 9) (v := 1) rfl (by decide) rfl ?_
  refine ev_if f_X12_once (t1 := 12) (t2 := 18) rfl rfl rfl (fun h3 => ?_) (fun h3 => ?_)
  · have u4 : z2.toInt ≤ 1 := t_equ h3 (by decide : (1:Int32).toInt ≤ (1:Int))
    have l5 : 1 ≤ z2.toInt := t_eql h3 (by decide : (1:Int) ≤ (1:Int32).toInt)
    refine ev_loc f_X12_once (nx := 13) rfl rfl rfl rfl ?_
    refine ev_ic f_X12_once (nx := 14) (v := 5) rfl (by decide) rfl ?_
    refine ev_qI f_X12_once (nx := 17) (r := []) rfl rfl rfl rfl rfl rfl rfl (c_n_fails hI (5) (Int.le_trans (by decide : (2:Int) ≤ 5) (by decide : (5:Int) ≤ (5:Int32).toInt)) (Int.le_trans (by decide : (5:Int32).toInt ≤ (5:Int)) (by decide : (5:Int) ≤ 7))) rfl hX rfl (fun w6 gi6 gl6 gr6 l6 u6 hI hX hC6 q6 => ?_)
    have q6 : (∀ (b : Nat → Int32) (n q : Nat), t_TM b n q gi → (gi 69 18).toInt = 0 → t_MF gi6 (s_fk b n q 5) (s_F b n q)) ∧ w6.toInt = 0 := q6
    exact ev_retZ f_X12_once rfl l6 (Int.le_trans u6 (by decide : (0:Int) ≤ 1)) ⟨_, _, _, rfl, hI, hX, ⟨_, rfl, l6, (Int.le_trans u6 (by decide : (0:Int) ≤ 1)), (show ∀ (b : Nat → Int32) (n q : Nat) (D : s_D), t_MS b n q D gi gl → (w6.toInt = 1 ∧ ∃ q2 D2, s_echo b n q D = s_ok q2 D2 ∧ t_MS b n q2 D2 gi6 gl6) ∨ (w6.toInt = 0 ∧ ∃ p x D2, x ≠ 0 ∧ s_echo b n q D = s_bad b n p x D2 ∧ t_MF gi6 (s_fk b n p x) (s_F b n p)) from (by
                                                            intro b n q D h
                                                            have hk : ar1.toInt = (2 : Int) + 1 := by omega
                                                            have hbit := t_mtb h.2.1.2.2.2 (x := (gi 69 20)) rfl (kk := 2) hk (by decide) e1 e2
                                                            have hbit : z2.toInt = D 223 := hbit
                                                            exact Or.inr ⟨q6.2, q, 5, D, by decide, by simp only [s_echo, s_ifF (show ¬ D 223 = 0 by omega)], q6.1 b n q h.1 h.2.2.1⟩))⟩⟩
  · have r7 : z2.toInt ≠ 1 := fun e => h3 (Int32.toInt_inj.mp (e.trans (by decide : (1:Int) = (1 : Int32).toInt)))
    refine ev_loc f_X12_once (nx := 19) rfl rfl rfl rfl ?_
    refine ev_alu f_X12_once (nx := 20) rfl rfl rfl rfl ?_
    refine ev_gvI f_X12_once (nx := 23) (w := (gi 69 20)) rfl (hI.wf.s rfl) rfl rfl rfl rfl ?_
    refine ev_ic f_X12_once (nx := 24) (v := 1) rfl (by decide) rfl ?_
    refine ev_loc f_X12_once (nx := 25) rfl rfl rfl rfl ?_
    refine ev_shl1E f_X12_once (nx := 26) rfl l_a1 u_a1 (by decide) (by decide) rfl (fun z8 s8 => ?_)
    have l8 : 8 ≤ z8.toInt := by have := l_a1; have := u_a1; omega
    have u8 : z8.toInt ≤ 8 := by have := l_a1; have := u_a1; omega
    refine ev_anyIE f_X12_once (nx := 27) rfl rfl rfl rfl (fun z9 e9 => ?_)
    refine ev_putIT f_X12_once (nx := 30) rfl (hI.wf.s rfl) rfl rfl rfl (hI.put0 (hI.wf.s rfl) rfl rfl) (hX.upI rfl) (fun g10 e10 hI hX => ?_)
    refine ev_loc f_X12_once (nx := 31) rfl rfl rfl rfl ?_
    refine ev_qN f_X12_once (nx := 34) (r := []) rfl rfl rfl rfl rfl rfl rfl (c_n_ahead hI ) rfl hX rfl (fun gi11 gl11 gr11 hI hX hC11 q11 => ?_)
    have q11 : ∀ (b : Nat → Int32) (n q : Nat), t_Sm b n q g10 → t_TM b n q gi11 := q11
    refine ev_loc f_X12_once (nx := 35) rfl rfl rfl rfl ?_
    refine ev_ic f_X12_once (nx := 36) (v := 1) rfl (by decide) rfl ?_
    refine ev_f f_X12_once (t1 := 39) (t2 := 50) rfl rfl rfl (t_neT' (by decide : (1:Int32).toInt ≤ (1:Int)) l_a1 (by decide)) ?_
    refine ev_loc f_X12_once (nx := 51) rfl rfl rfl rfl ?_
    refine ev_ic f_X12_once (nx := 52) (v := 3) rfl (by decide) rfl ?_
    refine ev_t f_X12_once (t1 := 55) (t2 := 66) rfl rfl rfl (t_eqT u_a1 l_a1 (by decide : (3:Int32).toInt ≤ (3:Int)) (by decide : (3:Int) ≤ (3:Int32).toInt)) ?_
    refine ev_loc f_X12_once (nx := 56) rfl rfl rfl rfl ?_
    refine ev_sp f_X12_once (nx := 59) (v := 1407) rfl (by decide) rfl ?_
    refine ev_ic f_X12_once (nx := 60) (v := 0) rfl (by decide) rfl ?_
    refine ev_bp f_X12_once (nx := 62) (v := 9) rfl (by decide) rfl ?_
    refine ev_inV4 f_X12_once (nx := 65) (lo2 := [(0, .ref 69), (1, .int 1407), (2, .int 0), (3, .int 9)]) rfl rfl rfl rfl f_X12_number (hI.wf.s rfl) rfl rfl rfl rfl rfl ?_
    refine ev_loc f_X12_number (nx := 1) rfl rfl rfl rfl ?_
    refine ev_getI f_X12_number (nx := 4) rfl (hI.wf.s rfl) rfl rfl rfl ?_
    obtain ⟨l12, u12⟩ := hI.b (hI.wf.s (k := 69) rfl) (t_bdK rfl : t_bd 11 12 = some (0, 4))
    refine ev_ic f_X12_number (nx := 5) (v := 3) rfl (by decide) rfl ?_
    refine ev_if f_X12_number (t1 := 14) (t2 := 8) rfl rfl rfl (fun h13 => ?_) (fun h13 => ?_)
    · have u14 : (gi11 69 12).toInt ≤ 3 := t_equ h13 (by decide : (3:Int32).toInt ≤ (3:Int))
      have l15 : 3 ≤ (gi11 69 12).toInt := t_eql h13 (by decide : (3:Int) ≤ (3:Int32).toInt)
      refine ev_loc f_X12_number (nx := 15) rfl rfl rfl rfl ?_
      refine ev_getI f_X12_number (nx := 18) rfl (hI.wf.s rfl) rfl rfl rfl ?_
      refine ev_loc f_X12_number (nx := 19) rfl rfl rfl rfl ?_
      refine ev_if f_X12_number (t1 := 30) (t2 := 22) rfl rfl rfl (fun h16 => ?_) (fun h16 => ?_)
      · have u17 : (gi11 69 15).toInt ≤ (-1) := t_ltu h16 (by decide : (0:Int32).toInt ≤ (0:Int)) rfl
        refine ev_loc f_X12_number (nx := 31) rfl rfl rfl rfl ?_
        refine ev_ic f_X12_number (nx := 32) (v := 4) rfl (by decide) rfl ?_
        refine ev_qI f_X12_number (nx := 35) (r := []) rfl rfl rfl rfl rfl rfl rfl (c_n_fails hI (4) (Int.le_trans (by decide : (2:Int) ≤ 4) (by decide : (4:Int) ≤ (4:Int32).toInt)) (Int.le_trans (by decide : (4:Int32).toInt ≤ (4:Int)) (by decide : (4:Int) ≤ 7))) rfl hX rfl (fun w18 gi18 gl18 gr18 l18 u18 hI hX hC18 q18 => ?_)
        have q18 : (∀ (b : Nat → Int32) (n q : Nat), t_TM b n q gi11 → (gi11 69 18).toInt = 0 → t_MF gi18 (s_fk b n q 4) (s_F b n q)) ∧ w18.toInt = 0 := q18
        refine ev_retK1 f_X12_number rfl rfl (t_rz l18 (Int.le_trans u18 (by decide : (0:Int) ≤ 1))) ?_
        exact ev_retZ f_X12_once rfl l18 (Int.le_trans u18 (by decide : (0:Int) ≤ 1)) ⟨_, _, _, rfl, hI, hX, ⟨_, rfl, l18, (Int.le_trans u18 (by decide : (0:Int) ≤ 1)), (show ∀ (b : Nat → Int32) (n q : Nat) (D : s_D), t_MS b n q D gi gl → (w18.toInt = 1 ∧ ∃ q2 D2, s_echo b n q D = s_ok q2 D2 ∧ t_MS b n q2 D2 gi18 gl18) ∨ (w18.toInt = 0 ∧ ∃ p x D2, x ≠ 0 ∧ s_echo b n q D = s_bad b n p x D2 ∧ t_MF gi18 (s_fk b n p x) (s_F b n p)) from (by
                                                            intro b n q D h
                                                            have hk : ar1.toInt = (2 : Int) + 1 := by omega
                                                            have hbit := t_mtb h.2.1.2.2.2 (x := (gi 69 20)) rfl (kk := 2) hk (by decide) e1 e2
                                                            have hbit : z2.toInt = D 223 := hbit
                                                            have hz : D 223 = 0 := by
                                                              rcases h.2.1.2.2.2.2.2.2 with e | e
                                                              · exact e
                                                              · rw [e] at hbit; omega
                                                            have t0_ := q11 b n _ (h.1.eq (g1 := g10) (fun j => by rw [e10, x_up2_ne (by decide)]) (fun j j1 j2 => by rw [e10, x_up2_off (Or.inr (by omega))])).S
                                                            have hv := t0_.vF (lo := 0) (hi := 9) (by omega) (by omega)
                                                            exact Or.inr ⟨q18.2, _, 4, D, by decide, by simp only [s_echo, s_num, s_ifT hz, s_ifT hv.1, s_ifF hv.2], q18.1 b n _ t0_ (by rw [(hC11.1 69 18 rfl).1, e10, x_up2_off (Or.inr (by decide))]; exact h.2.2.1)⟩))⟩⟩
      · have l19 : 0 ≤ (gi11 69 15).toInt := t_lel (t_nlt h16) (by decide : (0:Int) ≤ (0:Int32).toInt)
        refine ev_loc f_X12_number (nx := 23) rfl rfl rfl rfl ?_
        refine ev_gvI f_X12_number (nx := 26) (w := (gi11 69 15)) rfl (hI.wf.s rfl) rfl rfl rfl rfl ?_
        refine ev_loc f_X12_number (nx := 27) rfl rfl rfl rfl ?_
        refine ev_if f_X12_number (t1 := 36) (t2 := 30) rfl rfl rfl (fun h20 => ?_) (fun h20 => ?_)
        · have u21 : (gi11 69 15).toInt ≤ 9 := t_leu h20 (by decide : (9:Int32).toInt ≤ (9:Int))
          refine ev_loc f_X12_number (nx := 37) rfl rfl rfl rfl ?_
          refine ev_getR f_X12_number (nx := 40) rfl (hI.wf.s rfl) rfl rfl (hI.wf.r rfl) rfl rfl ?_
          refine ev_loc f_X12_number (nx := 41) rfl rfl rfl rfl ?_
          refine ev_loc f_X12_number (nx := 42) rfl rfl rfl rfl ?_
          refine ev_gvI f_X12_number (nx := 45) (w := (gi11 69 15)) rfl (hI.wf.s rfl) rfl rfl rfl rfl ?_
          refine ev_iastT f_X12_number (nx := 46) rfl (hI.wf.s rfl) (by decide : (1407:Int) ≤ (1407:Int32).toInt) (by decide) (by decide : (1407:Int32).toInt ≤ (1407:Int)) (by decide) rfl (hI.astL (hI.wf.s rfl) (by decide +kernel : t_abw 70 1407 1407 0 9 = true) (t_cl1 (by decide : (1407:Int) ≤ (1407:Int32).toInt) (by decide)) (t_cl2 (by decide : (1407:Int) ≤ (1407:Int32).toInt) (by decide : (1407:Int32).toInt ≤ (1407:Int)) (by decide) (by decide)) l19 u21 rfl) (hX.upI (t_inR (p := 1407) (m := 1407) rfl (by decide : (1407:Int) ≤ (1407:Int32).toInt) (by decide) (by decide : (1407:Int32).toInt ≤ (1407:Int)) (by decide) (by decide))) (fun g22 e22 hI hX => ?_)
          refine ev_loc f_X12_number (nx := 47) rfl rfl rfl rfl ?_
          refine ev_qN f_X12_number (nx := 50) (r := []) rfl rfl rfl rfl rfl rfl rfl (c_n_ahead hI ) rfl hX rfl (fun gi23 gl23 gr23 hI hX hC23 q23 => ?_)
          have q23 : ∀ (b : Nat → Int32) (n q : Nat), t_Sm b n q g22 → t_TM b n q gi23 := q23
          refine ev_ic f_X12_number (nx := 51) (v := 1) rfl (by decide) rfl ?_
          refine ev_retK1 f_X12_number rfl rfl rfl ?_
          exact ev_ret f_X12_once rfl rfl rfl ⟨_, _, _, rfl, hI, hX, ⟨_, rfl, (Int.le_trans (by decide : (0:Int) ≤ 1) (by decide : (1:Int) ≤ (1:Int32).toInt)), (by decide : (1:Int32).toInt ≤ (1:Int)), (show ∀ (b : Nat → Int32) (n q : Nat) (D : s_D), t_MS b n q D gi gl → ((1 : Int) = 1 ∧ ∃ q2 D2, s_echo b n q D = s_ok q2 D2 ∧ t_MS b n q2 D2 gi23 gl23) ∨ ((1 : Int) = 0 ∧ ∃ p x D2, x ≠ 0 ∧ s_echo b n q D = s_bad b n p x D2 ∧ t_MF gi23 (s_fk b n p x) (s_F b n p)) from (by
                                                            intro b n q D h
                                                            have hk : ar1.toInt = (2 : Int) + 1 := by omega
                                                            have hbit := t_mtb h.2.1.2.2.2 (x := (gi 69 20)) rfl (kk := 2) hk (by decide) e1 e2
                                                            have hbit : z2.toInt = D 223 := hbit
                                                            have hz : D 223 = 0 := by
                                                              rcases h.2.1.2.2.2.2.2.2 with e | e
                                                              · exact e
                                                              · rw [e] at hbit; omega
                                                            have t0_ := q11 b n _ (h.1.eq (g1 := g10) (fun j => by rw [e10, x_up2_ne (by decide)]) (fun j j1 j2 => by rw [e10, x_up2_off (Or.inr (by omega))])).S
                                                            have v1 := t0_.vT (lo := 0) (hi := 9) (by omega) (by omega) (by omega)
                                                            have t1_ := q23 b n _ (t0_.st e22).S
                                                            have kc1407_ : (1407 : Int32).toNatClampNeg = 1407 := rfl
                                                            have y7 : (gi23 70 1407).toInt = s_V b n (s_E b n q) := by
                                                              rw [(hC23.1 70 _ rfl).1, e22]
                                                              rw [show 1407 = (1407 : Int32).toNatClampNeg from rfl, x_up2_at]; exact v1.2
                                                            have yr : ∀ j, (∀ x, x ∈ [1407] → j ≠ x) → gi23 70 j = gi 70 j := fun j j1 => by
                                                              rw [(hC23.1 70 _ rfl).1, e22, x_up2_off (Or.inr (j1 _ (by decide))), (hC11.1 70 _ rfl).1, e10, x_up2_ne (by decide)]
                                                            have y4 : (gi23 70 1404).toInt = D 4 := by rw [yr _ (by decide)]; exact h.2.1.2.1.1.2.1
                                                            have y5 : (gi23 70 1405).toInt = D 5 := by rw [yr _ (by decide)]; exact h.2.1.2.1.1.2.2.1
                                                            have y6 : (gi23 70 1406).toInt = D 6 := by rw [yr _ (by decide)]; exact h.2.1.2.1.1.2.2.2.1
                                                            have ybit := t_mts h.2.1.2.2.2 (x := (gi 69 20)) rfl (kk := 2) hk (by decide) hz (p := 8) rfl (by omega) e9
                                                            have y20 : gi23 69 20 = z9 := by rw [(hC23.1 69 20 rfl).1, e22, x_up2_ne (by decide), (hC11.1 69 20 rfl).1, e10, x_up2_at]
                                                            have hm : t_Mt gi23 (s_set (s_set D 223 1) 7 (s_V b n (s_E b n q))) := by
                                                              obtain ⟨x0, x1, x2, x3⟩ := h.2.1.2.2.2
                                                              have s1 : (s_set (s_set D 223 1) 7 (s_V b n (s_E b n q))) 221 = D 221 := rfl
                                                              have s2 : (s_set (s_set D 223 1) 7 (s_V b n (s_E b n q))) 222 = D 222 := rfl
                                                              have s3 : (s_set (s_set D 223 1) 7 (s_V b n (s_E b n q))) 223 = 1 := rfl
                                                              refine ⟨?_, by rw [s1]; omega, by rw [s2]; omega, by rw [s3]; omega⟩
                                                              have hp : (2 : Int) ^ (2 + 1) = 8 := rfl
                                                              rw [hp] at ybit
                                                              rw [y20, ybit, s1, s2, s3, x0]; omega
                                                            exact Or.inl ⟨rfl, _, (s_set (s_set D 223 1) 7 (s_V b n (s_E b n q))), by simp only [s_echo, s_num, s_ifT hz, s_ifT v1.1.1, s_ifT v1.1], t_MS_tel h t1_ ⟨by rw [(hC23.1 69 18 rfl).1, e22, x_up2_ne (by decide), (hC11.1 69 18 rfl).1, e10, x_up2_off (Or.inr (by decide))], by rw [(hC23.1 69 17 rfl).1, e22, x_up2_ne (by decide), (hC11.1 69 17 rfl).1, e10, x_up2_off (Or.inr (by decide))]⟩ (fun j hj => yr j (fun x hx => by simp only [List.mem_cons, List.not_mem_nil, or_false] at hx; omega)) y4 y5 y6 y7 (fun j => by rw [(hC23.1 71 j rfl).2.1, (hC11.1 71 j rfl).2.1]) (fun j hj => (by unfold s_set; rw [if_neg (by omega), if_neg (by omega)])) hm⟩))⟩⟩
        · have l24 : 10 ≤ (gi11 69 15).toInt := t_ltl (t_nle h20) (by decide : (9:Int) ≤ (9:Int32).toInt) rfl
          refine ev_loc f_X12_number (nx := 31) rfl rfl rfl rfl ?_
          refine ev_ic f_X12_number (nx := 32) (v := 4) rfl (by decide) rfl ?_
          refine ev_qI f_X12_number (nx := 35) (r := []) rfl rfl rfl rfl rfl rfl rfl (c_n_fails hI (4) (Int.le_trans (by decide : (2:Int) ≤ 4) (by decide : (4:Int) ≤ (4:Int32).toInt)) (Int.le_trans (by decide : (4:Int32).toInt ≤ (4:Int)) (by decide : (4:Int) ≤ 7))) rfl hX rfl (fun w25 gi25 gl25 gr25 l25 u25 hI hX hC25 q25 => ?_)
          have q25 : (∀ (b : Nat → Int32) (n q : Nat), t_TM b n q gi11 → (gi11 69 18).toInt = 0 → t_MF gi25 (s_fk b n q 4) (s_F b n q)) ∧ w25.toInt = 0 := q25
          refine ev_retK1 f_X12_number rfl rfl (t_rz l25 (Int.le_trans u25 (by decide : (0:Int) ≤ 1))) ?_
          exact ev_retZ f_X12_once rfl l25 (Int.le_trans u25 (by decide : (0:Int) ≤ 1)) ⟨_, _, _, rfl, hI, hX, ⟨_, rfl, l25, (Int.le_trans u25 (by decide : (0:Int) ≤ 1)), (show ∀ (b : Nat → Int32) (n q : Nat) (D : s_D), t_MS b n q D gi gl → (w25.toInt = 1 ∧ ∃ q2 D2, s_echo b n q D = s_ok q2 D2 ∧ t_MS b n q2 D2 gi25 gl25) ∨ (w25.toInt = 0 ∧ ∃ p x D2, x ≠ 0 ∧ s_echo b n q D = s_bad b n p x D2 ∧ t_MF gi25 (s_fk b n p x) (s_F b n p)) from (by
                                                            intro b n q D h
                                                            have hk : ar1.toInt = (2 : Int) + 1 := by omega
                                                            have hbit := t_mtb h.2.1.2.2.2 (x := (gi 69 20)) rfl (kk := 2) hk (by decide) e1 e2
                                                            have hbit : z2.toInt = D 223 := hbit
                                                            have hz : D 223 = 0 := by
                                                              rcases h.2.1.2.2.2.2.2.2 with e | e
                                                              · exact e
                                                              · rw [e] at hbit; omega
                                                            have t0_ := q11 b n _ (h.1.eq (g1 := g10) (fun j => by rw [e10, x_up2_ne (by decide)]) (fun j j1 j2 => by rw [e10, x_up2_off (Or.inr (by omega))])).S
                                                            have hv := t0_.vF (lo := 0) (hi := 9) (by omega) (by omega)
                                                            exact Or.inr ⟨q25.2, _, 4, D, by decide, by simp only [s_echo, s_num, s_ifT hz, s_ifT hv.1, s_ifF hv.2], q25.1 b n _ t0_ (by rw [(hC11.1 69 18 rfl).1, e10, x_up2_off (Or.inr (by decide))]; exact h.2.2.1)⟩))⟩⟩
    · have r26 : (gi11 69 12).toInt ≠ 3 := fun e => h13 (Int32.toInt_inj.mp (e.trans (by decide : (3:Int) = (3 : Int32).toInt)))
      refine ev_loc f_X12_number (nx := 9) rfl rfl rfl rfl ?_
      refine ev_ic f_X12_number (nx := 10) (v := 2) rfl (by decide) rfl ?_
      refine ev_qI f_X12_number (nx := 13) (r := []) rfl rfl rfl rfl rfl rfl rfl (c_n_fails hI (2) (by decide : (2:Int) ≤ (2:Int32).toInt) (Int.le_trans (by decide : (2:Int32).toInt ≤ (2:Int)) (by decide : (2:Int) ≤ 7))) rfl hX rfl (fun w27 gi27 gl27 gr27 l27 u27 hI hX hC27 q27 => ?_)
      have q27 : (∀ (b : Nat → Int32) (n q : Nat), t_TM b n q gi11 → (gi11 69 18).toInt = 0 → t_MF gi27 (s_fk b n q 2) (s_F b n q)) ∧ w27.toInt = 0 := q27
      refine ev_retK1 f_X12_number rfl rfl (t_rz l27 (Int.le_trans u27 (by decide : (0:Int) ≤ 1))) ?_
      exact ev_retZ f_X12_once rfl l27 (Int.le_trans u27 (by decide : (0:Int) ≤ 1)) ⟨_, _, _, rfl, hI, hX, ⟨_, rfl, l27, (Int.le_trans u27 (by decide : (0:Int) ≤ 1)), (show ∀ (b : Nat → Int32) (n q : Nat) (D : s_D), t_MS b n q D gi gl → (w27.toInt = 1 ∧ ∃ q2 D2, s_echo b n q D = s_ok q2 D2 ∧ t_MS b n q2 D2 gi27 gl27) ∨ (w27.toInt = 0 ∧ ∃ p x D2, x ≠ 0 ∧ s_echo b n q D = s_bad b n p x D2 ∧ t_MF gi27 (s_fk b n p x) (s_F b n p)) from (by
                                                            intro b n q D h
                                                            have hk : ar1.toInt = (2 : Int) + 1 := by omega
                                                            have hbit := t_mtb h.2.1.2.2.2 (x := (gi 69 20)) rfl (kk := 2) hk (by decide) e1 e2
                                                            have hbit : z2.toInt = D 223 := hbit
                                                            have hz : D 223 = 0 := by
                                                              rcases h.2.1.2.2.2.2.2.2 with e | e
                                                              · exact e
                                                              · rw [e] at hbit; omega
                                                            have t0_ := q11 b n _ (h.1.eq (g1 := g10) (fun j => by rw [e10, x_up2_ne (by decide)]) (fun j j1 j2 => by rw [e10, x_up2_off (Or.inr (by omega))])).S
                                                            exact Or.inr ⟨q27.2, _, 2, D, by decide, by simp only [s_echo, s_num, s_ifT hz, s_ifF (t0_.vK (by omega))], q27.1 b n _ t0_ (by rw [(hC11.1 69 18 rfl).1, e10, x_up2_off (Or.inr (by decide))]; exact h.2.2.1)⟩))⟩⟩
