/-! ===== printed by riv.py: the RIVER of the class ===== -/
noncomputable def wl_s_takeNewName : List (Nat × Nat) := [(115, 4), (118, 2), (118, 3), (118, 4), (118, 5), (118, 6), (118, 7), (118, 8), (118, 9), (118, 10), (118, 11), (131, 9999)]
noncomputable def Q_s_takeNewName (gi : Nat → Nat → Int32) (gl : Nat → Nat → Int64) (gr : Nat → Nat → Value) (ar0 : Nat) : Int32 → (Nat → Nat → Int32) → (Nat → Nat → Int64) → (Nat → Nat → Value) → Prop := fun (v : Int32) (gi2 : Nat → Nat → Int32) (gl2 : Nat → Nat → Int64) (gr2 : Nat → Nat → Value) => (∀ (b : Nat → Int32) (n q : Nat) (D : s_D) (m : Int) (P : Int → Prop), t_CS b n q D m P gi gl gr ar0 → m < 18 → (v.toInt = 1 ∧ s_isN b n q ∧ ¬ P (s_L b n q).toInt ∧ t_CS b n (s_E b n q) D (m + 1) (fun x => P x ∨ x = (s_L b n q).toInt) gi2 gl2 gr2 ar0) ∨ (v.toInt = 0 ∧ ¬ s_isN b n q ∧ t_FL gi2 (ar0 + 1) (s_fk b n q 2) (s_F b n q)) ∨ (v.toInt = 0 ∧ s_isN b n q ∧ P (s_L b n q).toInt ∧ t_FL gi2 (ar0 + 1) (s_fk b n q 3) (s_F b n q))) ∧ t_xc [ar0, ar0 + 1, ar0 + 19] gi gl gr gi2 gl2 gr2
theorem c_s_takeNewName {X : x_Ext} {d : Nat} {sh : List (Nat ⊕ (Nat × Nat))} {gi : Nat → Nat → Int32} {gl : Nat → Nat → Int64} {gr : Nat → Nat → Value} (hI : t_I sh gi gr) (ar0 : Nat) (p_a0 : t_RQ sh gr ar0) : x_Me X (d + 3) n_X6_takeNewName [.ref ar0] (sh, gi, gl, gr) (t_PI wl_s_takeNewName sh gi gl gr 0 1 (Q_s_takeNewName gi gl gr ar0)) := by
  have hX : t_X wl_s_takeNewName sh gi gl gr gi gl gr := t_X.rf
  refine me_i f_X6_takeNewName p_a0.1 rfl rfl rfl ?_
  refine ev_loc f_X6_takeNewName (nx := 1) rfl rfl rfl rfl ?_
  have e1 := p_a0.2.2.2.2.1.1
  have p1 := p_a0.2.2.2.2.1.2
  refine ev_getR f_X6_takeNewName (nx := 4) rfl p_a0.1 rfl rfl e1 rfl rfl ?_
  refine ev_qI0 f_X6_takeNewName (nx := 7) (r := []) rfl rfl rfl rfl rfl rfl rfl (c_s_isName hI ((ar0 + 1)) p1) rfl (fun w2 l2 u2 q2 => ?_)
  have q2 : ∀ (b : Nat → Int32) (n q : Nat), t_TC b n q gi gl gr (ar0 + 1) → (w2.toInt = 1 ↔ s_isN b n q) := q2
  refine ev_if f_X6_takeNewName (t1 := 10) (t2 := 19) rfl rfl rfl (fun h3 => ?_) (fun h3 => ?_)
  · have u4 : w2.toInt ≤ 0 := t_equ h3 (by decide : (0:Int32).toInt ≤ (0:Int))
    refine ev_loc f_X6_takeNewName (nx := 11) rfl rfl rfl rfl ?_
    refine ev_getR f_X6_takeNewName (nx := 14) (v := .ref (ar0 + 1)) rfl p_a0.1 rfl rfl e1 rfl rfl ?_
    refine ev_ic f_X6_takeNewName (nx := 15) (v := 2) rfl (by decide) rfl ?_
    refine ev_qI f_X6_takeNewName (nx := 18) (r := []) rfl rfl rfl rfl rfl rfl rfl (c_s_refuse hI ((ar0 + 1)) p1 (2) (by decide : (2:Int) ≤ (2:Int32).toInt) (Int.le_trans (by decide : (2:Int32).toInt ≤ (2:Int)) (by decide : (2:Int) ≤ 7))) rfl hX rfl (fun w5 gi5 gl5 gr5 l5 u5 hI hX hC5 q5 => ?_)
    have q5 : (∀ (b : Nat → Int32) (n q : Nat), t_TC b n q gi gl gr (ar0 + 1) → t_FL gi5 (ar0 + 1) (s_fk b n q 2) (s_F b n q)) ∧ w5.toInt = 0 ∧ t_on (ar0 + 1) gi gl gr gi5 gl5 gr5 := q5
    replace p_a0 := p_a0.ext hC5.2
    replace p1 := p1.ext hC5.2
    exact ev_retZ f_X6_takeNewName rfl l5 (Int.le_trans u5 (by decide : (0:Int) ≤ 1)) ⟨_, _, _, rfl, hI, hX, ⟨_, rfl, l5, (Int.le_trans u5 (by decide : (0:Int) ≤ 1)), (show (∀ (b : Nat → Int32) (n q : Nat) (D : s_D) (m : Int) (P : Int → Prop), t_CS b n q D m P gi gl gr ar0 → m < 18 → (w5.toInt = 1 ∧ s_isN b n q ∧ ¬ P (s_L b n q).toInt ∧ t_CS b n (s_E b n q) D (m + 1) (fun x => P x ∨ x = (s_L b n q).toInt) gi5 gl5 gr5 ar0) ∨ (w5.toInt = 0 ∧ ¬ s_isN b n q ∧ t_FL gi5 (ar0 + 1) (s_fk b n q 2) (s_F b n q)) ∨ (w5.toInt = 0 ∧ s_isN b n q ∧ P (s_L b n q).toInt ∧ t_FL gi5 (ar0 + 1) (s_fk b n q 3) (s_F b n q))) ∧ t_xc [ar0, ar0 + 1, ar0 + 19] gi gl gr gi5 gl5 gr5 from ⟨(by
                                                            intro b n q D m P h hm
                                                            have h102 := p_a0.2.1
                                                            exact Or.inr (Or.inl ⟨q5.2.1, fun hh => absurd ((q2 b n q h.1).mpr hh) (by omega), q5.1 b n q h.1⟩)), (t_xc.on t_xc.rf q5.2.2 (by simp))⟩)⟩⟩
  · have r6 : w2.toInt ≠ 0 := fun e => h3 (Int32.toInt_inj.mp (e.trans (by decide : (0:Int) = (0 : Int32).toInt)))
    have l7 : 1 ≤ w2.toInt := t_nel h3 l2 rfl rfl
    refine ev_ic f_X6_takeNewName (nx := 20) (v := 0) rfl (by decide) rfl ?_
    refine ev_loc f_X6_takeNewName (nx := 21) (lo' := [(1, .int 0), (0, .ref ar0)]) rfl rfl rfl rfl ?_
    have L8 : ∀ (m8 : Nat) (y8_1 : Int32), 0 ≤ y8_1.toInt → y8_1.toInt ≤ 18 → (∀ j : Nat, (j : Int) < y8_1.toInt → gl (ar0 + 19) j ≠ (gl (ar0 + 1) 6)) → (18 - y8_1.toInt).toNat = m8 → x_Ev X (d + 3) n_X6_takeNewName 21 [(1, .int y8_1), (0, .ref ar0)] [] (sh, gi, gl, gr) (t_PI wl_s_takeNewName sh gi gl gr 0 1 (Q_s_takeNewName gi gl gr ar0)) := by
      intro m8
      induction m8 using Nat.strongRecOn with
      | _ m8 ih8 =>
      intro y8_1 l8_1 u8_1 j8_0 hm8
      refine ev_loc f_X6_takeNewName (nx := 22) rfl rfl rfl rfl ?_
      refine ev_loc f_X6_takeNewName (nx := 23) rfl rfl rfl rfl ?_
      refine ev_getI f_X6_takeNewName (nx := 26) rfl p_a0.1 rfl rfl rfl ?_
      obtain ⟨l9, u9⟩ := hI.b p_a0.1 (t_bdK rfl : t_bd 5 4 = some (0, 18))
      refine ev_if f_X6_takeNewName (t1 := 61) (t2 := 29) rfl rfl rfl (fun h10 => ?_) (fun h10 => ?_)
      · have r11 : (gi ar0 4).toInt ≤ y8_1.toInt := Int32.le_iff_toInt_le.mp h10
        refine ev_loc f_X6_takeNewName (nx := 62) rfl rfl rfl rfl ?_
        refine ev_gvI f_X6_takeNewName (nx := 65) (w := (gi ar0 4)) rfl p_a0.1 rfl rfl rfl rfl ?_
        refine ev_loc f_X6_takeNewName (nx := 66) rfl rfl rfl rfl ?_
        have e12 := p_a0.2.2.2.1.1
        have p12 := p_a0.2.2.2.1.2
        refine ev_getR f_X6_takeNewName (nx := 69) rfl p_a0.1 rfl rfl e12 rfl rfl ?_
        refine ev_alenv f_X6_takeNewName (nx := 70) (w := 18) rfl p12 rfl (by decide) rfl ?_
        refine ev_if f_X6_takeNewName (t1 := 99) (t2 := 73) rfl rfl rfl (fun h13 => ?_) (fun h13 => ?_)
        · have l14 : 18 ≤ (gi ar0 4).toInt := t_lel h13 (by decide : (18:Int) ≤ (18:Int32).toInt)
          refine ev_loc f_X6_takeNewName (nx := 100) rfl rfl rfl rfl ?_
          refine ev_getR f_X6_takeNewName (nx := 103) (v := .ref (ar0 + 1)) rfl p_a0.1 rfl rfl e1 rfl rfl ?_
          refine ev_qN f_X6_takeNewName (nx := 106) (r := []) rfl rfl rfl rfl rfl rfl rfl (c_s_step hI ((ar0 + 1)) p1) rfl hX rfl (fun gi15 gl15 gr15 hI hX hC15 q15 => ?_)
          have q15 : (∀ (b : Nat → Int32) (n q : Nat), t_Sp b n q gi (ar0 + 1) → t_TC b n q gi15 gl15 gr15 (ar0 + 1)) ∧ t_nf gi gi15 (ar0 + 1) ∧ t_on (ar0 + 1) gi gl gr gi15 gl15 gr15 := q15
          replace p_a0 := p_a0.ext hC15.2
          replace p1 := p1.ext hC15.2
          refine ev_ic f_X6_takeNewName (nx := 107) (v := 1) rfl (by decide) rfl ?_
          exact ev_ret f_X6_takeNewName rfl rfl rfl ⟨_, _, _, rfl, hI, hX, ⟨_, rfl, (Int.le_trans (by decide : (0:Int) ≤ 1) (by decide : (1:Int) ≤ (1:Int32).toInt)), (by decide : (1:Int32).toInt ≤ (1:Int)), (show (∀ (b : Nat → Int32) (n q : Nat) (D : s_D) (m : Int) (P : Int → Prop), t_CS b n q D m P gi gl gr ar0 → m < 18 → ((1 : Int) = 1 ∧ s_isN b n q ∧ ¬ P (s_L b n q).toInt ∧ t_CS b n (s_E b n q) D (m + 1) (fun x => P x ∨ x = (s_L b n q).toInt) gi15 gl15 gr15 ar0) ∨ ((1 : Int) = 0 ∧ ¬ s_isN b n q ∧ t_FL gi15 (ar0 + 1) (s_fk b n q 2) (s_F b n q)) ∨ ((1 : Int) = 0 ∧ s_isN b n q ∧ P (s_L b n q).toInt ∧ t_FL gi15 (ar0 + 1) (s_fk b n q 3) (s_F b n q))) ∧ t_xc [ar0, ar0 + 1, ar0 + 19] gi gl gr gi15 gl15 gr15 from ⟨(by
                                                            intro b n q D m P h hm
                                                            have h102 := p_a0.2.1
                                                            have hm0 : (gi ar0 4).toInt = m := h.2.1.2.1.1
                                                            exact absurd hm (by omega)), (t_xc.on t_xc.rf q15.2.2 (by simp))⟩)⟩⟩
        · have u16 : (gi ar0 4).toInt ≤ 17 := t_ltu (t_nle h13) (by decide : (18:Int32).toInt ≤ (18:Int)) rfl
          refine ev_loc f_X6_takeNewName (nx := 74) rfl rfl rfl rfl ?_
          refine ev_getR f_X6_takeNewName (nx := 77) (v := .ref (ar0 + 19)) rfl p_a0.1 rfl rfl e12 rfl rfl ?_
          refine ev_loc f_X6_takeNewName (nx := 78) rfl rfl rfl rfl ?_
          refine ev_gvI f_X6_takeNewName (nx := 81) (w := (gi ar0 4)) rfl p_a0.1 rfl rfl rfl rfl ?_
          refine ev_loc f_X6_takeNewName (nx := 82) rfl rfl rfl rfl ?_
          refine ev_getR f_X6_takeNewName (nx := 85) (v := .ref (ar0 + 1)) rfl p_a0.1 rfl rfl e1 rfl rfl ?_
          refine ev_getL f_X6_takeNewName (nx := 88) rfl p1.1 rfl rfl rfl ?_
          refine ev_lastT f_X6_takeNewName (nx := 89) rfl p12 l9 (by decide) u16 (by decide) rfl (hX.upL (t_inOA hI.wf p12 (Or.inr (by have := p_a0.2.1; omega)) rfl)) (fun g17 e17 hX => ?_)
          refine ev_loc f_X6_takeNewName (nx := 90) rfl rfl rfl rfl ?_
          refine ev_alu f_X6_takeNewName (nx := 91) rfl rfl rfl rfl ?_
          refine ev_gvI f_X6_takeNewName (nx := 94) (w := (gi ar0 4)) rfl p_a0.1 rfl rfl rfl rfl ?_
          refine ev_ic f_X6_takeNewName (nx := 95) (v := 1) rfl (by decide) rfl ?_
          refine ev_addC f_X6_takeNewName (nx := 96) (c := 1) (l := 1) (u := 18) rfl (by decide) l9 u16 rfl rfl (by decide) (by decide) rfl (fun z18 e18 l18 u18 => ?_)
          refine ev_putIT f_X6_takeNewName (nx := 99) rfl p_a0.1 rfl rfl rfl (hI.putB p_a0.1 rfl rfl l18 (by decide) u18 (by decide)) (hX.upI (t_inO hI.wf p_a0.1 (t_outO hI.wf p_a0.1 rfl) rfl)) (fun g19 e19 hI hX => ?_)
          refine ev_loc f_X6_takeNewName (nx := 100) rfl rfl rfl rfl ?_
          refine ev_getR f_X6_takeNewName (nx := 103) (v := .ref (ar0 + 1)) rfl p_a0.1 rfl rfl e1 rfl rfl ?_
          refine ev_qN f_X6_takeNewName (nx := 106) (r := []) rfl rfl rfl rfl rfl rfl rfl (c_s_step hI ((ar0 + 1)) p1) rfl hX rfl (fun gi20 gl20 gr20 hI hX hC20 q20 => ?_)
          have q20 : (∀ (b : Nat → Int32) (n q : Nat), t_Sp b n q g19 (ar0 + 1) → t_TC b n q gi20 gl20 gr20 (ar0 + 1)) ∧ t_nf g19 gi20 (ar0 + 1) ∧ t_on (ar0 + 1) g19 g17 gr gi20 gl20 gr20 := q20
          replace p_a0 := p_a0.ext hC20.2
          replace p1 := p1.ext hC20.2
          refine ev_ic f_X6_takeNewName (nx := 107) (v := 1) rfl (by decide) rfl ?_
          exact ev_ret f_X6_takeNewName rfl rfl rfl ⟨_, _, _, rfl, hI, hX, ⟨_, rfl, (Int.le_trans (by decide : (0:Int) ≤ 1) (by decide : (1:Int) ≤ (1:Int32).toInt)), (by decide : (1:Int32).toInt ≤ (1:Int)), (show (∀ (b : Nat → Int32) (n q : Nat) (D : s_D) (m : Int) (P : Int → Prop), t_CS b n q D m P gi gl gr ar0 → m < 18 → ((1 : Int) = 1 ∧ s_isN b n q ∧ ¬ P (s_L b n q).toInt ∧ t_CS b n (s_E b n q) D (m + 1) (fun x => P x ∨ x = (s_L b n q).toInt) gi20 gl20 gr20 ar0) ∨ ((1 : Int) = 0 ∧ ¬ s_isN b n q ∧ t_FL gi20 (ar0 + 1) (s_fk b n q 2) (s_F b n q)) ∨ ((1 : Int) = 0 ∧ s_isN b n q ∧ P (s_L b n q).toInt ∧ t_FL gi20 (ar0 + 1) (s_fk b n q 3) (s_F b n q))) ∧ t_xc [ar0, ar0 + 1, ar0 + 19] gi gl gr gi20 gl20 gr20 from ⟨(by
                                                            intro b n q D m P h hm
                                                            have h102 := p_a0.2.1
                                                            have hN := (q2 b n q h.1).mp (by omega)
                                                            have hL : (gl (ar0 + 1) 6) = s_L b n q := (h.1.2.2.2.2.2.1 hN.1).2
                                                            have hm0 : (gi ar0 4).toInt = m := h.2.1.2.1.1
                                                            have hR := h.2.1.nm (p := (gi ar0 4)) hm0 (by omega) (z := z18) (by omega) e17 e19
                                                            rw [hL] at hR
                                                            have h2 := h.mk (S := [ar0, ar0 + 19]) (t_xc.I (t_xc.L t_xc.rf (by simp) e17) (by simp) e19) (by intro x hx; simp only [List.mem_cons, List.not_mem_nil, or_false] at hx; omega) hR
                                                            exact Or.inl ⟨rfl, hN, by rw [← hL]; exact h.2.1.nfnd (p := y8_1) (by omega) (fun j hj => j8_0 j hj), h2.on (q20.1 b n _ h2.1.S) q20.2.1 q20.2.2⟩), (t_xc.on (t_xc.I (t_xc.L t_xc.rf (by simp) e17) (by simp) e19) q20.2.2 (by simp))⟩)⟩⟩
      · have r21 : y8_1.toInt < (gi ar0 4).toInt := Int32.lt_iff_toInt_lt.mp (t_nle h10)
        have u22 : y8_1.toInt ≤ 17 := t_ltu (t_nle h10) u9 rfl
        have l23 : 1 ≤ (gi ar0 4).toInt := t_ltl (t_nle h10) l8_1 rfl
        refine ev_loc f_X6_takeNewName (nx := 30) rfl rfl rfl rfl ?_
        have e24 := p_a0.2.2.2.1.1
        have p24 := p_a0.2.2.2.1.2
        refine ev_getR f_X6_takeNewName (nx := 33) rfl p_a0.1 rfl rfl e24 rfl rfl ?_
        refine ev_loc f_X6_takeNewName (nx := 34) rfl rfl rfl rfl ?_
        refine ev_laldT f_X6_takeNewName (nx := 35) rfl p24 l8_1 (by decide) u22 (by decide) rfl (fun w25 e25 => ?_)
        refine ev_loc f_X6_takeNewName (nx := 36) rfl rfl rfl rfl ?_
        refine ev_getR f_X6_takeNewName (nx := 39) (v := .ref (ar0 + 1)) rfl p_a0.1 rfl rfl e1 rfl rfl ?_
        refine ev_getL f_X6_takeNewName (nx := 42) rfl p1.1 rfl rfl rfl ?_
        refine ev_anyIE f_X6_takeNewName (nx := 43) rfl rfl rfl rfl (fun z26 e26 => ?_)
        refine ev_if f_X6_takeNewName (t1 := 46) (t2 := 55) rfl rfl rfl (fun h27 => ?_) (fun h27 => ?_)
        · have u28 : z26.toInt ≤ 0 := t_equ h27 (by decide : (0:Int32).toInt ≤ (0:Int))
          have l29 : 0 ≤ z26.toInt := t_eql h27 (by decide : (0:Int) ≤ (0:Int32).toInt)
          refine ev_loc f_X6_takeNewName (nx := 47) rfl rfl rfl rfl ?_
          refine ev_getR f_X6_takeNewName (nx := 50) (v := .ref (ar0 + 1)) rfl p_a0.1 rfl rfl e1 rfl rfl ?_
          refine ev_ic f_X6_takeNewName (nx := 51) (v := 3) rfl (by decide) rfl ?_
          refine ev_qI f_X6_takeNewName (nx := 54) (r := []) rfl rfl rfl rfl rfl rfl rfl (c_s_refuse hI ((ar0 + 1)) p1 (3) (Int.le_trans (by decide : (2:Int) ≤ 3) (by decide : (3:Int) ≤ (3:Int32).toInt)) (Int.le_trans (by decide : (3:Int32).toInt ≤ (3:Int)) (by decide : (3:Int) ≤ 7))) rfl hX rfl (fun w30 gi30 gl30 gr30 l30 u30 hI hX hC30 q30 => ?_)
          have q30 : (∀ (b : Nat → Int32) (n q : Nat), t_TC b n q gi gl gr (ar0 + 1) → t_FL gi30 (ar0 + 1) (s_fk b n q 3) (s_F b n q)) ∧ w30.toInt = 0 ∧ t_on (ar0 + 1) gi gl gr gi30 gl30 gr30 := q30
          replace p_a0 := p_a0.ext hC30.2
          replace p1 := p1.ext hC30.2
          exact ev_retZ f_X6_takeNewName rfl l30 (Int.le_trans u30 (by decide : (0:Int) ≤ 1)) ⟨_, _, _, rfl, hI, hX, ⟨_, rfl, l30, (Int.le_trans u30 (by decide : (0:Int) ≤ 1)), (show (∀ (b : Nat → Int32) (n q : Nat) (D : s_D) (m : Int) (P : Int → Prop), t_CS b n q D m P gi gl gr ar0 → m < 18 → (w30.toInt = 1 ∧ s_isN b n q ∧ ¬ P (s_L b n q).toInt ∧ t_CS b n (s_E b n q) D (m + 1) (fun x => P x ∨ x = (s_L b n q).toInt) gi30 gl30 gr30 ar0) ∨ (w30.toInt = 0 ∧ ¬ s_isN b n q ∧ t_FL gi30 (ar0 + 1) (s_fk b n q 2) (s_F b n q)) ∨ (w30.toInt = 0 ∧ s_isN b n q ∧ P (s_L b n q).toInt ∧ t_FL gi30 (ar0 + 1) (s_fk b n q 3) (s_F b n q))) ∧ t_xc [ar0, ar0 + 1, ar0 + 19] gi gl gr gi30 gl30 gr30 from ⟨(by
                                                            intro b n q D m P h hm
                                                            have h102 := p_a0.2.1
                                                            have hN := (q2 b n q h.1).mp (by omega)
                                                            have hL : (gl (ar0 + 1) 6) = s_L b n q := (h.1.2.2.2.2.2.1 hN.1).2
                                                            have hm0 : (gi ar0 4).toInt = m := h.2.1.2.1.1
                                                            exact Or.inr (Or.inr ⟨q30.2.1, hN, by rw [← hL]; exact h.2.1.fnd (i := y8_1.toNatClampNeg) (by have h1 := t_clamp (i := y8_1) (by omega); omega) e25 ((lg_cmp_eq _ _).mp (e26.symm.trans h27)), q30.1 b n q h.1⟩)), (t_xc.on t_xc.rf q30.2.2 (by simp))⟩)⟩⟩
        · have r31 : z26.toInt ≠ 0 := fun e => h27 (Int32.toInt_inj.mp (e.trans (by decide : (0:Int) = (0 : Int32).toInt)))
          refine ev_incR f_X6_takeNewName (nx := 58) (c := 1) (l := 1) (u := 18) rfl rfl (by decide) (by decide) l8_1 u22 rfl rfl (by decide) (by decide) rfl (fun z32 e32 l32 u32 => ?_)
          refine ev_jmp f_X6_takeNewName (nx := 21) rfl rfl rfl ?_
          refine ev_sub (lo := [(1, .int z32), (0, .ref ar0)]) rfl (t_sc rfl (t_sc rfl t_sn)) ?_
          exact ih8 _ (by omega) (z32) (Int.le_trans (by decide : (0:Int) ≤ 1) l32) u32 (fun j hj hx => by by_cases hji : j = y8_1.toNatClampNeg; (exact h27 (e26.trans ((lg_cmp_eq _ _).mpr (by rw [e25, ← hji]; exact hx)))); (exact j8_0 j (by have h1 := t_clamp (i := y8_1) (by omega); omega) hx)) rfl
    refine ev_sub (lo := [(1, .int 0), (0, .ref ar0)]) rfl (t_sc rfl (t_sc rfl t_sn)) ?_
    exact L8 _ (0) (by decide : (0:Int) ≤ (0:Int32).toInt) (Int.le_trans (by decide : (0:Int32).toInt ≤ (0:Int)) (by decide : (0:Int) ≤ 18)) (fun j hj => absurd hj (by have : (0 : Int32).toInt = 0 := rfl; omega)) rfl
noncomputable def wl_s_soundOf : List (Nat × Nat) := []
noncomputable def Q_s_soundOf (gi : Nat → Nat → Int32) (gl : Nat → Nat → Int64) (gr : Nat → Nat → Value) (ar0 : Int64) : Int64 → (Nat → Nat → Int32) → (Nat → Nat → Int64) → (Nat → Nat → Value) → Prop := fun (v : Int64) (gi2 : Nat → Nat → Int32) (gl2 : Nat → Nat → Int64) (gr2 : Nat → Nat → Value) => v = s_snd ar0
theorem c_s_soundOf {X : x_Ext} {d : Nat} {sh : List (Nat ⊕ (Nat × Nat))} {gi : Nat → Nat → Int32} {gl : Nat → Nat → Int64} {gr : Nat → Nat → Value} (hI : t_I sh gi gr) (ar0 : Int64) : x_Me X (d + 1) n_X5_soundOf [.long ar0] (sh, gi, gl, gr) (t_PL wl_s_soundOf sh gi gl gr (Q_s_soundOf gi gl gr ar0)) := by
  have hX : t_X wl_s_soundOf sh gi gl gr gi gl gr := t_X.rf
  refine me_s f_X5_soundOf rfl rfl ?_
  refine ev_lc f_X5_soundOf (nx := 1) (v := 0) rfl (by decide) rfl ?_
  refine ev_loc f_X5_soundOf (nx := 2) (lo' := [(2, .long 0), (0, .long ar0)]) rfl rfl rfl rfl ?_
  refine ev_loc f_X5_soundOf (nx := 3) rfl rfl rfl rfl ?_
  refine ev_loc f_X5_soundOf (nx := 5) (lo' := [(4, .long ar0), (2, .long 0), (0, .long ar0)]) rfl rfl rfl rfl ?_
  refine ev_ic f_X5_soundOf (nx := 6) (v := 0) rfl (by decide) rfl ?_
  refine ev_loc f_X5_soundOf (nx := 8) (lo' := [(6, .int 0), (4, .long ar0), (2, .long 0), (0, .long ar0)]) rfl rfl rfl rfl ?_
  have L1 : ∀ (m1 : Nat) (y1_6 : Int32) (y1_4 : Int64) (y1_2 : Int64), 0 ≤ y1_6.toInt → y1_6.toInt ≤ 6 → s_snr (6 - y1_6.toInt).toNat y1_4 y1_2 = s_snd ar0 → (6 - y1_6.toInt).toNat = m1 → x_Ev X (d + 1) n_X5_soundOf 8 [(6, .int y1_6), (4, .long y1_4), (2, .long y1_2), (0, .long ar0)] [] (sh, gi, gl, gr) (t_PL wl_s_soundOf sh gi gl gr (Q_s_soundOf gi gl gr ar0)) := by
    intro m1
    induction m1 using Nat.strongRecOn with
    | _ m1 ih1 =>
    intro y1_6 y1_4 y1_2 l1_6 u1_6 j1_0 hm1
    refine ev_loc f_X5_soundOf (nx := 10) rfl rfl rfl rfl ?_
    refine ev_bp f_X5_soundOf (nx := 12) (v := 6) rfl (by decide) rfl ?_
    refine ev_if f_X5_soundOf (t1 := 65) (t2 := 15) rfl rfl rfl (fun h2 => ?_) (fun h2 => ?_)
    · have l3 : 6 ≤ y1_6.toInt := t_lel h2 (by decide : (6:Int) ≤ (6:Int32).toInt)
      refine ev_loc f_X5_soundOf (nx := 66) rfl rfl rfl rfl ?_
      exact ev_ret f_X5_soundOf rfl rfl rfl ⟨_, _, _, rfl, hI, hX, ⟨_, rfl, (show y1_2 = s_snd ar0 from (by rw [← j1_0, show (6 - y1_6.toInt).toNat = 0 from (by omega)]; rfl))⟩⟩
    · have u4 : y1_6.toInt ≤ 5 := t_ltu (t_nle h2) (by decide : (6:Int32).toInt ≤ (6:Int)) rfl
      refine ev_loc f_X5_soundOf (nx := 17) rfl rfl rfl rfl ?_
      refine ev_lc f_X5_soundOf (nx := 18) (v := 0) rfl (by decide) rfl ?_
      refine ev_anyIE f_X5_soundOf (nx := 19) rfl rfl rfl rfl (fun z5 e5 => ?_)
      refine ev_if f_X5_soundOf (t1 := 65) (t2 := 22) rfl rfl rfl (fun h6 => ?_) (fun h6 => ?_)
      · have u7 : z5.toInt ≤ 0 := t_equ h6 (by decide : (0:Int32).toInt ≤ (0:Int))
        have l8 : 0 ≤ z5.toInt := t_eql h6 (by decide : (0:Int) ≤ (0:Int32).toInt)
        refine ev_loc f_X5_soundOf (nx := 66) rfl rfl rfl rfl ?_
        exact ev_ret f_X5_soundOf rfl rfl rfl ⟨_, _, _, rfl, hI, hX, ⟨_, rfl, (show y1_2 = s_snd ar0 from (by rw [← j1_0]; exact (s_snr_0 ((lg_cmp_eq _ _).mp (e5.symm.trans h6))).symm))⟩⟩
      · have r9 : z5.toInt ≠ 0 := fun e => h6 (Int32.toInt_inj.mp (e.trans (by decide : (0:Int) = (0 : Int32).toInt)))
        refine ev_loc f_X5_soundOf (nx := 24) rfl rfl rfl rfl ?_
        refine ev_ldL f_X5_soundOf (nx := 27) (v := 32) rfl (by decide) rfl ?_
        refine ev_lremN f_X5_soundOf (nx := 28) rfl (by decide) rfl (fun z10 e10 => ?_)
        refine ev_ldL f_X5_soundOf (nx := 31) (v := 12) rfl (by decide) rfl ?_
        refine ev_anyIE f_X5_soundOf (nx := 32) rfl rfl rfl rfl (fun z11 e11 => ?_)
        refine ev_if f_X5_soundOf (t1 := 35) (t2 := 45) rfl rfl rfl (fun h12 => ?_) (fun h12 => ?_)
        · have u13 : z11.toInt ≤ 0 := t_equ h12 (by decide : (0:Int32).toInt ≤ (0:Int))
          have l14 : 0 ≤ z11.toInt := t_eql h12 (by decide : (0:Int) ≤ (0:Int32).toInt)
          refine ev_ldL f_X5_soundOf (nx := 38) (v := 7) rfl (by decide) rfl ?_
          refine ev_loc f_X5_soundOf (nx := 39) rfl rfl rfl rfl ?_
          refine ev_ic f_X5_soundOf (nx := 40) (v := 4) rfl (by decide) rfl ?_
          refine ev_anyLE f_X5_soundOf (nx := 41) rfl rfl rfl rfl (fun z15 e15 => ?_)
          refine ev_anyLE f_X5_soundOf (nx := 42) rfl rfl rfl rfl (fun z16 e16 => ?_)
          refine ev_jmp f_X5_soundOf (nx := 50) rfl rfl rfl ?_
          refine ev_loc f_X5_soundOf (nx := 51) (lo' := [(2, .long z16), (6, .int y1_6), (4, .long y1_4), (0, .long ar0)]) rfl rfl rfl rfl ?_
          refine ev_loc f_X5_soundOf (nx := 53) rfl rfl rfl rfl ?_
          refine ev_ldL f_X5_soundOf (nx := 56) (v := 32) rfl (by decide) rfl ?_
          refine ev_ldivN f_X5_soundOf (nx := 57) rfl (by decide) rfl (fun z17 e17 => ?_)
          refine ev_loc f_X5_soundOf (nx := 59) (lo' := [(4, .long z17), (2, .long z16), (6, .int y1_6), (0, .long ar0)]) rfl rfl rfl rfl ?_
          refine ev_incR f_X5_soundOf (nx := 62) (c := 1) (l := 1) (u := 6) rfl rfl (by decide) (by decide) l1_6 u4 rfl rfl (by decide) (by decide) rfl (fun z18 e18 l18 u18 => ?_)
          refine ev_jmp f_X5_soundOf (nx := 8) rfl rfl rfl ?_
          refine ev_sub (lo := [(6, .int z18), (4, .long z17), (2, .long z16), (0, .long ar0)]) rfl (t_sc rfl (t_sc rfl (t_sc rfl (t_sc rfl t_sn)))) ?_
          exact ih1 _ (by omega) (z18) (z17) (z16) (Int.le_trans (by decide : (0:Int) ≤ 1) l18) u18 (by rw [← j1_0, show (6 - y1_6.toInt).toNat = (6 - z18.toInt).toNat + 1 from (by omega)]; exact (s_snr_t (fun hh => h6 (e5.trans ((lg_cmp_eq _ _).mpr hh))) (by rw [← e10]; exact (lg_cmp_eq _ _).mp (e11.symm.trans h12)) e17 e15 e16).symm) rfl
        · have r19 : z11.toInt ≠ 0 := fun e => h12 (Int32.toInt_inj.mp (e.trans (by decide : (0:Int) = (0 : Int32).toInt)))
          refine ev_lc f_X5_soundOf (nx := 46) (v := 1) rfl (by decide) rfl ?_
          refine ev_loc f_X5_soundOf (nx := 47) rfl rfl rfl rfl ?_
          refine ev_ic f_X5_soundOf (nx := 48) (v := 2) rfl (by decide) rfl ?_
          refine ev_anyLE f_X5_soundOf (nx := 49) rfl rfl rfl rfl (fun z20 e20 => ?_)
          refine ev_anyLE f_X5_soundOf (nx := 50) rfl rfl rfl rfl (fun z21 e21 => ?_)
          refine ev_loc f_X5_soundOf (nx := 51) (lo' := [(2, .long z21), (6, .int y1_6), (4, .long y1_4), (0, .long ar0)]) rfl rfl rfl rfl ?_
          refine ev_loc f_X5_soundOf (nx := 53) rfl rfl rfl rfl ?_
          refine ev_ldL f_X5_soundOf (nx := 56) (v := 32) rfl (by decide) rfl ?_
          refine ev_ldivN f_X5_soundOf (nx := 57) rfl (by decide) rfl (fun z22 e22 => ?_)
          refine ev_loc f_X5_soundOf (nx := 59) (lo' := [(4, .long z22), (2, .long z21), (6, .int y1_6), (0, .long ar0)]) rfl rfl rfl rfl ?_
          refine ev_incR f_X5_soundOf (nx := 62) (c := 1) (l := 1) (u := 6) rfl rfl (by decide) (by decide) l1_6 u4 rfl rfl (by decide) (by decide) rfl (fun z23 e23 l23 u23 => ?_)
          refine ev_jmp f_X5_soundOf (nx := 8) rfl rfl rfl ?_
          refine ev_sub (lo := [(6, .int z23), (4, .long z22), (2, .long z21), (0, .long ar0)]) rfl (t_sc rfl (t_sc rfl (t_sc rfl (t_sc rfl t_sn)))) ?_
          exact ih1 _ (by omega) (z23) (z22) (z21) (Int.le_trans (by decide : (0:Int) ≤ 1) l23) u23 (by rw [← j1_0, show (6 - y1_6.toInt).toNat = (6 - z23.toInt).toNat + 1 from (by omega)]; exact (s_snr_f (fun hh => h6 (e5.trans ((lg_cmp_eq _ _).mpr hh))) (fun hh => h12 (e11.trans ((lg_cmp_eq _ _).mpr (by rw [e10]; exact hh)))) e22 e20 e21).symm) rfl
  refine ev_sub (lo := [(6, .int 0), (4, .long ar0), (2, .long 0), (0, .long ar0)]) rfl (t_sc rfl (t_sc rfl (t_sc rfl (t_sc rfl t_sn)))) ?_
  exact L1 _ (0) (ar0) (0) (by decide : (0:Int) ≤ (0:Int32).toInt) (Int.le_trans (by decide : (0:Int32).toInt ≤ (0:Int)) (by decide : (0:Int) ≤ 6)) rfl rfl
noncomputable def wl_s_portNamed : List (Nat × Nat) := []
noncomputable def Q_s_portNamed (gi : Nat → Nat → Int32) (gl : Nat → Nat → Int64) (gr : Nat → Nat → Value) (ar0 : Nat) (ar1 : Int64) : Int32 → (Nat → Nat → Int32) → (Nat → Nat → Int64) → (Nat → Nat → Value) → Prop := fun (v : Int32) (gi2 : Nat → Nat → Int32) (gl2 : Nat → Nat → Int64) (gr2 : Nat → Nat → Value) => ∀ (b : Nat → Int32) (n q : Nat) (D : s_D) (m : Int) (P : Int → Prop), t_CS b n q D m P gi gl gr ar0 → v.toInt = s_fst (fun i => D (200 + i)) ar1.toInt (D 0).toNat 0
theorem c_s_portNamed {X : x_Ext} {d : Nat} {sh : List (Nat ⊕ (Nat × Nat))} {gi : Nat → Nat → Int32} {gl : Nat → Nat → Int64} {gr : Nat → Nat → Value} (hI : t_I sh gi gr) (ar0 : Nat) (p_a0 : t_RQ sh gr ar0) (ar1 : Int64) : x_Me X (d + 1) n_X6_portNamed [.ref ar0, .long ar1] (sh, gi, gl, gr) (t_PI wl_s_portNamed sh gi gl gr (-1) 5 (Q_s_portNamed gi gl gr ar0 ar1)) := by
  have hX : t_X wl_s_portNamed sh gi gl gr gi gl gr := t_X.rf
  refine me_i f_X6_portNamed p_a0.1 rfl rfl rfl ?_
  refine ev_ic f_X6_portNamed (nx := 1) (v := 0) rfl (by decide) rfl ?_
  refine ev_loc f_X6_portNamed (nx := 2) (lo' := [(3, .int 0), (0, .ref ar0), (1, .long ar1)]) rfl rfl rfl rfl ?_
  have L1 : ∀ (m1 : Nat) (y1_3 : Int32), 0 ≤ y1_3.toInt → y1_3.toInt ≤ 6 → (∀ (b : Nat → Int32) (n q : Nat) (D : s_D) (m : Int) (P : Int → Prop), t_CS b n q D m P gi gl gr ar0 → s_fst (fun i => D (200 + i)) ar1.toInt (D 0).toNat 0 = s_fst (fun i => D (200 + i)) ar1.toInt ((D 0).toNat - y1_3.toNatClampNeg) y1_3.toNatClampNeg) → (6 - y1_3.toInt).toNat = m1 → x_Ev X (d + 1) n_X6_portNamed 2 [(3, .int y1_3), (0, .ref ar0), (1, .long ar1)] [] (sh, gi, gl, gr) (t_PI wl_s_portNamed sh gi gl gr (-1) 5 (Q_s_portNamed gi gl gr ar0 ar1)) := by
    intro m1
    induction m1 using Nat.strongRecOn with
    | _ m1 ih1 =>
    intro y1_3 l1_3 u1_3 j1_0 hm1
    refine ev_loc f_X6_portNamed (nx := 3) rfl rfl rfl rfl ?_
    refine ev_loc f_X6_portNamed (nx := 4) rfl rfl rfl rfl ?_
    have e2 := p_a0.2.2.2.2.2.1
    have p2 := p_a0.2.2.2.2.2.2
    refine ev_getR f_X6_portNamed (nx := 7) rfl p_a0.1 rfl rfl e2 rfl rfl ?_
    refine ev_getI f_X6_portNamed (nx := 10) rfl p2.1 rfl rfl rfl ?_
    obtain ⟨l3, u3⟩ := hI.b p2.1 (t_bdK rfl : t_bd 4 0 = some (0, 6))
    refine ev_if f_X6_portNamed (t1 := 32) (t2 := 13) rfl rfl rfl (fun h4 => ?_) (fun h4 => ?_)
    · have r5 : (gi (ar0 + 2) 0).toInt ≤ y1_3.toInt := Int32.le_iff_toInt_le.mp h4
      refine ev_ic f_X6_portNamed (nx := 33) (v := -1) rfl (by decide) rfl ?_
      exact ev_ret f_X6_portNamed rfl rfl rfl ⟨_, _, _, rfl, hI, hX, ⟨_, rfl, (by decide : ((-1):Int) ≤ ((-1):Int32).toInt), (Int.le_trans (by decide : ((-1):Int32).toInt ≤ ((-1):Int)) (by decide : ((-1):Int) ≤ 5)), (show ∀ (b : Nat → Int32) (n q : Nat) (D : s_D) (m : Int) (P : Int → Prop), t_CS b n q D m P gi gl gr ar0 → ((-1) : Int) = s_fst (fun i => D (200 + i)) ar1.toInt (D 0).toNat 0 from (fun b n q D m P h => (t_pn_e h.2.1.2.2.1 (y := y1_3) (by omega) (j1_0 b n q D m P h)).symm))⟩⟩
    · have r6 : y1_3.toInt < (gi (ar0 + 2) 0).toInt := Int32.lt_iff_toInt_lt.mp (t_nle h4)
      have u7 : y1_3.toInt ≤ 5 := t_ltu (t_nle h4) u3 rfl
      have l8 : 1 ≤ (gi (ar0 + 2) 0).toInt := t_ltl (t_nle h4) l1_3 rfl
      refine ev_loc f_X6_portNamed (nx := 14) rfl rfl rfl rfl ?_
      have e9 := p_a0.2.2.1.1
      have p9 := p_a0.2.2.1.2
      refine ev_getR f_X6_portNamed (nx := 17) rfl p_a0.1 rfl rfl e9 rfl rfl ?_
      refine ev_loc f_X6_portNamed (nx := 18) rfl rfl rfl rfl ?_
      refine ev_laldT f_X6_portNamed (nx := 19) rfl p9 l1_3 (by decide) u7 (by decide) rfl (fun w10 e10 => ?_)
      refine ev_loc f_X6_portNamed (nx := 20) rfl rfl rfl rfl ?_
      refine ev_anyIE f_X6_portNamed (nx := 21) rfl rfl rfl rfl (fun z11 e11 => ?_)
      refine ev_if f_X6_portNamed (t1 := 24) (t2 := 26) rfl rfl rfl (fun h12 => ?_) (fun h12 => ?_)
      · have u13 : z11.toInt ≤ 0 := t_equ h12 (by decide : (0:Int32).toInt ≤ (0:Int))
        have l14 : 0 ≤ z11.toInt := t_eql h12 (by decide : (0:Int) ≤ (0:Int32).toInt)
        refine ev_loc f_X6_portNamed (nx := 25) rfl rfl rfl rfl ?_
        exact ev_ret f_X6_portNamed rfl rfl rfl ⟨_, _, _, rfl, hI, hX, ⟨_, rfl, (Int.le_trans (by decide : ((-1):Int) ≤ 0) l1_3), u7, (show ∀ (b : Nat → Int32) (n q : Nat) (D : s_D) (m : Int) (P : Int → Prop), t_CS b n q D m P gi gl gr ar0 → y1_3.toInt = s_fst (fun i => D (200 + i)) ar1.toInt (D 0).toNat 0 from (fun b n q D m P h => (t_pn_f h.2.1.2.2.1 (by omega) (by omega) e10 ((lg_cmp_eq _ _).mp (e11.symm.trans h12)) (j1_0 b n q D m P h)).symm))⟩⟩
      · have r15 : z11.toInt ≠ 0 := fun e => h12 (Int32.toInt_inj.mp (e.trans (by decide : (0:Int) = (0 : Int32).toInt)))
        refine ev_incR f_X6_portNamed (nx := 29) (c := 1) (l := 1) (u := 6) rfl rfl (by decide) (by decide) l1_3 u7 rfl rfl (by decide) (by decide) rfl (fun z16 e16 l16 u16 => ?_)
        refine ev_jmp f_X6_portNamed (nx := 2) rfl rfl rfl ?_
        refine ev_sub (lo := [(3, .int z16), (0, .ref ar0), (1, .long ar1)]) rfl (t_sc rfl (t_sc rfl (t_sc rfl t_sn))) ?_
        exact ih1 _ (by omega) (z16) (Int.le_trans (by decide : (0:Int) ≤ 1) l16) u16 (fun b n q D m P h => (j1_0 b n q D m P h).trans (t_pn_s h.2.1.2.2.1 (by omega) (by omega) e10 (fun hh => h12 (e11.trans ((lg_cmp_eq _ _).mpr hh))) (by omega))) rfl
  refine ev_sub (lo := [(3, .int 0), (0, .ref ar0), (1, .long ar1)]) rfl (t_sc rfl (t_sc rfl (t_sc rfl t_sn))) ?_
  exact L1 _ (0) (by decide : (0:Int) ≤ (0:Int32).toInt) (Int.le_trans (by decide : (0:Int32).toInt ≤ (0:Int)) (by decide : (0:Int) ≤ 6)) (fun b n q D m P h => rfl) rfl
noncomputable def wl_s_readTurns : List (Nat × Nat) := [(3, 3), (114, 3), (115, 5), (118, 2), (118, 3), (118, 4), (118, 5), (118, 6), (118, 7), (118, 8), (118, 9), (118, 10), (118, 11)]
noncomputable def Q_s_readTurns (gi : Nat → Nat → Int32) (gl : Nat → Nat → Int64) (gr : Nat → Nat → Value) (ar0 : Nat) : Int32 → (Nat → Nat → Int32) → (Nat → Nat → Int64) → (Nat → Nat → Value) → Prop := fun (v : Int32) (gi2 : Nat → Nat → Int32) (gl2 : Nat → Nat → Int64) (gr2 : Nat → Nat → Value) => (∀ (b : Nat → Int32) (n q : Nat) (D : s_D), t_CN b n q D gi gl gr ar0 → (v.toInt = 1 ∧ ∃ q2 D2, s_turns b n q D = s_ok q2 D2 ∧ t_CN b n q2 D2 gi2 gl2 gr2 ar0) ∨ (v.toInt = 0 ∧ ∃ p x D2, x ≠ 0 ∧ s_turns b n q D = s_bad b n p x D2 ∧ t_FL gi2 (ar0 + 1) (s_fk b n p x) (s_F b n p))) ∧ t_lq ar0 gi gl gr gi2 gl2 gr2
theorem c_s_readTurns {X : x_Ext} {d : Nat} {sh : List (Nat ⊕ (Nat × Nat))} {gi : Nat → Nat → Int32} {gl : Nat → Nat → Int64} {gr : Nat → Nat → Value} (hI : t_I sh gi gr) (ar0 : Nat) (p_a0 : t_RQ sh gr ar0) : x_Me X (d + 4) n_X6_readTurns [.ref ar0] (sh, gi, gl, gr) (t_PI wl_s_readTurns sh gi gl gr 0 1 (Q_s_readTurns gi gl gr ar0)) := by
  have hX : t_X wl_s_readTurns sh gi gl gr gi gl gr := t_X.rf
  refine me_i f_X6_readTurns p_a0.1 rfl rfl rfl ?_
  refine ev_loc f_X6_readTurns (nx := 1) rfl rfl rfl rfl ?_
  refine ev_getI f_X6_readTurns (nx := 4) rfl p_a0.1 rfl rfl rfl ?_
  refine ev_if f_X6_readTurns (t1 := 16) (t2 := 7) rfl rfl rfl (fun h1 => ?_) (fun h1 => ?_)
  · have u2 : (gi ar0 5).toInt ≤ 0 := t_equ h1 (by decide : (0:Int32).toInt ≤ (0:Int))
    have l3 : 0 ≤ (gi ar0 5).toInt := t_eql h1 (by decide : (0:Int) ≤ (0:Int32).toInt)
    refine ev_loc f_X6_readTurns (nx := 17) rfl rfl rfl rfl ?_
    refine ev_ic f_X6_readTurns (nx := 18) (v := 1) rfl (by decide) rfl ?_
    refine ev_putZT f_X6_readTurns (nx := 21) rfl p_a0.1 rfl rfl (Int.le_trans (by decide : (0:Int) ≤ 1) (by decide : (1:Int) ≤ (1:Int32).toInt)) (by decide : (1:Int32).toInt ≤ (1:Int)) rfl (hI.put0 p_a0.1 rfl rfl) (hX.upI (t_inO hI.wf p_a0.1 (t_outO hI.wf p_a0.1 rfl) rfl)) (fun g4 e4 hI hX => ?_)
    refine ev_loc f_X6_readTurns (nx := 22) rfl rfl rfl rfl ?_
    have e5 := p_a0.2.2.2.2.1.1
    have p5 := p_a0.2.2.2.2.1.2
    refine ev_getR f_X6_readTurns (nx := 25) rfl p_a0.1 rfl rfl e5 rfl rfl ?_
    refine ev_qN f_X6_readTurns (nx := 28) (r := []) rfl rfl rfl rfl rfl rfl rfl (c_s_step hI ((ar0 + 1)) p5) rfl hX rfl (fun gi6 gl6 gr6 hI hX hC6 q6 => ?_)
    have q6 : (∀ (b : Nat → Int32) (n q : Nat), t_Sp b n q g4 (ar0 + 1) → t_TC b n q gi6 gl6 gr6 (ar0 + 1)) ∧ t_nf g4 gi6 (ar0 + 1) ∧ t_on (ar0 + 1) g4 gl gr gi6 gl6 gr6 := q6
    replace p_a0 := p_a0.ext hC6.2
    replace p5 := p5.ext hC6.2
    refine ev_loc f_X6_readTurns (nx := 29) rfl rfl rfl rfl ?_
    have e7 := p_a0.2.2.2.2.2.1
    have p7 := p_a0.2.2.2.2.2.2
    refine ev_getR f_X6_readTurns (nx := 32) rfl p_a0.1 rfl rfl e7 rfl rfl ?_
    refine ev_loc f_X6_readTurns (nx := 33) rfl rfl rfl rfl ?_
    refine ev_getR f_X6_readTurns (nx := 36) (v := .ref (ar0 + 1)) rfl p_a0.1 rfl rfl ((hC6.1 ar0 0 (t_ninO hI.wf p_a0.1 (t_outO hI.wf p_a0.1 rfl) rfl)).2.2.trans e5) rfl rfl ?_
    refine ev_getI f_X6_readTurns (nx := 39) rfl p5.1 rfl rfl rfl ?_
    refine ev_putIT f_X6_readTurns (nx := 42) rfl p7.1 rfl rfl rfl (hI.put0 p7.1 rfl rfl) (hX.upI (t_inO hI.wf p7.1 (t_outO hI.wf p7.1 rfl) rfl)) (fun g8 e8 hI hX => ?_)
    refine ev_loc f_X6_readTurns (nx := 43) rfl rfl rfl rfl ?_
    refine ev_getR f_X6_readTurns (nx := 46) (v := .ref (ar0 + 1)) rfl p_a0.1 rfl rfl ((hC6.1 ar0 0 (t_ninO hI.wf p_a0.1 (t_outO hI.wf p_a0.1 rfl) rfl)).2.2.trans e5) rfl rfl ?_
    refine ev_ic f_X6_readTurns (nx := 47) (v := 1) rfl (by decide) rfl ?_
    refine ev_bp f_X6_readTurns (nx := 49) (v := 20) rfl (by decide) rfl ?_
    refine ev_qI f_X6_readTurns (nx := 52) (r := []) rfl rfl rfl rfl rfl rfl rfl (c_s_takeNumber hI ((ar0 + 1)) p5 (1) (20)) rfl hX rfl (fun w9 gi9 gl9 gr9 l9 u9 hI hX hC9 q9 => ?_)
    have q9 : (∀ (b : Nat → Int32) (n q : Nat), t_TC b n q g8 gl6 gr6 (ar0 + 1) → (w9.toInt = 1 ∧ s_isV b n q 1 20 ∧ t_TC b n (s_E b n q) gi9 gl9 gr9 (ar0 + 1) ∧ t_nf g8 gi9 (ar0 + 1)) ∨ (w9.toInt = 0 ∧ s_K b n q ≠ 3 ∧ t_FL gi9 (ar0 + 1) (s_fk b n q 2) (s_F b n q)) ∨ (w9.toInt = 0 ∧ (s_K b n q = 3 ∧ ¬ s_isV b n q 1 20) ∧ t_FL gi9 (ar0 + 1) (s_fk b n q 4) (s_F b n q))) ∧ t_on (ar0 + 1) g8 gl6 gr6 gi9 gl9 gr9 := q9
    replace p_a0 := p_a0.ext hC9.2
    replace p5 := p5.ext hC9.2
    replace p7 := p7.ext hC9.2
    exact ev_retZ f_X6_readTurns rfl l9 u9 ⟨_, _, _, rfl, hI, hX, ⟨_, rfl, l9, u9, (show (∀ (b : Nat → Int32) (n q : Nat) (D : s_D), t_CN b n q D gi gl gr ar0 → (w9.toInt = 1 ∧ ∃ q2 D2, s_turns b n q D = s_ok q2 D2 ∧ t_CN b n q2 D2 gi9 gl9 gr9 ar0) ∨ (w9.toInt = 0 ∧ ∃ p x D2, x ≠ 0 ∧ s_turns b n q D = s_bad b n p x D2 ∧ t_FL gi9 (ar0 + 1) (s_fk b n p x) (s_F b n p))) ∧ t_lq ar0 gi gl gr gi9 gl9 gr9 from ⟨(by
                                                            intro b n q D h
                                                            have h102 := p_a0.2.1
                                                            have h : t_CS b n q D (D 0 + D 1 + D 2) (s_used D) gi gl gr ar0 := h
                                                            obtain ⟨⟨hb1, hb2⟩, ⟨hb3, hb4⟩, hb5, hb6⟩ := h.2.1.1
                                                            have hf : (gi ar0 5).toInt = D 221 := h.2.1.2.2.2.1.2.1
                                                            have hS : t_Sp b n (s_E b n q) g4 (ar0 + 1) := ⟨by rw [e4, x_up2_ne (by omega)]; exact h.1.S.1, by rw [e4, x_up2_ne (by omega)]; exact h.1.S.2.1, by rw [e4, x_up2_ne (by omega)]; exact h.1.S.2.2.1, h.1.S.2.2.2⟩
                                                            have h1 := q6.1 b n _ hS
                                                            have f1 : t_FL gi6 (ar0 + 1) 0 (-1) := ⟨by rw [q6.2.1.1, e4, x_up2_ne (by omega)]; exact h.2.2.1, by rw [q6.2.1.2, e4, x_up2_ne (by omega)]; exact h.2.2.2⟩
                                                            have g1 : t_TC b n _ g8 gl6 gr6 (ar0 + 1) := h1.eq (by rw [e8, x_up2_ne (by omega)]) (by rw [e8, x_up2_ne (by omega)]) rfl rfl
                                                            have k1 : t_FL g8 (ar0 + 1) 0 (-1) := ⟨by rw [e8, x_up2_ne (by omega)]; exact f1.1, by rw [e8, x_up2_ne (by omega)]; exact f1.2⟩
                                                            rcases q9.1 b n _ g1 with hh | hh | hh
                                                            · have hq := h.2.1.2.2.2.1
                                                              have hr : ∀ K, K ≠ ar0 → K ≠ ar0 + 1 → K ≠ ar0 + 2 → gi9 K = gi K := fun K h0 h1 h2 => by rw [(q9.2 K (by omega)).1, e8, x_up2_ne (by omega), (q6.2.2 K (by omega)).1, e4, x_up2_ne (by omega)]
                                                              have hl : ∀ K, K ≠ ar0 + 1 → gl9 K = gl K := fun K h1 => by rw [(q9.2 K (by omega)).2.1, (q6.2.2 K (by omega)).2.1]
                                                              have r04 : gi9 ar0 4 = gi ar0 4 := by rw [(q9.2 (ar0) (by omega)).1, e8, x_up2_ne (by omega), (q6.2.2 (ar0) (by omega)).1, e4, x_up2_off (Or.inr (by decide))]
                                                              have r05 : gi9 ar0 5 = (1 : Int32) := by rw [(q9.2 (ar0) (by omega)).1, e8, x_up2_ne (by omega), (q6.2.2 (ar0) (by omega)).1, e4, x_up2_at]
                                                              have r06 : gi9 ar0 6 = gi ar0 6 := by rw [(q9.2 (ar0) (by omega)).1, e8, x_up2_ne (by omega), (q6.2.2 (ar0) (by omega)).1, e4, x_up2_off (Or.inr (by decide))]
                                                              have r07 : gi9 ar0 7 = gi ar0 7 := by rw [(q9.2 (ar0) (by omega)).1, e8, x_up2_ne (by omega), (q6.2.2 (ar0) (by omega)).1, e4, x_up2_off (Or.inr (by decide))]
                                                              have r20 : gi9 (ar0 + 2) 0 = gi (ar0 + 2) 0 := by rw [(q9.2 (ar0 + 2) (by omega)).1, e8, x_up2_off (Or.inr (by decide)), (q6.2.2 (ar0 + 2) (by omega)).1, e4, x_up2_ne (by omega)]
                                                              have r23 : gi9 (ar0 + 2) 3 = (gi6 (ar0 + 1) 8) := by rw [(q9.2 (ar0 + 2) (by omega)).1, e8, x_up2_at]
                                                              have r24 : gi9 (ar0 + 2) 4 = gi (ar0 + 2) 4 := by rw [(q9.2 (ar0 + 2) (by omega)).1, e8, x_up2_off (Or.inr (by decide)), (q6.2.2 (ar0 + 2) (by omega)).1, e4, x_up2_ne (by omega)]
                                                              have r25 : gi9 (ar0 + 2) 5 = gi (ar0 + 2) 5 := by rw [(q9.2 (ar0 + 2) (by omega)).1, e8, x_up2_off (Or.inr (by decide)), (q6.2.2 (ar0 + 2) (by omega)).1, e4, x_up2_ne (by omega)]
                                                              have r26 : gi9 (ar0 + 2) 6 = gi (ar0 + 2) 6 := by rw [(q9.2 (ar0 + 2) (by omega)).1, e8, x_up2_off (Or.inr (by decide)), (q6.2.2 (ar0 + 2) (by omega)).1, e4, x_up2_ne (by omega)]
                                                              have v4 : (gi6 (ar0 + 1) 8).toInt = s_V b n _ := congrArg Int32.toInt (h1.2.2.2.2.2.2.1 hh.2.1.1)
                                                              exact Or.inl ⟨hh.1, _, (s_set (s_set D 221 1) 4 (s_V b n (s_E b n q))), by simp only [s_turns, s_num, s_ifT (show D 221 = 0 by omega), s_ifT hh.2.1.1, s_ifT hh.2.1], hh.2.2.1, h.2.1.tel (fun c _ h0 h1 h2 => hr _ (by omega) (by omega) (by omega)) (fun c _ h1 => hl _ (by omega)) r04 r20 ⟨⟨(congrArg Int32.toInt r23).trans v4, (congrArg Int32.toInt r24).trans hq.1.2.1, (congrArg Int32.toInt r25).trans hq.1.2.2.1, (congrArg Int32.toInt r26).trans hq.1.2.2.2⟩, (congrArg Int32.toInt r05).trans rfl, (congrArg Int32.toInt r06).trans hq.2.2.1, (congrArg Int32.toInt r07).trans hq.2.2.2⟩ (fun j hj => (by unfold s_set; rw [if_neg (by omega), if_neg (by omega)])), by rw [hh.2.2.2.1]; exact k1.1, by rw [hh.2.2.2.2]; exact k1.2⟩
                                                            · exact Or.inr ⟨hh.1, _, 2, D, by decide, by simp only [s_turns, s_num, s_ifT (show D 221 = 0 by omega), s_ifF hh.2.1], hh.2.2⟩
                                                            · exact Or.inr ⟨hh.1, _, 4, D, by decide, by simp only [s_turns, s_num, s_ifT (show D 221 = 0 by omega), s_ifT hh.2.1.1, s_ifF hh.2.1.2], hh.2.2⟩), (t_lq.on (t_lq.I (t_lq.on (t_lq.I t_lq.rf (by omega) e4) q6.2.2 (by omega)) (by omega) e8) q9.2 (by omega))⟩)⟩⟩
  · have r10 : (gi ar0 5).toInt ≠ 0 := fun e => h1 (Int32.toInt_inj.mp (e.trans (by decide : (0:Int) = (0 : Int32).toInt)))
    refine ev_loc f_X6_readTurns (nx := 8) rfl rfl rfl rfl ?_
    have e11 := p_a0.2.2.2.2.1.1
    have p11 := p_a0.2.2.2.2.1.2
    refine ev_getR f_X6_readTurns (nx := 11) rfl p_a0.1 rfl rfl e11 rfl rfl ?_
    refine ev_ic f_X6_readTurns (nx := 12) (v := 5) rfl (by decide) rfl ?_
    refine ev_qI f_X6_readTurns (nx := 15) (r := []) rfl rfl rfl rfl rfl rfl rfl (c_s_refuse hI ((ar0 + 1)) p11 (5) (Int.le_trans (by decide : (2:Int) ≤ 5) (by decide : (5:Int) ≤ (5:Int32).toInt)) (Int.le_trans (by decide : (5:Int32).toInt ≤ (5:Int)) (by decide : (5:Int) ≤ 7))) rfl hX rfl (fun w12 gi12 gl12 gr12 l12 u12 hI hX hC12 q12 => ?_)
    have q12 : (∀ (b : Nat → Int32) (n q : Nat), t_TC b n q gi gl gr (ar0 + 1) → t_FL gi12 (ar0 + 1) (s_fk b n q 5) (s_F b n q)) ∧ w12.toInt = 0 ∧ t_on (ar0 + 1) gi gl gr gi12 gl12 gr12 := q12
    replace p_a0 := p_a0.ext hC12.2
    replace p11 := p11.ext hC12.2
    exact ev_retZ f_X6_readTurns rfl l12 (Int.le_trans u12 (by decide : (0:Int) ≤ 1)) ⟨_, _, _, rfl, hI, hX, ⟨_, rfl, l12, (Int.le_trans u12 (by decide : (0:Int) ≤ 1)), (show (∀ (b : Nat → Int32) (n q : Nat) (D : s_D), t_CN b n q D gi gl gr ar0 → (w12.toInt = 1 ∧ ∃ q2 D2, s_turns b n q D = s_ok q2 D2 ∧ t_CN b n q2 D2 gi12 gl12 gr12 ar0) ∨ (w12.toInt = 0 ∧ ∃ p x D2, x ≠ 0 ∧ s_turns b n q D = s_bad b n p x D2 ∧ t_FL gi12 (ar0 + 1) (s_fk b n p x) (s_F b n p))) ∧ t_lq ar0 gi gl gr gi12 gl12 gr12 from ⟨(by
                                                            intro b n q D h
                                                            have h102 := p_a0.2.1
                                                            have h : t_CS b n q D (D 0 + D 1 + D 2) (s_used D) gi gl gr ar0 := h
                                                            obtain ⟨⟨hb1, hb2⟩, ⟨hb3, hb4⟩, hb5, hb6⟩ := h.2.1.1
                                                            have hf : (gi ar0 5).toInt = D 221 := h.2.1.2.2.2.1.2.1
                                                            exact Or.inr ⟨q12.2.1, _, 5, D, by decide, by simp only [s_turns, s_ifF (show ¬ D 221 = 0 by omega)], q12.1 b n q h.1⟩), (t_lq.on t_lq.rf q12.2.2 (by omega))⟩)⟩⟩
noncomputable def wl_s_readEcho : List (Nat × Nat) := [(3, 6), (114, 6), (115, 7), (118, 2), (118, 3), (118, 4), (118, 5), (118, 6), (118, 7), (118, 8), (118, 9), (118, 10), (118, 11)]
noncomputable def Q_s_readEcho (gi : Nat → Nat → Int32) (gl : Nat → Nat → Int64) (gr : Nat → Nat → Value) (ar0 : Nat) : Int32 → (Nat → Nat → Int32) → (Nat → Nat → Int64) → (Nat → Nat → Value) → Prop := fun (v : Int32) (gi2 : Nat → Nat → Int32) (gl2 : Nat → Nat → Int64) (gr2 : Nat → Nat → Value) => (∀ (b : Nat → Int32) (n q : Nat) (D : s_D), t_CN b n q D gi gl gr ar0 → (v.toInt = 1 ∧ ∃ q2 D2, s_echo b n q D = s_ok q2 D2 ∧ t_CN b n q2 D2 gi2 gl2 gr2 ar0) ∨ (v.toInt = 0 ∧ ∃ p x D2, x ≠ 0 ∧ s_echo b n q D = s_bad b n p x D2 ∧ t_FL gi2 (ar0 + 1) (s_fk b n p x) (s_F b n p))) ∧ t_lq ar0 gi gl gr gi2 gl2 gr2
theorem c_s_readEcho {X : x_Ext} {d : Nat} {sh : List (Nat ⊕ (Nat × Nat))} {gi : Nat → Nat → Int32} {gl : Nat → Nat → Int64} {gr : Nat → Nat → Value} (hI : t_I sh gi gr) (ar0 : Nat) (p_a0 : t_RQ sh gr ar0) : x_Me X (d + 4) n_X6_readEcho [.ref ar0] (sh, gi, gl, gr) (t_PI wl_s_readEcho sh gi gl gr 0 1 (Q_s_readEcho gi gl gr ar0)) := by
  have hX : t_X wl_s_readEcho sh gi gl gr gi gl gr := t_X.rf
  refine me_i f_X6_readEcho p_a0.1 rfl rfl rfl ?_
  refine ev_loc f_X6_readEcho (nx := 1) rfl rfl rfl rfl ?_
  refine ev_getI f_X6_readEcho (nx := 4) rfl p_a0.1 rfl rfl rfl ?_
  refine ev_if f_X6_readEcho (t1 := 16) (t2 := 7) rfl rfl rfl (fun h1 => ?_) (fun h1 => ?_)
  · have u2 : (gi ar0 7).toInt ≤ 0 := t_equ h1 (by decide : (0:Int32).toInt ≤ (0:Int))
    have l3 : 0 ≤ (gi ar0 7).toInt := t_eql h1 (by decide : (0:Int) ≤ (0:Int32).toInt)
    refine ev_loc f_X6_readEcho (nx := 17) rfl rfl rfl rfl ?_
    refine ev_ic f_X6_readEcho (nx := 18) (v := 1) rfl (by decide) rfl ?_
    refine ev_putZT f_X6_readEcho (nx := 21) rfl p_a0.1 rfl rfl (Int.le_trans (by decide : (0:Int) ≤ 1) (by decide : (1:Int) ≤ (1:Int32).toInt)) (by decide : (1:Int32).toInt ≤ (1:Int)) rfl (hI.put0 p_a0.1 rfl rfl) (hX.upI (t_inO hI.wf p_a0.1 (t_outO hI.wf p_a0.1 rfl) rfl)) (fun g4 e4 hI hX => ?_)
    refine ev_loc f_X6_readEcho (nx := 22) rfl rfl rfl rfl ?_
    have e5 := p_a0.2.2.2.2.1.1
    have p5 := p_a0.2.2.2.2.1.2
    refine ev_getR f_X6_readEcho (nx := 25) rfl p_a0.1 rfl rfl e5 rfl rfl ?_
    refine ev_qN f_X6_readEcho (nx := 28) (r := []) rfl rfl rfl rfl rfl rfl rfl (c_s_step hI ((ar0 + 1)) p5) rfl hX rfl (fun gi6 gl6 gr6 hI hX hC6 q6 => ?_)
    have q6 : (∀ (b : Nat → Int32) (n q : Nat), t_Sp b n q g4 (ar0 + 1) → t_TC b n q gi6 gl6 gr6 (ar0 + 1)) ∧ t_nf g4 gi6 (ar0 + 1) ∧ t_on (ar0 + 1) g4 gl gr gi6 gl6 gr6 := q6
    replace p_a0 := p_a0.ext hC6.2
    replace p5 := p5.ext hC6.2
    refine ev_loc f_X6_readEcho (nx := 29) rfl rfl rfl rfl ?_
    have e7 := p_a0.2.2.2.2.2.1
    have p7 := p_a0.2.2.2.2.2.2
    refine ev_getR f_X6_readEcho (nx := 32) rfl p_a0.1 rfl rfl e7 rfl rfl ?_
    refine ev_loc f_X6_readEcho (nx := 33) rfl rfl rfl rfl ?_
    refine ev_getR f_X6_readEcho (nx := 36) (v := .ref (ar0 + 1)) rfl p_a0.1 rfl rfl ((hC6.1 ar0 0 (t_ninO hI.wf p_a0.1 (t_outO hI.wf p_a0.1 rfl) rfl)).2.2.trans e5) rfl rfl ?_
    refine ev_getI f_X6_readEcho (nx := 39) rfl p5.1 rfl rfl rfl ?_
    refine ev_putIT f_X6_readEcho (nx := 42) rfl p7.1 rfl rfl rfl (hI.put0 p7.1 rfl rfl) (hX.upI (t_inO hI.wf p7.1 (t_outO hI.wf p7.1 rfl) rfl)) (fun g8 e8 hI hX => ?_)
    refine ev_loc f_X6_readEcho (nx := 43) rfl rfl rfl rfl ?_
    refine ev_getR f_X6_readEcho (nx := 46) (v := .ref (ar0 + 1)) rfl p_a0.1 rfl rfl ((hC6.1 ar0 0 (t_ninO hI.wf p_a0.1 (t_outO hI.wf p_a0.1 rfl) rfl)).2.2.trans e5) rfl rfl ?_
    refine ev_ic f_X6_readEcho (nx := 47) (v := 0) rfl (by decide) rfl ?_
    refine ev_bp f_X6_readEcho (nx := 49) (v := 9) rfl (by decide) rfl ?_
    refine ev_qI f_X6_readEcho (nx := 52) (r := []) rfl rfl rfl rfl rfl rfl rfl (c_s_takeNumber hI ((ar0 + 1)) p5 (0) (9)) rfl hX rfl (fun w9 gi9 gl9 gr9 l9 u9 hI hX hC9 q9 => ?_)
    have q9 : (∀ (b : Nat → Int32) (n q : Nat), t_TC b n q g8 gl6 gr6 (ar0 + 1) → (w9.toInt = 1 ∧ s_isV b n q 0 9 ∧ t_TC b n (s_E b n q) gi9 gl9 gr9 (ar0 + 1) ∧ t_nf g8 gi9 (ar0 + 1)) ∨ (w9.toInt = 0 ∧ s_K b n q ≠ 3 ∧ t_FL gi9 (ar0 + 1) (s_fk b n q 2) (s_F b n q)) ∨ (w9.toInt = 0 ∧ (s_K b n q = 3 ∧ ¬ s_isV b n q 0 9) ∧ t_FL gi9 (ar0 + 1) (s_fk b n q 4) (s_F b n q))) ∧ t_on (ar0 + 1) g8 gl6 gr6 gi9 gl9 gr9 := q9
    replace p_a0 := p_a0.ext hC9.2
    replace p5 := p5.ext hC9.2
    replace p7 := p7.ext hC9.2
    exact ev_retZ f_X6_readEcho rfl l9 u9 ⟨_, _, _, rfl, hI, hX, ⟨_, rfl, l9, u9, (show (∀ (b : Nat → Int32) (n q : Nat) (D : s_D), t_CN b n q D gi gl gr ar0 → (w9.toInt = 1 ∧ ∃ q2 D2, s_echo b n q D = s_ok q2 D2 ∧ t_CN b n q2 D2 gi9 gl9 gr9 ar0) ∨ (w9.toInt = 0 ∧ ∃ p x D2, x ≠ 0 ∧ s_echo b n q D = s_bad b n p x D2 ∧ t_FL gi9 (ar0 + 1) (s_fk b n p x) (s_F b n p))) ∧ t_lq ar0 gi gl gr gi9 gl9 gr9 from ⟨(by
                                                            intro b n q D h
                                                            have h102 := p_a0.2.1
                                                            have h : t_CS b n q D (D 0 + D 1 + D 2) (s_used D) gi gl gr ar0 := h
                                                            obtain ⟨⟨hb1, hb2⟩, ⟨hb3, hb4⟩, hb5, hb6⟩ := h.2.1.1
                                                            have hf : (gi ar0 7).toInt = D 223 := h.2.1.2.2.2.1.2.2.2
                                                            have hS : t_Sp b n (s_E b n q) g4 (ar0 + 1) := ⟨by rw [e4, x_up2_ne (by omega)]; exact h.1.S.1, by rw [e4, x_up2_ne (by omega)]; exact h.1.S.2.1, by rw [e4, x_up2_ne (by omega)]; exact h.1.S.2.2.1, h.1.S.2.2.2⟩
                                                            have h1 := q6.1 b n _ hS
                                                            have f1 : t_FL gi6 (ar0 + 1) 0 (-1) := ⟨by rw [q6.2.1.1, e4, x_up2_ne (by omega)]; exact h.2.2.1, by rw [q6.2.1.2, e4, x_up2_ne (by omega)]; exact h.2.2.2⟩
                                                            have g1 : t_TC b n _ g8 gl6 gr6 (ar0 + 1) := h1.eq (by rw [e8, x_up2_ne (by omega)]) (by rw [e8, x_up2_ne (by omega)]) rfl rfl
                                                            have k1 : t_FL g8 (ar0 + 1) 0 (-1) := ⟨by rw [e8, x_up2_ne (by omega)]; exact f1.1, by rw [e8, x_up2_ne (by omega)]; exact f1.2⟩
                                                            rcases q9.1 b n _ g1 with hh | hh | hh
                                                            · have hq := h.2.1.2.2.2.1
                                                              have hr : ∀ K, K ≠ ar0 → K ≠ ar0 + 1 → K ≠ ar0 + 2 → gi9 K = gi K := fun K h0 h1 h2 => by rw [(q9.2 K (by omega)).1, e8, x_up2_ne (by omega), (q6.2.2 K (by omega)).1, e4, x_up2_ne (by omega)]
                                                              have hl : ∀ K, K ≠ ar0 + 1 → gl9 K = gl K := fun K h1 => by rw [(q9.2 K (by omega)).2.1, (q6.2.2 K (by omega)).2.1]
                                                              have r04 : gi9 ar0 4 = gi ar0 4 := by rw [(q9.2 (ar0) (by omega)).1, e8, x_up2_ne (by omega), (q6.2.2 (ar0) (by omega)).1, e4, x_up2_off (Or.inr (by decide))]
                                                              have r05 : gi9 ar0 5 = gi ar0 5 := by rw [(q9.2 (ar0) (by omega)).1, e8, x_up2_ne (by omega), (q6.2.2 (ar0) (by omega)).1, e4, x_up2_off (Or.inr (by decide))]
                                                              have r06 : gi9 ar0 6 = gi ar0 6 := by rw [(q9.2 (ar0) (by omega)).1, e8, x_up2_ne (by omega), (q6.2.2 (ar0) (by omega)).1, e4, x_up2_off (Or.inr (by decide))]
                                                              have r07 : gi9 ar0 7 = (1 : Int32) := by rw [(q9.2 (ar0) (by omega)).1, e8, x_up2_ne (by omega), (q6.2.2 (ar0) (by omega)).1, e4, x_up2_at]
                                                              have r20 : gi9 (ar0 + 2) 0 = gi (ar0 + 2) 0 := by rw [(q9.2 (ar0 + 2) (by omega)).1, e8, x_up2_off (Or.inr (by decide)), (q6.2.2 (ar0 + 2) (by omega)).1, e4, x_up2_ne (by omega)]
                                                              have r23 : gi9 (ar0 + 2) 3 = gi (ar0 + 2) 3 := by rw [(q9.2 (ar0 + 2) (by omega)).1, e8, x_up2_off (Or.inr (by decide)), (q6.2.2 (ar0 + 2) (by omega)).1, e4, x_up2_ne (by omega)]
                                                              have r24 : gi9 (ar0 + 2) 4 = gi (ar0 + 2) 4 := by rw [(q9.2 (ar0 + 2) (by omega)).1, e8, x_up2_off (Or.inr (by decide)), (q6.2.2 (ar0 + 2) (by omega)).1, e4, x_up2_ne (by omega)]
                                                              have r25 : gi9 (ar0 + 2) 5 = gi (ar0 + 2) 5 := by rw [(q9.2 (ar0 + 2) (by omega)).1, e8, x_up2_off (Or.inr (by decide)), (q6.2.2 (ar0 + 2) (by omega)).1, e4, x_up2_ne (by omega)]
                                                              have r26 : gi9 (ar0 + 2) 6 = (gi6 (ar0 + 1) 8) := by rw [(q9.2 (ar0 + 2) (by omega)).1, e8, x_up2_at]
                                                              have v7 : (gi6 (ar0 + 1) 8).toInt = s_V b n _ := congrArg Int32.toInt (h1.2.2.2.2.2.2.1 hh.2.1.1)
                                                              exact Or.inl ⟨hh.1, _, (s_set (s_set D 223 1) 7 (s_V b n (s_E b n q))), by simp only [s_echo, s_num, s_ifT (show D 223 = 0 by omega), s_ifT hh.2.1.1, s_ifT hh.2.1], hh.2.2.1, h.2.1.tel (fun c _ h0 h1 h2 => hr _ (by omega) (by omega) (by omega)) (fun c _ h1 => hl _ (by omega)) r04 r20 ⟨⟨(congrArg Int32.toInt r23).trans hq.1.1, (congrArg Int32.toInt r24).trans hq.1.2.1, (congrArg Int32.toInt r25).trans hq.1.2.2.1, (congrArg Int32.toInt r26).trans v7⟩, (congrArg Int32.toInt r05).trans hq.2.1, (congrArg Int32.toInt r06).trans hq.2.2.1, (congrArg Int32.toInt r07).trans rfl⟩ (fun j hj => (by unfold s_set; rw [if_neg (by omega), if_neg (by omega)])), by rw [hh.2.2.2.1]; exact k1.1, by rw [hh.2.2.2.2]; exact k1.2⟩
                                                            · exact Or.inr ⟨hh.1, _, 2, D, by decide, by simp only [s_echo, s_num, s_ifT (show D 223 = 0 by omega), s_ifF hh.2.1], hh.2.2⟩
                                                            · exact Or.inr ⟨hh.1, _, 4, D, by decide, by simp only [s_echo, s_num, s_ifT (show D 223 = 0 by omega), s_ifT hh.2.1.1, s_ifF hh.2.1.2], hh.2.2⟩), (t_lq.on (t_lq.I (t_lq.on (t_lq.I t_lq.rf (by omega) e4) q6.2.2 (by omega)) (by omega) e8) q9.2 (by omega))⟩)⟩⟩
  · have r10 : (gi ar0 7).toInt ≠ 0 := fun e => h1 (Int32.toInt_inj.mp (e.trans (by decide : (0:Int) = (0 : Int32).toInt)))
    refine ev_loc f_X6_readEcho (nx := 8) rfl rfl rfl rfl ?_
    have e11 := p_a0.2.2.2.2.1.1
    have p11 := p_a0.2.2.2.2.1.2
    refine ev_getR f_X6_readEcho (nx := 11) rfl p_a0.1 rfl rfl e11 rfl rfl ?_
    refine ev_ic f_X6_readEcho (nx := 12) (v := 5) rfl (by decide) rfl ?_
    refine ev_qI f_X6_readEcho (nx := 15) (r := []) rfl rfl rfl rfl rfl rfl rfl (c_s_refuse hI ((ar0 + 1)) p11 (5) (Int.le_trans (by decide : (2:Int) ≤ 5) (by decide : (5:Int) ≤ (5:Int32).toInt)) (Int.le_trans (by decide : (5:Int32).toInt ≤ (5:Int)) (by decide : (5:Int) ≤ 7))) rfl hX rfl (fun w12 gi12 gl12 gr12 l12 u12 hI hX hC12 q12 => ?_)
    have q12 : (∀ (b : Nat → Int32) (n q : Nat), t_TC b n q gi gl gr (ar0 + 1) → t_FL gi12 (ar0 + 1) (s_fk b n q 5) (s_F b n q)) ∧ w12.toInt = 0 ∧ t_on (ar0 + 1) gi gl gr gi12 gl12 gr12 := q12
    replace p_a0 := p_a0.ext hC12.2
    replace p11 := p11.ext hC12.2
    exact ev_retZ f_X6_readEcho rfl l12 (Int.le_trans u12 (by decide : (0:Int) ≤ 1)) ⟨_, _, _, rfl, hI, hX, ⟨_, rfl, l12, (Int.le_trans u12 (by decide : (0:Int) ≤ 1)), (show (∀ (b : Nat → Int32) (n q : Nat) (D : s_D), t_CN b n q D gi gl gr ar0 → (w12.toInt = 1 ∧ ∃ q2 D2, s_echo b n q D = s_ok q2 D2 ∧ t_CN b n q2 D2 gi12 gl12 gr12 ar0) ∨ (w12.toInt = 0 ∧ ∃ p x D2, x ≠ 0 ∧ s_echo b n q D = s_bad b n p x D2 ∧ t_FL gi12 (ar0 + 1) (s_fk b n p x) (s_F b n p))) ∧ t_lq ar0 gi gl gr gi12 gl12 gr12 from ⟨(by
                                                            intro b n q D h
                                                            have h102 := p_a0.2.1
                                                            have h : t_CS b n q D (D 0 + D 1 + D 2) (s_used D) gi gl gr ar0 := h
                                                            obtain ⟨⟨hb1, hb2⟩, ⟨hb3, hb4⟩, hb5, hb6⟩ := h.2.1.1
                                                            have hf : (gi ar0 7).toInt = D 223 := h.2.1.2.2.2.1.2.2.2
                                                            exact Or.inr ⟨q12.2.1, _, 5, D, by decide, by simp only [s_echo, s_ifF (show ¬ D 223 = 0 by omega)], q12.1 b n q h.1⟩), (t_lq.on t_lq.rf q12.2.2 (by omega))⟩)⟩⟩
noncomputable def wl_s_readFrost : List (Nat × Nat) := [(3, 4), (3, 5), (114, 4), (114, 5), (115, 6), (118, 2), (118, 3), (118, 4), (118, 5), (118, 6), (118, 7), (118, 8), (118, 9), (118, 10), (118, 11)]
noncomputable def Q_s_readFrost (gi : Nat → Nat → Int32) (gl : Nat → Nat → Int64) (gr : Nat → Nat → Value) (ar0 : Nat) : Int32 → (Nat → Nat → Int32) → (Nat → Nat → Int64) → (Nat → Nat → Value) → Prop := fun (v : Int32) (gi2 : Nat → Nat → Int32) (gl2 : Nat → Nat → Int64) (gr2 : Nat → Nat → Value) => (∀ (b : Nat → Int32) (n q : Nat) (D : s_D), t_CN b n q D gi gl gr ar0 → (v.toInt = 1 ∧ ∃ q2 D2, s_frost b n q D = s_ok q2 D2 ∧ t_CN b n q2 D2 gi2 gl2 gr2 ar0) ∨ (v.toInt = 0 ∧ ∃ p x D2, x ≠ 0 ∧ s_frost b n q D = s_bad b n p x D2 ∧ t_FL gi2 (ar0 + 1) (s_fk b n p x) (s_F b n p))) ∧ t_lq ar0 gi gl gr gi2 gl2 gr2
theorem c_s_readFrost {X : x_Ext} {d : Nat} {sh : List (Nat ⊕ (Nat × Nat))} {gi : Nat → Nat → Int32} {gl : Nat → Nat → Int64} {gr : Nat → Nat → Value} (hI : t_I sh gi gr) (ar0 : Nat) (p_a0 : t_RQ sh gr ar0) : x_Me X (d + 4) n_X6_readFrost [.ref ar0] (sh, gi, gl, gr) (t_PI wl_s_readFrost sh gi gl gr 0 1 (Q_s_readFrost gi gl gr ar0)) := by
  have hX : t_X wl_s_readFrost sh gi gl gr gi gl gr := t_X.rf
  refine me_i f_X6_readFrost p_a0.1 rfl rfl rfl ?_
  refine ev_loc f_X6_readFrost (nx := 1) rfl rfl rfl rfl ?_
  refine ev_getI f_X6_readFrost (nx := 4) rfl p_a0.1 rfl rfl rfl ?_
  refine ev_if f_X6_readFrost (t1 := 16) (t2 := 7) rfl rfl rfl (fun h1 => ?_) (fun h1 => ?_)
  · have u2 : (gi ar0 6).toInt ≤ 0 := t_equ h1 (by decide : (0:Int32).toInt ≤ (0:Int))
    have l3 : 0 ≤ (gi ar0 6).toInt := t_eql h1 (by decide : (0:Int) ≤ (0:Int32).toInt)
    refine ev_loc f_X6_readFrost (nx := 17) rfl rfl rfl rfl ?_
    refine ev_ic f_X6_readFrost (nx := 18) (v := 1) rfl (by decide) rfl ?_
    refine ev_putZT f_X6_readFrost (nx := 21) rfl p_a0.1 rfl rfl (Int.le_trans (by decide : (0:Int) ≤ 1) (by decide : (1:Int) ≤ (1:Int32).toInt)) (by decide : (1:Int32).toInt ≤ (1:Int)) rfl (hI.put0 p_a0.1 rfl rfl) (hX.upI (t_inO hI.wf p_a0.1 (t_outO hI.wf p_a0.1 rfl) rfl)) (fun g4 e4 hI hX => ?_)
    refine ev_loc f_X6_readFrost (nx := 22) rfl rfl rfl rfl ?_
    have e5 := p_a0.2.2.2.2.1.1
    have p5 := p_a0.2.2.2.2.1.2
    refine ev_getR f_X6_readFrost (nx := 25) rfl p_a0.1 rfl rfl e5 rfl rfl ?_
    refine ev_qN f_X6_readFrost (nx := 28) (r := []) rfl rfl rfl rfl rfl rfl rfl (c_s_step hI ((ar0 + 1)) p5) rfl hX rfl (fun gi6 gl6 gr6 hI hX hC6 q6 => ?_)
    have q6 : (∀ (b : Nat → Int32) (n q : Nat), t_Sp b n q g4 (ar0 + 1) → t_TC b n q gi6 gl6 gr6 (ar0 + 1)) ∧ t_nf g4 gi6 (ar0 + 1) ∧ t_on (ar0 + 1) g4 gl gr gi6 gl6 gr6 := q6
    replace p_a0 := p_a0.ext hC6.2
    replace p5 := p5.ext hC6.2
    refine ev_loc f_X6_readFrost (nx := 29) rfl rfl rfl rfl ?_
    have e7 := p_a0.2.2.2.2.2.1
    have p7 := p_a0.2.2.2.2.2.2
    refine ev_getR f_X6_readFrost (nx := 32) rfl p_a0.1 rfl rfl e7 rfl rfl ?_
    refine ev_loc f_X6_readFrost (nx := 33) rfl rfl rfl rfl ?_
    refine ev_getR f_X6_readFrost (nx := 36) (v := .ref (ar0 + 1)) rfl p_a0.1 rfl rfl ((hC6.1 ar0 0 (t_ninO hI.wf p_a0.1 (t_outO hI.wf p_a0.1 rfl) rfl)).2.2.trans e5) rfl rfl ?_
    refine ev_getI f_X6_readFrost (nx := 39) rfl p5.1 rfl rfl rfl ?_
    refine ev_putIT f_X6_readFrost (nx := 42) rfl p7.1 rfl rfl rfl (hI.put0 p7.1 rfl rfl) (hX.upI (t_inO hI.wf p7.1 (t_outO hI.wf p7.1 rfl) rfl)) (fun g8 e8 hI hX => ?_)
    refine ev_loc f_X6_readFrost (nx := 43) rfl rfl rfl rfl ?_
    refine ev_getR f_X6_readFrost (nx := 46) (v := .ref (ar0 + 1)) rfl p_a0.1 rfl rfl ((hC6.1 ar0 0 (t_ninO hI.wf p_a0.1 (t_outO hI.wf p_a0.1 rfl) rfl)).2.2.trans e5) rfl rfl ?_
    refine ev_ic f_X6_readFrost (nx := 47) (v := 0) rfl (by decide) rfl ?_
    refine ev_bp f_X6_readFrost (nx := 49) (v := 20) rfl (by decide) rfl ?_
    refine ev_qI f_X6_readFrost (nx := 52) (r := []) rfl rfl rfl rfl rfl rfl rfl (c_s_takeNumber hI ((ar0 + 1)) p5 (0) (20)) rfl hX rfl (fun w9 gi9 gl9 gr9 l9 u9 hI hX hC9 q9 => ?_)
    have q9 : (∀ (b : Nat → Int32) (n q : Nat), t_TC b n q g8 gl6 gr6 (ar0 + 1) → (w9.toInt = 1 ∧ s_isV b n q 0 20 ∧ t_TC b n (s_E b n q) gi9 gl9 gr9 (ar0 + 1) ∧ t_nf g8 gi9 (ar0 + 1)) ∨ (w9.toInt = 0 ∧ s_K b n q ≠ 3 ∧ t_FL gi9 (ar0 + 1) (s_fk b n q 2) (s_F b n q)) ∨ (w9.toInt = 0 ∧ (s_K b n q = 3 ∧ ¬ s_isV b n q 0 20) ∧ t_FL gi9 (ar0 + 1) (s_fk b n q 4) (s_F b n q))) ∧ t_on (ar0 + 1) g8 gl6 gr6 gi9 gl9 gr9 := q9
    replace p_a0 := p_a0.ext hC9.2
    replace p5 := p5.ext hC9.2
    replace p7 := p7.ext hC9.2
    refine ev_if f_X6_readFrost (t1 := 68) (t2 := 55) rfl rfl rfl (fun h10 => ?_) (fun h10 => ?_)
    · have u11 : w9.toInt ≤ 0 := t_equ h10 (by decide : (0:Int32).toInt ≤ (0:Int))
      refine ev_ic f_X6_readFrost (nx := 69) (v := 0) rfl (by decide) rfl ?_
      exact ev_ret f_X6_readFrost rfl rfl rfl ⟨_, _, _, rfl, hI, hX, ⟨_, rfl, (by decide : (0:Int) ≤ (0:Int32).toInt), (Int.le_trans (by decide : (0:Int32).toInt ≤ (0:Int)) (by decide : (0:Int) ≤ 1)), (show (∀ (b : Nat → Int32) (n q : Nat) (D : s_D), t_CN b n q D gi gl gr ar0 → ((0 : Int) = 1 ∧ ∃ q2 D2, s_frost b n q D = s_ok q2 D2 ∧ t_CN b n q2 D2 gi9 gl9 gr9 ar0) ∨ ((0 : Int) = 0 ∧ ∃ p x D2, x ≠ 0 ∧ s_frost b n q D = s_bad b n p x D2 ∧ t_FL gi9 (ar0 + 1) (s_fk b n p x) (s_F b n p))) ∧ t_lq ar0 gi gl gr gi9 gl9 gr9 from ⟨(by
                                                            intro b n q D h
                                                            have h102 := p_a0.2.1
                                                            have h : t_CS b n q D (D 0 + D 1 + D 2) (s_used D) gi gl gr ar0 := h
                                                            obtain ⟨⟨hb1, hb2⟩, ⟨hb3, hb4⟩, hb5, hb6⟩ := h.2.1.1
                                                            have hf : (gi ar0 6).toInt = D 222 := h.2.1.2.2.2.1.2.2.1
                                                            have hS : t_Sp b n (s_E b n q) g4 (ar0 + 1) := ⟨by rw [e4, x_up2_ne (by omega)]; exact h.1.S.1, by rw [e4, x_up2_ne (by omega)]; exact h.1.S.2.1, by rw [e4, x_up2_ne (by omega)]; exact h.1.S.2.2.1, h.1.S.2.2.2⟩
                                                            have h1 := q6.1 b n _ hS
                                                            have f1 : t_FL gi6 (ar0 + 1) 0 (-1) := ⟨by rw [q6.2.1.1, e4, x_up2_ne (by omega)]; exact h.2.2.1, by rw [q6.2.1.2, e4, x_up2_ne (by omega)]; exact h.2.2.2⟩
                                                            have g1 : t_TC b n _ g8 gl6 gr6 (ar0 + 1) := h1.eq (by rw [e8, x_up2_ne (by omega)]) (by rw [e8, x_up2_ne (by omega)]) rfl rfl
                                                            have k1 : t_FL g8 (ar0 + 1) 0 (-1) := ⟨by rw [e8, x_up2_ne (by omega)]; exact f1.1, by rw [e8, x_up2_ne (by omega)]; exact f1.2⟩
                                                            rcases q9.1 b n _ g1 with hh | hh | hh
                                                            · exact absurd hh.1 (by omega)
                                                            · exact Or.inr ⟨rfl, _, 2, D, by decide, by simp only [s_frost, s_num, s_kw, s_ifT (show D 222 = 0 by omega), s_ifF hh.2.1], hh.2.2⟩
                                                            · exact Or.inr ⟨rfl, _, 4, D, by decide, by simp only [s_frost, s_num, s_kw, s_ifT (show D 222 = 0 by omega), s_ifT hh.2.1.1, s_ifF hh.2.1.2], hh.2.2⟩), (t_lq.on (t_lq.I (t_lq.on (t_lq.I t_lq.rf (by omega) e4) q6.2.2 (by omega)) (by omega) e8) q9.2 (by omega))⟩)⟩⟩
    · have r12 : w9.toInt ≠ 0 := fun e => h10 (Int32.toInt_inj.mp (e.trans (by decide : (0:Int) = (0 : Int32).toInt)))
      have l13 : 1 ≤ w9.toInt := t_nel h10 l9 rfl rfl
      refine ev_loc f_X6_readFrost (nx := 56) rfl rfl rfl rfl ?_
      refine ev_getR f_X6_readFrost (nx := 59) (v := .ref (ar0 + 1)) rfl p_a0.1 rfl rfl ((hC9.1 ar0 0 (t_ninO hI.wf p_a0.1 (t_outO hI.wf p_a0.1 rfl) rfl)).2.2.trans ((hC6.1 ar0 0 (t_ninO hI.wf p_a0.1 (t_outO hI.wf p_a0.1 rfl) rfl)).2.2.trans e5)) rfl rfl ?_
      refine ev_heap f_X6_readFrost (nx := 62) rfl rfl rfl rfl ?_
      refine ev_qI f_X6_readFrost (nx := 65) (r := []) rfl rfl rfl rfl rfl rfl rfl (c_s_takeFrom hI ((ar0 + 1)) p5) rfl hX rfl (fun w14 gi14 gl14 gr14 l14 u14 hI hX hC14 q14 => ?_)
      have q14 : (∀ (b : Nat → Int32) (n q : Nat), t_TC b n q gi9 gl9 gr9 (ar0 + 1) → (w14.toInt = 1 ∧ s_W b n q = some 4 ∧ t_TC b n (s_E b n q) gi14 gl14 gr14 (ar0 + 1) ∧ t_nf gi9 gi14 (ar0 + 1)) ∨ (w14.toInt = 0 ∧ s_W b n q ≠ some 4 ∧ t_FL gi14 (ar0 + 1) (s_fk b n q 2) (s_F b n q))) ∧ t_on (ar0 + 1) gi9 gl9 gr9 gi14 gl14 gr14 := q14
      replace p_a0 := p_a0.ext hC14.2
      replace p5 := p5.ext hC14.2
      replace p7 := p7.ext hC14.2
      refine ev_if f_X6_readFrost (t1 := 68) (t2 := 70) rfl rfl rfl (fun h15 => ?_) (fun h15 => ?_)
      · have u16 : w14.toInt ≤ 0 := t_equ h15 (by decide : (0:Int32).toInt ≤ (0:Int))
        refine ev_ic f_X6_readFrost (nx := 69) (v := 0) rfl (by decide) rfl ?_
        exact ev_ret f_X6_readFrost rfl rfl rfl ⟨_, _, _, rfl, hI, hX, ⟨_, rfl, (by decide : (0:Int) ≤ (0:Int32).toInt), (Int.le_trans (by decide : (0:Int32).toInt ≤ (0:Int)) (by decide : (0:Int) ≤ 1)), (show (∀ (b : Nat → Int32) (n q : Nat) (D : s_D), t_CN b n q D gi gl gr ar0 → ((0 : Int) = 1 ∧ ∃ q2 D2, s_frost b n q D = s_ok q2 D2 ∧ t_CN b n q2 D2 gi14 gl14 gr14 ar0) ∨ ((0 : Int) = 0 ∧ ∃ p x D2, x ≠ 0 ∧ s_frost b n q D = s_bad b n p x D2 ∧ t_FL gi14 (ar0 + 1) (s_fk b n p x) (s_F b n p))) ∧ t_lq ar0 gi gl gr gi14 gl14 gr14 from ⟨(by
                                                            intro b n q D h
                                                            have h102 := p_a0.2.1
                                                            have h : t_CS b n q D (D 0 + D 1 + D 2) (s_used D) gi gl gr ar0 := h
                                                            obtain ⟨⟨hb1, hb2⟩, ⟨hb3, hb4⟩, hb5, hb6⟩ := h.2.1.1
                                                            have hf : (gi ar0 6).toInt = D 222 := h.2.1.2.2.2.1.2.2.1
                                                            have hS : t_Sp b n (s_E b n q) g4 (ar0 + 1) := ⟨by rw [e4, x_up2_ne (by omega)]; exact h.1.S.1, by rw [e4, x_up2_ne (by omega)]; exact h.1.S.2.1, by rw [e4, x_up2_ne (by omega)]; exact h.1.S.2.2.1, h.1.S.2.2.2⟩
                                                            have h1 := q6.1 b n _ hS
                                                            have f1 : t_FL gi6 (ar0 + 1) 0 (-1) := ⟨by rw [q6.2.1.1, e4, x_up2_ne (by omega)]; exact h.2.2.1, by rw [q6.2.1.2, e4, x_up2_ne (by omega)]; exact h.2.2.2⟩
                                                            have g1 : t_TC b n _ g8 gl6 gr6 (ar0 + 1) := h1.eq (by rw [e8, x_up2_ne (by omega)]) (by rw [e8, x_up2_ne (by omega)]) rfl rfl
                                                            have k1 : t_FL g8 (ar0 + 1) 0 (-1) := ⟨by rw [e8, x_up2_ne (by omega)]; exact f1.1, by rw [e8, x_up2_ne (by omega)]; exact f1.2⟩
                                                            obtain ⟨hv1, hV1, h2, n1⟩ := (q9.1 b n _ g1).resolve_right (fun hh => by rcases hh with hh | hh <;> exact absurd hh.1 (by omega))
                                                            have f2 : t_FL gi9 (ar0 + 1) 0 (-1) := ⟨by rw [n1.1]; exact k1.1, by rw [n1.2]; exact k1.2⟩
                                                            rcases q14.1 b n _ h2 with hh | hh
                                                            · exact absurd hh.1 (by omega)
                                                            · exact Or.inr ⟨rfl, _, 2, D, by decide, by simp only [s_frost, s_num, s_kw, s_ifT (show D 222 = 0 by omega), s_ifT hV1.1, s_ifT hV1, s_ifF hh.2.1], hh.2.2⟩), (t_lq.on (t_lq.on (t_lq.I (t_lq.on (t_lq.I t_lq.rf (by omega) e4) q6.2.2 (by omega)) (by omega) e8) q9.2 (by omega)) q14.2 (by omega))⟩)⟩⟩
      · have r17 : w14.toInt ≠ 0 := fun e => h15 (Int32.toInt_inj.mp (e.trans (by decide : (0:Int) = (0 : Int32).toInt)))
        have l18 : 1 ≤ w14.toInt := t_nel h15 l14 rfl rfl
        refine ev_loc f_X6_readFrost (nx := 71) rfl rfl rfl rfl ?_
        refine ev_getR f_X6_readFrost (nx := 74) (v := .ref (ar0 + 2)) rfl p_a0.1 rfl rfl ((hC14.1 ar0 1 (t_ninO hI.wf p_a0.1 (t_outO hI.wf p_a0.1 rfl) rfl)).2.2.trans ((hC9.1 ar0 1 (t_ninO hI.wf p_a0.1 (t_outO hI.wf p_a0.1 rfl) rfl)).2.2.trans e7)) rfl rfl ?_
        refine ev_loc f_X6_readFrost (nx := 75) rfl rfl rfl rfl ?_
        refine ev_getR f_X6_readFrost (nx := 78) (v := .ref (ar0 + 1)) rfl p_a0.1 rfl rfl ((hC14.1 ar0 0 (t_ninO hI.wf p_a0.1 (t_outO hI.wf p_a0.1 rfl) rfl)).2.2.trans ((hC9.1 ar0 0 (t_ninO hI.wf p_a0.1 (t_outO hI.wf p_a0.1 rfl) rfl)).2.2.trans ((hC6.1 ar0 0 (t_ninO hI.wf p_a0.1 (t_outO hI.wf p_a0.1 rfl) rfl)).2.2.trans e5))) rfl rfl ?_
        refine ev_getI f_X6_readFrost (nx := 81) rfl p5.1 rfl rfl rfl ?_
        refine ev_putIT f_X6_readFrost (nx := 84) rfl p7.1 rfl rfl rfl (hI.put0 p7.1 rfl rfl) (hX.upI (t_inO hI.wf p7.1 (t_outO hI.wf p7.1 rfl) rfl)) (fun g19 e19 hI hX => ?_)
        refine ev_loc f_X6_readFrost (nx := 85) rfl rfl rfl rfl ?_
        refine ev_getR f_X6_readFrost (nx := 88) (v := .ref (ar0 + 1)) rfl p_a0.1 rfl rfl ((hC14.1 ar0 0 (t_ninO hI.wf p_a0.1 (t_outO hI.wf p_a0.1 rfl) rfl)).2.2.trans ((hC9.1 ar0 0 (t_ninO hI.wf p_a0.1 (t_outO hI.wf p_a0.1 rfl) rfl)).2.2.trans ((hC6.1 ar0 0 (t_ninO hI.wf p_a0.1 (t_outO hI.wf p_a0.1 rfl) rfl)).2.2.trans e5))) rfl rfl ?_
        refine ev_ic f_X6_readFrost (nx := 89) (v := 0) rfl (by decide) rfl ?_
        refine ev_sp f_X6_readFrost (nx := 92) (v := 200) rfl (by decide) rfl ?_
        refine ev_qI f_X6_readFrost (nx := 95) (r := []) rfl rfl rfl rfl rfl rfl rfl (c_s_takeNumber hI ((ar0 + 1)) p5 (0) (200)) rfl hX rfl (fun w20 gi20 gl20 gr20 l20 u20 hI hX hC20 q20 => ?_)
        have q20 : (∀ (b : Nat → Int32) (n q : Nat), t_TC b n q g19 gl14 gr14 (ar0 + 1) → (w20.toInt = 1 ∧ s_isV b n q 0 200 ∧ t_TC b n (s_E b n q) gi20 gl20 gr20 (ar0 + 1) ∧ t_nf g19 gi20 (ar0 + 1)) ∨ (w20.toInt = 0 ∧ s_K b n q ≠ 3 ∧ t_FL gi20 (ar0 + 1) (s_fk b n q 2) (s_F b n q)) ∨ (w20.toInt = 0 ∧ (s_K b n q = 3 ∧ ¬ s_isV b n q 0 200) ∧ t_FL gi20 (ar0 + 1) (s_fk b n q 4) (s_F b n q))) ∧ t_on (ar0 + 1) g19 gl14 gr14 gi20 gl20 gr20 := q20
        replace p_a0 := p_a0.ext hC20.2
        replace p5 := p5.ext hC20.2
        replace p7 := p7.ext hC20.2
        exact ev_retZ f_X6_readFrost rfl l20 u20 ⟨_, _, _, rfl, hI, hX, ⟨_, rfl, l20, u20, (show (∀ (b : Nat → Int32) (n q : Nat) (D : s_D), t_CN b n q D gi gl gr ar0 → (w20.toInt = 1 ∧ ∃ q2 D2, s_frost b n q D = s_ok q2 D2 ∧ t_CN b n q2 D2 gi20 gl20 gr20 ar0) ∨ (w20.toInt = 0 ∧ ∃ p x D2, x ≠ 0 ∧ s_frost b n q D = s_bad b n p x D2 ∧ t_FL gi20 (ar0 + 1) (s_fk b n p x) (s_F b n p))) ∧ t_lq ar0 gi gl gr gi20 gl20 gr20 from ⟨(by
                                                            intro b n q D h
                                                            have h102 := p_a0.2.1
                                                            have h : t_CS b n q D (D 0 + D 1 + D 2) (s_used D) gi gl gr ar0 := h
                                                            obtain ⟨⟨hb1, hb2⟩, ⟨hb3, hb4⟩, hb5, hb6⟩ := h.2.1.1
                                                            have hf : (gi ar0 6).toInt = D 222 := h.2.1.2.2.2.1.2.2.1
                                                            have hS : t_Sp b n (s_E b n q) g4 (ar0 + 1) := ⟨by rw [e4, x_up2_ne (by omega)]; exact h.1.S.1, by rw [e4, x_up2_ne (by omega)]; exact h.1.S.2.1, by rw [e4, x_up2_ne (by omega)]; exact h.1.S.2.2.1, h.1.S.2.2.2⟩
                                                            have h1 := q6.1 b n _ hS
                                                            have f1 : t_FL gi6 (ar0 + 1) 0 (-1) := ⟨by rw [q6.2.1.1, e4, x_up2_ne (by omega)]; exact h.2.2.1, by rw [q6.2.1.2, e4, x_up2_ne (by omega)]; exact h.2.2.2⟩
                                                            have g1 : t_TC b n _ g8 gl6 gr6 (ar0 + 1) := h1.eq (by rw [e8, x_up2_ne (by omega)]) (by rw [e8, x_up2_ne (by omega)]) rfl rfl
                                                            have k1 : t_FL g8 (ar0 + 1) 0 (-1) := ⟨by rw [e8, x_up2_ne (by omega)]; exact f1.1, by rw [e8, x_up2_ne (by omega)]; exact f1.2⟩
                                                            obtain ⟨hv1, hV1, h2, n1⟩ := (q9.1 b n _ g1).resolve_right (fun hh => by rcases hh with hh | hh <;> exact absurd hh.1 (by omega))
                                                            have f2 : t_FL gi9 (ar0 + 1) 0 (-1) := ⟨by rw [n1.1]; exact k1.1, by rw [n1.2]; exact k1.2⟩
                                                            obtain ⟨hv2, hV2, h3, n2⟩ := (q14.1 b n _ h2).resolve_right (fun hh => absurd hh.1 (by omega))
                                                            have f3 : t_FL gi14 (ar0 + 1) 0 (-1) := ⟨by rw [n2.1]; exact f2.1, by rw [n2.2]; exact f2.2⟩
                                                            have g3 : t_TC b n _ g19 gl14 gr14 (ar0 + 1) := h3.eq (by rw [e19, x_up2_ne (by omega)]) (by rw [e19, x_up2_ne (by omega)]) rfl rfl
                                                            have k3 : t_FL g19 (ar0 + 1) 0 (-1) := ⟨by rw [e19, x_up2_ne (by omega)]; exact f3.1, by rw [e19, x_up2_ne (by omega)]; exact f3.2⟩
                                                            rcases q20.1 b n _ g3 with hh | hh | hh
                                                            · have hq := h.2.1.2.2.2.1
                                                              have hr : ∀ K, K ≠ ar0 → K ≠ ar0 + 1 → K ≠ ar0 + 2 → gi20 K = gi K := fun K h0 h1 h2 => by rw [(q20.2 K (by omega)).1, e19, x_up2_ne (by omega), (q14.2 K (by omega)).1, (q9.2 K (by omega)).1, e8, x_up2_ne (by omega), (q6.2.2 K (by omega)).1, e4, x_up2_ne (by omega)]
                                                              have hl : ∀ K, K ≠ ar0 + 1 → gl20 K = gl K := fun K h1 => by rw [(q20.2 K (by omega)).2.1, (q14.2 K (by omega)).2.1, (q9.2 K (by omega)).2.1, (q6.2.2 K (by omega)).2.1]
                                                              have r04 : gi20 ar0 4 = gi ar0 4 := by rw [(q20.2 (ar0) (by omega)).1, e19, x_up2_ne (by omega), (q14.2 (ar0) (by omega)).1, (q9.2 (ar0) (by omega)).1, e8, x_up2_ne (by omega), (q6.2.2 (ar0) (by omega)).1, e4, x_up2_off (Or.inr (by decide))]
                                                              have r05 : gi20 ar0 5 = gi ar0 5 := by rw [(q20.2 (ar0) (by omega)).1, e19, x_up2_ne (by omega), (q14.2 (ar0) (by omega)).1, (q9.2 (ar0) (by omega)).1, e8, x_up2_ne (by omega), (q6.2.2 (ar0) (by omega)).1, e4, x_up2_off (Or.inr (by decide))]
                                                              have r06 : gi20 ar0 6 = (1 : Int32) := by rw [(q20.2 (ar0) (by omega)).1, e19, x_up2_ne (by omega), (q14.2 (ar0) (by omega)).1, (q9.2 (ar0) (by omega)).1, e8, x_up2_ne (by omega), (q6.2.2 (ar0) (by omega)).1, e4, x_up2_at]
                                                              have r07 : gi20 ar0 7 = gi ar0 7 := by rw [(q20.2 (ar0) (by omega)).1, e19, x_up2_ne (by omega), (q14.2 (ar0) (by omega)).1, (q9.2 (ar0) (by omega)).1, e8, x_up2_ne (by omega), (q6.2.2 (ar0) (by omega)).1, e4, x_up2_off (Or.inr (by decide))]
                                                              have r20 : gi20 (ar0 + 2) 0 = gi (ar0 + 2) 0 := by rw [(q20.2 (ar0 + 2) (by omega)).1, e19, x_up2_off (Or.inr (by decide)), (q14.2 (ar0 + 2) (by omega)).1, (q9.2 (ar0 + 2) (by omega)).1, e8, x_up2_off (Or.inr (by decide)), (q6.2.2 (ar0 + 2) (by omega)).1, e4, x_up2_ne (by omega)]
                                                              have r23 : gi20 (ar0 + 2) 3 = gi (ar0 + 2) 3 := by rw [(q20.2 (ar0 + 2) (by omega)).1, e19, x_up2_off (Or.inr (by decide)), (q14.2 (ar0 + 2) (by omega)).1, (q9.2 (ar0 + 2) (by omega)).1, e8, x_up2_off (Or.inr (by decide)), (q6.2.2 (ar0 + 2) (by omega)).1, e4, x_up2_ne (by omega)]
                                                              have r24 : gi20 (ar0 + 2) 4 = (gi6 (ar0 + 1) 8) := by rw [(q20.2 (ar0 + 2) (by omega)).1, e19, x_up2_off (Or.inr (by decide)), (q14.2 (ar0 + 2) (by omega)).1, (q9.2 (ar0 + 2) (by omega)).1, e8, x_up2_at]
                                                              have r25 : gi20 (ar0 + 2) 5 = (gi14 (ar0 + 1) 8) := by rw [(q20.2 (ar0 + 2) (by omega)).1, e19, x_up2_at]
                                                              have r26 : gi20 (ar0 + 2) 6 = gi (ar0 + 2) 6 := by rw [(q20.2 (ar0 + 2) (by omega)).1, e19, x_up2_off (Or.inr (by decide)), (q14.2 (ar0 + 2) (by omega)).1, (q9.2 (ar0 + 2) (by omega)).1, e8, x_up2_off (Or.inr (by decide)), (q6.2.2 (ar0 + 2) (by omega)).1, e4, x_up2_ne (by omega)]
                                                              have v5 : (gi6 (ar0 + 1) 8).toInt = s_V b n _ := congrArg Int32.toInt (h1.2.2.2.2.2.2.1 hV1.1)
                                                              have v6 : (gi14 (ar0 + 1) 8).toInt = s_V b n _ := congrArg Int32.toInt (h3.2.2.2.2.2.2.1 hh.2.1.1)
                                                              exact Or.inl ⟨hh.1, _, (s_set (s_set (s_set D 222 1) 5 (s_V b n (s_E b n q))) 6 (s_V b n (s_E b n (s_E b n (s_E b n q))))), by simp only [s_frost, s_num, s_kw, s_ifT (show D 222 = 0 by omega), s_ifT hV1.1, s_ifT hV1, s_ifT hV2, s_ifT hh.2.1.1, s_ifT hh.2.1], hh.2.2.1, h.2.1.tel (fun c _ h0 h1 h2 => hr _ (by omega) (by omega) (by omega)) (fun c _ h1 => hl _ (by omega)) r04 r20 ⟨⟨(congrArg Int32.toInt r23).trans hq.1.1, (congrArg Int32.toInt r24).trans v5, (congrArg Int32.toInt r25).trans v6, (congrArg Int32.toInt r26).trans hq.1.2.2.2⟩, (congrArg Int32.toInt r05).trans hq.2.1, (congrArg Int32.toInt r06).trans rfl, (congrArg Int32.toInt r07).trans hq.2.2.2⟩ (fun j hj => (by unfold s_set; rw [if_neg (by omega), if_neg (by omega), if_neg (by omega)])), by rw [hh.2.2.2.1]; exact k3.1, by rw [hh.2.2.2.2]; exact k3.2⟩
                                                            · exact Or.inr ⟨hh.1, _, 2, D, by decide, by simp only [s_frost, s_num, s_kw, s_ifT (show D 222 = 0 by omega), s_ifT hV1.1, s_ifT hV1, s_ifT hV2, s_ifF hh.2.1], hh.2.2⟩
                                                            · exact Or.inr ⟨hh.1, _, 4, D, by decide, by simp only [s_frost, s_num, s_kw, s_ifT (show D 222 = 0 by omega), s_ifT hV1.1, s_ifT hV1, s_ifT hV2, s_ifT hh.2.1.1, s_ifF hh.2.1.2], hh.2.2⟩), (t_lq.on (t_lq.I (t_lq.on (t_lq.on (t_lq.I (t_lq.on (t_lq.I t_lq.rf (by omega) e4) q6.2.2 (by omega)) (by omega) e8) q9.2 (by omega)) q14.2 (by omega)) (by omega) e19) q20.2 (by omega))⟩)⟩⟩
  · have r21 : (gi ar0 6).toInt ≠ 0 := fun e => h1 (Int32.toInt_inj.mp (e.trans (by decide : (0:Int) = (0 : Int32).toInt)))
    refine ev_loc f_X6_readFrost (nx := 8) rfl rfl rfl rfl ?_
    have e22 := p_a0.2.2.2.2.1.1
    have p22 := p_a0.2.2.2.2.1.2
    refine ev_getR f_X6_readFrost (nx := 11) rfl p_a0.1 rfl rfl e22 rfl rfl ?_
    refine ev_ic f_X6_readFrost (nx := 12) (v := 5) rfl (by decide) rfl ?_
    refine ev_qI f_X6_readFrost (nx := 15) (r := []) rfl rfl rfl rfl rfl rfl rfl (c_s_refuse hI ((ar0 + 1)) p22 (5) (Int.le_trans (by decide : (2:Int) ≤ 5) (by decide : (5:Int) ≤ (5:Int32).toInt)) (Int.le_trans (by decide : (5:Int32).toInt ≤ (5:Int)) (by decide : (5:Int) ≤ 7))) rfl hX rfl (fun w23 gi23 gl23 gr23 l23 u23 hI hX hC23 q23 => ?_)
    have q23 : (∀ (b : Nat → Int32) (n q : Nat), t_TC b n q gi gl gr (ar0 + 1) → t_FL gi23 (ar0 + 1) (s_fk b n q 5) (s_F b n q)) ∧ w23.toInt = 0 ∧ t_on (ar0 + 1) gi gl gr gi23 gl23 gr23 := q23
    replace p_a0 := p_a0.ext hC23.2
    replace p22 := p22.ext hC23.2
    exact ev_retZ f_X6_readFrost rfl l23 (Int.le_trans u23 (by decide : (0:Int) ≤ 1)) ⟨_, _, _, rfl, hI, hX, ⟨_, rfl, l23, (Int.le_trans u23 (by decide : (0:Int) ≤ 1)), (show (∀ (b : Nat → Int32) (n q : Nat) (D : s_D), t_CN b n q D gi gl gr ar0 → (w23.toInt = 1 ∧ ∃ q2 D2, s_frost b n q D = s_ok q2 D2 ∧ t_CN b n q2 D2 gi23 gl23 gr23 ar0) ∨ (w23.toInt = 0 ∧ ∃ p x D2, x ≠ 0 ∧ s_frost b n q D = s_bad b n p x D2 ∧ t_FL gi23 (ar0 + 1) (s_fk b n p x) (s_F b n p))) ∧ t_lq ar0 gi gl gr gi23 gl23 gr23 from ⟨(by
                                                            intro b n q D h
                                                            have h102 := p_a0.2.1
                                                            have h : t_CS b n q D (D 0 + D 1 + D 2) (s_used D) gi gl gr ar0 := h
                                                            obtain ⟨⟨hb1, hb2⟩, ⟨hb3, hb4⟩, hb5, hb6⟩ := h.2.1.1
                                                            have hf : (gi ar0 6).toInt = D 222 := h.2.1.2.2.2.1.2.2.1
                                                            exact Or.inr ⟨q23.2.1, _, 5, D, by decide, by simp only [s_frost, s_ifF (show ¬ D 222 = 0 by omega)], q23.1 b n q h.1⟩), (t_lq.on t_lq.rf q23.2.2 (by omega))⟩)⟩⟩
