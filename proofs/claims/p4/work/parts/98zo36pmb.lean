/-! ===== printed by riv.py: what the RULES bid ===== -/
noncomputable def wl_k_beginNext : List (Nat × Nat) := [(45, 7), (45, 8), (45, 10), (45, 11), (58, 9999)]
noncomputable def Q_k_beginNext (gi : Nat → Nat → Int32) (gl : Nat → Nat → Int64) (gr : Nat → Nat → Value) : (Nat → Nat → Int32) → (Nat → Nat → Int64) → (Nat → Nat → Value) → Prop := fun (gi2 : Nat → Nat → Int32) (gl2 : Nat → Nat → Int64) (gr2 : Nat → Nat → Value) => (∀ (P : Nat → Nat → Int) (Z : Nat → Int), t_KL P gi → t_CZ (P 0 0) Z gi → s_okz P Z → Z 1 = 0 → s_PB P → s_PO P → t_CZ (P 0 0) (s_bg P (gi 45 5).toInt Z) gi2)
theorem c_k_beginNext {X : x_Ext} {d : Nat} {sh : List (Nat ⊕ (Nat × Nat))} {gi : Nat → Nat → Int32} {gl : Nat → Nat → Int64} {gr : Nat → Nat → Value} (hI : t_I sh gi gr) : x_Me X (d + 2) n_X2_beginNext [.ref 45] (sh, gi, gl, gr) (t_PN wl_k_beginNext sh gi gl gr (Q_k_beginNext gi gl gr)) := by
  have hX : t_X wl_k_beginNext sh gi gl gr gi gl gr := t_X.rf
  refine me_i f_X2_beginNext (hI.wf.s rfl) rfl rfl rfl ?_
  obtain ⟨l1, u1⟩ := hI.b (hI.wf.s (k := 45) rfl) (t_bdK rfl : t_bd 2 5 = some (0, 301))
  have hI0 := hI
  refine ev_loc f_X2_beginNext (nx := 1) rfl rfl rfl rfl ?_
  refine ev_qI0 f_X2_beginNext (nx := 4) (r := []) rfl rfl rfl rfl rfl rfl rfl (c_k_firstShipLeft hI ) rfl (fun w2 l2 u2 q2 => ?_)
  have q2 : (∀ (P : Nat → Nat → Int) (Z : Nat → Int), t_KL P gi → t_CZ (P 0 0) Z gi → (w2.toInt = -1 ∧ P 0 0 ≤ ((s_f1 Z (P 0 0).toNat 0 : Nat) : Int)) ∨ (w2.toInt = ((s_f1 Z (P 0 0).toNat 0 : Nat) : Int) ∧ ((s_f1 Z (P 0 0).toNat 0 : Nat) : Int) < P 0 0)) := q2
  refine ev_loc f_X2_beginNext (nx := 5) (lo' := [(1, .int w2), (0, .ref 45)]) rfl rfl rfl rfl ?_
  refine ev_loc f_X2_beginNext (nx := 6) rfl rfl rfl rfl ?_
  refine ev_getI f_X2_beginNext (nx := 9) rfl (hI.wf.s rfl) rfl rfl rfl ?_
  refine ev_if f_X2_beginNext (t1 := 53) (t2 := 12) rfl rfl rfl (fun h3 => ?_) (fun h3 => ?_)
  · have u4 : (gi 45 6).toInt ≤ 0 := t_equ h3 (by decide : (0:Int32).toInt ≤ (0:Int))
    have l5 : 0 ≤ (gi 45 6).toInt := t_eql h3 (by decide : (0:Int) ≤ (0:Int32).toInt)
    refine ev_loc f_X2_beginNext (nx := 54) rfl rfl rfl rfl ?_
    refine ev_gvI f_X2_beginNext (nx := 57) (w := (gi 45 6)) rfl (hI.wf.s rfl) rfl rfl rfl rfl ?_
    refine ev_t f_X2_beginNext (t1 := 60) (t2 := 116) rfl rfl rfl (t_eqT u4 l5 (by decide : (0:Int32).toInt ≤ (0:Int)) (by decide : (0:Int) ≤ (0:Int32).toInt)) ?_
    refine ev_loc f_X2_beginNext (nx := 61) rfl rfl rfl rfl ?_
    refine ev_getI f_X2_beginNext (nx := 64) rfl (hI.wf.s rfl) rfl rfl rfl ?_
    obtain ⟨l6, u6⟩ := hI.b (hI.wf.s (k := 45) rfl) (t_bdK rfl : t_bd 2 10 = some (0, 6))
    refine ev_loc f_X2_beginNext (nx := 65) rfl rfl rfl rfl ?_
    refine ev_getR f_X2_beginNext (nx := 68) rfl (hI.wf.s rfl) rfl rfl (hI.wf.r rfl) rfl rfl ?_
    refine ev_getI f_X2_beginNext (nx := 71) rfl (hI.wf.s rfl) rfl rfl rfl ?_
    obtain ⟨l7, u7⟩ := hI.b (hI.wf.s (k := 52) rfl) (t_bdK rfl : t_bd 3 0 = some (0, 6))
    refine ev_if f_X2_beginNext (t1 := 116) (t2 := 74) rfl rfl rfl (fun h8 => ?_) (fun h8 => ?_)
    · have r9 : (gi 52 0).toInt ≤ (gi 45 10).toInt := Int32.le_iff_toInt_le.mp h8
      exact ev_ret f_X2_beginNext rfl rfl rfl ⟨_, _, _, rfl, hI, hX, ⟨rfl, (show (∀ (P : Nat → Nat → Int) (Z : Nat → Int), t_KL P gi → t_CZ (P 0 0) Z gi → s_okz P Z → Z 1 = 0 → s_PB P → s_PO P → t_CZ (P 0 0) (s_bg P (gi 45 5).toInt Z) gi) from (fun P Z hL hZ hO h1 hB hP => (by
                                                            have hf := q2 P Z hL hZ
                                                            obtain ⟨z0, z1, z2, z3, z4⟩ := hZ.1
                                                            have hm := hL.1.1
                                                            have ho := hO.2
                                                            have ho1 := hO.1
                                                            have n1 : ¬ Z 1 ≠ 0 := fun hh => hh h1
                                                            have h0 := hI0.b (hI0.wf.s (k := 45) rfl) (t_bdK rfl : t_bd 2 5 = some (0, 301))
                                                            have ns : ¬ (Z 0 = 1 ∧ ((s_f1 Z (P 0 0).toNat 0 : Nat) : Int) < P 0 0 ∧ P 1 (s_f1 Z (P 0 0).toNat 0) ≤ (gi 45 5).toInt) := fun hh => by have p1 := hh.1; have p2 := hh.2.1; have p3 := hh.2.2; omega
                                                            have nc : ¬ (Z 0 ≠ 1 ∧ Z 4 < P 0 1 ∧ P 5 (Z 4).toNat ≤ (gi 45 5).toInt) := fun hh => by have p1 := hh.1; have p2 := hh.2.1; have p3 := hh.2.2; omega
                                                            rw [show s_bg P (gi 45 5).toInt Z = Z from (if_neg n1).trans ((if_neg ns).trans (if_neg nc))]
                                                            exact hZ)))⟩⟩
    · have r10 : (gi 45 10).toInt < (gi 52 0).toInt := Int32.lt_iff_toInt_lt.mp (t_nle h8)
      have u11 : (gi 45 10).toInt ≤ 5 := t_ltu (t_nle h8) u7 rfl
      have l12 : 1 ≤ (gi 52 0).toInt := t_ltl (t_nle h8) l6 rfl
      refine ev_loc f_X2_beginNext (nx := 75) rfl rfl rfl rfl ?_
      refine ev_getR f_X2_beginNext (nx := 78) rfl (hI.wf.s rfl) rfl rfl (hI.wf.r rfl) rfl rfl ?_
      refine ev_getR f_X2_beginNext (nx := 81) rfl (hI.wf.s rfl) rfl rfl (hI.wf.r rfl) rfl rfl ?_
      refine ev_loc f_X2_beginNext (nx := 82) rfl rfl rfl rfl ?_
      refine ev_gvI f_X2_beginNext (nx := 85) (w := (gi 45 10)) rfl (hI.wf.s rfl) rfl rfl rfl rfl ?_
      refine ev_ialdT f_X2_beginNext (nx := 86) rfl (hI.wf.s rfl) l6 (by decide) u11 (by decide) rfl (fun w13 e13 => ?_)
      refine ev_loc f_X2_beginNext (nx := 87) rfl rfl rfl rfl ?_
      refine ev_gvI f_X2_beginNext (nx := 90) (w := (gi 45 5)) rfl (hI.wf.s rfl) rfl rfl rfl rfl ?_
      refine ev_if f_X2_beginNext (t1 := 116) (t2 := 93) rfl rfl rfl (fun h14 => ?_) (fun h14 => ?_)
      · have r15 : (gi 45 5).toInt < w13.toInt := Int32.lt_iff_toInt_lt.mp h14
        have l16 : 1 ≤ w13.toInt := t_ltl h14 l1 rfl
        exact ev_ret f_X2_beginNext rfl rfl rfl ⟨_, _, _, rfl, hI, hX, ⟨rfl, (show (∀ (P : Nat → Nat → Int) (Z : Nat → Int), t_KL P gi → t_CZ (P 0 0) Z gi → s_okz P Z → Z 1 = 0 → s_PB P → s_PO P → t_CZ (P 0 0) (s_bg P (gi 45 5).toInt Z) gi) from (fun P Z hL hZ hO h1 hB hP => (by
                                                            have hf := q2 P Z hL hZ
                                                            obtain ⟨z0, z1, z2, z3, z4⟩ := hZ.1
                                                            have hm := hL.1.1
                                                            have ho := hO.2
                                                            have ho1 := hO.1
                                                            have n1 : ¬ Z 1 ≠ 0 := fun hh => hh h1
                                                            have h0 := hI0.b (hI0.wf.s (k := 45) rfl) (t_bdK rfl : t_bd 2 5 = some (0, 301))
                                                            have kc := t_clamp (i := gi 45 10) (by omega)
                                                            have ec : (gi 45 10).toNatClampNeg = (Z 4).toNat := by omega
                                                            obtain ⟨c1, c2, c3⟩ := hL.2.2 (Z 4).toNat (by omega)
                                                            rw [← ec] at c1 c2 c3
                                                            have w85 := congrArg Int32.toInt e13
                                                            have ns : ¬ (Z 0 = 1 ∧ ((s_f1 Z (P 0 0).toNat 0 : Nat) : Int) < P 0 0 ∧ P 1 (s_f1 Z (P 0 0).toNat 0) ≤ (gi 45 5).toInt) := fun hh => by have p1 := hh.1; have p2 := hh.2.1; have p3 := hh.2.2; omega
                                                            have nc : ¬ (Z 0 ≠ 1 ∧ Z 4 < P 0 1 ∧ P 5 (Z 4).toNat ≤ (gi 45 5).toInt) := fun hh => by have p1 := hh.1; have p2 := hh.2.1; have p3 := hh.2.2; rw [← ec, ← c1, ← w85] at p3; omega
                                                            rw [show s_bg P (gi 45 5).toInt Z = Z from (if_neg n1).trans ((if_neg ns).trans (if_neg nc))]
                                                            exact hZ)))⟩⟩
      · have r17 : w13.toInt ≤ (gi 45 5).toInt := Int32.le_iff_toInt_le.mp (t_nlt h14)
        have u18 : w13.toInt ≤ 301 := t_leu (t_nlt h14) u1
        refine ev_loc f_X2_beginNext (nx := 94) rfl rfl rfl rfl ?_
        refine ev_ic f_X2_beginNext (nx := 95) (v := 2) rfl (by decide) rfl ?_
        refine ev_loc f_X2_beginNext (nx := 96) rfl rfl rfl rfl ?_
        refine ev_getR f_X2_beginNext (nx := 99) rfl (hI.wf.s rfl) rfl rfl (hI.wf.r rfl) rfl rfl ?_
        refine ev_loc f_X2_beginNext (nx := 100) rfl rfl rfl rfl ?_
        refine ev_gvI f_X2_beginNext (nx := 103) (w := (gi 45 10)) rfl (hI.wf.s rfl) rfl rfl rfl rfl ?_
        refine ev_inV4 f_X2_beginNext (nx := 106) (lo2 := [(0, .ref 45), (1, .int 2), (2, .ref 52), (3, .int (gi 45 10))]) rfl rfl rfl rfl f_X2_begin (hI.wf.s rfl) rfl rfl rfl rfl rfl ?_
        refine ev_loc f_X2_begin (nx := 1) rfl rfl rfl rfl ?_
        refine ev_f f_X2_begin (t1 := 59) (t2 := 4) rfl rfl rfl (t_ltF (by decide : (0:Int32).toInt ≤ (0:Int)) l6 (by decide)) ?_
        refine ev_loc f_X2_begin (nx := 5) rfl rfl rfl rfl ?_
        refine ev_loc f_X2_begin (nx := 6) rfl rfl rfl rfl ?_
        refine ev_gvI f_X2_begin (nx := 9) (w := (gi 52 0)) rfl (hI.wf.s rfl) rfl rfl rfl rfl ?_
        refine ev_if f_X2_begin (t1 := 59) (t2 := 12) rfl rfl rfl (fun h19 => ?_) (fun h19 => ?_)
        · have r20 : (gi 52 0).toInt ≤ (gi 45 10).toInt := Int32.le_iff_toInt_le.mp h19
          have u21 : (gi 52 0).toInt ≤ 5 := t_leu h19 u11
          have l22 : 1 ≤ (gi 45 10).toInt := t_lel h19 l12
          refine ev_retK0 f_X2_begin rfl rfl rfl ?_
          refine ev_loc f_X2_beginNext (nx := 107) rfl rfl rfl rfl ?_
          refine ev_alu f_X2_beginNext (nx := 108) rfl rfl rfl rfl ?_
          refine ev_gvI f_X2_beginNext (nx := 111) (w := (gi 45 10)) rfl (hI.wf.s rfl) rfl rfl rfl rfl ?_
          refine ev_ic f_X2_beginNext (nx := 112) (v := 1) rfl (by decide) rfl ?_
          refine ev_addC f_X2_beginNext (nx := 113) (c := 1) (l := 2) (u := 6) rfl (by decide) l22 u11 rfl rfl (by decide) (by decide) rfl (fun z23 e23 l23 u23 => ?_)
          refine ev_putIT f_X2_beginNext (nx := 116) rfl (hI.wf.s rfl) rfl rfl rfl (hI.putB (hI.wf.s rfl) rfl rfl l23 (by decide) u23 (by decide)) (hX.upI rfl) (fun g24 e24 hI hX => ?_)
          exact ev_ret f_X2_beginNext rfl rfl rfl ⟨_, _, _, rfl, hI, hX, ⟨rfl, (show (∀ (P : Nat → Nat → Int) (Z : Nat → Int), t_KL P gi → t_CZ (P 0 0) Z gi → s_okz P Z → Z 1 = 0 → s_PB P → s_PO P → t_CZ (P 0 0) (s_bg P (gi 45 5).toInt Z) g24) from (fun P Z hL hZ hO h1 hB hP => (by
                                                            have hf := q2 P Z hL hZ
                                                            obtain ⟨z0, z1, z2, z3, z4⟩ := hZ.1
                                                            have hm := hL.1.1
                                                            have ho := hO.2
                                                            have ho1 := hO.1
                                                            have n1 : ¬ Z 1 ≠ 0 := fun hh => hh h1
                                                            have h0 := hI0.b (hI0.wf.s (k := 45) rfl) (t_bdK rfl : t_bd 2 5 = some (0, 301))
                                                            have kc := t_clamp (i := gi 45 10) (by omega)
                                                            have ec : (gi 45 10).toNatClampNeg = (Z 4).toNat := by omega
                                                            obtain ⟨c1, c2, c3⟩ := hL.2.2 (Z 4).toNat (by omega)
                                                            rw [← ec] at c1 c2 c3
                                                            have w85 := congrArg Int32.toInt e13
                                                            have em46 : (g24 46 0).toInt = (gi 46 0).toInt := by rw [e24, x_up2_off (Or.inl (by decide))]
                                                            have em52 : (g24 52 0).toInt = (gi 52 0).toInt := by rw [e24, x_up2_off (Or.inl (by decide))]
                                                            exfalso; omega)))⟩⟩
        · have r25 : (gi 45 10).toInt < (gi 52 0).toInt := Int32.lt_iff_toInt_lt.mp (t_nle h19)
          refine ev_loc f_X2_begin (nx := 13) rfl rfl rfl rfl ?_
          refine ev_loc f_X2_begin (nx := 14) rfl rfl rfl rfl ?_
          refine ev_putIT f_X2_begin (nx := 17) rfl (hI.wf.s rfl) rfl rfl rfl (hI.put0 (hI.wf.s rfl) rfl rfl) (hX.upI rfl) (fun g26 e26 hI hX => ?_)
          refine ev_loc f_X2_begin (nx := 18) rfl rfl rfl rfl ?_
          refine ev_loc f_X2_begin (nx := 19) rfl rfl rfl rfl ?_
          refine ev_gvI f_X2_begin (nx := 22) (w := (gi 45 5)) rfl (hI.wf.s rfl) rfl rfl ((by rw [e26]; exact x_up2_off (Or.inr (by decide)) : g26 45 5 = gi 45 5).trans rfl) rfl ?_
          refine ev_loc f_X2_begin (nx := 23) rfl rfl rfl rfl ?_
          refine ev_getR f_X2_begin (nx := 26) rfl (hI.wf.s rfl) rfl rfl (hI.wf.r rfl) rfl rfl ?_
          refine ev_loc f_X2_begin (nx := 27) rfl rfl rfl rfl ?_
          refine ev_ialdT f_X2_begin (nx := 28) rfl (hI.wf.s rfl) l6 (by decide) u11 (by decide) rfl (fun w27 e27 => ?_)
          refine ev_anyIE f_X2_begin (nx := 29) rfl rfl rfl rfl (fun z28 e28 => ?_)
          refine ev_putIT f_X2_begin (nx := 32) rfl (hI.wf.s rfl) rfl rfl rfl (hI.put0 (hI.wf.s rfl) rfl rfl) (hX.upI rfl) (fun g29 e29 hI hX => ?_)
          refine ev_loc f_X2_begin (nx := 33) rfl rfl rfl rfl ?_
          refine ev_alu f_X2_begin (nx := 34) rfl rfl rfl rfl ?_
          refine ev_getI f_X2_begin (nx := 37) rfl (hI.wf.s rfl) rfl rfl rfl ?_
          refine ev_loc f_X2_begin (nx := 38) rfl rfl rfl rfl ?_
          refine ev_gvI f_X2_begin (nx := 41) (w := (gi 45 5)) rfl (hI.wf.s rfl) rfl rfl ((by rw [e29]; exact x_up2_off (Or.inr (by decide)) : g29 45 5 = g26 45 5).trans ((by rw [e26]; exact x_up2_off (Or.inr (by decide)) : g26 45 5 = gi 45 5).trans rfl)) rfl ?_
          refine ev_loc f_X2_begin (nx := 42) rfl rfl rfl rfl ?_
          refine ev_getR f_X2_begin (nx := 45) rfl (hI.wf.s rfl) rfl rfl (hI.wf.r rfl) rfl rfl ?_
          refine ev_loc f_X2_begin (nx := 46) rfl rfl rfl rfl ?_
          refine ev_ialdT f_X2_begin (nx := 47) rfl (hI.wf.s rfl) l6 (by decide) u11 (by decide) rfl (fun w30 e30 => ?_)
          rw [e30.trans ((by rw [e29]; exact x_up2_off (Or.inl (by decide)) : g29 54 (gi 45 10).toNatClampNeg = g26 54 (gi 45 10).toNatClampNeg).trans ((by rw [e26]; exact x_up2_off (Or.inl (by decide)) : g26 54 (gi 45 10).toNatClampNeg = gi 54 (gi 45 10).toNatClampNeg).trans e13.symm))]
          refine ev_anyIE f_X2_begin (nx := 48) rfl rfl rfl rfl (fun z31 e31 => ?_)
          refine ev_loc f_X2_begin (nx := 49) rfl rfl rfl rfl ?_
          refine ev_getR f_X2_begin (nx := 52) rfl (hI.wf.s rfl) rfl rfl (hI.wf.r rfl) rfl rfl ?_
          refine ev_loc f_X2_begin (nx := 53) rfl rfl rfl rfl ?_
          refine ev_ialdT f_X2_begin (nx := 54) rfl (hI.wf.s rfl) l6 (by decide) u11 (by decide) rfl (fun w32 e32 => ?_)
          refine ev_anyIE f_X2_begin (nx := 55) rfl rfl rfl rfl (fun z33 e33 => ?_)
          refine ev_anyIE f_X2_begin (nx := 56) rfl rfl rfl rfl (fun z34 e34 => ?_)
          refine ev_putIT f_X2_begin (nx := 59) rfl (hI.wf.s rfl) rfl rfl rfl (hI.put0 (hI.wf.s rfl) rfl rfl) (hX.upI rfl) (fun g35 e35 hI hX => ?_)
          refine ev_retK0 f_X2_begin rfl rfl rfl ?_
          refine ev_loc f_X2_beginNext (nx := 107) rfl rfl rfl rfl ?_
          refine ev_alu f_X2_beginNext (nx := 108) rfl rfl rfl rfl ?_
          refine ev_gvI f_X2_beginNext (nx := 111) (w := (gi 45 10)) rfl (hI.wf.s rfl) rfl rfl ((by rw [e35]; exact x_up2_off (Or.inr (by decide)) : g35 45 10 = g29 45 10).trans ((by rw [e29]; exact x_up2_off (Or.inr (by decide)) : g29 45 10 = g26 45 10).trans ((by rw [e26]; exact x_up2_off (Or.inr (by decide)) : g26 45 10 = gi 45 10).trans rfl))) rfl ?_
          refine ev_ic f_X2_beginNext (nx := 112) (v := 1) rfl (by decide) rfl ?_
          refine ev_addC f_X2_beginNext (nx := 113) (c := 1) (l := 1) (u := 6) rfl (by decide) l6 u11 rfl rfl (by decide) (by decide) rfl (fun z36 e36 l36 u36 => ?_)
          refine ev_putIT f_X2_beginNext (nx := 116) rfl (hI.wf.s rfl) rfl rfl rfl (hI.putB (hI.wf.s rfl) rfl rfl l36 (by decide) u36 (by decide)) (hX.upI rfl) (fun g37 e37 hI hX => ?_)
          exact ev_ret f_X2_beginNext rfl rfl rfl ⟨_, _, _, rfl, hI, hX, ⟨rfl, (show (∀ (P : Nat → Nat → Int) (Z : Nat → Int), t_KL P gi → t_CZ (P 0 0) Z gi → s_okz P Z → Z 1 = 0 → s_PB P → s_PO P → t_CZ (P 0 0) (s_bg P (gi 45 5).toInt Z) g37) from (fun P Z hL hZ hO h1 hB hP => (by
                                                            have hf := q2 P Z hL hZ
                                                            obtain ⟨z0, z1, z2, z3, z4⟩ := hZ.1
                                                            have hm := hL.1.1
                                                            have ho := hO.2
                                                            have ho1 := hO.1
                                                            have n1 : ¬ Z 1 ≠ 0 := fun hh => hh h1
                                                            have h0 := hI0.b (hI0.wf.s (k := 45) rfl) (t_bdK rfl : t_bd 2 5 = some (0, 301))
                                                            have kc := t_clamp (i := gi 45 10) (by omega)
                                                            have ec : (gi 45 10).toNatClampNeg = (Z 4).toNat := by omega
                                                            obtain ⟨c1, c2, c3⟩ := hL.2.2 (Z 4).toNat (by omega)
                                                            rw [← ec] at c1 c2 c3
                                                            have w85 := congrArg Int32.toInt e13
                                                            have ns : ¬ (Z 0 = 1 ∧ ((s_f1 Z (P 0 0).toNat 0 : Nat) : Int) < P 0 0 ∧ P 1 (s_f1 Z (P 0 0).toNat 0) ≤ (gi 45 5).toInt) := fun hh => by have p1 := hh.1; have p2 := hh.2.1; have p3 := hh.2.2; omega
                                                            have pb := hB.2.2.1 (Z 4).toNat (by omega)
                                                            have pp := hP.2.1 (Z 4).toNat (by omega)
                                                            rw [← ec] at pb pp
                                                            have kt : w27.toInt = P 6 (gi 45 10).toNatClampNeg := ((congrArg Int32.toInt (e27)).trans (by rw [show g26 55 = gi 55 from (funext fun j => by rw [e26, x_up2_off (Or.inl (by decide))])]; exact c2))
                                                            have ka : w13.toInt = P 5 (gi 45 10).toNatClampNeg := ((congrArg Int32.toInt (e13)).trans c1)
                                                            have kq : w32.toInt = P 7 (gi 45 10).toNatClampNeg := ((congrArg Int32.toInt (e32)).trans (by rw [show g29 56 = gi 56 from (funext fun j => by rw [e29, x_up2_off (Or.inl (by decide)), e26, x_up2_off (Or.inl (by decide))])]; exact c3))
                                                            have e8v := s_add e28 rfl kt (by omega)
                                                            have e11v := t_oi_w e34 e33 e31 (by rw [e29, x_up2_off (Or.inr (by decide)), e26, x_up2_off (Or.inr (by decide))]; exact hZ.2.1.1 : g29 45 11 = Int32.ofInt (Z 5)) rfl ka kq
                                                            have es : (Z 0 ≠ 1 ∧ Z 4 < P 0 1 ∧ P 5 (Z 4).toNat ≤ (gi 45 5).toInt) := ⟨by omega, by omega, by rw [← ec, ← c1, ← w85]; omega⟩
                                                            rw [show s_bg P (gi 45 5).toInt Z = s_bC1 P (gi 45 5).toInt Z (Z 4).toNat from (if_neg n1).trans ((if_neg ns).trans (if_pos es))]
                                                            rw [ec] at e8v e11v
                                                            refine hZ.bc (a := (gi 45 5).toInt + P 6 (Z 4).toNat) (w := ((gi 45 5).toInt - P 5 (Z 4).toNat) * P 7 (Z 4).toNat) (funext fun j => by rw [e37, x_up2_off (Or.inl (by decide)), e35, x_up2_off (Or.inl (by decide)), e29, x_up2_off (Or.inl (by decide)), e26, x_up2_off (Or.inl (by decide))]) (by rw [e37, x_up2_off (Or.inr (by decide)), e35, x_up2_off (Or.inr (by decide)), e29, x_up2_off (Or.inr (by decide)), e26, x_up2_at]; rfl) (by rw [e37, x_up2_off (Or.inr (by decide)), e35, x_up2_off (Or.inr (by decide)), e29, x_up2_at]; exact e8v) (by rw [e37, x_up2_off (Or.inr (by decide)), e35, x_up2_at]; exact e11v) (by rw [e37, x_up2_at]; omega) (fun j a b c d e f => by rw [e37, x_up2_off (Or.inr (by omega)), e35, x_up2_off (Or.inr (by omega)), e29, x_up2_off (Or.inr (by omega)), e26, x_up2_off (Or.inr (by omega))]))))⟩⟩
  · have r38 : (gi 45 6).toInt ≠ 0 := fun e => h3 (Int32.toInt_inj.mp (e.trans (by decide : (0:Int) = (0 : Int32).toInt)))
    refine ev_loc f_X2_beginNext (nx := 13) rfl rfl rfl rfl ?_
    refine ev_ic f_X2_beginNext (nx := 14) (v := -1) rfl (by decide) rfl ?_
    refine ev_if f_X2_beginNext (t1 := 53) (t2 := 17) rfl rfl rfl (fun h39 => ?_) (fun h39 => ?_)
    · have u40 : w2.toInt ≤ (-1) := t_equ h39 (by decide : ((-1):Int32).toInt ≤ ((-1):Int))
      refine ev_loc f_X2_beginNext (nx := 54) rfl rfl rfl rfl ?_
      refine ev_gvI f_X2_beginNext (nx := 57) (w := (gi 45 6)) rfl (hI.wf.s rfl) rfl rfl rfl rfl ?_
      refine ev_if f_X2_beginNext (t1 := 60) (t2 := 116) rfl rfl rfl (fun h41 => ?_) (fun h41 => ?_)
      · have u42 : (gi 45 6).toInt ≤ 0 := t_equ h41 (by decide : (0:Int32).toInt ≤ (0:Int))
        have l43 : 0 ≤ (gi 45 6).toInt := t_eql h41 (by decide : (0:Int) ≤ (0:Int32).toInt)
        refine ev_loc f_X2_beginNext (nx := 61) rfl rfl rfl rfl ?_
        refine ev_getI f_X2_beginNext (nx := 64) rfl (hI.wf.s rfl) rfl rfl rfl ?_
        obtain ⟨l44, u44⟩ := hI.b (hI.wf.s (k := 45) rfl) (t_bdK rfl : t_bd 2 10 = some (0, 6))
        refine ev_loc f_X2_beginNext (nx := 65) rfl rfl rfl rfl ?_
        refine ev_getR f_X2_beginNext (nx := 68) rfl (hI.wf.s rfl) rfl rfl (hI.wf.r rfl) rfl rfl ?_
        refine ev_getI f_X2_beginNext (nx := 71) rfl (hI.wf.s rfl) rfl rfl rfl ?_
        obtain ⟨l45, u45⟩ := hI.b (hI.wf.s (k := 52) rfl) (t_bdK rfl : t_bd 3 0 = some (0, 6))
        refine ev_if f_X2_beginNext (t1 := 116) (t2 := 74) rfl rfl rfl (fun h46 => ?_) (fun h46 => ?_)
        · have r47 : (gi 52 0).toInt ≤ (gi 45 10).toInt := Int32.le_iff_toInt_le.mp h46
          exact ev_ret f_X2_beginNext rfl rfl rfl ⟨_, _, _, rfl, hI, hX, ⟨rfl, (show (∀ (P : Nat → Nat → Int) (Z : Nat → Int), t_KL P gi → t_CZ (P 0 0) Z gi → s_okz P Z → Z 1 = 0 → s_PB P → s_PO P → t_CZ (P 0 0) (s_bg P (gi 45 5).toInt Z) gi) from (fun P Z hL hZ hO h1 hB hP => (by
                                                            have hf := q2 P Z hL hZ
                                                            obtain ⟨z0, z1, z2, z3, z4⟩ := hZ.1
                                                            have hm := hL.1.1
                                                            have ho := hO.2
                                                            have ho1 := hO.1
                                                            have n1 : ¬ Z 1 ≠ 0 := fun hh => hh h1
                                                            have h0 := hI0.b (hI0.wf.s (k := 45) rfl) (t_bdK rfl : t_bd 2 5 = some (0, 301))
                                                            have ns : ¬ (Z 0 = 1 ∧ ((s_f1 Z (P 0 0).toNat 0 : Nat) : Int) < P 0 0 ∧ P 1 (s_f1 Z (P 0 0).toNat 0) ≤ (gi 45 5).toInt) := fun hh => by have p1 := hh.1; have p2 := hh.2.1; have p3 := hh.2.2; omega
                                                            have nc : ¬ (Z 0 ≠ 1 ∧ Z 4 < P 0 1 ∧ P 5 (Z 4).toNat ≤ (gi 45 5).toInt) := fun hh => by have p1 := hh.1; have p2 := hh.2.1; have p3 := hh.2.2; omega
                                                            rw [show s_bg P (gi 45 5).toInt Z = Z from (if_neg n1).trans ((if_neg ns).trans (if_neg nc))]
                                                            exact hZ)))⟩⟩
        · have r48 : (gi 45 10).toInt < (gi 52 0).toInt := Int32.lt_iff_toInt_lt.mp (t_nle h46)
          have u49 : (gi 45 10).toInt ≤ 5 := t_ltu (t_nle h46) u45 rfl
          have l50 : 1 ≤ (gi 52 0).toInt := t_ltl (t_nle h46) l44 rfl
          refine ev_loc f_X2_beginNext (nx := 75) rfl rfl rfl rfl ?_
          refine ev_getR f_X2_beginNext (nx := 78) rfl (hI.wf.s rfl) rfl rfl (hI.wf.r rfl) rfl rfl ?_
          refine ev_getR f_X2_beginNext (nx := 81) rfl (hI.wf.s rfl) rfl rfl (hI.wf.r rfl) rfl rfl ?_
          refine ev_loc f_X2_beginNext (nx := 82) rfl rfl rfl rfl ?_
          refine ev_gvI f_X2_beginNext (nx := 85) (w := (gi 45 10)) rfl (hI.wf.s rfl) rfl rfl rfl rfl ?_
          refine ev_ialdT f_X2_beginNext (nx := 86) rfl (hI.wf.s rfl) l44 (by decide) u49 (by decide) rfl (fun w51 e51 => ?_)
          refine ev_loc f_X2_beginNext (nx := 87) rfl rfl rfl rfl ?_
          refine ev_gvI f_X2_beginNext (nx := 90) (w := (gi 45 5)) rfl (hI.wf.s rfl) rfl rfl rfl rfl ?_
          refine ev_if f_X2_beginNext (t1 := 116) (t2 := 93) rfl rfl rfl (fun h52 => ?_) (fun h52 => ?_)
          · have r53 : (gi 45 5).toInt < w51.toInt := Int32.lt_iff_toInt_lt.mp h52
            have l54 : 1 ≤ w51.toInt := t_ltl h52 l1 rfl
            exact ev_ret f_X2_beginNext rfl rfl rfl ⟨_, _, _, rfl, hI, hX, ⟨rfl, (show (∀ (P : Nat → Nat → Int) (Z : Nat → Int), t_KL P gi → t_CZ (P 0 0) Z gi → s_okz P Z → Z 1 = 0 → s_PB P → s_PO P → t_CZ (P 0 0) (s_bg P (gi 45 5).toInt Z) gi) from (fun P Z hL hZ hO h1 hB hP => (by
                                                            have hf := q2 P Z hL hZ
                                                            obtain ⟨z0, z1, z2, z3, z4⟩ := hZ.1
                                                            have hm := hL.1.1
                                                            have ho := hO.2
                                                            have ho1 := hO.1
                                                            have n1 : ¬ Z 1 ≠ 0 := fun hh => hh h1
                                                            have h0 := hI0.b (hI0.wf.s (k := 45) rfl) (t_bdK rfl : t_bd 2 5 = some (0, 301))
                                                            have kc := t_clamp (i := gi 45 10) (by omega)
                                                            have ec : (gi 45 10).toNatClampNeg = (Z 4).toNat := by omega
                                                            obtain ⟨c1, c2, c3⟩ := hL.2.2 (Z 4).toNat (by omega)
                                                            rw [← ec] at c1 c2 c3
                                                            have w85 := congrArg Int32.toInt e51
                                                            have ns : ¬ (Z 0 = 1 ∧ ((s_f1 Z (P 0 0).toNat 0 : Nat) : Int) < P 0 0 ∧ P 1 (s_f1 Z (P 0 0).toNat 0) ≤ (gi 45 5).toInt) := fun hh => by have p1 := hh.1; have p2 := hh.2.1; have p3 := hh.2.2; omega
                                                            have nc : ¬ (Z 0 ≠ 1 ∧ Z 4 < P 0 1 ∧ P 5 (Z 4).toNat ≤ (gi 45 5).toInt) := fun hh => by have p1 := hh.1; have p2 := hh.2.1; have p3 := hh.2.2; rw [← ec, ← c1, ← w85] at p3; omega
                                                            rw [show s_bg P (gi 45 5).toInt Z = Z from (if_neg n1).trans ((if_neg ns).trans (if_neg nc))]
                                                            exact hZ)))⟩⟩
          · have r55 : w51.toInt ≤ (gi 45 5).toInt := Int32.le_iff_toInt_le.mp (t_nlt h52)
            have u56 : w51.toInt ≤ 301 := t_leu (t_nlt h52) u1
            refine ev_loc f_X2_beginNext (nx := 94) rfl rfl rfl rfl ?_
            refine ev_ic f_X2_beginNext (nx := 95) (v := 2) rfl (by decide) rfl ?_
            refine ev_loc f_X2_beginNext (nx := 96) rfl rfl rfl rfl ?_
            refine ev_getR f_X2_beginNext (nx := 99) rfl (hI.wf.s rfl) rfl rfl (hI.wf.r rfl) rfl rfl ?_
            refine ev_loc f_X2_beginNext (nx := 100) rfl rfl rfl rfl ?_
            refine ev_gvI f_X2_beginNext (nx := 103) (w := (gi 45 10)) rfl (hI.wf.s rfl) rfl rfl rfl rfl ?_
            refine ev_inV4 f_X2_beginNext (nx := 106) (lo2 := [(0, .ref 45), (1, .int 2), (2, .ref 52), (3, .int (gi 45 10))]) rfl rfl rfl rfl f_X2_begin (hI.wf.s rfl) rfl rfl rfl rfl rfl ?_
            refine ev_loc f_X2_begin (nx := 1) rfl rfl rfl rfl ?_
            refine ev_f f_X2_begin (t1 := 59) (t2 := 4) rfl rfl rfl (t_ltF (by decide : (0:Int32).toInt ≤ (0:Int)) l44 (by decide)) ?_
            refine ev_loc f_X2_begin (nx := 5) rfl rfl rfl rfl ?_
            refine ev_loc f_X2_begin (nx := 6) rfl rfl rfl rfl ?_
            refine ev_gvI f_X2_begin (nx := 9) (w := (gi 52 0)) rfl (hI.wf.s rfl) rfl rfl rfl rfl ?_
            refine ev_if f_X2_begin (t1 := 59) (t2 := 12) rfl rfl rfl (fun h57 => ?_) (fun h57 => ?_)
            · have r58 : (gi 52 0).toInt ≤ (gi 45 10).toInt := Int32.le_iff_toInt_le.mp h57
              have u59 : (gi 52 0).toInt ≤ 5 := t_leu h57 u49
              have l60 : 1 ≤ (gi 45 10).toInt := t_lel h57 l50
              refine ev_retK0 f_X2_begin rfl rfl rfl ?_
              refine ev_loc f_X2_beginNext (nx := 107) rfl rfl rfl rfl ?_
              refine ev_alu f_X2_beginNext (nx := 108) rfl rfl rfl rfl ?_
              refine ev_gvI f_X2_beginNext (nx := 111) (w := (gi 45 10)) rfl (hI.wf.s rfl) rfl rfl rfl rfl ?_
              refine ev_ic f_X2_beginNext (nx := 112) (v := 1) rfl (by decide) rfl ?_
              refine ev_addC f_X2_beginNext (nx := 113) (c := 1) (l := 2) (u := 6) rfl (by decide) l60 u49 rfl rfl (by decide) (by decide) rfl (fun z61 e61 l61 u61 => ?_)
              refine ev_putIT f_X2_beginNext (nx := 116) rfl (hI.wf.s rfl) rfl rfl rfl (hI.putB (hI.wf.s rfl) rfl rfl l61 (by decide) u61 (by decide)) (hX.upI rfl) (fun g62 e62 hI hX => ?_)
              exact ev_ret f_X2_beginNext rfl rfl rfl ⟨_, _, _, rfl, hI, hX, ⟨rfl, (show (∀ (P : Nat → Nat → Int) (Z : Nat → Int), t_KL P gi → t_CZ (P 0 0) Z gi → s_okz P Z → Z 1 = 0 → s_PB P → s_PO P → t_CZ (P 0 0) (s_bg P (gi 45 5).toInt Z) g62) from (fun P Z hL hZ hO h1 hB hP => (by
                                                            have hf := q2 P Z hL hZ
                                                            obtain ⟨z0, z1, z2, z3, z4⟩ := hZ.1
                                                            have hm := hL.1.1
                                                            have ho := hO.2
                                                            have ho1 := hO.1
                                                            have n1 : ¬ Z 1 ≠ 0 := fun hh => hh h1
                                                            have h0 := hI0.b (hI0.wf.s (k := 45) rfl) (t_bdK rfl : t_bd 2 5 = some (0, 301))
                                                            have kc := t_clamp (i := gi 45 10) (by omega)
                                                            have ec : (gi 45 10).toNatClampNeg = (Z 4).toNat := by omega
                                                            obtain ⟨c1, c2, c3⟩ := hL.2.2 (Z 4).toNat (by omega)
                                                            rw [← ec] at c1 c2 c3
                                                            have w85 := congrArg Int32.toInt e51
                                                            have em46 : (g62 46 0).toInt = (gi 46 0).toInt := by rw [e62, x_up2_off (Or.inl (by decide))]
                                                            have em52 : (g62 52 0).toInt = (gi 52 0).toInt := by rw [e62, x_up2_off (Or.inl (by decide))]
                                                            exfalso; omega)))⟩⟩
            · have r63 : (gi 45 10).toInt < (gi 52 0).toInt := Int32.lt_iff_toInt_lt.mp (t_nle h57)
              refine ev_loc f_X2_begin (nx := 13) rfl rfl rfl rfl ?_
              refine ev_loc f_X2_begin (nx := 14) rfl rfl rfl rfl ?_
              refine ev_putIT f_X2_begin (nx := 17) rfl (hI.wf.s rfl) rfl rfl rfl (hI.put0 (hI.wf.s rfl) rfl rfl) (hX.upI rfl) (fun g64 e64 hI hX => ?_)
              refine ev_loc f_X2_begin (nx := 18) rfl rfl rfl rfl ?_
              refine ev_loc f_X2_begin (nx := 19) rfl rfl rfl rfl ?_
              refine ev_gvI f_X2_begin (nx := 22) (w := (gi 45 5)) rfl (hI.wf.s rfl) rfl rfl ((by rw [e64]; exact x_up2_off (Or.inr (by decide)) : g64 45 5 = gi 45 5).trans rfl) rfl ?_
              refine ev_loc f_X2_begin (nx := 23) rfl rfl rfl rfl ?_
              refine ev_getR f_X2_begin (nx := 26) rfl (hI.wf.s rfl) rfl rfl (hI.wf.r rfl) rfl rfl ?_
              refine ev_loc f_X2_begin (nx := 27) rfl rfl rfl rfl ?_
              refine ev_ialdT f_X2_begin (nx := 28) rfl (hI.wf.s rfl) l44 (by decide) u49 (by decide) rfl (fun w65 e65 => ?_)
              refine ev_anyIE f_X2_begin (nx := 29) rfl rfl rfl rfl (fun z66 e66 => ?_)
              refine ev_putIT f_X2_begin (nx := 32) rfl (hI.wf.s rfl) rfl rfl rfl (hI.put0 (hI.wf.s rfl) rfl rfl) (hX.upI rfl) (fun g67 e67 hI hX => ?_)
              refine ev_loc f_X2_begin (nx := 33) rfl rfl rfl rfl ?_
              refine ev_alu f_X2_begin (nx := 34) rfl rfl rfl rfl ?_
              refine ev_getI f_X2_begin (nx := 37) rfl (hI.wf.s rfl) rfl rfl rfl ?_
              refine ev_loc f_X2_begin (nx := 38) rfl rfl rfl rfl ?_
              refine ev_gvI f_X2_begin (nx := 41) (w := (gi 45 5)) rfl (hI.wf.s rfl) rfl rfl ((by rw [e67]; exact x_up2_off (Or.inr (by decide)) : g67 45 5 = g64 45 5).trans ((by rw [e64]; exact x_up2_off (Or.inr (by decide)) : g64 45 5 = gi 45 5).trans rfl)) rfl ?_
              refine ev_loc f_X2_begin (nx := 42) rfl rfl rfl rfl ?_
              refine ev_getR f_X2_begin (nx := 45) rfl (hI.wf.s rfl) rfl rfl (hI.wf.r rfl) rfl rfl ?_
              refine ev_loc f_X2_begin (nx := 46) rfl rfl rfl rfl ?_
              refine ev_ialdT f_X2_begin (nx := 47) rfl (hI.wf.s rfl) l44 (by decide) u49 (by decide) rfl (fun w68 e68 => ?_)
              rw [e68.trans ((by rw [e67]; exact x_up2_off (Or.inl (by decide)) : g67 54 (gi 45 10).toNatClampNeg = g64 54 (gi 45 10).toNatClampNeg).trans ((by rw [e64]; exact x_up2_off (Or.inl (by decide)) : g64 54 (gi 45 10).toNatClampNeg = gi 54 (gi 45 10).toNatClampNeg).trans e51.symm))]
              refine ev_anyIE f_X2_begin (nx := 48) rfl rfl rfl rfl (fun z69 e69 => ?_)
              refine ev_loc f_X2_begin (nx := 49) rfl rfl rfl rfl ?_
              refine ev_getR f_X2_begin (nx := 52) rfl (hI.wf.s rfl) rfl rfl (hI.wf.r rfl) rfl rfl ?_
              refine ev_loc f_X2_begin (nx := 53) rfl rfl rfl rfl ?_
              refine ev_ialdT f_X2_begin (nx := 54) rfl (hI.wf.s rfl) l44 (by decide) u49 (by decide) rfl (fun w70 e70 => ?_)
              refine ev_anyIE f_X2_begin (nx := 55) rfl rfl rfl rfl (fun z71 e71 => ?_)
              refine ev_anyIE f_X2_begin (nx := 56) rfl rfl rfl rfl (fun z72 e72 => ?_)
              refine ev_putIT f_X2_begin (nx := 59) rfl (hI.wf.s rfl) rfl rfl rfl (hI.put0 (hI.wf.s rfl) rfl rfl) (hX.upI rfl) (fun g73 e73 hI hX => ?_)
              refine ev_retK0 f_X2_begin rfl rfl rfl ?_
              refine ev_loc f_X2_beginNext (nx := 107) rfl rfl rfl rfl ?_
              refine ev_alu f_X2_beginNext (nx := 108) rfl rfl rfl rfl ?_
              refine ev_gvI f_X2_beginNext (nx := 111) (w := (gi 45 10)) rfl (hI.wf.s rfl) rfl rfl ((by rw [e73]; exact x_up2_off (Or.inr (by decide)) : g73 45 10 = g67 45 10).trans ((by rw [e67]; exact x_up2_off (Or.inr (by decide)) : g67 45 10 = g64 45 10).trans ((by rw [e64]; exact x_up2_off (Or.inr (by decide)) : g64 45 10 = gi 45 10).trans rfl))) rfl ?_
              refine ev_ic f_X2_beginNext (nx := 112) (v := 1) rfl (by decide) rfl ?_
              refine ev_addC f_X2_beginNext (nx := 113) (c := 1) (l := 1) (u := 6) rfl (by decide) l44 u49 rfl rfl (by decide) (by decide) rfl (fun z74 e74 l74 u74 => ?_)
              refine ev_putIT f_X2_beginNext (nx := 116) rfl (hI.wf.s rfl) rfl rfl rfl (hI.putB (hI.wf.s rfl) rfl rfl l74 (by decide) u74 (by decide)) (hX.upI rfl) (fun g75 e75 hI hX => ?_)
              exact ev_ret f_X2_beginNext rfl rfl rfl ⟨_, _, _, rfl, hI, hX, ⟨rfl, (show (∀ (P : Nat → Nat → Int) (Z : Nat → Int), t_KL P gi → t_CZ (P 0 0) Z gi → s_okz P Z → Z 1 = 0 → s_PB P → s_PO P → t_CZ (P 0 0) (s_bg P (gi 45 5).toInt Z) g75) from (fun P Z hL hZ hO h1 hB hP => (by
                                                            have hf := q2 P Z hL hZ
                                                            obtain ⟨z0, z1, z2, z3, z4⟩ := hZ.1
                                                            have hm := hL.1.1
                                                            have ho := hO.2
                                                            have ho1 := hO.1
                                                            have n1 : ¬ Z 1 ≠ 0 := fun hh => hh h1
                                                            have h0 := hI0.b (hI0.wf.s (k := 45) rfl) (t_bdK rfl : t_bd 2 5 = some (0, 301))
                                                            have kc := t_clamp (i := gi 45 10) (by omega)
                                                            have ec : (gi 45 10).toNatClampNeg = (Z 4).toNat := by omega
                                                            obtain ⟨c1, c2, c3⟩ := hL.2.2 (Z 4).toNat (by omega)
                                                            rw [← ec] at c1 c2 c3
                                                            have w85 := congrArg Int32.toInt e51
                                                            have ns : ¬ (Z 0 = 1 ∧ ((s_f1 Z (P 0 0).toNat 0 : Nat) : Int) < P 0 0 ∧ P 1 (s_f1 Z (P 0 0).toNat 0) ≤ (gi 45 5).toInt) := fun hh => by have p1 := hh.1; have p2 := hh.2.1; have p3 := hh.2.2; omega
                                                            have pb := hB.2.2.1 (Z 4).toNat (by omega)
                                                            have pp := hP.2.1 (Z 4).toNat (by omega)
                                                            rw [← ec] at pb pp
                                                            have kt : w65.toInt = P 6 (gi 45 10).toNatClampNeg := ((congrArg Int32.toInt (e65)).trans (by rw [show g64 55 = gi 55 from (funext fun j => by rw [e64, x_up2_off (Or.inl (by decide))])]; exact c2))
                                                            have ka : w51.toInt = P 5 (gi 45 10).toNatClampNeg := ((congrArg Int32.toInt (e51)).trans c1)
                                                            have kq : w70.toInt = P 7 (gi 45 10).toNatClampNeg := ((congrArg Int32.toInt (e70)).trans (by rw [show g67 56 = gi 56 from (funext fun j => by rw [e67, x_up2_off (Or.inl (by decide)), e64, x_up2_off (Or.inl (by decide))])]; exact c3))
                                                            have e8v := s_add e66 rfl kt (by omega)
                                                            have e11v := t_oi_w e72 e71 e69 (by rw [e67, x_up2_off (Or.inr (by decide)), e64, x_up2_off (Or.inr (by decide))]; exact hZ.2.1.1 : g67 45 11 = Int32.ofInt (Z 5)) rfl ka kq
                                                            have es : (Z 0 ≠ 1 ∧ Z 4 < P 0 1 ∧ P 5 (Z 4).toNat ≤ (gi 45 5).toInt) := ⟨by omega, by omega, by rw [← ec, ← c1, ← w85]; omega⟩
                                                            rw [show s_bg P (gi 45 5).toInt Z = s_bC1 P (gi 45 5).toInt Z (Z 4).toNat from (if_neg n1).trans ((if_neg ns).trans (if_pos es))]
                                                            rw [ec] at e8v e11v
                                                            refine hZ.bc (a := (gi 45 5).toInt + P 6 (Z 4).toNat) (w := ((gi 45 5).toInt - P 5 (Z 4).toNat) * P 7 (Z 4).toNat) (funext fun j => by rw [e75, x_up2_off (Or.inl (by decide)), e73, x_up2_off (Or.inl (by decide)), e67, x_up2_off (Or.inl (by decide)), e64, x_up2_off (Or.inl (by decide))]) (by rw [e75, x_up2_off (Or.inr (by decide)), e73, x_up2_off (Or.inr (by decide)), e67, x_up2_off (Or.inr (by decide)), e64, x_up2_at]; rfl) (by rw [e75, x_up2_off (Or.inr (by decide)), e73, x_up2_off (Or.inr (by decide)), e67, x_up2_at]; exact e8v) (by rw [e75, x_up2_off (Or.inr (by decide)), e73, x_up2_at]; exact e11v) (by rw [e75, x_up2_at]; omega) (fun j a b c d e f => by rw [e75, x_up2_off (Or.inr (by omega)), e73, x_up2_off (Or.inr (by omega)), e67, x_up2_off (Or.inr (by omega)), e64, x_up2_off (Or.inr (by omega))]))))⟩⟩
      · have r76 : (gi 45 6).toInt ≠ 0 := fun e => h41 (Int32.toInt_inj.mp (e.trans (by decide : (0:Int) = (0 : Int32).toInt)))
        exact ev_ret f_X2_beginNext rfl rfl rfl ⟨_, _, _, rfl, hI, hX, ⟨rfl, (show (∀ (P : Nat → Nat → Int) (Z : Nat → Int), t_KL P gi → t_CZ (P 0 0) Z gi → s_okz P Z → Z 1 = 0 → s_PB P → s_PO P → t_CZ (P 0 0) (s_bg P (gi 45 5).toInt Z) gi) from (fun P Z hL hZ hO h1 hB hP => (by
                                                            have hf := q2 P Z hL hZ
                                                            obtain ⟨z0, z1, z2, z3, z4⟩ := hZ.1
                                                            have hm := hL.1.1
                                                            have ho := hO.2
                                                            have ho1 := hO.1
                                                            have n1 : ¬ Z 1 ≠ 0 := fun hh => hh h1
                                                            have h0 := hI0.b (hI0.wf.s (k := 45) rfl) (t_bdK rfl : t_bd 2 5 = some (0, 301))
                                                            have ns : ¬ (Z 0 = 1 ∧ ((s_f1 Z (P 0 0).toNat 0 : Nat) : Int) < P 0 0 ∧ P 1 (s_f1 Z (P 0 0).toNat 0) ≤ (gi 45 5).toInt) := fun hh => by have p1 := hh.1; have p2 := hh.2.1; have p3 := hh.2.2; omega
                                                            have nc : ¬ (Z 0 ≠ 1 ∧ Z 4 < P 0 1 ∧ P 5 (Z 4).toNat ≤ (gi 45 5).toInt) := fun hh => by have p1 := hh.1; have p2 := hh.2.1; have p3 := hh.2.2; omega
                                                            rw [show s_bg P (gi 45 5).toInt Z = Z from (if_neg n1).trans ((if_neg ns).trans (if_neg nc))]
                                                            exact hZ)))⟩⟩
    · have r77 : w2.toInt ≠ (-1) := fun e => h39 (Int32.toInt_inj.mp (e.trans (by decide : ((-1):Int) = ((-1) : Int32).toInt)))
      have l78 : 0 ≤ w2.toInt := t_nel h39 l2 rfl rfl
      refine ev_loc f_X2_beginNext (nx := 18) rfl rfl rfl rfl ?_
      refine ev_getR f_X2_beginNext (nx := 21) rfl (hI.wf.s rfl) rfl rfl (hI.wf.r rfl) rfl rfl ?_
      refine ev_getR f_X2_beginNext (nx := 24) rfl (hI.wf.s rfl) rfl rfl (hI.wf.r rfl) rfl rfl ?_
      refine ev_loc f_X2_beginNext (nx := 25) rfl rfl rfl rfl ?_
      refine ev_ialdT f_X2_beginNext (nx := 26) rfl (hI.wf.s rfl) l78 (by decide) u2 (by decide) rfl (fun w79 e79 => ?_)
      refine ev_loc f_X2_beginNext (nx := 27) rfl rfl rfl rfl ?_
      refine ev_gvI f_X2_beginNext (nx := 30) (w := (gi 45 5)) rfl (hI.wf.s rfl) rfl rfl rfl rfl ?_
      refine ev_if f_X2_beginNext (t1 := 53) (t2 := 33) rfl rfl rfl (fun h80 => ?_) (fun h80 => ?_)
      · have r81 : (gi 45 5).toInt < w79.toInt := Int32.lt_iff_toInt_lt.mp h80
        have l82 : 1 ≤ w79.toInt := t_ltl h80 l1 rfl
        refine ev_loc f_X2_beginNext (nx := 54) rfl rfl rfl rfl ?_
        refine ev_gvI f_X2_beginNext (nx := 57) (w := (gi 45 6)) rfl (hI.wf.s rfl) rfl rfl rfl rfl ?_
        refine ev_if f_X2_beginNext (t1 := 60) (t2 := 116) rfl rfl rfl (fun h83 => ?_) (fun h83 => ?_)
        · have u84 : (gi 45 6).toInt ≤ 0 := t_equ h83 (by decide : (0:Int32).toInt ≤ (0:Int))
          have l85 : 0 ≤ (gi 45 6).toInt := t_eql h83 (by decide : (0:Int) ≤ (0:Int32).toInt)
          refine ev_loc f_X2_beginNext (nx := 61) rfl rfl rfl rfl ?_
          refine ev_getI f_X2_beginNext (nx := 64) rfl (hI.wf.s rfl) rfl rfl rfl ?_
          obtain ⟨l86, u86⟩ := hI.b (hI.wf.s (k := 45) rfl) (t_bdK rfl : t_bd 2 10 = some (0, 6))
          refine ev_loc f_X2_beginNext (nx := 65) rfl rfl rfl rfl ?_
          refine ev_getR f_X2_beginNext (nx := 68) rfl (hI.wf.s rfl) rfl rfl (hI.wf.r rfl) rfl rfl ?_
          refine ev_getI f_X2_beginNext (nx := 71) rfl (hI.wf.s rfl) rfl rfl rfl ?_
          obtain ⟨l87, u87⟩ := hI.b (hI.wf.s (k := 52) rfl) (t_bdK rfl : t_bd 3 0 = some (0, 6))
          refine ev_if f_X2_beginNext (t1 := 116) (t2 := 74) rfl rfl rfl (fun h88 => ?_) (fun h88 => ?_)
          · have r89 : (gi 52 0).toInt ≤ (gi 45 10).toInt := Int32.le_iff_toInt_le.mp h88
            exact ev_ret f_X2_beginNext rfl rfl rfl ⟨_, _, _, rfl, hI, hX, ⟨rfl, (show (∀ (P : Nat → Nat → Int) (Z : Nat → Int), t_KL P gi → t_CZ (P 0 0) Z gi → s_okz P Z → Z 1 = 0 → s_PB P → s_PO P → t_CZ (P 0 0) (s_bg P (gi 45 5).toInt Z) gi) from (fun P Z hL hZ hO h1 hB hP => (by
                                                            have hf := q2 P Z hL hZ
                                                            obtain ⟨z0, z1, z2, z3, z4⟩ := hZ.1
                                                            have hm := hL.1.1
                                                            have ho := hO.2
                                                            have ho1 := hO.1
                                                            have n1 : ¬ Z 1 ≠ 0 := fun hh => hh h1
                                                            have h0 := hI0.b (hI0.wf.s (k := 45) rfl) (t_bdK rfl : t_bd 2 5 = some (0, 301))
                                                            have kv := t_clamp (i := w2) (by omega)
                                                            obtain ⟨l1, l2, l3, l4⟩ := hL.2.1 w2.toNatClampNeg (by omega)
                                                            have w25 := congrArg Int32.toInt e79
                                                            have ef : s_f1 Z (P 0 0).toNat 0 = w2.toNatClampNeg := by omega
                                                            have ns : ¬ (Z 0 = 1 ∧ ((s_f1 Z (P 0 0).toNat 0 : Nat) : Int) < P 0 0 ∧ P 1 (s_f1 Z (P 0 0).toNat 0) ≤ (gi 45 5).toInt) := fun hh => by have p1 := hh.1; have p2 := hh.2.1; have p3 := hh.2.2; rw [ef, ← l1, ← w25] at p3; omega
                                                            have nc : ¬ (Z 0 ≠ 1 ∧ Z 4 < P 0 1 ∧ P 5 (Z 4).toNat ≤ (gi 45 5).toInt) := fun hh => by have p1 := hh.1; have p2 := hh.2.1; have p3 := hh.2.2; omega
                                                            rw [show s_bg P (gi 45 5).toInt Z = Z from (if_neg n1).trans ((if_neg ns).trans (if_neg nc))]
                                                            exact hZ)))⟩⟩
          · have r90 : (gi 45 10).toInt < (gi 52 0).toInt := Int32.lt_iff_toInt_lt.mp (t_nle h88)
            have u91 : (gi 45 10).toInt ≤ 5 := t_ltu (t_nle h88) u87 rfl
            have l92 : 1 ≤ (gi 52 0).toInt := t_ltl (t_nle h88) l86 rfl
            refine ev_loc f_X2_beginNext (nx := 75) rfl rfl rfl rfl ?_
            refine ev_getR f_X2_beginNext (nx := 78) rfl (hI.wf.s rfl) rfl rfl (hI.wf.r rfl) rfl rfl ?_
            refine ev_getR f_X2_beginNext (nx := 81) rfl (hI.wf.s rfl) rfl rfl (hI.wf.r rfl) rfl rfl ?_
            refine ev_loc f_X2_beginNext (nx := 82) rfl rfl rfl rfl ?_
            refine ev_gvI f_X2_beginNext (nx := 85) (w := (gi 45 10)) rfl (hI.wf.s rfl) rfl rfl rfl rfl ?_
            refine ev_ialdT f_X2_beginNext (nx := 86) rfl (hI.wf.s rfl) l86 (by decide) u91 (by decide) rfl (fun w93 e93 => ?_)
            refine ev_loc f_X2_beginNext (nx := 87) rfl rfl rfl rfl ?_
            refine ev_gvI f_X2_beginNext (nx := 90) (w := (gi 45 5)) rfl (hI.wf.s rfl) rfl rfl rfl rfl ?_
            refine ev_if f_X2_beginNext (t1 := 116) (t2 := 93) rfl rfl rfl (fun h94 => ?_) (fun h94 => ?_)
            · have r95 : (gi 45 5).toInt < w93.toInt := Int32.lt_iff_toInt_lt.mp h94
              have l96 : 1 ≤ w93.toInt := t_ltl h94 l1 rfl
              exact ev_ret f_X2_beginNext rfl rfl rfl ⟨_, _, _, rfl, hI, hX, ⟨rfl, (show (∀ (P : Nat → Nat → Int) (Z : Nat → Int), t_KL P gi → t_CZ (P 0 0) Z gi → s_okz P Z → Z 1 = 0 → s_PB P → s_PO P → t_CZ (P 0 0) (s_bg P (gi 45 5).toInt Z) gi) from (fun P Z hL hZ hO h1 hB hP => (by
                                                            have hf := q2 P Z hL hZ
                                                            obtain ⟨z0, z1, z2, z3, z4⟩ := hZ.1
                                                            have hm := hL.1.1
                                                            have ho := hO.2
                                                            have ho1 := hO.1
                                                            have n1 : ¬ Z 1 ≠ 0 := fun hh => hh h1
                                                            have h0 := hI0.b (hI0.wf.s (k := 45) rfl) (t_bdK rfl : t_bd 2 5 = some (0, 301))
                                                            have kv := t_clamp (i := w2) (by omega)
                                                            obtain ⟨l1, l2, l3, l4⟩ := hL.2.1 w2.toNatClampNeg (by omega)
                                                            have w25 := congrArg Int32.toInt e79
                                                            have ef : s_f1 Z (P 0 0).toNat 0 = w2.toNatClampNeg := by omega
                                                            have kc := t_clamp (i := gi 45 10) (by omega)
                                                            have ec : (gi 45 10).toNatClampNeg = (Z 4).toNat := by omega
                                                            obtain ⟨c1, c2, c3⟩ := hL.2.2 (Z 4).toNat (by omega)
                                                            rw [← ec] at c1 c2 c3
                                                            have w85 := congrArg Int32.toInt e93
                                                            have ns : ¬ (Z 0 = 1 ∧ ((s_f1 Z (P 0 0).toNat 0 : Nat) : Int) < P 0 0 ∧ P 1 (s_f1 Z (P 0 0).toNat 0) ≤ (gi 45 5).toInt) := fun hh => by have p1 := hh.1; have p2 := hh.2.1; have p3 := hh.2.2; rw [ef, ← l1, ← w25] at p3; omega
                                                            have nc : ¬ (Z 0 ≠ 1 ∧ Z 4 < P 0 1 ∧ P 5 (Z 4).toNat ≤ (gi 45 5).toInt) := fun hh => by have p1 := hh.1; have p2 := hh.2.1; have p3 := hh.2.2; rw [← ec, ← c1, ← w85] at p3; omega
                                                            rw [show s_bg P (gi 45 5).toInt Z = Z from (if_neg n1).trans ((if_neg ns).trans (if_neg nc))]
                                                            exact hZ)))⟩⟩
            · have r97 : w93.toInt ≤ (gi 45 5).toInt := Int32.le_iff_toInt_le.mp (t_nlt h94)
              have u98 : w93.toInt ≤ 301 := t_leu (t_nlt h94) u1
              refine ev_loc f_X2_beginNext (nx := 94) rfl rfl rfl rfl ?_
              refine ev_ic f_X2_beginNext (nx := 95) (v := 2) rfl (by decide) rfl ?_
              refine ev_loc f_X2_beginNext (nx := 96) rfl rfl rfl rfl ?_
              refine ev_getR f_X2_beginNext (nx := 99) rfl (hI.wf.s rfl) rfl rfl (hI.wf.r rfl) rfl rfl ?_
              refine ev_loc f_X2_beginNext (nx := 100) rfl rfl rfl rfl ?_
              refine ev_gvI f_X2_beginNext (nx := 103) (w := (gi 45 10)) rfl (hI.wf.s rfl) rfl rfl rfl rfl ?_
              refine ev_inV4 f_X2_beginNext (nx := 106) (lo2 := [(0, .ref 45), (1, .int 2), (2, .ref 52), (3, .int (gi 45 10))]) rfl rfl rfl rfl f_X2_begin (hI.wf.s rfl) rfl rfl rfl rfl rfl ?_
              refine ev_loc f_X2_begin (nx := 1) rfl rfl rfl rfl ?_
              refine ev_f f_X2_begin (t1 := 59) (t2 := 4) rfl rfl rfl (t_ltF (by decide : (0:Int32).toInt ≤ (0:Int)) l86 (by decide)) ?_
              refine ev_loc f_X2_begin (nx := 5) rfl rfl rfl rfl ?_
              refine ev_loc f_X2_begin (nx := 6) rfl rfl rfl rfl ?_
              refine ev_gvI f_X2_begin (nx := 9) (w := (gi 52 0)) rfl (hI.wf.s rfl) rfl rfl rfl rfl ?_
              refine ev_if f_X2_begin (t1 := 59) (t2 := 12) rfl rfl rfl (fun h99 => ?_) (fun h99 => ?_)
              · have r100 : (gi 52 0).toInt ≤ (gi 45 10).toInt := Int32.le_iff_toInt_le.mp h99
                have u101 : (gi 52 0).toInt ≤ 5 := t_leu h99 u91
                have l102 : 1 ≤ (gi 45 10).toInt := t_lel h99 l92
                refine ev_retK0 f_X2_begin rfl rfl rfl ?_
                refine ev_loc f_X2_beginNext (nx := 107) rfl rfl rfl rfl ?_
                refine ev_alu f_X2_beginNext (nx := 108) rfl rfl rfl rfl ?_
                refine ev_gvI f_X2_beginNext (nx := 111) (w := (gi 45 10)) rfl (hI.wf.s rfl) rfl rfl rfl rfl ?_
                refine ev_ic f_X2_beginNext (nx := 112) (v := 1) rfl (by decide) rfl ?_
                refine ev_addC f_X2_beginNext (nx := 113) (c := 1) (l := 2) (u := 6) rfl (by decide) l102 u91 rfl rfl (by decide) (by decide) rfl (fun z103 e103 l103 u103 => ?_)
                refine ev_putIT f_X2_beginNext (nx := 116) rfl (hI.wf.s rfl) rfl rfl rfl (hI.putB (hI.wf.s rfl) rfl rfl l103 (by decide) u103 (by decide)) (hX.upI rfl) (fun g104 e104 hI hX => ?_)
                exact ev_ret f_X2_beginNext rfl rfl rfl ⟨_, _, _, rfl, hI, hX, ⟨rfl, (show (∀ (P : Nat → Nat → Int) (Z : Nat → Int), t_KL P gi → t_CZ (P 0 0) Z gi → s_okz P Z → Z 1 = 0 → s_PB P → s_PO P → t_CZ (P 0 0) (s_bg P (gi 45 5).toInt Z) g104) from (fun P Z hL hZ hO h1 hB hP => (by
                                                            have hf := q2 P Z hL hZ
                                                            obtain ⟨z0, z1, z2, z3, z4⟩ := hZ.1
                                                            have hm := hL.1.1
                                                            have ho := hO.2
                                                            have ho1 := hO.1
                                                            have n1 : ¬ Z 1 ≠ 0 := fun hh => hh h1
                                                            have h0 := hI0.b (hI0.wf.s (k := 45) rfl) (t_bdK rfl : t_bd 2 5 = some (0, 301))
                                                            have kv := t_clamp (i := w2) (by omega)
                                                            obtain ⟨l1, l2, l3, l4⟩ := hL.2.1 w2.toNatClampNeg (by omega)
                                                            have w25 := congrArg Int32.toInt e79
                                                            have ef : s_f1 Z (P 0 0).toNat 0 = w2.toNatClampNeg := by omega
                                                            have kc := t_clamp (i := gi 45 10) (by omega)
                                                            have ec : (gi 45 10).toNatClampNeg = (Z 4).toNat := by omega
                                                            obtain ⟨c1, c2, c3⟩ := hL.2.2 (Z 4).toNat (by omega)
                                                            rw [← ec] at c1 c2 c3
                                                            have w85 := congrArg Int32.toInt e93
                                                            have em46 : (g104 46 0).toInt = (gi 46 0).toInt := by rw [e104, x_up2_off (Or.inl (by decide))]
                                                            have em52 : (g104 52 0).toInt = (gi 52 0).toInt := by rw [e104, x_up2_off (Or.inl (by decide))]
                                                            exfalso; omega)))⟩⟩
              · have r105 : (gi 45 10).toInt < (gi 52 0).toInt := Int32.lt_iff_toInt_lt.mp (t_nle h99)
                refine ev_loc f_X2_begin (nx := 13) rfl rfl rfl rfl ?_
                refine ev_loc f_X2_begin (nx := 14) rfl rfl rfl rfl ?_
                refine ev_putIT f_X2_begin (nx := 17) rfl (hI.wf.s rfl) rfl rfl rfl (hI.put0 (hI.wf.s rfl) rfl rfl) (hX.upI rfl) (fun g106 e106 hI hX => ?_)
                refine ev_loc f_X2_begin (nx := 18) rfl rfl rfl rfl ?_
                refine ev_loc f_X2_begin (nx := 19) rfl rfl rfl rfl ?_
                refine ev_gvI f_X2_begin (nx := 22) (w := (gi 45 5)) rfl (hI.wf.s rfl) rfl rfl ((by rw [e106]; exact x_up2_off (Or.inr (by decide)) : g106 45 5 = gi 45 5).trans rfl) rfl ?_
                refine ev_loc f_X2_begin (nx := 23) rfl rfl rfl rfl ?_
                refine ev_getR f_X2_begin (nx := 26) rfl (hI.wf.s rfl) rfl rfl (hI.wf.r rfl) rfl rfl ?_
                refine ev_loc f_X2_begin (nx := 27) rfl rfl rfl rfl ?_
                refine ev_ialdT f_X2_begin (nx := 28) rfl (hI.wf.s rfl) l86 (by decide) u91 (by decide) rfl (fun w107 e107 => ?_)
                refine ev_anyIE f_X2_begin (nx := 29) rfl rfl rfl rfl (fun z108 e108 => ?_)
                refine ev_putIT f_X2_begin (nx := 32) rfl (hI.wf.s rfl) rfl rfl rfl (hI.put0 (hI.wf.s rfl) rfl rfl) (hX.upI rfl) (fun g109 e109 hI hX => ?_)
                refine ev_loc f_X2_begin (nx := 33) rfl rfl rfl rfl ?_
                refine ev_alu f_X2_begin (nx := 34) rfl rfl rfl rfl ?_
                refine ev_getI f_X2_begin (nx := 37) rfl (hI.wf.s rfl) rfl rfl rfl ?_
                refine ev_loc f_X2_begin (nx := 38) rfl rfl rfl rfl ?_
                refine ev_gvI f_X2_begin (nx := 41) (w := (gi 45 5)) rfl (hI.wf.s rfl) rfl rfl ((by rw [e109]; exact x_up2_off (Or.inr (by decide)) : g109 45 5 = g106 45 5).trans ((by rw [e106]; exact x_up2_off (Or.inr (by decide)) : g106 45 5 = gi 45 5).trans rfl)) rfl ?_
                refine ev_loc f_X2_begin (nx := 42) rfl rfl rfl rfl ?_
                refine ev_getR f_X2_begin (nx := 45) rfl (hI.wf.s rfl) rfl rfl (hI.wf.r rfl) rfl rfl ?_
                refine ev_loc f_X2_begin (nx := 46) rfl rfl rfl rfl ?_
                refine ev_ialdT f_X2_begin (nx := 47) rfl (hI.wf.s rfl) l86 (by decide) u91 (by decide) rfl (fun w110 e110 => ?_)
                rw [e110.trans ((by rw [e109]; exact x_up2_off (Or.inl (by decide)) : g109 54 (gi 45 10).toNatClampNeg = g106 54 (gi 45 10).toNatClampNeg).trans ((by rw [e106]; exact x_up2_off (Or.inl (by decide)) : g106 54 (gi 45 10).toNatClampNeg = gi 54 (gi 45 10).toNatClampNeg).trans e93.symm))]
                refine ev_anyIE f_X2_begin (nx := 48) rfl rfl rfl rfl (fun z111 e111 => ?_)
                refine ev_loc f_X2_begin (nx := 49) rfl rfl rfl rfl ?_
                refine ev_getR f_X2_begin (nx := 52) rfl (hI.wf.s rfl) rfl rfl (hI.wf.r rfl) rfl rfl ?_
                refine ev_loc f_X2_begin (nx := 53) rfl rfl rfl rfl ?_
                refine ev_ialdT f_X2_begin (nx := 54) rfl (hI.wf.s rfl) l86 (by decide) u91 (by decide) rfl (fun w112 e112 => ?_)
                refine ev_anyIE f_X2_begin (nx := 55) rfl rfl rfl rfl (fun z113 e113 => ?_)
                refine ev_anyIE f_X2_begin (nx := 56) rfl rfl rfl rfl (fun z114 e114 => ?_)
                refine ev_putIT f_X2_begin (nx := 59) rfl (hI.wf.s rfl) rfl rfl rfl (hI.put0 (hI.wf.s rfl) rfl rfl) (hX.upI rfl) (fun g115 e115 hI hX => ?_)
                refine ev_retK0 f_X2_begin rfl rfl rfl ?_
                refine ev_loc f_X2_beginNext (nx := 107) rfl rfl rfl rfl ?_
                refine ev_alu f_X2_beginNext (nx := 108) rfl rfl rfl rfl ?_
                refine ev_gvI f_X2_beginNext (nx := 111) (w := (gi 45 10)) rfl (hI.wf.s rfl) rfl rfl ((by rw [e115]; exact x_up2_off (Or.inr (by decide)) : g115 45 10 = g109 45 10).trans ((by rw [e109]; exact x_up2_off (Or.inr (by decide)) : g109 45 10 = g106 45 10).trans ((by rw [e106]; exact x_up2_off (Or.inr (by decide)) : g106 45 10 = gi 45 10).trans rfl))) rfl ?_
                refine ev_ic f_X2_beginNext (nx := 112) (v := 1) rfl (by decide) rfl ?_
                refine ev_addC f_X2_beginNext (nx := 113) (c := 1) (l := 1) (u := 6) rfl (by decide) l86 u91 rfl rfl (by decide) (by decide) rfl (fun z116 e116 l116 u116 => ?_)
                refine ev_putIT f_X2_beginNext (nx := 116) rfl (hI.wf.s rfl) rfl rfl rfl (hI.putB (hI.wf.s rfl) rfl rfl l116 (by decide) u116 (by decide)) (hX.upI rfl) (fun g117 e117 hI hX => ?_)
                exact ev_ret f_X2_beginNext rfl rfl rfl ⟨_, _, _, rfl, hI, hX, ⟨rfl, (show (∀ (P : Nat → Nat → Int) (Z : Nat → Int), t_KL P gi → t_CZ (P 0 0) Z gi → s_okz P Z → Z 1 = 0 → s_PB P → s_PO P → t_CZ (P 0 0) (s_bg P (gi 45 5).toInt Z) g117) from (fun P Z hL hZ hO h1 hB hP => (by
                                                            have hf := q2 P Z hL hZ
                                                            obtain ⟨z0, z1, z2, z3, z4⟩ := hZ.1
                                                            have hm := hL.1.1
                                                            have ho := hO.2
                                                            have ho1 := hO.1
                                                            have n1 : ¬ Z 1 ≠ 0 := fun hh => hh h1
                                                            have h0 := hI0.b (hI0.wf.s (k := 45) rfl) (t_bdK rfl : t_bd 2 5 = some (0, 301))
                                                            have kv := t_clamp (i := w2) (by omega)
                                                            obtain ⟨l1, l2, l3, l4⟩ := hL.2.1 w2.toNatClampNeg (by omega)
                                                            have w25 := congrArg Int32.toInt e79
                                                            have ef : s_f1 Z (P 0 0).toNat 0 = w2.toNatClampNeg := by omega
                                                            have kc := t_clamp (i := gi 45 10) (by omega)
                                                            have ec : (gi 45 10).toNatClampNeg = (Z 4).toNat := by omega
                                                            obtain ⟨c1, c2, c3⟩ := hL.2.2 (Z 4).toNat (by omega)
                                                            rw [← ec] at c1 c2 c3
                                                            have w85 := congrArg Int32.toInt e93
                                                            have ns : ¬ (Z 0 = 1 ∧ ((s_f1 Z (P 0 0).toNat 0 : Nat) : Int) < P 0 0 ∧ P 1 (s_f1 Z (P 0 0).toNat 0) ≤ (gi 45 5).toInt) := fun hh => by have p1 := hh.1; have p2 := hh.2.1; have p3 := hh.2.2; rw [ef, ← l1, ← w25] at p3; omega
                                                            have pb := hB.2.2.1 (Z 4).toNat (by omega)
                                                            have pp := hP.2.1 (Z 4).toNat (by omega)
                                                            rw [← ec] at pb pp
                                                            have kt : w107.toInt = P 6 (gi 45 10).toNatClampNeg := ((congrArg Int32.toInt (e107)).trans (by rw [show g106 55 = gi 55 from (funext fun j => by rw [e106, x_up2_off (Or.inl (by decide))])]; exact c2))
                                                            have ka : w93.toInt = P 5 (gi 45 10).toNatClampNeg := ((congrArg Int32.toInt (e93)).trans c1)
                                                            have kq : w112.toInt = P 7 (gi 45 10).toNatClampNeg := ((congrArg Int32.toInt (e112)).trans (by rw [show g109 56 = gi 56 from (funext fun j => by rw [e109, x_up2_off (Or.inl (by decide)), e106, x_up2_off (Or.inl (by decide))])]; exact c3))
                                                            have e8v := s_add e108 rfl kt (by omega)
                                                            have e11v := t_oi_w e114 e113 e111 (by rw [e109, x_up2_off (Or.inr (by decide)), e106, x_up2_off (Or.inr (by decide))]; exact hZ.2.1.1 : g109 45 11 = Int32.ofInt (Z 5)) rfl ka kq
                                                            have es : (Z 0 ≠ 1 ∧ Z 4 < P 0 1 ∧ P 5 (Z 4).toNat ≤ (gi 45 5).toInt) := ⟨by omega, by omega, by rw [← ec, ← c1, ← w85]; omega⟩
                                                            rw [show s_bg P (gi 45 5).toInt Z = s_bC1 P (gi 45 5).toInt Z (Z 4).toNat from (if_neg n1).trans ((if_neg ns).trans (if_pos es))]
                                                            rw [ec] at e8v e11v
                                                            refine hZ.bc (a := (gi 45 5).toInt + P 6 (Z 4).toNat) (w := ((gi 45 5).toInt - P 5 (Z 4).toNat) * P 7 (Z 4).toNat) (funext fun j => by rw [e117, x_up2_off (Or.inl (by decide)), e115, x_up2_off (Or.inl (by decide)), e109, x_up2_off (Or.inl (by decide)), e106, x_up2_off (Or.inl (by decide))]) (by rw [e117, x_up2_off (Or.inr (by decide)), e115, x_up2_off (Or.inr (by decide)), e109, x_up2_off (Or.inr (by decide)), e106, x_up2_at]; rfl) (by rw [e117, x_up2_off (Or.inr (by decide)), e115, x_up2_off (Or.inr (by decide)), e109, x_up2_at]; exact e8v) (by rw [e117, x_up2_off (Or.inr (by decide)), e115, x_up2_at]; exact e11v) (by rw [e117, x_up2_at]; omega) (fun j a b c d e f => by rw [e117, x_up2_off (Or.inr (by omega)), e115, x_up2_off (Or.inr (by omega)), e109, x_up2_off (Or.inr (by omega)), e106, x_up2_off (Or.inr (by omega))]))))⟩⟩
        · have r118 : (gi 45 6).toInt ≠ 0 := fun e => h83 (Int32.toInt_inj.mp (e.trans (by decide : (0:Int) = (0 : Int32).toInt)))
          exact ev_ret f_X2_beginNext rfl rfl rfl ⟨_, _, _, rfl, hI, hX, ⟨rfl, (show (∀ (P : Nat → Nat → Int) (Z : Nat → Int), t_KL P gi → t_CZ (P 0 0) Z gi → s_okz P Z → Z 1 = 0 → s_PB P → s_PO P → t_CZ (P 0 0) (s_bg P (gi 45 5).toInt Z) gi) from (fun P Z hL hZ hO h1 hB hP => (by
                                                            have hf := q2 P Z hL hZ
                                                            obtain ⟨z0, z1, z2, z3, z4⟩ := hZ.1
                                                            have hm := hL.1.1
                                                            have ho := hO.2
                                                            have ho1 := hO.1
                                                            have n1 : ¬ Z 1 ≠ 0 := fun hh => hh h1
                                                            have h0 := hI0.b (hI0.wf.s (k := 45) rfl) (t_bdK rfl : t_bd 2 5 = some (0, 301))
                                                            have kv := t_clamp (i := w2) (by omega)
                                                            obtain ⟨l1, l2, l3, l4⟩ := hL.2.1 w2.toNatClampNeg (by omega)
                                                            have w25 := congrArg Int32.toInt e79
                                                            have ef : s_f1 Z (P 0 0).toNat 0 = w2.toNatClampNeg := by omega
                                                            have ns : ¬ (Z 0 = 1 ∧ ((s_f1 Z (P 0 0).toNat 0 : Nat) : Int) < P 0 0 ∧ P 1 (s_f1 Z (P 0 0).toNat 0) ≤ (gi 45 5).toInt) := fun hh => by have p1 := hh.1; have p2 := hh.2.1; have p3 := hh.2.2; rw [ef, ← l1, ← w25] at p3; omega
                                                            have nc : ¬ (Z 0 ≠ 1 ∧ Z 4 < P 0 1 ∧ P 5 (Z 4).toNat ≤ (gi 45 5).toInt) := fun hh => by have p1 := hh.1; have p2 := hh.2.1; have p3 := hh.2.2; omega
                                                            rw [show s_bg P (gi 45 5).toInt Z = Z from (if_neg n1).trans ((if_neg ns).trans (if_neg nc))]
                                                            exact hZ)))⟩⟩
      · have r119 : w79.toInt ≤ (gi 45 5).toInt := Int32.le_iff_toInt_le.mp (t_nlt h80)
        have u120 : w79.toInt ≤ 301 := t_leu (t_nlt h80) u1
        refine ev_loc f_X2_beginNext (nx := 34) rfl rfl rfl rfl ?_
        refine ev_getR f_X2_beginNext (nx := 37) rfl (hI.wf.s rfl) rfl rfl (hI.wf.r rfl) rfl rfl ?_
        refine ev_loc f_X2_beginNext (nx := 38) rfl rfl rfl rfl ?_
        refine ev_ic f_X2_beginNext (nx := 39) (v := 1) rfl (by decide) rfl ?_
        refine ev_iastT f_X2_beginNext (nx := 40) rfl (hI.wf.s rfl) l78 (by decide) u2 (by decide) rfl (hI.astO (hI.wf.s rfl) (Or.inl (by decide)) (by decide +kernel)) (hX.upI (t_inA_ok rfl)) (fun g121 e121 hI hX => ?_)
        refine ev_loc f_X2_beginNext (nx := 41) rfl rfl rfl rfl ?_
        refine ev_ic f_X2_beginNext (nx := 42) (v := 1) rfl (by decide) rfl ?_
        refine ev_loc f_X2_beginNext (nx := 43) rfl rfl rfl rfl ?_
        refine ev_getR f_X2_beginNext (nx := 46) rfl (hI.wf.s rfl) rfl rfl (hI.wf.r rfl) rfl rfl ?_
        refine ev_loc f_X2_beginNext (nx := 47) rfl rfl rfl rfl ?_
        refine ev_inV4 f_X2_beginNext (nx := 50) (lo2 := [(0, .ref 45), (1, .int 1), (2, .ref 46), (3, .int w2)]) rfl rfl rfl rfl f_X2_begin (hI.wf.s rfl) rfl rfl rfl rfl rfl ?_
        refine ev_loc f_X2_begin (nx := 1) rfl rfl rfl rfl ?_
        refine ev_f f_X2_begin (t1 := 59) (t2 := 4) rfl rfl rfl (t_ltF (by decide : (0:Int32).toInt ≤ (0:Int)) l78 (by decide)) ?_
        refine ev_loc f_X2_begin (nx := 5) rfl rfl rfl rfl ?_
        refine ev_loc f_X2_begin (nx := 6) rfl rfl rfl rfl ?_
        refine ev_getI f_X2_begin (nx := 9) rfl (hI.wf.s rfl) rfl rfl rfl ?_
        obtain ⟨l122, u122⟩ := hI.b (hI.wf.s (k := 46) rfl) (t_bdK rfl : t_bd 3 0 = some (0, 6))
        refine ev_if f_X2_begin (t1 := 59) (t2 := 12) rfl rfl rfl (fun h123 => ?_) (fun h123 => ?_)
        · have r124 : (g121 46 0).toInt ≤ w2.toInt := Int32.le_iff_toInt_le.mp h123
          have u125 : (g121 46 0).toInt ≤ 5 := t_leu h123 u2
          refine ev_retK0 f_X2_begin rfl rfl rfl ?_
          refine ev_jmp f_X2_beginNext (nx := 116) rfl rfl rfl ?_
          exact ev_ret f_X2_beginNext rfl rfl rfl ⟨_, _, _, rfl, hI, hX, ⟨rfl, (show (∀ (P : Nat → Nat → Int) (Z : Nat → Int), t_KL P gi → t_CZ (P 0 0) Z gi → s_okz P Z → Z 1 = 0 → s_PB P → s_PO P → t_CZ (P 0 0) (s_bg P (gi 45 5).toInt Z) g121) from (fun P Z hL hZ hO h1 hB hP => (by
                                                            have hf := q2 P Z hL hZ
                                                            obtain ⟨z0, z1, z2, z3, z4⟩ := hZ.1
                                                            have hm := hL.1.1
                                                            have ho := hO.2
                                                            have ho1 := hO.1
                                                            have n1 : ¬ Z 1 ≠ 0 := fun hh => hh h1
                                                            have h0 := hI0.b (hI0.wf.s (k := 45) rfl) (t_bdK rfl : t_bd 2 5 = some (0, 301))
                                                            have kv := t_clamp (i := w2) (by omega)
                                                            obtain ⟨l1, l2, l3, l4⟩ := hL.2.1 w2.toNatClampNeg (by omega)
                                                            have w25 := congrArg Int32.toInt e79
                                                            have ef : s_f1 Z (P 0 0).toNat 0 = w2.toNatClampNeg := by omega
                                                            have em46 : (g121 46 0).toInt = (gi 46 0).toInt := by rw [e121, x_up2_off (Or.inl (by decide))]
                                                            have em52 : (g121 52 0).toInt = (gi 52 0).toInt := by rw [e121, x_up2_off (Or.inl (by decide))]
                                                            exfalso; omega)))⟩⟩
        · have r126 : w2.toInt < (g121 46 0).toInt := Int32.lt_iff_toInt_lt.mp (t_nle h123)
          have l127 : 1 ≤ (g121 46 0).toInt := t_ltl (t_nle h123) l78 rfl
          refine ev_loc f_X2_begin (nx := 13) rfl rfl rfl rfl ?_
          refine ev_loc f_X2_begin (nx := 14) rfl rfl rfl rfl ?_
          refine ev_putIT f_X2_begin (nx := 17) rfl (hI.wf.s rfl) rfl rfl rfl (hI.put0 (hI.wf.s rfl) rfl rfl) (hX.upI rfl) (fun g128 e128 hI hX => ?_)
          refine ev_loc f_X2_begin (nx := 18) rfl rfl rfl rfl ?_
          refine ev_loc f_X2_begin (nx := 19) rfl rfl rfl rfl ?_
          refine ev_gvI f_X2_begin (nx := 22) (w := (gi 45 5)) rfl (hI.wf.s rfl) rfl rfl ((by rw [e128]; exact x_up2_off (Or.inr (by decide)) : g128 45 5 = g121 45 5).trans ((by rw [e121]; exact x_up2_off (Or.inl (by decide)) : g121 45 5 = gi 45 5).trans rfl)) rfl ?_
          refine ev_loc f_X2_begin (nx := 23) rfl rfl rfl rfl ?_
          refine ev_getR f_X2_begin (nx := 26) rfl (hI.wf.s rfl) rfl rfl (hI.wf.r rfl) rfl rfl ?_
          refine ev_loc f_X2_begin (nx := 27) rfl rfl rfl rfl ?_
          refine ev_ialdT f_X2_begin (nx := 28) rfl (hI.wf.s rfl) l78 (by decide) u2 (by decide) rfl (fun w129 e129 => ?_)
          refine ev_anyIE f_X2_begin (nx := 29) rfl rfl rfl rfl (fun z130 e130 => ?_)
          refine ev_putIT f_X2_begin (nx := 32) rfl (hI.wf.s rfl) rfl rfl rfl (hI.put0 (hI.wf.s rfl) rfl rfl) (hX.upI rfl) (fun g131 e131 hI hX => ?_)
          refine ev_loc f_X2_begin (nx := 33) rfl rfl rfl rfl ?_
          refine ev_alu f_X2_begin (nx := 34) rfl rfl rfl rfl ?_
          refine ev_getI f_X2_begin (nx := 37) rfl (hI.wf.s rfl) rfl rfl rfl ?_
          refine ev_loc f_X2_begin (nx := 38) rfl rfl rfl rfl ?_
          refine ev_gvI f_X2_begin (nx := 41) (w := (gi 45 5)) rfl (hI.wf.s rfl) rfl rfl ((by rw [e131]; exact x_up2_off (Or.inr (by decide)) : g131 45 5 = g128 45 5).trans ((by rw [e128]; exact x_up2_off (Or.inr (by decide)) : g128 45 5 = g121 45 5).trans ((by rw [e121]; exact x_up2_off (Or.inl (by decide)) : g121 45 5 = gi 45 5).trans rfl))) rfl ?_
          refine ev_loc f_X2_begin (nx := 42) rfl rfl rfl rfl ?_
          refine ev_getR f_X2_begin (nx := 45) rfl (hI.wf.s rfl) rfl rfl (hI.wf.r rfl) rfl rfl ?_
          refine ev_loc f_X2_begin (nx := 46) rfl rfl rfl rfl ?_
          refine ev_ialdT f_X2_begin (nx := 47) rfl (hI.wf.s rfl) l78 (by decide) u2 (by decide) rfl (fun w132 e132 => ?_)
          rw [e132.trans ((by rw [e131]; exact x_up2_off (Or.inl (by decide)) : g131 48 w2.toNatClampNeg = g128 48 w2.toNatClampNeg).trans ((by rw [e128]; exact x_up2_off (Or.inl (by decide)) : g128 48 w2.toNatClampNeg = g121 48 w2.toNatClampNeg).trans ((by rw [e121]; exact x_up2_off (Or.inl (by decide)) : g121 48 w2.toNatClampNeg = gi 48 w2.toNatClampNeg).trans e79.symm)))]
          refine ev_anyIE f_X2_begin (nx := 48) rfl rfl rfl rfl (fun z133 e133 => ?_)
          refine ev_loc f_X2_begin (nx := 49) rfl rfl rfl rfl ?_
          refine ev_getR f_X2_begin (nx := 52) rfl (hI.wf.s rfl) rfl rfl (hI.wf.r rfl) rfl rfl ?_
          refine ev_loc f_X2_begin (nx := 53) rfl rfl rfl rfl ?_
          refine ev_ialdT f_X2_begin (nx := 54) rfl (hI.wf.s rfl) l78 (by decide) u2 (by decide) rfl (fun w134 e134 => ?_)
          refine ev_anyIE f_X2_begin (nx := 55) rfl rfl rfl rfl (fun z135 e135 => ?_)
          refine ev_anyIE f_X2_begin (nx := 56) rfl rfl rfl rfl (fun z136 e136 => ?_)
          refine ev_putIT f_X2_begin (nx := 59) rfl (hI.wf.s rfl) rfl rfl rfl (hI.put0 (hI.wf.s rfl) rfl rfl) (hX.upI rfl) (fun g137 e137 hI hX => ?_)
          refine ev_retK0 f_X2_begin rfl rfl rfl ?_
          refine ev_jmp f_X2_beginNext (nx := 116) rfl rfl rfl ?_
          exact ev_ret f_X2_beginNext rfl rfl rfl ⟨_, _, _, rfl, hI, hX, ⟨rfl, (show (∀ (P : Nat → Nat → Int) (Z : Nat → Int), t_KL P gi → t_CZ (P 0 0) Z gi → s_okz P Z → Z 1 = 0 → s_PB P → s_PO P → t_CZ (P 0 0) (s_bg P (gi 45 5).toInt Z) g137) from (fun P Z hL hZ hO h1 hB hP => (by
                                                            have hf := q2 P Z hL hZ
                                                            obtain ⟨z0, z1, z2, z3, z4⟩ := hZ.1
                                                            have hm := hL.1.1
                                                            have ho := hO.2
                                                            have ho1 := hO.1
                                                            have n1 : ¬ Z 1 ≠ 0 := fun hh => hh h1
                                                            have h0 := hI0.b (hI0.wf.s (k := 45) rfl) (t_bdK rfl : t_bd 2 5 = some (0, 301))
                                                            have kv := t_clamp (i := w2) (by omega)
                                                            obtain ⟨l1, l2, l3, l4⟩ := hL.2.1 w2.toNatClampNeg (by omega)
                                                            have w25 := congrArg Int32.toInt e79
                                                            have ef : s_f1 Z (P 0 0).toNat 0 = w2.toNatClampNeg := by omega
                                                            have pb := hB.2.1 w2.toNatClampNeg (by omega)
                                                            have pp := hP.1 w2.toNatClampNeg (by omega)
                                                            have kt : w129.toInt = P 2 w2.toNatClampNeg := ((congrArg Int32.toInt (e129)).trans (by rw [show g128 49 = gi 49 from (funext fun j => by rw [e128, x_up2_off (Or.inl (by decide)), e121, x_up2_off (Or.inl (by decide))])]; exact l2))
                                                            have ka : w79.toInt = P 1 w2.toNatClampNeg := ((congrArg Int32.toInt (e79)).trans l1)
                                                            have kq : w134.toInt = P 3 w2.toNatClampNeg := ((congrArg Int32.toInt (e134)).trans (by rw [show g131 50 = gi 50 from (funext fun j => by rw [e131, x_up2_off (Or.inl (by decide)), e128, x_up2_off (Or.inl (by decide)), e121, x_up2_off (Or.inl (by decide))])]; exact l3))
                                                            have e8v := s_add e130 rfl kt (by omega)
                                                            have e11v := t_oi_w e136 e135 e133 (by rw [e131, x_up2_off (Or.inr (by decide)), e128, x_up2_off (Or.inr (by decide)), e121, x_up2_off (Or.inl (by decide))]; exact hZ.2.1.1 : g131 45 11 = Int32.ofInt (Z 5)) rfl ka kq
                                                            have es : (Z 0 = 1 ∧ ((s_f1 Z (P 0 0).toNat 0 : Nat) : Int) < P 0 0 ∧ P 1 (s_f1 Z (P 0 0).toNat 0) ≤ (gi 45 5).toInt) := ⟨by omega, by omega, by rw [ef, ← l1, ← w25]; omega⟩
                                                            rw [show s_bg P (gi 45 5).toInt Z = s_bS1 P (gi 45 5).toInt Z w2.toNatClampNeg from (if_neg n1).trans ((if_pos es).trans (by rw [ef]))]
                                                            refine hZ.bs (k := w2.toNatClampNeg) (a := (gi 45 5).toInt + P 2 w2.toNatClampNeg) (w := ((gi 45 5).toInt - P 1 w2.toNatClampNeg) * P 3 w2.toNatClampNeg) (fun j => ?_) (by rw [e137, x_up2_off (Or.inr (by decide)), e131, x_up2_off (Or.inr (by decide)), e128, x_up2_at]; rfl) ?_ ?_ (fun j a b c d e => by rw [e137, x_up2_off (Or.inr (by omega)), e131, x_up2_off (Or.inr (by omega)), e128, x_up2_off (Or.inr (by omega)), e121, x_up2_off (Or.inl (by decide))])
                                                            · rw [e137, x_up2_off (Or.inl (by decide)), e131, x_up2_off (Or.inl (by decide)), e128, x_up2_off (Or.inl (by decide)), e121]; by_cases hj : j = w2.toNatClampNeg; (rw [if_pos hj, hj, x_up2_at]); (rw [if_neg hj, x_up2_off (Or.inr hj)])
                                                            · rw [e137, x_up2_off (Or.inr (by decide)), e131, x_up2_at]; exact e8v
                                                            · rw [e137, x_up2_at]; exact e11v)))⟩⟩
