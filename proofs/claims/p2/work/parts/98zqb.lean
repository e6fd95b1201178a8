/-! ===== printed by riv.py: CODES of the class ===== -/
noncomputable def wl_d_hir : List (Nat × Nat) := []
noncomputable def Q_d_hir (gi : Nat → Nat → Int32) (gl : Nat → Nat → Int64) (gr : Nat → Nat → Value) (ar1 : Int32) : Int64 → (Nat → Nat → Int32) → (Nat → Nat → Int64) → (Nat → Nat → Value) → Prop := fun (v : Int64) (gi2 : Nat → Nat → Int32) (gl2 : Nat → Nat → Int64) (gr2 : Nat → Nat → Value) => 0 ≤ ar1.toInt → ar1.toInt ≤ 3 → (gi 22 3).toInt = 30 → v = s_rh (gl 25) (gi 26) ar1.toNatClampNeg
theorem c_d_hir {X : x_Ext} {d : Nat} {sh : List (Nat ⊕ (Nat × Nat))} {gi : Nat → Nat → Int32} {gl : Nat → Nat → Int64} {gr : Nat → Nat → Value} (hI : t_I sh gi gr) (ar1 : Int32) : x_Me X (d + 1) n_X0_heardInRow [.ref 22, .int ar1] (sh, gi, gl, gr) (t_PL wl_d_hir sh gi gl gr (Q_d_hir gi gl gr ar1)) := by
  have hX : t_X wl_d_hir sh gi gl gr gi gl gr := t_X.rf
  refine me_i f_X0_heardInRow (hI.wf.s rfl) rfl rfl rfl ?_
  obtain ⟨l1, u1⟩ := hI.b (hI.wf.s (k := 22) rfl) (t_bdK rfl : t_bd 0 3 = some (0, 30))
  refine ev_loc f_X0_heardInRow (nx := 1) rfl rfl rfl rfl ?_
  refine ev_if f_X0_heardInRow (t1 := 35) (t2 := 4) rfl rfl rfl (fun h2 => ?_) (fun h2 => ?_)
  · have u3 : ar1.toInt ≤ (-1) := t_ltu h2 (by decide : (0:Int32).toInt ≤ (0:Int)) rfl
    refine ev_lc f_X0_heardInRow (nx := 36) (v := 0) rfl (by decide) rfl ?_
    exact ev_ret f_X0_heardInRow rfl rfl rfl ⟨_, _, _, rfl, hI, hX, ⟨_, rfl, (show 0 ≤ ar1.toInt → ar1.toInt ≤ 3 → (gi 22 3).toInt = 30 → (0 : Int64) = s_rh (gl 25) (gi 26) ar1.toNatClampNeg from (by intro h0 h1 h30; exfalso; omega))⟩⟩
  · have l4 : 0 ≤ ar1.toInt := t_lel (t_nlt h2) (by decide : (0:Int) ≤ (0:Int32).toInt)
    refine ev_loc f_X0_heardInRow (nx := 5) rfl rfl rfl rfl ?_
    refine ev_loc f_X0_heardInRow (nx := 6) rfl rfl rfl rfl ?_
    refine ev_getR f_X0_heardInRow (nx := 9) rfl (hI.wf.s rfl) rfl rfl (hI.wf.r rfl) rfl rfl ?_
    refine ev_alenv f_X0_heardInRow (nx := 10) (w := 4) rfl (hI.wf.s rfl) rfl (by decide) rfl ?_
    refine ev_if f_X0_heardInRow (t1 := 35) (t2 := 13) rfl rfl rfl (fun h5 => ?_) (fun h5 => ?_)
    · have l6 : 4 ≤ ar1.toInt := t_lel h5 (by decide : (4:Int) ≤ (4:Int32).toInt)
      refine ev_lc f_X0_heardInRow (nx := 36) (v := 0) rfl (by decide) rfl ?_
      exact ev_ret f_X0_heardInRow rfl rfl rfl ⟨_, _, _, rfl, hI, hX, ⟨_, rfl, (show 0 ≤ ar1.toInt → ar1.toInt ≤ 3 → (gi 22 3).toInt = 30 → (0 : Int64) = s_rh (gl 25) (gi 26) ar1.toNatClampNeg from (by intro h0 h1 h30; exfalso; omega))⟩⟩
    · have u7 : ar1.toInt ≤ 3 := t_ltu (t_nle h5) (by decide : (4:Int32).toInt ≤ (4:Int)) rfl
      refine ev_loc f_X0_heardInRow (nx := 14) rfl rfl rfl rfl ?_
      refine ev_getR f_X0_heardInRow (nx := 17) rfl (hI.wf.s rfl) rfl rfl (hI.wf.r rfl) rfl rfl ?_
      refine ev_loc f_X0_heardInRow (nx := 18) rfl rfl rfl rfl ?_
      refine ev_ialdT f_X0_heardInRow (nx := 19) rfl (hI.wf.s rfl) l4 (by decide) u7 (by decide) rfl (fun w8 e8 => ?_)
      obtain ⟨l8, u8⟩ := hI.abi e8 (by decide +kernel : t_abr 26 0 3 0 29 = true) l4 (by decide) u7 (by decide)
      refine ev_f f_X0_heardInRow (t1 := 35) (t2 := 22) rfl rfl rfl (t_ltF (by decide : (0:Int32).toInt ≤ (0:Int)) l8 (by decide)) ?_
      refine ev_loc f_X0_heardInRow (nx := 23) rfl rfl rfl rfl ?_
      refine ev_getR f_X0_heardInRow (nx := 26) rfl (hI.wf.s rfl) rfl rfl (hI.wf.r rfl) rfl rfl ?_
      refine ev_loc f_X0_heardInRow (nx := 27) rfl rfl rfl rfl ?_
      refine ev_ialdT f_X0_heardInRow (nx := 28) rfl (hI.wf.s rfl) l4 (by decide) u7 (by decide) rfl (fun w9 e9 => ?_)
      rw [e9.trans e8.symm]
      refine ev_loc f_X0_heardInRow (nx := 29) rfl rfl rfl rfl ?_
      refine ev_gvI f_X0_heardInRow (nx := 32) (w := (gi 22 3)) rfl (hI.wf.s rfl) rfl rfl rfl rfl ?_
      refine ev_if f_X0_heardInRow (t1 := 37) (t2 := 35) rfl rfl rfl (fun h10 => ?_) (fun h10 => ?_)
      · have r11 : w8.toInt < (gi 22 3).toInt := Int32.lt_iff_toInt_lt.mp h10
        have l12 : 1 ≤ (gi 22 3).toInt := t_ltl h10 l8 rfl
        refine ev_loc f_X0_heardInRow (nx := 38) rfl rfl rfl rfl ?_
        refine ev_getR f_X0_heardInRow (nx := 41) rfl (hI.wf.s rfl) rfl rfl (hI.wf.r rfl) rfl rfl ?_
        refine ev_loc f_X0_heardInRow (nx := 42) rfl rfl rfl rfl ?_
        refine ev_getR f_X0_heardInRow (nx := 45) rfl (hI.wf.s rfl) rfl rfl (hI.wf.r rfl) rfl rfl ?_
        refine ev_loc f_X0_heardInRow (nx := 46) rfl rfl rfl rfl ?_
        refine ev_ialdT f_X0_heardInRow (nx := 47) rfl (hI.wf.s rfl) l4 (by decide) u7 (by decide) rfl (fun w13 e13 => ?_)
        rw [e13.trans e8.symm]
        refine ev_laldT f_X0_heardInRow (nx := 48) rfl (hI.wf.s rfl) l8 (by decide) u8 (by decide) rfl (fun w14 e14 => ?_)
        exact ev_ret f_X0_heardInRow rfl rfl rfl ⟨_, _, _, rfl, hI, hX, ⟨_, rfl, (show 0 ≤ ar1.toInt → ar1.toInt ≤ 3 → (gi 22 3).toInt = 30 → w14 = s_rh (gl 25) (gi 26) ar1.toNatClampNeg from (by
                                                            intro h0 h1 h30
                                                            have c8 := t_clamp (i := w8) (by omega)
                                                            show w14 = gl 25 (gi 26 ar1.toNatClampNeg).toInt.toNat
                                                            rw [← e8, e14, show w8.toNatClampNeg = w8.toInt.toNat by omega]))⟩⟩
      · have r15 : (gi 22 3).toInt ≤ w8.toInt := Int32.le_iff_toInt_le.mp (t_nlt h10)
        have u16 : (gi 22 3).toInt ≤ 29 := t_leu (t_nlt h10) u8
        refine ev_lc f_X0_heardInRow (nx := 36) (v := 0) rfl (by decide) rfl ?_
        exact ev_ret f_X0_heardInRow rfl rfl rfl ⟨_, _, _, rfl, hI, hX, ⟨_, rfl, (show 0 ≤ ar1.toInt → ar1.toInt ≤ 3 → (gi 22 3).toInt = 30 → (0 : Int64) = s_rh (gl 25) (gi 26) ar1.toNatClampNeg from (by intro h0 h1 h30; exfalso; omega))⟩⟩
noncomputable def wl_d_fit : List (Nat × Nat) := []
noncomputable def Q_d_fit (gi : Nat → Nat → Int32) (gl : Nat → Nat → Int64) (gr : Nat → Nat → Value) (ar1 : Int32) : Int32 → (Nat → Nat → Int32) → (Nat → Nat → Int64) → (Nat → Nat → Value) → Prop := fun (v : Int32) (gi2 : Nat → Nat → Int32) (gl2 : Nat → Nat → Int64) (gr2 : Nat → Nat → Value) => (gi 22 3).toInt = 30 → (v.toInt = 1 ↔ s_fx (s_rh (gl 25) (gi 26)) ar1.toNatClampNeg)
theorem c_d_fit {X : x_Ext} {d : Nat} {sh : List (Nat ⊕ (Nat × Nat))} {gi : Nat → Nat → Int32} {gl : Nat → Nat → Int64} {gr : Nat → Nat → Value} (hI : t_I sh gi gr) (ar1 : Int32) (l_a1 : 0 ≤ ar1.toInt) (u_a1 : ar1.toInt ≤ 3) : x_Me X (d + 2) n_X0_fitsLast [.ref 22, .int ar1] (sh, gi, gl, gr) (t_PI wl_d_fit sh gi gl gr 0 1 (Q_d_fit gi gl gr ar1)) := by
  have hX : t_X wl_d_fit sh gi gl gr gi gl gr := t_X.rf
  refine me_i f_X0_fitsLast (hI.wf.s rfl) rfl rfl rfl ?_
  obtain ⟨l1, u1⟩ := hI.b (hI.wf.s (k := 22) rfl) (t_bdK rfl : t_bd 0 3 = some (0, 30))
  refine ev_ic f_X0_fitsLast (nx := 1) (v := 0) rfl (by decide) rfl ?_
  refine ev_loc f_X0_fitsLast (nx := 2) (lo' := [(2, .int 0), (0, .ref 22), (1, .int ar1)]) rfl rfl rfl rfl ?_
  have L2 : ∀ (m2 : Nat) (y2_2 : Int32), 0 ≤ y2_2.toInt → y2_2.toInt ≤ 3 → ((gi 22 3).toInt = 30 → ∀ a : Nat, (a : Int) < y2_2.toInt → s_fy (s_rh (gl 25) (gi 26)) ar1.toNatClampNeg a) → (3 - y2_2.toInt).toNat = m2 → x_Ev X (d + 2) n_X0_fitsLast 2 [(2, .int y2_2), (0, .ref 22), (1, .int ar1)] [] (sh, gi, gl, gr) (t_PI wl_d_fit sh gi gl gr 0 1 (Q_d_fit gi gl gr ar1)) := by
    intro m2
    induction m2 using Nat.strongRecOn with
    | _ m2 ih2 =>
    intro y2_2 l2_2 u2_2 j2_0 hm2
    refine ev_loc f_X0_fitsLast (nx := 3) rfl rfl rfl rfl ?_
    refine ev_loc f_X0_fitsLast (nx := 4) rfl rfl rfl rfl ?_
    refine ev_if f_X0_fitsLast (t1 := 113) (t2 := 7) rfl rfl rfl (fun h3 => ?_) (fun h3 => ?_)
    · have r4 : ar1.toInt ≤ y2_2.toInt := Int32.le_iff_toInt_le.mp h3
      refine ev_ic f_X0_fitsLast (nx := 114) (v := 1) rfl (by decide) rfl ?_
      exact ev_ret f_X0_fitsLast rfl rfl rfl ⟨_, _, _, rfl, hI, hX, ⟨_, rfl, (Int.le_trans (by decide : (0:Int) ≤ 1) (by decide : (1:Int) ≤ (1:Int32).toInt)), (by decide : (1:Int32).toInt ≤ (1:Int)), (show (gi 22 3).toInt = 30 → ((1 : Int) = 1 ↔ s_fx (s_rh (gl 25) (gi 26)) ar1.toNatClampNeg) from (by
                                                            intro h30
                                                            have ck := t_clamp (i := ar1) (by omega)
                                                            exact ⟨fun _ a ha => j2_0 h30 a (by omega), fun _ => rfl⟩))⟩⟩
    · have r5 : y2_2.toInt < ar1.toInt := Int32.lt_iff_toInt_lt.mp (t_nle h3)
      have u6 : y2_2.toInt ≤ 2 := t_ltu (t_nle h3) u_a1 rfl
      have l7 : 1 ≤ ar1.toInt := t_ltl (t_nle h3) l2_2 rfl
      refine ev_loc f_X0_fitsLast (nx := 8) rfl rfl rfl rfl ?_
      refine ev_loc f_X0_fitsLast (nx := 9) rfl rfl rfl rfl ?_
      refine ev_qL0 f_X0_fitsLast (nx := 12) (r := []) rfl rfl rfl rfl rfl rfl rfl (c_d_hir hI (y2_2)) rfl (fun w8 q8 => ?_)
      have q8 : 0 ≤ y2_2.toInt → y2_2.toInt ≤ 3 → (gi 22 3).toInt = 30 → w8 = s_rh (gl 25) (gi 26) y2_2.toNatClampNeg := q8
      refine ev_loc f_X0_fitsLast (nx := 13) rfl rfl rfl rfl ?_
      refine ev_loc f_X0_fitsLast (nx := 14) rfl rfl rfl rfl ?_
      refine ev_qL0 f_X0_fitsLast (nx := 17) (r := [.long w8]) rfl rfl rfl rfl rfl rfl rfl (c_d_hir hI (ar1)) rfl (fun w9 q9 => ?_)
      have q9 : 0 ≤ ar1.toInt → ar1.toInt ≤ 3 → (gi 22 3).toInt = 30 → w9 = s_rh (gl 25) (gi 26) ar1.toNatClampNeg := q9
      refine ev_anyIE f_X0_fitsLast (nx := 18) rfl rfl rfl rfl (fun z10 e10 => ?_)
      refine ev_if f_X0_fitsLast (t1 := 21) (t2 := 23) rfl rfl rfl (fun h11 => ?_) (fun h11 => ?_)
      · have u12 : z10.toInt ≤ 0 := t_equ h11 (by decide : (0:Int32).toInt ≤ (0:Int))
        have l13 : 0 ≤ z10.toInt := t_eql h11 (by decide : (0:Int) ≤ (0:Int32).toInt)
        refine ev_ic f_X0_fitsLast (nx := 22) (v := 0) rfl (by decide) rfl ?_
        exact ev_ret f_X0_fitsLast rfl rfl rfl ⟨_, _, _, rfl, hI, hX, ⟨_, rfl, (by decide : (0:Int) ≤ (0:Int32).toInt), (Int.le_trans (by decide : (0:Int32).toInt ≤ (0:Int)) (by decide : (0:Int) ≤ 1)), (show (gi 22 3).toInt = 30 → ((0 : Int) = 1 ↔ s_fx (s_rh (gl 25) (gi 26)) ar1.toNatClampNeg) from (by
                                                            intro h30
                                                            have ck := t_clamp (i := ar1) (by omega)
                                                            have ca := t_clamp (i := y2_2) (by omega)
                                                            have cw8 := q8 (by omega) (by omega) h30
                                                            have cw9 := q9 (by omega) (by omega) h30
                                                            have k0 : (s_rh (gl 25) (gi 26)) y2_2.toNatClampNeg = (s_rh (gl 25) (gi 26)) ar1.toNatClampNeg := by have hh := ((lg_cmp_eq _ _).mp (e10.symm.trans h11)); rw [cw8, cw9] at hh; exact hh
                                                            exact ⟨fun hh => absurd hh (by decide), fun hh => absurd k0 (hh y2_2.toNatClampNeg (by omega)).1⟩))⟩⟩
      · have r14 : z10.toInt ≠ 0 := fun e => h11 (Int32.toInt_inj.mp (e.trans (by decide : (0:Int) = (0 : Int32).toInt)))
        refine ev_ic f_X0_fitsLast (nx := 24) (v := 0) rfl (by decide) rfl ?_
        refine ev_loc f_X0_fitsLast (nx := 25) (lo' := [(3, .int 0), (2, .int y2_2), (0, .ref 22), (1, .int ar1)]) rfl rfl rfl rfl ?_
        have L15 : ∀ (m15 : Nat) (y15_3 : Int32), 0 ≤ y15_3.toInt → y15_3.toInt ≤ 3 → ((gi 22 3).toInt = 30 → s_rh (gl 25) (gi 26) y2_2.toNatClampNeg ≠ s_rh (gl 25) (gi 26) ar1.toNatClampNeg ∧ ∀ b : Nat, (b : Int) < y15_3.toInt → y2_2.toNatClampNeg ≠ b → (s_rh (gl 25) (gi 26) y2_2.toNatClampNeg ||| s_rh (gl 25) (gi 26) b) ≠ s_rh (gl 25) (gi 26) ar1.toNatClampNeg ∧ (s_rh (gl 25) (gi 26) y2_2.toNatClampNeg ||| s_rh (gl 25) (gi 26) ar1.toNatClampNeg) ≠ s_rh (gl 25) (gi 26) b) → (3 - y15_3.toInt).toNat = m15 → x_Ev X (d + 2) n_X0_fitsLast 25 [(3, .int y15_3), (2, .int y2_2), (0, .ref 22), (1, .int ar1)] [] (sh, gi, gl, gr) (t_PI wl_d_fit sh gi gl gr 0 1 (Q_d_fit gi gl gr ar1)) := by
          intro m15
          induction m15 using Nat.strongRecOn with
          | _ m15 ih15 =>
          intro y15_3 l15_3 u15_3 j15_0 hm15
          refine ev_loc f_X0_fitsLast (nx := 26) rfl rfl rfl rfl ?_
          refine ev_loc f_X0_fitsLast (nx := 27) rfl rfl rfl rfl ?_
          refine ev_if f_X0_fitsLast (t1 := 107) (t2 := 30) rfl rfl rfl (fun h16 => ?_) (fun h16 => ?_)
          · have r17 : ar1.toInt ≤ y15_3.toInt := Int32.le_iff_toInt_le.mp h16
            have l18 : 1 ≤ y15_3.toInt := t_lel h16 l7
            refine ev_incR f_X0_fitsLast (nx := 110) (c := 1) (l := 1) (u := 3) rfl rfl (by decide) (by decide) l2_2 u6 rfl rfl (by decide) (by decide) rfl (fun z19 e19 l19 u19 => ?_)
            refine ev_jmp f_X0_fitsLast (nx := 2) rfl rfl rfl ?_
            refine ev_sub (lo := [(2, .int z19), (0, .ref 22), (1, .int ar1)]) rfl (t_sc rfl (t_sc rfl (t_sc rfl t_sn))) ?_
            exact ih2 _ (by omega) (z19) (Int.le_trans (by decide : (0:Int) ≤ 1) l19) u19 (fun h30 a ha => (by
                                                            have ca := t_clamp (i := y2_2) (by omega)
                                                            have ck := t_clamp (i := ar1) (by omega)
                                                            by_cases hk : a = y2_2.toNatClampNeg
                                                            · subst hk
                                                              exact And.intro (j15_0 h30).1 (fun b hb hab => (j15_0 h30).2 b (by omega) hab)
                                                            · exact j2_0 h30 a (by omega))) rfl
          · have r20 : y15_3.toInt < ar1.toInt := Int32.lt_iff_toInt_lt.mp (t_nle h16)
            have u21 : y15_3.toInt ≤ 2 := t_ltu (t_nle h16) u_a1 rfl
            refine ev_loc f_X0_fitsLast (nx := 31) rfl rfl rfl rfl ?_
            refine ev_loc f_X0_fitsLast (nx := 32) rfl rfl rfl rfl ?_
            refine ev_qL0 f_X0_fitsLast (nx := 35) (r := []) rfl rfl rfl rfl rfl rfl rfl (c_d_hir hI (y2_2)) rfl (fun w22 q22 => ?_)
            have q22 : 0 ≤ y2_2.toInt → y2_2.toInt ≤ 3 → (gi 22 3).toInt = 30 → w22 = s_rh (gl 25) (gi 26) y2_2.toNatClampNeg := q22
            refine ev_loc f_X0_fitsLast (nx := 36) rfl rfl rfl rfl ?_
            refine ev_loc f_X0_fitsLast (nx := 37) rfl rfl rfl rfl ?_
            refine ev_qL0 f_X0_fitsLast (nx := 40) (r := [.long w22]) rfl rfl rfl rfl rfl rfl rfl (c_d_hir hI (y15_3)) rfl (fun w23 q23 => ?_)
            have q23 : 0 ≤ y15_3.toInt → y15_3.toInt ≤ 3 → (gi 22 3).toInt = 30 → w23 = s_rh (gl 25) (gi 26) y15_3.toNatClampNeg := q23
            refine ev_anyLE f_X0_fitsLast (nx := 41) rfl rfl rfl rfl (fun z24 e24 => ?_)
            refine ev_loc f_X0_fitsLast (nx := 42) rfl rfl rfl rfl ?_
            refine ev_loc f_X0_fitsLast (nx := 43) rfl rfl rfl rfl ?_
            refine ev_qL0 f_X0_fitsLast (nx := 46) (r := [.long z24]) rfl rfl rfl rfl rfl rfl rfl (c_d_hir hI (ar1)) rfl (fun w25 q25 => ?_)
            have q25 : 0 ≤ ar1.toInt → ar1.toInt ≤ 3 → (gi 22 3).toInt = 30 → w25 = s_rh (gl 25) (gi 26) ar1.toNatClampNeg := q25
            refine ev_anyIE f_X0_fitsLast (nx := 47) rfl rfl rfl rfl (fun z26 e26 => ?_)
            refine ev_if f_X0_fitsLast (t1 := 50) (t2 := 54) rfl rfl rfl (fun h27 => ?_) (fun h27 => ?_)
            · have u28 : z26.toInt ≤ 0 := t_equ h27 (by decide : (0:Int32).toInt ≤ (0:Int))
              have l29 : 0 ≤ z26.toInt := t_eql h27 (by decide : (0:Int) ≤ (0:Int32).toInt)
              refine ev_ic f_X0_fitsLast (nx := 51) (v := 1) rfl (by decide) rfl ?_
              refine ev_jmp f_X0_fitsLast (nx := 55) rfl rfl rfl ?_
              refine ev_loc f_X0_fitsLast (nx := 57) (lo' := [(4, .int 1), (3, .int y15_3), (2, .int y2_2), (0, .ref 22), (1, .int ar1)]) rfl rfl rfl rfl ?_
              refine ev_loc f_X0_fitsLast (nx := 58) rfl rfl rfl rfl ?_
              refine ev_loc f_X0_fitsLast (nx := 59) rfl rfl rfl rfl ?_
              refine ev_qL0 f_X0_fitsLast (nx := 62) (r := []) rfl rfl rfl rfl rfl rfl rfl (c_d_hir hI (y2_2)) rfl (fun w30 q30 => ?_)
              have q30 : 0 ≤ y2_2.toInt → y2_2.toInt ≤ 3 → (gi 22 3).toInt = 30 → w30 = s_rh (gl 25) (gi 26) y2_2.toNatClampNeg := q30
              refine ev_loc f_X0_fitsLast (nx := 63) rfl rfl rfl rfl ?_
              refine ev_loc f_X0_fitsLast (nx := 64) rfl rfl rfl rfl ?_
              refine ev_qL0 f_X0_fitsLast (nx := 67) (r := [.long w30]) rfl rfl rfl rfl rfl rfl rfl (c_d_hir hI (ar1)) rfl (fun w31 q31 => ?_)
              have q31 : 0 ≤ ar1.toInt → ar1.toInt ≤ 3 → (gi 22 3).toInt = 30 → w31 = s_rh (gl 25) (gi 26) ar1.toNatClampNeg := q31
              refine ev_anyLE f_X0_fitsLast (nx := 68) rfl rfl rfl rfl (fun z32 e32 => ?_)
              refine ev_loc f_X0_fitsLast (nx := 69) rfl rfl rfl rfl ?_
              refine ev_loc f_X0_fitsLast (nx := 70) rfl rfl rfl rfl ?_
              refine ev_qL0 f_X0_fitsLast (nx := 73) (r := [.long z32]) rfl rfl rfl rfl rfl rfl rfl (c_d_hir hI (y15_3)) rfl (fun w33 q33 => ?_)
              have q33 : 0 ≤ y15_3.toInt → y15_3.toInt ≤ 3 → (gi 22 3).toInt = 30 → w33 = s_rh (gl 25) (gi 26) y15_3.toNatClampNeg := q33
              refine ev_anyIE f_X0_fitsLast (nx := 74) rfl rfl rfl rfl (fun z34 e34 => ?_)
              refine ev_if f_X0_fitsLast (t1 := 77) (t2 := 81) rfl rfl rfl (fun h35 => ?_) (fun h35 => ?_)
              · have u36 : z34.toInt ≤ 0 := t_equ h35 (by decide : (0:Int32).toInt ≤ (0:Int))
                have l37 : 0 ≤ z34.toInt := t_eql h35 (by decide : (0:Int) ≤ (0:Int32).toInt)
                refine ev_ic f_X0_fitsLast (nx := 78) (v := 1) rfl (by decide) rfl ?_
                refine ev_jmp f_X0_fitsLast (nx := 82) rfl rfl rfl ?_
                refine ev_loc f_X0_fitsLast (nx := 84) (lo' := [(5, .int 1), (4, .int 1), (3, .int y15_3), (2, .int y2_2), (0, .ref 22), (1, .int ar1)]) rfl rfl rfl rfl ?_
                refine ev_loc f_X0_fitsLast (nx := 85) rfl rfl rfl rfl ?_
                refine ev_loc f_X0_fitsLast (nx := 86) rfl rfl rfl rfl ?_
                refine ev_if f_X0_fitsLast (t1 := 101) (t2 := 89) rfl rfl rfl (fun h38 => ?_) (fun h38 => ?_)
                · have r39 : y2_2.toInt = y15_3.toInt := t_eqi h38
                  refine ev_incR f_X0_fitsLast (nx := 104) (c := 1) (l := 1) (u := 3) rfl rfl (by decide) (by decide) l15_3 u21 rfl rfl (by decide) (by decide) rfl (fun z40 e40 l40 u40 => ?_)
                  refine ev_jmp f_X0_fitsLast (nx := 25) rfl rfl rfl ?_
                  refine ev_sub (lo := [(3, .int z40), (2, .int y2_2), (0, .ref 22), (1, .int ar1)]) rfl (t_sc rfl (t_sc rfl (t_sc rfl (t_sc rfl t_sn)))) ?_
                  exact ih15 _ (by omega) (z40) (Int.le_trans (by decide : (0:Int) ≤ 1) l40) u40 (fun h30 => (by
                                                            have ca := t_clamp (i := y2_2) (by omega)
                                                            have cb := t_clamp (i := y15_3) (by omega)
                                                            have ck := t_clamp (i := ar1) (by omega)
                                                            have cw8 := q8 (by omega) (by omega) h30
                                                            have cw9 := q9 (by omega) (by omega) h30
                                                            have cw22 := q22 (by omega) (by omega) h30
                                                            have cw23 := q23 (by omega) (by omega) h30
                                                            have cw25 := q25 (by omega) (by omega) h30
                                                            have cw30 := q30 (by omega) (by omega) h30
                                                            have cw31 := q31 (by omega) (by omega) h30
                                                            have cw33 := q33 (by omega) (by omega) h30
                                                            have k0 : ¬ ((s_rh (gl 25) (gi 26)) y2_2.toNatClampNeg = (s_rh (gl 25) (gi 26)) ar1.toNatClampNeg) := fun hh => (fun hh => h11 (e10.trans ((lg_cmp_eq _ _).mpr hh))) (by rw [cw8, cw9]; exact hh)
                                                            have k1 : ((s_rh (gl 25) (gi 26)) y2_2.toNatClampNeg ||| (s_rh (gl 25) (gi 26)) y15_3.toNatClampNeg) = (s_rh (gl 25) (gi 26)) ar1.toNatClampNeg := by have hh := ((lg_cmp_eq _ _).mp (e26.symm.trans h27)); rw [e24, cw22, cw23, cw25] at hh; exact hh
                                                            have k2 : ((s_rh (gl 25) (gi 26)) y2_2.toNatClampNeg ||| (s_rh (gl 25) (gi 26)) ar1.toNatClampNeg) = (s_rh (gl 25) (gi 26)) y15_3.toNatClampNeg := by have hh := ((lg_cmp_eq _ _).mp (e34.symm.trans h35)); rw [e32, cw30, cw31, cw33] at hh; exact hh
                                                            refine ⟨(j15_0 h30).1, fun b hb hab => ?_⟩
                                                            by_cases hk : b = y15_3.toNatClampNeg
                                                            · exact absurd (show y2_2.toNatClampNeg = b by omega) hab
                                                            · exact (j15_0 h30).2 b (by omega) hab)) rfl
                · have r41 : y2_2.toInt ≠ y15_3.toInt := t_nei h38
                  refine ev_loc f_X0_fitsLast (nx := 91) rfl rfl rfl rfl ?_
                  refine ev_f f_X0_fitsLast (t1 := 94) (t2 := 99) rfl rfl rfl (by decide) ?_
                  refine ev_ic f_X0_fitsLast (nx := 100) (v := 0) rfl (by decide) rfl ?_
                  exact ev_ret f_X0_fitsLast rfl rfl rfl ⟨_, _, _, rfl, hI, hX, ⟨_, rfl, (by decide : (0:Int) ≤ (0:Int32).toInt), (Int.le_trans (by decide : (0:Int32).toInt ≤ (0:Int)) (by decide : (0:Int) ≤ 1)), (show (gi 22 3).toInt = 30 → ((0 : Int) = 1 ↔ s_fx (s_rh (gl 25) (gi 26)) ar1.toNatClampNeg) from (by
                                                            intro h30
                                                            have ck := t_clamp (i := ar1) (by omega)
                                                            have ca := t_clamp (i := y2_2) (by omega)
                                                            have cb := t_clamp (i := y15_3) (by omega)
                                                            have cw8 := q8 (by omega) (by omega) h30
                                                            have cw9 := q9 (by omega) (by omega) h30
                                                            have cw22 := q22 (by omega) (by omega) h30
                                                            have cw23 := q23 (by omega) (by omega) h30
                                                            have cw25 := q25 (by omega) (by omega) h30
                                                            have cw30 := q30 (by omega) (by omega) h30
                                                            have cw31 := q31 (by omega) (by omega) h30
                                                            have cw33 := q33 (by omega) (by omega) h30
                                                            have k0 : ¬ ((s_rh (gl 25) (gi 26)) y2_2.toNatClampNeg = (s_rh (gl 25) (gi 26)) ar1.toNatClampNeg) := fun hh => (fun hh => h11 (e10.trans ((lg_cmp_eq _ _).mpr hh))) (by rw [cw8, cw9]; exact hh)
                                                            have k1 : ((s_rh (gl 25) (gi 26)) y2_2.toNatClampNeg ||| (s_rh (gl 25) (gi 26)) y15_3.toNatClampNeg) = (s_rh (gl 25) (gi 26)) ar1.toNatClampNeg := by have hh := ((lg_cmp_eq _ _).mp (e26.symm.trans h27)); rw [e24, cw22, cw23, cw25] at hh; exact hh
                                                            have k2 : ((s_rh (gl 25) (gi 26)) y2_2.toNatClampNeg ||| (s_rh (gl 25) (gi 26)) ar1.toNatClampNeg) = (s_rh (gl 25) (gi 26)) y15_3.toNatClampNeg := by have hh := ((lg_cmp_eq _ _).mp (e34.symm.trans h35)); rw [e32, cw30, cw31, cw33] at hh; exact hh
                                                            refine ⟨fun hh => absurd hh (by decide), fun hh => ?_⟩
                                                            have hx := (hh y2_2.toNatClampNeg (by omega)).2 y15_3.toNatClampNeg (by omega) (by omega)
                                                            exact absurd k1 hx.1))⟩⟩
              · have r42 : z34.toInt ≠ 0 := fun e => h35 (Int32.toInt_inj.mp (e.trans (by decide : (0:Int) = (0 : Int32).toInt)))
                refine ev_ic f_X0_fitsLast (nx := 82) (v := 0) rfl (by decide) rfl ?_
                refine ev_loc f_X0_fitsLast (nx := 84) (lo' := [(5, .int 0), (4, .int 1), (3, .int y15_3), (2, .int y2_2), (0, .ref 22), (1, .int ar1)]) rfl rfl rfl rfl ?_
                refine ev_loc f_X0_fitsLast (nx := 85) rfl rfl rfl rfl ?_
                refine ev_loc f_X0_fitsLast (nx := 86) rfl rfl rfl rfl ?_
                refine ev_if f_X0_fitsLast (t1 := 101) (t2 := 89) rfl rfl rfl (fun h43 => ?_) (fun h43 => ?_)
                · have r44 : y2_2.toInt = y15_3.toInt := t_eqi h43
                  refine ev_incR f_X0_fitsLast (nx := 104) (c := 1) (l := 1) (u := 3) rfl rfl (by decide) (by decide) l15_3 u21 rfl rfl (by decide) (by decide) rfl (fun z45 e45 l45 u45 => ?_)
                  refine ev_jmp f_X0_fitsLast (nx := 25) rfl rfl rfl ?_
                  refine ev_sub (lo := [(3, .int z45), (2, .int y2_2), (0, .ref 22), (1, .int ar1)]) rfl (t_sc rfl (t_sc rfl (t_sc rfl (t_sc rfl t_sn)))) ?_
                  exact ih15 _ (by omega) (z45) (Int.le_trans (by decide : (0:Int) ≤ 1) l45) u45 (fun h30 => (by
                                                            have ca := t_clamp (i := y2_2) (by omega)
                                                            have cb := t_clamp (i := y15_3) (by omega)
                                                            have ck := t_clamp (i := ar1) (by omega)
                                                            have cw8 := q8 (by omega) (by omega) h30
                                                            have cw9 := q9 (by omega) (by omega) h30
                                                            have cw22 := q22 (by omega) (by omega) h30
                                                            have cw23 := q23 (by omega) (by omega) h30
                                                            have cw25 := q25 (by omega) (by omega) h30
                                                            have cw30 := q30 (by omega) (by omega) h30
                                                            have cw31 := q31 (by omega) (by omega) h30
                                                            have cw33 := q33 (by omega) (by omega) h30
                                                            have k0 : ¬ ((s_rh (gl 25) (gi 26)) y2_2.toNatClampNeg = (s_rh (gl 25) (gi 26)) ar1.toNatClampNeg) := fun hh => (fun hh => h11 (e10.trans ((lg_cmp_eq _ _).mpr hh))) (by rw [cw8, cw9]; exact hh)
                                                            have k1 : ((s_rh (gl 25) (gi 26)) y2_2.toNatClampNeg ||| (s_rh (gl 25) (gi 26)) y15_3.toNatClampNeg) = (s_rh (gl 25) (gi 26)) ar1.toNatClampNeg := by have hh := ((lg_cmp_eq _ _).mp (e26.symm.trans h27)); rw [e24, cw22, cw23, cw25] at hh; exact hh
                                                            have k2 : ¬ (((s_rh (gl 25) (gi 26)) y2_2.toNatClampNeg ||| (s_rh (gl 25) (gi 26)) ar1.toNatClampNeg) = (s_rh (gl 25) (gi 26)) y15_3.toNatClampNeg) := fun hh => (fun hh => h35 (e34.trans ((lg_cmp_eq _ _).mpr hh))) (by rw [e32, cw30, cw31, cw33]; exact hh)
                                                            refine ⟨(j15_0 h30).1, fun b hb hab => ?_⟩
                                                            by_cases hk : b = y15_3.toNatClampNeg
                                                            · exact absurd (show y2_2.toNatClampNeg = b by omega) hab
                                                            · exact (j15_0 h30).2 b (by omega) hab)) rfl
                · have r46 : y2_2.toInt ≠ y15_3.toInt := t_nei h43
                  refine ev_loc f_X0_fitsLast (nx := 91) rfl rfl rfl rfl ?_
                  refine ev_f f_X0_fitsLast (t1 := 94) (t2 := 99) rfl rfl rfl (by decide) ?_
                  refine ev_ic f_X0_fitsLast (nx := 100) (v := 0) rfl (by decide) rfl ?_
                  exact ev_ret f_X0_fitsLast rfl rfl rfl ⟨_, _, _, rfl, hI, hX, ⟨_, rfl, (by decide : (0:Int) ≤ (0:Int32).toInt), (Int.le_trans (by decide : (0:Int32).toInt ≤ (0:Int)) (by decide : (0:Int) ≤ 1)), (show (gi 22 3).toInt = 30 → ((0 : Int) = 1 ↔ s_fx (s_rh (gl 25) (gi 26)) ar1.toNatClampNeg) from (by
                                                            intro h30
                                                            have ck := t_clamp (i := ar1) (by omega)
                                                            have ca := t_clamp (i := y2_2) (by omega)
                                                            have cb := t_clamp (i := y15_3) (by omega)
                                                            have cw8 := q8 (by omega) (by omega) h30
                                                            have cw9 := q9 (by omega) (by omega) h30
                                                            have cw22 := q22 (by omega) (by omega) h30
                                                            have cw23 := q23 (by omega) (by omega) h30
                                                            have cw25 := q25 (by omega) (by omega) h30
                                                            have cw30 := q30 (by omega) (by omega) h30
                                                            have cw31 := q31 (by omega) (by omega) h30
                                                            have cw33 := q33 (by omega) (by omega) h30
                                                            have k0 : ¬ ((s_rh (gl 25) (gi 26)) y2_2.toNatClampNeg = (s_rh (gl 25) (gi 26)) ar1.toNatClampNeg) := fun hh => (fun hh => h11 (e10.trans ((lg_cmp_eq _ _).mpr hh))) (by rw [cw8, cw9]; exact hh)
                                                            have k1 : ((s_rh (gl 25) (gi 26)) y2_2.toNatClampNeg ||| (s_rh (gl 25) (gi 26)) y15_3.toNatClampNeg) = (s_rh (gl 25) (gi 26)) ar1.toNatClampNeg := by have hh := ((lg_cmp_eq _ _).mp (e26.symm.trans h27)); rw [e24, cw22, cw23, cw25] at hh; exact hh
                                                            have k2 : ¬ (((s_rh (gl 25) (gi 26)) y2_2.toNatClampNeg ||| (s_rh (gl 25) (gi 26)) ar1.toNatClampNeg) = (s_rh (gl 25) (gi 26)) y15_3.toNatClampNeg) := fun hh => (fun hh => h35 (e34.trans ((lg_cmp_eq _ _).mpr hh))) (by rw [e32, cw30, cw31, cw33]; exact hh)
                                                            refine ⟨fun hh => absurd hh (by decide), fun hh => ?_⟩
                                                            have hx := (hh y2_2.toNatClampNeg (by omega)).2 y15_3.toNatClampNeg (by omega) (by omega)
                                                            exact absurd k1 hx.1))⟩⟩
            · have r47 : z26.toInt ≠ 0 := fun e => h27 (Int32.toInt_inj.mp (e.trans (by decide : (0:Int) = (0 : Int32).toInt)))
              refine ev_ic f_X0_fitsLast (nx := 55) (v := 0) rfl (by decide) rfl ?_
              refine ev_loc f_X0_fitsLast (nx := 57) (lo' := [(4, .int 0), (3, .int y15_3), (2, .int y2_2), (0, .ref 22), (1, .int ar1)]) rfl rfl rfl rfl ?_
              refine ev_loc f_X0_fitsLast (nx := 58) rfl rfl rfl rfl ?_
              refine ev_loc f_X0_fitsLast (nx := 59) rfl rfl rfl rfl ?_
              refine ev_qL0 f_X0_fitsLast (nx := 62) (r := []) rfl rfl rfl rfl rfl rfl rfl (c_d_hir hI (y2_2)) rfl (fun w48 q48 => ?_)
              have q48 : 0 ≤ y2_2.toInt → y2_2.toInt ≤ 3 → (gi 22 3).toInt = 30 → w48 = s_rh (gl 25) (gi 26) y2_2.toNatClampNeg := q48
              refine ev_loc f_X0_fitsLast (nx := 63) rfl rfl rfl rfl ?_
              refine ev_loc f_X0_fitsLast (nx := 64) rfl rfl rfl rfl ?_
              refine ev_qL0 f_X0_fitsLast (nx := 67) (r := [.long w48]) rfl rfl rfl rfl rfl rfl rfl (c_d_hir hI (ar1)) rfl (fun w49 q49 => ?_)
              have q49 : 0 ≤ ar1.toInt → ar1.toInt ≤ 3 → (gi 22 3).toInt = 30 → w49 = s_rh (gl 25) (gi 26) ar1.toNatClampNeg := q49
              refine ev_anyLE f_X0_fitsLast (nx := 68) rfl rfl rfl rfl (fun z50 e50 => ?_)
              refine ev_loc f_X0_fitsLast (nx := 69) rfl rfl rfl rfl ?_
              refine ev_loc f_X0_fitsLast (nx := 70) rfl rfl rfl rfl ?_
              refine ev_qL0 f_X0_fitsLast (nx := 73) (r := [.long z50]) rfl rfl rfl rfl rfl rfl rfl (c_d_hir hI (y15_3)) rfl (fun w51 q51 => ?_)
              have q51 : 0 ≤ y15_3.toInt → y15_3.toInt ≤ 3 → (gi 22 3).toInt = 30 → w51 = s_rh (gl 25) (gi 26) y15_3.toNatClampNeg := q51
              refine ev_anyIE f_X0_fitsLast (nx := 74) rfl rfl rfl rfl (fun z52 e52 => ?_)
              refine ev_if f_X0_fitsLast (t1 := 77) (t2 := 81) rfl rfl rfl (fun h53 => ?_) (fun h53 => ?_)
              · have u54 : z52.toInt ≤ 0 := t_equ h53 (by decide : (0:Int32).toInt ≤ (0:Int))
                have l55 : 0 ≤ z52.toInt := t_eql h53 (by decide : (0:Int) ≤ (0:Int32).toInt)
                refine ev_ic f_X0_fitsLast (nx := 78) (v := 1) rfl (by decide) rfl ?_
                refine ev_jmp f_X0_fitsLast (nx := 82) rfl rfl rfl ?_
                refine ev_loc f_X0_fitsLast (nx := 84) (lo' := [(5, .int 1), (4, .int 0), (3, .int y15_3), (2, .int y2_2), (0, .ref 22), (1, .int ar1)]) rfl rfl rfl rfl ?_
                refine ev_loc f_X0_fitsLast (nx := 85) rfl rfl rfl rfl ?_
                refine ev_loc f_X0_fitsLast (nx := 86) rfl rfl rfl rfl ?_
                refine ev_if f_X0_fitsLast (t1 := 101) (t2 := 89) rfl rfl rfl (fun h56 => ?_) (fun h56 => ?_)
                · have r57 : y2_2.toInt = y15_3.toInt := t_eqi h56
                  refine ev_incR f_X0_fitsLast (nx := 104) (c := 1) (l := 1) (u := 3) rfl rfl (by decide) (by decide) l15_3 u21 rfl rfl (by decide) (by decide) rfl (fun z58 e58 l58 u58 => ?_)
                  refine ev_jmp f_X0_fitsLast (nx := 25) rfl rfl rfl ?_
                  refine ev_sub (lo := [(3, .int z58), (2, .int y2_2), (0, .ref 22), (1, .int ar1)]) rfl (t_sc rfl (t_sc rfl (t_sc rfl (t_sc rfl t_sn)))) ?_
                  exact ih15 _ (by omega) (z58) (Int.le_trans (by decide : (0:Int) ≤ 1) l58) u58 (fun h30 => (by
                                                            have ca := t_clamp (i := y2_2) (by omega)
                                                            have cb := t_clamp (i := y15_3) (by omega)
                                                            have ck := t_clamp (i := ar1) (by omega)
                                                            have cw8 := q8 (by omega) (by omega) h30
                                                            have cw9 := q9 (by omega) (by omega) h30
                                                            have cw22 := q22 (by omega) (by omega) h30
                                                            have cw23 := q23 (by omega) (by omega) h30
                                                            have cw25 := q25 (by omega) (by omega) h30
                                                            have cw48 := q48 (by omega) (by omega) h30
                                                            have cw49 := q49 (by omega) (by omega) h30
                                                            have cw51 := q51 (by omega) (by omega) h30
                                                            have k0 : ¬ ((s_rh (gl 25) (gi 26)) y2_2.toNatClampNeg = (s_rh (gl 25) (gi 26)) ar1.toNatClampNeg) := fun hh => (fun hh => h11 (e10.trans ((lg_cmp_eq _ _).mpr hh))) (by rw [cw8, cw9]; exact hh)
                                                            have k1 : ¬ (((s_rh (gl 25) (gi 26)) y2_2.toNatClampNeg ||| (s_rh (gl 25) (gi 26)) y15_3.toNatClampNeg) = (s_rh (gl 25) (gi 26)) ar1.toNatClampNeg) := fun hh => (fun hh => h27 (e26.trans ((lg_cmp_eq _ _).mpr hh))) (by rw [e24, cw22, cw23, cw25]; exact hh)
                                                            have k2 : ((s_rh (gl 25) (gi 26)) y2_2.toNatClampNeg ||| (s_rh (gl 25) (gi 26)) ar1.toNatClampNeg) = (s_rh (gl 25) (gi 26)) y15_3.toNatClampNeg := by have hh := ((lg_cmp_eq _ _).mp (e52.symm.trans h53)); rw [e50, cw48, cw49, cw51] at hh; exact hh
                                                            refine ⟨(j15_0 h30).1, fun b hb hab => ?_⟩
                                                            by_cases hk : b = y15_3.toNatClampNeg
                                                            · exact absurd (show y2_2.toNatClampNeg = b by omega) hab
                                                            · exact (j15_0 h30).2 b (by omega) hab)) rfl
                · have r59 : y2_2.toInt ≠ y15_3.toInt := t_nei h56
                  refine ev_loc f_X0_fitsLast (nx := 91) rfl rfl rfl rfl ?_
                  refine ev_t f_X0_fitsLast (t1 := 94) (t2 := 99) rfl rfl rfl (by decide) ?_
                  refine ev_loc f_X0_fitsLast (nx := 96) rfl rfl rfl rfl ?_
                  refine ev_f f_X0_fitsLast (t1 := 101) (t2 := 99) rfl rfl rfl (by decide) ?_
                  refine ev_ic f_X0_fitsLast (nx := 100) (v := 0) rfl (by decide) rfl ?_
                  exact ev_ret f_X0_fitsLast rfl rfl rfl ⟨_, _, _, rfl, hI, hX, ⟨_, rfl, (by decide : (0:Int) ≤ (0:Int32).toInt), (Int.le_trans (by decide : (0:Int32).toInt ≤ (0:Int)) (by decide : (0:Int) ≤ 1)), (show (gi 22 3).toInt = 30 → ((0 : Int) = 1 ↔ s_fx (s_rh (gl 25) (gi 26)) ar1.toNatClampNeg) from (by
                                                            intro h30
                                                            have ck := t_clamp (i := ar1) (by omega)
                                                            have ca := t_clamp (i := y2_2) (by omega)
                                                            have cb := t_clamp (i := y15_3) (by omega)
                                                            have cw8 := q8 (by omega) (by omega) h30
                                                            have cw9 := q9 (by omega) (by omega) h30
                                                            have cw22 := q22 (by omega) (by omega) h30
                                                            have cw23 := q23 (by omega) (by omega) h30
                                                            have cw25 := q25 (by omega) (by omega) h30
                                                            have cw48 := q48 (by omega) (by omega) h30
                                                            have cw49 := q49 (by omega) (by omega) h30
                                                            have cw51 := q51 (by omega) (by omega) h30
                                                            have k0 : ¬ ((s_rh (gl 25) (gi 26)) y2_2.toNatClampNeg = (s_rh (gl 25) (gi 26)) ar1.toNatClampNeg) := fun hh => (fun hh => h11 (e10.trans ((lg_cmp_eq _ _).mpr hh))) (by rw [cw8, cw9]; exact hh)
                                                            have k1 : ¬ (((s_rh (gl 25) (gi 26)) y2_2.toNatClampNeg ||| (s_rh (gl 25) (gi 26)) y15_3.toNatClampNeg) = (s_rh (gl 25) (gi 26)) ar1.toNatClampNeg) := fun hh => (fun hh => h27 (e26.trans ((lg_cmp_eq _ _).mpr hh))) (by rw [e24, cw22, cw23, cw25]; exact hh)
                                                            have k2 : ((s_rh (gl 25) (gi 26)) y2_2.toNatClampNeg ||| (s_rh (gl 25) (gi 26)) ar1.toNatClampNeg) = (s_rh (gl 25) (gi 26)) y15_3.toNatClampNeg := by have hh := ((lg_cmp_eq _ _).mp (e52.symm.trans h53)); rw [e50, cw48, cw49, cw51] at hh; exact hh
                                                            refine ⟨fun hh => absurd hh (by decide), fun hh => ?_⟩
                                                            have hx := (hh y2_2.toNatClampNeg (by omega)).2 y15_3.toNatClampNeg (by omega) (by omega)
                                                            exact absurd k2 hx.2))⟩⟩
              · have r60 : z52.toInt ≠ 0 := fun e => h53 (Int32.toInt_inj.mp (e.trans (by decide : (0:Int) = (0 : Int32).toInt)))
                refine ev_ic f_X0_fitsLast (nx := 82) (v := 0) rfl (by decide) rfl ?_
                refine ev_loc f_X0_fitsLast (nx := 84) (lo' := [(5, .int 0), (4, .int 0), (3, .int y15_3), (2, .int y2_2), (0, .ref 22), (1, .int ar1)]) rfl rfl rfl rfl ?_
                refine ev_loc f_X0_fitsLast (nx := 85) rfl rfl rfl rfl ?_
                refine ev_loc f_X0_fitsLast (nx := 86) rfl rfl rfl rfl ?_
                refine ev_if f_X0_fitsLast (t1 := 101) (t2 := 89) rfl rfl rfl (fun h61 => ?_) (fun h61 => ?_)
                · have r62 : y2_2.toInt = y15_3.toInt := t_eqi h61
                  refine ev_incR f_X0_fitsLast (nx := 104) (c := 1) (l := 1) (u := 3) rfl rfl (by decide) (by decide) l15_3 u21 rfl rfl (by decide) (by decide) rfl (fun z63 e63 l63 u63 => ?_)
                  refine ev_jmp f_X0_fitsLast (nx := 25) rfl rfl rfl ?_
                  refine ev_sub (lo := [(3, .int z63), (2, .int y2_2), (0, .ref 22), (1, .int ar1)]) rfl (t_sc rfl (t_sc rfl (t_sc rfl (t_sc rfl t_sn)))) ?_
                  exact ih15 _ (by omega) (z63) (Int.le_trans (by decide : (0:Int) ≤ 1) l63) u63 (fun h30 => (by
                                                            have ca := t_clamp (i := y2_2) (by omega)
                                                            have cb := t_clamp (i := y15_3) (by omega)
                                                            have ck := t_clamp (i := ar1) (by omega)
                                                            have cw8 := q8 (by omega) (by omega) h30
                                                            have cw9 := q9 (by omega) (by omega) h30
                                                            have cw22 := q22 (by omega) (by omega) h30
                                                            have cw23 := q23 (by omega) (by omega) h30
                                                            have cw25 := q25 (by omega) (by omega) h30
                                                            have cw48 := q48 (by omega) (by omega) h30
                                                            have cw49 := q49 (by omega) (by omega) h30
                                                            have cw51 := q51 (by omega) (by omega) h30
                                                            have k0 : ¬ ((s_rh (gl 25) (gi 26)) y2_2.toNatClampNeg = (s_rh (gl 25) (gi 26)) ar1.toNatClampNeg) := fun hh => (fun hh => h11 (e10.trans ((lg_cmp_eq _ _).mpr hh))) (by rw [cw8, cw9]; exact hh)
                                                            have k1 : ¬ (((s_rh (gl 25) (gi 26)) y2_2.toNatClampNeg ||| (s_rh (gl 25) (gi 26)) y15_3.toNatClampNeg) = (s_rh (gl 25) (gi 26)) ar1.toNatClampNeg) := fun hh => (fun hh => h27 (e26.trans ((lg_cmp_eq _ _).mpr hh))) (by rw [e24, cw22, cw23, cw25]; exact hh)
                                                            have k2 : ¬ (((s_rh (gl 25) (gi 26)) y2_2.toNatClampNeg ||| (s_rh (gl 25) (gi 26)) ar1.toNatClampNeg) = (s_rh (gl 25) (gi 26)) y15_3.toNatClampNeg) := fun hh => (fun hh => h53 (e52.trans ((lg_cmp_eq _ _).mpr hh))) (by rw [e50, cw48, cw49, cw51]; exact hh)
                                                            refine ⟨(j15_0 h30).1, fun b hb hab => ?_⟩
                                                            by_cases hk : b = y15_3.toNatClampNeg
                                                            · exact absurd (show y2_2.toNatClampNeg = b by omega) hab
                                                            · exact (j15_0 h30).2 b (by omega) hab)) rfl
                · have r64 : y2_2.toInt ≠ y15_3.toInt := t_nei h61
                  refine ev_loc f_X0_fitsLast (nx := 91) rfl rfl rfl rfl ?_
                  refine ev_t f_X0_fitsLast (t1 := 94) (t2 := 99) rfl rfl rfl (by decide) ?_
                  refine ev_loc f_X0_fitsLast (nx := 96) rfl rfl rfl rfl ?_
                  refine ev_t f_X0_fitsLast (t1 := 101) (t2 := 99) rfl rfl rfl (by decide) ?_
                  refine ev_incR f_X0_fitsLast (nx := 104) (c := 1) (l := 1) (u := 3) rfl rfl (by decide) (by decide) l15_3 u21 rfl rfl (by decide) (by decide) rfl (fun z65 e65 l65 u65 => ?_)
                  refine ev_jmp f_X0_fitsLast (nx := 25) rfl rfl rfl ?_
                  refine ev_sub (lo := [(3, .int z65), (2, .int y2_2), (0, .ref 22), (1, .int ar1)]) rfl (t_sc rfl (t_sc rfl (t_sc rfl (t_sc rfl t_sn)))) ?_
                  exact ih15 _ (by omega) (z65) (Int.le_trans (by decide : (0:Int) ≤ 1) l65) u65 (fun h30 => (by
                                                            have ca := t_clamp (i := y2_2) (by omega)
                                                            have cb := t_clamp (i := y15_3) (by omega)
                                                            have ck := t_clamp (i := ar1) (by omega)
                                                            have cw8 := q8 (by omega) (by omega) h30
                                                            have cw9 := q9 (by omega) (by omega) h30
                                                            have cw22 := q22 (by omega) (by omega) h30
                                                            have cw23 := q23 (by omega) (by omega) h30
                                                            have cw25 := q25 (by omega) (by omega) h30
                                                            have cw48 := q48 (by omega) (by omega) h30
                                                            have cw49 := q49 (by omega) (by omega) h30
                                                            have cw51 := q51 (by omega) (by omega) h30
                                                            have k0 : ¬ ((s_rh (gl 25) (gi 26)) y2_2.toNatClampNeg = (s_rh (gl 25) (gi 26)) ar1.toNatClampNeg) := fun hh => (fun hh => h11 (e10.trans ((lg_cmp_eq _ _).mpr hh))) (by rw [cw8, cw9]; exact hh)
                                                            have k1 : ¬ (((s_rh (gl 25) (gi 26)) y2_2.toNatClampNeg ||| (s_rh (gl 25) (gi 26)) y15_3.toNatClampNeg) = (s_rh (gl 25) (gi 26)) ar1.toNatClampNeg) := fun hh => (fun hh => h27 (e26.trans ((lg_cmp_eq _ _).mpr hh))) (by rw [e24, cw22, cw23, cw25]; exact hh)
                                                            have k2 : ¬ (((s_rh (gl 25) (gi 26)) y2_2.toNatClampNeg ||| (s_rh (gl 25) (gi 26)) ar1.toNatClampNeg) = (s_rh (gl 25) (gi 26)) y15_3.toNatClampNeg) := fun hh => (fun hh => h53 (e52.trans ((lg_cmp_eq _ _).mpr hh))) (by rw [e50, cw48, cw49, cw51]; exact hh)
                                                            refine ⟨(j15_0 h30).1, fun b hb hab => ?_⟩
                                                            by_cases hk : b = y15_3.toNatClampNeg
                                                            · subst hk
                                                              exact ⟨k1, k2⟩
                                                            · exact (j15_0 h30).2 b (by omega) hab)) rfl
        refine ev_sub (lo := [(3, .int 0), (2, .int y2_2), (0, .ref 22), (1, .int ar1)]) rfl (t_sc rfl (t_sc rfl (t_sc rfl (t_sc rfl t_sn)))) ?_
        exact L15 _ (0) (by decide : (0:Int) ≤ (0:Int32).toInt) (Int.le_trans (by decide : (0:Int32).toInt ≤ (0:Int)) (by decide : (0:Int) ≤ 3)) (fun h30 => (by
                                                            have ca := t_clamp (i := y2_2) (by omega)
                                                            have ck := t_clamp (i := ar1) (by omega)
                                                            have cw8 := q8 (by omega) (by omega) h30
                                                            have cw9 := q9 (by omega) (by omega) h30
                                                            have k0 : ¬ ((s_rh (gl 25) (gi 26)) y2_2.toNatClampNeg = (s_rh (gl 25) (gi 26)) ar1.toNatClampNeg) := fun hh => (fun hh => h11 (e10.trans ((lg_cmp_eq _ _).mpr hh))) (by rw [cw8, cw9]; exact hh)
                                                            exact ⟨k0, fun b hb => absurd hb (by have z0 : (0 : Int32).toInt = 0 := rfl; omega)⟩)) rfl
  refine ev_sub (lo := [(2, .int 0), (0, .ref 22), (1, .int ar1)]) rfl (t_sc rfl (t_sc rfl (t_sc rfl t_sn))) ?_
  exact L2 _ (0) (by decide : (0:Int) ≤ (0:Int32).toInt) (Int.le_trans (by decide : (0:Int32).toInt ≤ (0:Int)) (by decide : (0:Int) ≤ 3)) (fun h30 a ha => absurd ha (by have z0 : (0 : Int32).toInt = 0 := rfl; omega)) rfl
noncomputable def wl_d_ext : List (Nat × Nat) := [(26, 9999)]
noncomputable def Q_d_ext (gi : Nat → Nat → Int32) (gl : Nat → Nat → Int64) (gr : Nat → Nat → Value) (ar1 : Int32) (ar2 : Int32) (ar3 : Int32) (ar4 : Int32) : Int32 → (Nat → Nat → Int32) → (Nat → Nat → Int64) → (Nat → Nat → Value) → Prop := fun (v : Int32) (gi2 : Nat → Nat → Int32) (gl2 : Nat → Nat → Int64) (gr2 : Nat → Nat → Value) => ∀ l : List Nat, (gi 22 3).toInt = 30 → 1 ≤ ar2.toInt → ar2.toInt ≤ 4 → (l.length : Int) = ar1.toInt → s_RW (gi 26) l → s_dc l → (∀ a, a ∈ l → (a : Int) < ar3.toInt) → (ar2.toInt ≤ ar1.toInt → v.toInt = 1 ∧ gi2 26 = gi 26) ∧ (ar1.toInt < ar2.toInt → (v.toInt = 1 ∧ ∃ L, s_X (gl 25) ar4.toNatClampNeg ar2.toNatClampNeg l ar3.toNatClampNeg = some L ∧ s_RW (gi2 26) L ∧ (L.length : Int) = ar2.toInt) ∨ (v.toInt = 0 ∧ s_X (gl 25) ar4.toNatClampNeg ar2.toNatClampNeg l ar3.toNatClampNeg = none)) ∧ ∀ j : Nat, (j : Int) < ar1.toInt → gi2 26 j = gi 26 j
theorem r_d_ext {X : x_Ext} {d : Nat} {sh : List (Nat ⊕ (Nat × Nat))} : ∀ (r : Nat) {gi : Nat → Nat → Int32} {gl : Nat → Nat → Int64} {gr : Nat → Nat → Value} (hI : t_I sh gi gr) (ar1 : Int32) (l_a1 : 0 ≤ ar1.toInt) (u_a1 : ar1.toInt ≤ 4) (ar2 : Int32) (ar3 : Int32) (l_a3 : 0 ≤ ar3.toInt) (u_a3 : ar3.toInt ≤ 30) (ar4 : Int32) (l_a4 : 0 ≤ ar4.toInt) (u_a4 : ar4.toInt ≤ 30), (5 - ar1.toInt).toNat < r → x_Me X (d + r + 3) n_X0_extend [.ref 22, .int ar1, .int ar2, .int ar3, .int ar4] (sh, gi, gl, gr) (t_PI wl_d_ext sh gi gl gr 0 1 (Q_d_ext gi gl gr ar1 ar2 ar3 ar4)) := by
  intro r
  induction r with
  | zero => intro gi gl gr hI ar1 l_a1 u_a1 ar2 ar3 l_a3 u_a3 ar4 l_a4 u_a4 hr; omega
  | succ r ih =>
  intro gi gl gr hI ar1 l_a1 u_a1 ar2 ar3 l_a3 u_a3 ar4 l_a4 u_a4 hr
  rw [show d + (r + 1) + 3 = d + r + 4 by omega]
  have hX : t_X wl_d_ext sh gi gl gr gi gl gr := t_X.rf
  refine me_i f_X0_extend (hI.wf.s rfl) rfl rfl rfl ?_
  obtain ⟨l1, u1⟩ := hI.b (hI.wf.s (k := 22) rfl) (t_bdK rfl : t_bd 0 3 = some (0, 30))
  refine ev_loc f_X0_extend (nx := 1) rfl rfl rfl rfl ?_
  refine ev_loc f_X0_extend (nx := 2) rfl rfl rfl rfl ?_
  refine ev_if f_X0_extend (t1 := 7) (t2 := 5) rfl rfl rfl (fun h2 => ?_) (fun h2 => ?_)
  · have r3 : ar1.toInt < ar2.toInt := Int32.lt_iff_toInt_lt.mp h2
    have l4 : 1 ≤ ar2.toInt := t_ltl h2 l_a1 rfl
    refine ev_loc f_X0_extend (nx := 8) rfl rfl rfl rfl ?_
    refine ev_loc f_X0_extend (nx := 10) (lo' := [(5, .int ar3), (0, .ref 22), (1, .int ar1), (2, .int ar2), (3, .int ar3), (4, .int ar4)]) rfl rfl rfl rfl ?_
    have L5 : ∀ (m5 : Nat) (gi5 : Nat → Nat → Int32) (gl5 : Nat → Nat → Int64) (gr5 : Nat → Nat → Value) (y5_5 : Int32), t_I sh gi5 gr5 → t_X wl_d_ext sh gi gl gr gi5 gl5 gr5 → 0 ≤ y5_5.toInt → y5_5.toInt ≤ 30 → gi5 22 3 = (gi 22 3) → (∀ l : List Nat, (gi 22 3).toInt = 30 → 1 ≤ ar2.toInt → ar2.toInt ≤ 4 → (l.length : Int) = ar1.toInt → s_RW (gi 26) l → s_dc l → (∀ a, a ∈ l → (a : Int) < ar3.toInt) → s_X (gl 25) ar4.toNatClampNeg ar2.toNatClampNeg l ar3.toNatClampNeg = s_X (gl 25) ar4.toNatClampNeg ar2.toNatClampNeg l y5_5.toNatClampNeg ∧ ar3.toInt ≤ y5_5.toInt ∧ ∀ j : Nat, (j : Int) < ar1.toInt → gi5 26 j = gi 26 j) → (30 - y5_5.toInt).toNat = m5 → x_Ev X (d + r + 4) n_X0_extend 10 [(5, .int y5_5), (0, .ref 22), (1, .int ar1), (2, .int ar2), (3, .int ar3), (4, .int ar4)] [] (sh, gi5, gl5, gr5) (t_PI wl_d_ext sh gi gl gr 0 1 (Q_d_ext gi gl gr ar1 ar2 ar3 ar4)) := by
      intro m5
      induction m5 using Nat.strongRecOn with
      | _ m5 ih5 =>
      intro gi5 gl5 gr5 y5_5 hI hX l5_5 u5_5 c5_0 j5_0 hm5
      refine ev_loc f_X0_extend (nx := 12) rfl rfl rfl rfl ?_
      refine ev_loc f_X0_extend (nx := 14) rfl rfl rfl rfl ?_
      refine ev_if f_X0_extend (t1 := 67) (t2 := 17) rfl rfl rfl (fun h6 => ?_) (fun h6 => ?_)
      · have r7 : ar4.toInt ≤ y5_5.toInt := Int32.le_iff_toInt_le.mp h6
        refine ev_ic f_X0_extend (nx := 68) (v := 0) rfl (by decide) rfl ?_
        exact ev_ret f_X0_extend rfl rfl rfl ⟨_, _, _, rfl, hI, hX, ⟨_, rfl, (by decide : (0:Int) ≤ (0:Int32).toInt), (Int.le_trans (by decide : (0:Int32).toInt ≤ (0:Int)) (by decide : (0:Int) ≤ 1)), (show ∀ l : List Nat, (gi 22 3).toInt = 30 → 1 ≤ ar2.toInt → ar2.toInt ≤ 4 → (l.length : Int) = ar1.toInt → s_RW (gi 26) l → s_dc l → (∀ a, a ∈ l → (a : Int) < ar3.toInt) → (ar2.toInt ≤ ar1.toInt → (0 : Int) = 1 ∧ gi5 26 = gi 26) ∧ (ar1.toInt < ar2.toInt → ((0 : Int) = 1 ∧ ∃ L, s_X (gl 25) ar4.toNatClampNeg ar2.toNatClampNeg l ar3.toNatClampNeg = some L ∧ s_RW (gi5 26) L ∧ (L.length : Int) = ar2.toInt) ∨ ((0 : Int) = 0 ∧ s_X (gl 25) ar4.toNatClampNeg ar2.toNatClampNeg l ar3.toNatClampNeg = none)) ∧ ∀ j : Nat, (j : Int) < ar1.toInt → gi5 26 j = gi 26 j from (by
                                                            intro l h30 hm1 hm4 hl hr hd hf
                                                            have ck := t_clamp (i := ar1) l_a1
                                                            have cm := t_clamp (i := ar2) (by omega)
                                                            have ce := t_clamp (i := ar4) (by omega)
                                                            have hn : l.length = ar1.toNatClampNeg := by omega
                                                            obtain ⟨hx, hge, hlo⟩ := j5_0 l h30 hm1 hm4 hl hr hd hf
                                                            have cy := t_clamp (i := y5_5) (by omega)
                                                            exact ⟨fun h => absurd h (by omega), fun _ => Or.inr ⟨rfl, by rw [hx, s_X_e (by omega)]⟩, hlo⟩))⟩⟩
      · have r8 : y5_5.toInt < ar4.toInt := Int32.lt_iff_toInt_lt.mp (t_nle h6)
        have u9 : y5_5.toInt ≤ 29 := t_ltu (t_nle h6) u_a4 rfl
        have l10 : 1 ≤ ar4.toInt := t_ltl (t_nle h6) l5_5 rfl
        refine ev_loc f_X0_extend (nx := 18) rfl rfl rfl rfl ?_
        refine ev_loc f_X0_extend (nx := 19) rfl rfl rfl rfl ?_
        refine ev_getR f_X0_extend (nx := 22) rfl (hI.wf.s rfl) rfl rfl (hI.wf.r rfl) rfl rfl ?_
        refine ev_alenv f_X0_extend (nx := 23) (w := 4) rfl (hI.wf.s rfl) rfl (by decide) rfl ?_
        refine ev_if f_X0_extend (t1 := 67) (t2 := 26) rfl rfl rfl (fun h11 => ?_) (fun h11 => ?_)
        · have l12 : 4 ≤ ar1.toInt := t_lel h11 (by decide : (4:Int) ≤ (4:Int32).toInt)
          refine ev_ic f_X0_extend (nx := 68) (v := 0) rfl (by decide) rfl ?_
          exact ev_ret f_X0_extend rfl rfl rfl ⟨_, _, _, rfl, hI, hX, ⟨_, rfl, (by decide : (0:Int) ≤ (0:Int32).toInt), (Int.le_trans (by decide : (0:Int32).toInt ≤ (0:Int)) (by decide : (0:Int) ≤ 1)), (show ∀ l : List Nat, (gi 22 3).toInt = 30 → 1 ≤ ar2.toInt → ar2.toInt ≤ 4 → (l.length : Int) = ar1.toInt → s_RW (gi 26) l → s_dc l → (∀ a, a ∈ l → (a : Int) < ar3.toInt) → (ar2.toInt ≤ ar1.toInt → (0 : Int) = 1 ∧ gi5 26 = gi 26) ∧ (ar1.toInt < ar2.toInt → ((0 : Int) = 1 ∧ ∃ L, s_X (gl 25) ar4.toNatClampNeg ar2.toNatClampNeg l ar3.toNatClampNeg = some L ∧ s_RW (gi5 26) L ∧ (L.length : Int) = ar2.toInt) ∨ ((0 : Int) = 0 ∧ s_X (gl 25) ar4.toNatClampNeg ar2.toNatClampNeg l ar3.toNatClampNeg = none)) ∧ ∀ j : Nat, (j : Int) < ar1.toInt → gi5 26 j = gi 26 j from (by
                                                            intro l h30 hm1 hm4 hl hr hd hf
                                                            have ck := t_clamp (i := ar1) l_a1
                                                            have cm := t_clamp (i := ar2) (by omega)
                                                            have ce := t_clamp (i := ar4) (by omega)
                                                            have hn : l.length = ar1.toNatClampNeg := by omega
                                                            obtain ⟨hx, hge, hlo⟩ := j5_0 l h30 hm1 hm4 hl hr hd hf
                                                            have cy := t_clamp (i := y5_5) (by omega)
                                                            exact ⟨fun h => absurd h (by omega), fun _ => Or.inr ⟨rfl, by rw [hx, s_X_e (by omega)]⟩, hlo⟩))⟩⟩
        · have u13 : ar1.toInt ≤ 3 := t_ltu (t_nle h11) (by decide : (4:Int32).toInt ≤ (4:Int)) rfl
          refine ev_loc f_X0_extend (nx := 27) rfl rfl rfl rfl ?_
          refine ev_getR f_X0_extend (nx := 30) rfl (hI.wf.s rfl) rfl rfl (hI.wf.r rfl) rfl rfl ?_
          refine ev_loc f_X0_extend (nx := 31) rfl rfl rfl rfl ?_
          refine ev_loc f_X0_extend (nx := 33) rfl rfl rfl rfl ?_
          refine ev_iastT f_X0_extend (nx := 34) rfl (hI.wf.s rfl) l_a1 (by decide) u13 (by decide) rfl (hI.astL (hI.wf.s rfl) (by decide +kernel : t_abw 26 0 3 0 29 = true) (t_cl1 l_a1 (by decide)) (t_cl2 l_a1 u13 (by decide) (by decide)) l5_5 u9 rfl) (hX.upI (t_inA_ok rfl)) (fun g14 e14 hI hX => ?_)
          refine ev_loc f_X0_extend (nx := 35) rfl rfl rfl rfl ?_
          refine ev_loc f_X0_extend (nx := 36) rfl rfl rfl rfl ?_
          refine ev_qI0 f_X0_extend (nx := 39) (r := []) rfl rfl rfl rfl rfl rfl rfl (c_d_fit hI (ar1) l_a1 u13) rfl (fun w15 l15 u15 q15 => ?_)
          have ff16 : (g14 22 3).toInt = (gi 22 3).toInt := congrArg Int32.toInt ((by rw [e14]; exact x_up2_off (Or.inl (by decide)) : g14 22 3 = gi5 22 3).trans c5_0)
          have q15 : (g14 22 3).toInt = 30 → (w15.toInt = 1 ↔ s_fx (s_rh (gl5 25) (g14 26)) ar1.toNatClampNeg) := q15
          refine ev_if f_X0_extend (t1 := 61) (t2 := 42) rfl rfl rfl (fun h17 => ?_) (fun h17 => ?_)
          · have u18 : w15.toInt ≤ 0 := t_equ h17 (by decide : (0:Int32).toInt ≤ (0:Int))
            refine ev_incR f_X0_extend (nx := 64) (c := 1) (l := 1) (u := 30) rfl rfl (by decide) (by decide) l5_5 u9 rfl rfl (by decide) (by decide) rfl (fun z19 e19 l19 u19 => ?_)
            refine ev_jmp f_X0_extend (nx := 10) rfl rfl rfl ?_
            refine ev_sub (lo := [(5, .int z19), (0, .ref 22), (1, .int ar1), (2, .int ar2), (3, .int ar3), (4, .int ar4)]) rfl (t_sc rfl (t_sc rfl (t_sc rfl (t_sc rfl (t_sc rfl (t_sc rfl t_sn)))))) ?_
            exact ih5 _ (by omega) g14 gl5 gr5 (z19) hI hX  (Int.le_trans (by decide : (0:Int) ≤ 1) l19) u19 ((by rw [e14]; exact x_up2_off (Or.inl (by decide)) : g14 22 3 = gi5 22 3).trans c5_0) (fun l h30 hm1 hm4 hl hr hd hf => (by
                                                            have ck := t_clamp (i := ar1) l_a1
                                                            have cm := t_clamp (i := ar2) (by omega)
                                                            have ce := t_clamp (i := ar4) (by omega)
                                                            have hn : l.length = ar1.toNatClampNeg := by omega
                                                            obtain ⟨hx, hge, hlo⟩ := j5_0 l h30 hm1 hm4 hl hr hd hf
                                                            have cy := t_clamp (i := y5_5) (by omega)
                                                            have hr2 : s_RW (g14 26) (y5_5.toNatClampNeg :: l) := And.intro (by rw [hn, e14, x_up2_at]; omega) (s_RW_eq hr (fun j hj => by rw [e14, x_up2_off (Or.inr (by omega))]; exact hlo j (by omega)))
                                                            have hd2 : s_dc (y5_5.toNatClampNeg :: l) := And.intro (fun a ha => by have := hf a ha; omega) hd
                                                            have h30b : (g14 22 3).toInt = 30 := (congrArg Int32.toInt (hX.1 22 3 rfl).1).trans h30
                                                            have hgl : gl5 25 = gl 25 := funext (fun j => (hX.1 25 j rfl).2.1)
                                                            have hfit := q15 h30b
                                                            rw [hgl, ← hn, ← s_ft_ix hd2 hr2] at hfit
                                                            have c5 := t_clamp (i := z19) (by omega)
                                                            have hz5 : z19.toNatClampNeg = y5_5.toNatClampNeg + 1 := by omega
                                                            refine ⟨?_, by omega, fun j hj => (by rw [e14, x_up2_off (Or.inr (by omega))] : g14 26 j = _).trans (hlo j hj)⟩
                                                            rw [hx, hz5]; exact s_X_n (fun hh => absurd (hfit.mpr hh) (by omega)))) rfl
          · have r20 : w15.toInt ≠ 0 := fun e => h17 (Int32.toInt_inj.mp (e.trans (by decide : (0:Int) = (0 : Int32).toInt)))
            have l21 : 1 ≤ w15.toInt := t_nel h17 l15 rfl rfl
            refine ev_loc f_X0_extend (nx := 43) rfl rfl rfl rfl ?_
            refine ev_loc f_X0_extend (nx := 44) rfl rfl rfl rfl ?_
            refine ev_ic f_X0_extend (nx := 45) (v := 1) rfl (by decide) rfl ?_
            refine ev_addC f_X0_extend (nx := 46) (c := 1) (l := 1) (u := 4) rfl (by decide) l_a1 u13 rfl rfl (by decide) (by decide) rfl (fun z22 e22 l22 u22 => ?_)
            refine ev_loc f_X0_extend (nx := 47) rfl rfl rfl rfl ?_
            refine ev_loc f_X0_extend (nx := 49) rfl rfl rfl rfl ?_
            refine ev_ic f_X0_extend (nx := 50) (v := 1) rfl (by decide) rfl ?_
            refine ev_addC f_X0_extend (nx := 51) (c := 1) (l := 1) (u := 30) rfl (by decide) l5_5 u9 rfl rfl (by decide) (by decide) rfl (fun z23 e23 l23 u23 => ?_)
            refine ev_loc f_X0_extend (nx := 53) rfl rfl rfl rfl ?_
            refine ev_qI f_X0_extend (nx := 56) (r := []) rfl rfl rfl rfl rfl rfl rfl (x_Me.up (ih hI (z22) (Int.le_trans (by decide : (0:Int) ≤ 1) l22) u22 (ar2) (z23) (Int.le_trans (by decide : (0:Int) ≤ 1) l23) u23 (ar4) (Int.le_trans (by decide : (0:Int) ≤ 1) l10) u_a4 (by omega)) (by omega)) rfl hX rfl (fun w24 gi24 gl24 gr24 l24 u24 hI hX hC24 q24 => ?_)
            have ff25 : (g14 22 3).toInt = (gi 22 3).toInt := congrArg Int32.toInt ((by rw [e14]; exact x_up2_off (Or.inl (by decide)) : g14 22 3 = gi5 22 3).trans c5_0)
            have q24 : ∀ l : List Nat, (g14 22 3).toInt = 30 → 1 ≤ ar2.toInt → ar2.toInt ≤ 4 → (l.length : Int) = z22.toInt → s_RW (g14 26) l → s_dc l → (∀ a, a ∈ l → (a : Int) < z23.toInt) → (ar2.toInt ≤ z22.toInt → w24.toInt = 1 ∧ gi24 26 = g14 26) ∧ (z22.toInt < ar2.toInt → (w24.toInt = 1 ∧ ∃ L, s_X (gl5 25) ar4.toNatClampNeg ar2.toNatClampNeg l z23.toNatClampNeg = some L ∧ s_RW (gi24 26) L ∧ (L.length : Int) = ar2.toInt) ∨ (w24.toInt = 0 ∧ s_X (gl5 25) ar4.toNatClampNeg ar2.toNatClampNeg l z23.toNatClampNeg = none)) ∧ ∀ j : Nat, (j : Int) < z22.toInt → gi24 26 j = g14 26 j := q24
            refine ev_if f_X0_extend (t1 := 61) (t2 := 59) rfl rfl rfl (fun h26 => ?_) (fun h26 => ?_)
            · have u27 : w24.toInt ≤ 0 := t_equ h26 (by decide : (0:Int32).toInt ≤ (0:Int))
              refine ev_incR f_X0_extend (nx := 64) (c := 1) (l := 1) (u := 30) rfl rfl (by decide) (by decide) l5_5 u9 rfl rfl (by decide) (by decide) rfl (fun z28 e28 l28 u28 => ?_)
              refine ev_jmp f_X0_extend (nx := 10) rfl rfl rfl ?_
              refine ev_sub (lo := [(5, .int z28), (0, .ref 22), (1, .int ar1), (2, .int ar2), (3, .int ar3), (4, .int ar4)]) rfl (t_sc rfl (t_sc rfl (t_sc rfl (t_sc rfl (t_sc rfl (t_sc rfl t_sn)))))) ?_
              exact ih5 _ (by omega) gi24 gl24 gr24 (z28) hI hX  (Int.le_trans (by decide : (0:Int) ≤ 1) l28) u28 ((hC24.1 22 3 rfl).1.trans ((by rw [e14]; exact x_up2_off (Or.inl (by decide)) : g14 22 3 = gi5 22 3).trans c5_0)) (fun l h30 hm1 hm4 hl hr hd hf => (by
                                                            have ck := t_clamp (i := ar1) l_a1
                                                            have cm := t_clamp (i := ar2) (by omega)
                                                            have ce := t_clamp (i := ar4) (by omega)
                                                            have hn : l.length = ar1.toNatClampNeg := by omega
                                                            obtain ⟨hx, hge, hlo⟩ := j5_0 l h30 hm1 hm4 hl hr hd hf
                                                            have cy := t_clamp (i := y5_5) (by omega)
                                                            have hr2 : s_RW (g14 26) (y5_5.toNatClampNeg :: l) := And.intro (by rw [hn, e14, x_up2_at]; omega) (s_RW_eq hr (fun j hj => by rw [e14, x_up2_off (Or.inr (by omega))]; exact hlo j (by omega)))
                                                            have hd2 : s_dc (y5_5.toNatClampNeg :: l) := And.intro (fun a ha => by have := hf a ha; omega) hd
                                                            have h30b : (g14 22 3).toInt = 30 := (congrArg Int32.toInt (((hC24.1 22 3 rfl).1).symm.trans (hX.1 22 3 rfl).1)).trans h30
                                                            have hgl : gl5 25 = gl 25 := funext (fun j => ((hC24.1 25 j rfl).2.1).symm.trans (hX.1 25 j rfl).2.1)
                                                            have hfit := q15 h30b
                                                            rw [hgl, ← hn, ← s_ft_ix hd2 hr2] at hfit
                                                            have hq := q24 (y5_5.toNatClampNeg :: l) h30b hm1 hm4 (by rw [List.length_cons]; omega) hr2 hd2 (fun a ha => by rcases List.mem_cons.mp ha with h | h; (subst h; omega); (have := hf a h; omega))
                                                            rw [hgl] at hq
                                                            have c5 := t_clamp (i := z28) (by omega)
                                                            have hz5 : z28.toNatClampNeg = y5_5.toNatClampNeg + 1 := by omega
                                                            have c3 := t_clamp (i := z23) (by omega)
                                                            have hzn : z23.toNatClampNeg = y5_5.toNatClampNeg + 1 := by omega
                                                            rw [hzn] at hq
                                                            have hlt2 : ar1.toInt + 1 < ar2.toInt := by
                                                              by_cases hh : ar1.toInt + 1 < ar2.toInt
                                                              · exact hh
                                                              · have := (hq.1 (by omega)).1; omega
                                                            have hno := ((hq.2.1 (by omega)).resolve_left (fun hh => absurd hh.1 (by omega))).2
                                                            refine ⟨?_, by omega, fun j hj => (hq.2.2 j (by omega)).trans ((show g14 26 j = gi5 26 j from (by rw [e14, x_up2_off (Or.inr (by omega))])).trans (hlo j hj))⟩
                                                            rw [hx, hz5, s_X_s (by omega) (hfit.mp (by omega)), s_ifF (by omega), hno]; rfl)) rfl
            · have r29 : w24.toInt ≠ 0 := fun e => h26 (Int32.toInt_inj.mp (e.trans (by decide : (0:Int) = (0 : Int32).toInt)))
              have l30 : 1 ≤ w24.toInt := t_nel h26 l24 rfl rfl
              refine ev_ic f_X0_extend (nx := 60) (v := 1) rfl (by decide) rfl ?_
              exact ev_ret f_X0_extend rfl rfl rfl ⟨_, _, _, rfl, hI, hX, ⟨_, rfl, (Int.le_trans (by decide : (0:Int) ≤ 1) (by decide : (1:Int) ≤ (1:Int32).toInt)), (by decide : (1:Int32).toInt ≤ (1:Int)), (show ∀ l : List Nat, (gi 22 3).toInt = 30 → 1 ≤ ar2.toInt → ar2.toInt ≤ 4 → (l.length : Int) = ar1.toInt → s_RW (gi 26) l → s_dc l → (∀ a, a ∈ l → (a : Int) < ar3.toInt) → (ar2.toInt ≤ ar1.toInt → (1 : Int) = 1 ∧ gi24 26 = gi 26) ∧ (ar1.toInt < ar2.toInt → ((1 : Int) = 1 ∧ ∃ L, s_X (gl 25) ar4.toNatClampNeg ar2.toNatClampNeg l ar3.toNatClampNeg = some L ∧ s_RW (gi24 26) L ∧ (L.length : Int) = ar2.toInt) ∨ ((1 : Int) = 0 ∧ s_X (gl 25) ar4.toNatClampNeg ar2.toNatClampNeg l ar3.toNatClampNeg = none)) ∧ ∀ j : Nat, (j : Int) < ar1.toInt → gi24 26 j = gi 26 j from (by
                                                            intro l h30 hm1 hm4 hl hr hd hf
                                                            have ck := t_clamp (i := ar1) l_a1
                                                            have cm := t_clamp (i := ar2) (by omega)
                                                            have ce := t_clamp (i := ar4) (by omega)
                                                            have hn : l.length = ar1.toNatClampNeg := by omega
                                                            obtain ⟨hx, hge, hlo⟩ := j5_0 l h30 hm1 hm4 hl hr hd hf
                                                            have cy := t_clamp (i := y5_5) (by omega)
                                                            have hr2 : s_RW (g14 26) (y5_5.toNatClampNeg :: l) := And.intro (by rw [hn, e14, x_up2_at]; omega) (s_RW_eq hr (fun j hj => by rw [e14, x_up2_off (Or.inr (by omega))]; exact hlo j (by omega)))
                                                            have hd2 : s_dc (y5_5.toNatClampNeg :: l) := And.intro (fun a ha => by have := hf a ha; omega) hd
                                                            have h30b : (g14 22 3).toInt = 30 := (congrArg Int32.toInt (((hC24.1 22 3 rfl).1).symm.trans (hX.1 22 3 rfl).1)).trans h30
                                                            have hgl : gl5 25 = gl 25 := funext (fun j => ((hC24.1 25 j rfl).2.1).symm.trans (hX.1 25 j rfl).2.1)
                                                            have hfit := q15 h30b
                                                            rw [hgl, ← hn, ← s_ft_ix hd2 hr2] at hfit
                                                            have hq := q24 (y5_5.toNatClampNeg :: l) h30b hm1 hm4 (by rw [List.length_cons]; omega) hr2 hd2 (fun a ha => by rcases List.mem_cons.mp ha with h | h; (subst h; omega); (have := hf a h; omega))
                                                            rw [hgl] at hq
                                                            have c3 := t_clamp (i := z23) (by omega)
                                                            have hzn : z23.toNatClampNeg = y5_5.toNatClampNeg + 1 := by omega
                                                            rw [hzn] at hq
                                                            refine ⟨fun h => absurd h (by omega), fun _ => Or.inl ⟨rfl, ?_⟩, fun j hj => (hq.2.2 j (by omega)).trans ((show g14 26 j = gi5 26 j from (by rw [e14, x_up2_off (Or.inr (by omega))])).trans (hlo j hj))⟩
                                                            by_cases hz : ar2.toInt ≤ ar1.toInt + 1
                                                            · have hA := (hq.1 (by omega)).2
                                                              refine ⟨y5_5.toNatClampNeg :: l, ?_, by rw [hA]; exact hr2, by rw [List.length_cons]; omega⟩
                                                              rw [hx, s_X_s (by omega) (hfit.mp (by omega)), s_ifT (by omega)]; rfl
                                                            · obtain ⟨_, L, g1, g2, g3⟩ := (hq.2.1 (by omega)).resolve_right (fun hh => absurd hh.1 (by omega))
                                                              exact ⟨L, (by rw [hx, s_X_s (by omega) (hfit.mp (by omega)), s_ifF (by omega), g1]; rfl), g2, g3⟩))⟩⟩
    refine ev_sub (lo := [(5, .int ar3), (0, .ref 22), (1, .int ar1), (2, .int ar2), (3, .int ar3), (4, .int ar4)]) rfl (t_sc rfl (t_sc rfl (t_sc rfl (t_sc rfl (t_sc rfl (t_sc rfl t_sn)))))) ?_
    exact L5 _ gi gl gr (ar3) hI hX  l_a3 u_a3 rfl (fun l h30 hm1 hm4 hl hr hd hf => ⟨rfl, Int.le_refl _, fun _ _ => rfl⟩) rfl
  · have r31 : ar2.toInt ≤ ar1.toInt := Int32.le_iff_toInt_le.mp (t_nlt h2)
    have u32 : ar2.toInt ≤ 4 := t_leu (t_nlt h2) u_a1
    refine ev_ic f_X0_extend (nx := 6) (v := 1) rfl (by decide) rfl ?_
    exact ev_ret f_X0_extend rfl rfl rfl ⟨_, _, _, rfl, hI, hX, ⟨_, rfl, (Int.le_trans (by decide : (0:Int) ≤ 1) (by decide : (1:Int) ≤ (1:Int32).toInt)), (by decide : (1:Int32).toInt ≤ (1:Int)), (show ∀ l : List Nat, (gi 22 3).toInt = 30 → 1 ≤ ar2.toInt → ar2.toInt ≤ 4 → (l.length : Int) = ar1.toInt → s_RW (gi 26) l → s_dc l → (∀ a, a ∈ l → (a : Int) < ar3.toInt) → (ar2.toInt ≤ ar1.toInt → (1 : Int) = 1 ∧ gi 26 = gi 26) ∧ (ar1.toInt < ar2.toInt → ((1 : Int) = 1 ∧ ∃ L, s_X (gl 25) ar4.toNatClampNeg ar2.toNatClampNeg l ar3.toNatClampNeg = some L ∧ s_RW (gi 26) L ∧ (L.length : Int) = ar2.toInt) ∨ ((1 : Int) = 0 ∧ s_X (gl 25) ar4.toNatClampNeg ar2.toNatClampNeg l ar3.toNatClampNeg = none)) ∧ ∀ j : Nat, (j : Int) < ar1.toInt → gi 26 j = gi 26 j from (by
                                                            intro l h30 hm1 hm4 hl hr hd hf
                                                            have ck := t_clamp (i := ar1) l_a1
                                                            have cm := t_clamp (i := ar2) (by omega)
                                                            have ce := t_clamp (i := ar4) (by omega)
                                                            have hn : l.length = ar1.toNatClampNeg := by omega
                                                            exact ⟨fun _ => ⟨rfl, rfl⟩, fun h => absurd h (by omega), fun _ _ => rfl⟩))⟩⟩
theorem c_d_ext {X : x_Ext} {d : Nat} {sh : List (Nat ⊕ (Nat × Nat))} {gi : Nat → Nat → Int32} {gl : Nat → Nat → Int64} {gr : Nat → Nat → Value} (hI : t_I sh gi gr) (ar1 : Int32) (l_a1 : 0 ≤ ar1.toInt) (u_a1 : ar1.toInt ≤ 4) (ar2 : Int32) (ar3 : Int32) (l_a3 : 0 ≤ ar3.toInt) (u_a3 : ar3.toInt ≤ 30) (ar4 : Int32) (l_a4 : 0 ≤ ar4.toInt) (u_a4 : ar4.toInt ≤ 30) : x_Me X (d + 9) n_X0_extend [.ref 22, .int ar1, .int ar2, .int ar3, .int ar4] (sh, gi, gl, gr) (t_PI wl_d_ext sh gi gl gr 0 1 (Q_d_ext gi gl gr ar1 ar2 ar3 ar4)) := r_d_ext 6 hI ar1 l_a1 u_a1 ar2 ar3 l_a3 u_a3 ar4 l_a4 u_a4 (by omega)
noncomputable def wl_d_find : List (Nat × Nat) := [(22, 6), (25, 9999), (26, 9999), (27, 9999)]
noncomputable def Q_d_find (gi : Nat → Nat → Int32) (gl : Nat → Nat → Int64) (gr : Nat → Nat → Value) (ar1 : Int32) (ar2 : Int32) (ar3 : Int32) : Int32 → (Nat → Nat → Int32) → (Nat → Nat → Int64) → (Nat → Nat → Value) → Prop := fun (v : Int32) (gi2 : Nat → Nat → Int32) (gl2 : Nat → Nat → Int64) (gr2 : Nat → Nat → Value) => t_CL gi gl → (v.toInt = 1 ∧ ∃ L, s_X (s_ch ar3.toInt) (s_cE ar2.toNatClampNeg) ar1.toNatClampNeg [] 0 = some L ∧ s_RW (gi2 27) L ∧ (L.length : Int) = ar1.toInt ∧ (gi2 22 6).toInt = ar1.toInt) ∨ (v.toInt = 0 ∧ s_X (s_ch ar3.toInt) (s_cE ar2.toNatClampNeg) ar1.toNatClampNeg [] 0 = none ∧ gi2 27 = gi 27 ∧ gi2 22 6 = gi 22 6)
theorem c_d_find {X : x_Ext} {d : Nat} {sh : List (Nat ⊕ (Nat × Nat))} {gi : Nat → Nat → Int32} {gl : Nat → Nat → Int64} {gr : Nat → Nat → Value} (hI : t_I sh gi gr) (ar1 : Int32) (l_a1 : 1 ≤ ar1.toInt) (u_a1 : ar1.toInt ≤ 4) (ar2 : Int32) (l_a2 : 1 ≤ ar2.toInt) (u_a2 : ar2.toInt ≤ 4) (ar3 : Int32) (l_a3 : 0 ≤ ar3.toInt) (u_a3 : ar3.toInt ≤ 9) : x_Me X (d + 10) n_X0_find [.ref 22, .int ar1, .int ar2, .int ar3] (sh, gi, gl, gr) (t_PI wl_d_find sh gi gl gr 0 1 (Q_d_find gi gl gr ar1 ar2 ar3)) := by
  have hX : t_X wl_d_find sh gi gl gr gi gl gr := t_X.rf
  refine me_i f_X0_find (hI.wf.s rfl) rfl rfl rfl ?_
  obtain ⟨l1, u1⟩ := hI.b (hI.wf.s (k := 22) rfl) (t_bdK rfl : t_bd 0 6 = some (0, 4))
  refine ev_ic f_X0_find (nx := 1) (v := 0) rfl (by decide) rfl ?_
  refine ev_loc f_X0_find (nx := 3) (lo' := [(4, .int 0), (0, .ref 22), (1, .int ar1), (2, .int ar2), (3, .int ar3)]) rfl rfl rfl rfl ?_
  refine ev_ic f_X0_find (nx := 4) (v := 0) rfl (by decide) rfl ?_
  refine ev_loc f_X0_find (nx := 6) (lo' := [(5, .int 0), (4, .int 0), (0, .ref 22), (1, .int ar1), (2, .int ar2), (3, .int ar3)]) rfl rfl rfl rfl ?_
  have L2 : ∀ (m2 : Nat) (gi2 : Nat → Nat → Int32) (gl2 : Nat → Nat → Int64) (gr2 : Nat → Nat → Value) (y2_5 : Int32) (y2_4 : Int32), t_I sh gi2 gr2 → t_X wl_d_find sh gi gl gr gi2 gl2 gr2 → 0 ≤ y2_5.toInt → y2_5.toInt ≤ 30 → 0 ≤ y2_4.toInt → y2_4.toInt ≤ 30 → gi2 22 6 = (gi 22 6) → (t_CL gi gl → (∀ k : Nat, (k : Int) < y2_5.toInt → gl2 25 k = s_ch ar3.toInt k) ∧ y2_4.toInt = min y2_5.toInt ((s_cE ar2.toNatClampNeg : Nat) : Int) ∧ gi2 27 = gi 27 ∧ gi2 22 6 = gi 22 6) → (30 - y2_5.toInt).toNat = m2 → x_Ev X (d + 10) n_X0_find 6 [(5, .int y2_5), (4, .int y2_4), (0, .ref 22), (1, .int ar1), (2, .int ar2), (3, .int ar3)] [] (sh, gi2, gl2, gr2) (t_PI wl_d_find sh gi gl gr 0 1 (Q_d_find gi gl gr ar1 ar2 ar3)) := by
    intro m2
    induction m2 using Nat.strongRecOn with
    | _ m2 ih2 =>
    intro gi2 gl2 gr2 y2_5 y2_4 hI hX l2_5 u2_5 l2_4 u2_4 c2_0 j2_0 hm2
    refine ev_loc f_X0_find (nx := 8) rfl rfl rfl rfl ?_
    refine ev_loc f_X0_find (nx := 9) rfl rfl rfl rfl ?_
    refine ev_getI f_X0_find (nx := 12) rfl (hI.wf.s rfl) rfl rfl rfl ?_
    obtain ⟨l3, u3⟩ := hI.b (hI.wf.s (k := 22) rfl) (t_bdK rfl : t_bd 0 3 = some (0, 30))
    refine ev_if f_X0_find (t1 := 59) (t2 := 15) rfl rfl rfl (fun h4 => ?_) (fun h4 => ?_)
    · have r5 : (gi2 22 3).toInt ≤ y2_5.toInt := Int32.le_iff_toInt_le.mp h4
      refine ev_loc f_X0_find (nx := 60) rfl rfl rfl rfl ?_
      refine ev_loc f_X0_find (nx := 61) rfl rfl rfl rfl ?_
      refine ev_getR f_X0_find (nx := 64) rfl (hI.wf.s rfl) rfl rfl (hI.wf.r rfl) rfl rfl ?_
      refine ev_alenv f_X0_find (nx := 65) (w := 4) rfl (hI.wf.s rfl) rfl (by decide) rfl ?_
      refine ev_f f_X0_find (t1 := 80) (t2 := 68) rfl rfl rfl (t_ltF u_a1 (by decide : (4:Int) ≤ (4:Int32).toInt) (by decide)) ?_
      refine ev_loc f_X0_find (nx := 69) rfl rfl rfl rfl ?_
      refine ev_ic f_X0_find (nx := 70) (v := 0) rfl (by decide) rfl ?_
      refine ev_loc f_X0_find (nx := 71) rfl rfl rfl rfl ?_
      refine ev_ic f_X0_find (nx := 72) (v := 0) rfl (by decide) rfl ?_
      refine ev_loc f_X0_find (nx := 74) rfl rfl rfl rfl ?_
      refine ev_qI f_X0_find (nx := 77) (r := []) rfl rfl rfl rfl rfl rfl rfl (c_d_ext hI (0) (by decide : (0:Int) ≤ (0:Int32).toInt) (Int.le_trans (by decide : (0:Int32).toInt ≤ (0:Int)) (by decide : (0:Int) ≤ 4)) (ar1) (0) (by decide : (0:Int) ≤ (0:Int32).toInt) (Int.le_trans (by decide : (0:Int32).toInt ≤ (0:Int)) (by decide : (0:Int) ≤ 30)) (y2_4) l2_4 u2_4) rfl hX rfl (fun w6 gi6 gl6 gr6 l6 u6 hI hX hC6 q6 => ?_)
      have q6 : ∀ l : List Nat, (gi2 22 3).toInt = 30 → 1 ≤ ar1.toInt → ar1.toInt ≤ 4 → (l.length : Int) = 0 → s_RW (gi2 26) l → s_dc l → (∀ a, a ∈ l → (a : Int) < 0) → (ar1.toInt ≤ 0 → w6.toInt = 1 ∧ gi6 26 = gi2 26) ∧ (0 < ar1.toInt → (w6.toInt = 1 ∧ ∃ L, s_X (gl2 25) y2_4.toNatClampNeg ar1.toNatClampNeg l (0 : Int32).toNatClampNeg = some L ∧ s_RW (gi6 26) L ∧ (L.length : Int) = ar1.toInt) ∨ (w6.toInt = 0 ∧ s_X (gl2 25) y2_4.toNatClampNeg ar1.toNatClampNeg l (0 : Int32).toNatClampNeg = none)) ∧ ∀ j : Nat, (j : Int) < 0 → gi6 26 j = gi2 26 j := q6
      refine ev_if f_X0_find (t1 := 80) (t2 := 82) rfl rfl rfl (fun h7 => ?_) (fun h7 => ?_)
      · have u8 : w6.toInt ≤ 0 := t_equ h7 (by decide : (0:Int32).toInt ≤ (0:Int))
        refine ev_ic f_X0_find (nx := 81) (v := 0) rfl (by decide) rfl ?_
        exact ev_ret f_X0_find rfl rfl rfl ⟨_, _, _, rfl, hI, hX, ⟨_, rfl, (by decide : (0:Int) ≤ (0:Int32).toInt), (Int.le_trans (by decide : (0:Int32).toInt ≤ (0:Int)) (by decide : (0:Int) ≤ 1)), (show t_CL gi gl → ((0 : Int) = 1 ∧ ∃ L, s_X (s_ch ar3.toInt) (s_cE ar2.toNatClampNeg) ar1.toNatClampNeg [] 0 = some L ∧ s_RW (gi6 27) L ∧ (L.length : Int) = ar1.toInt ∧ (gi6 22 6).toInt = ar1.toInt) ∨ ((0 : Int) = 0 ∧ s_X (s_ch ar3.toInt) (s_cE ar2.toNatClampNeg) ar1.toNatClampNeg [] 0 = none ∧ gi6 27 = gi 27 ∧ gi6 22 6 = gi 22 6) from (by
                                                            intro hC
                                                            obtain ⟨g1, g2, g27, g26⟩ := j2_0 hC
                                                            have cy := t_clamp (i := y2_5) (by omega)
                                                            have c1 := t_clamp (i := ar1) (by omega)
                                                            have c2 := t_clamp (i := ar2) (by omega)
                                                            have h30 : (gi 22 3).toInt = 30 := hC.1
                                                            have hE := s_cE_b (n := ar2.toNatClampNeg) (by omega) (by omega)
                                                            have c4 := t_clamp (i := y2_4) (by omega)
                                                            have hm : (gi2 22 3).toInt = (gi 22 3).toInt := (congrArg Int32.toInt (((hC6.1 22 3 rfl).1).symm.trans (hX.1 22 3 rfl).1))
                                                            have e4z : y2_4.toNatClampNeg = s_cE ar2.toNatClampNeg := by omega
                                                            have hcg : ∀ k : Nat, s_X (gl2 25) (s_cE ar2.toNatClampNeg) k [] 0 = s_X (s_ch ar3.toInt) (s_cE ar2.toNatClampNeg) k [] 0 := fun k => s_X_cg (fun a ha => g1 a (by omega))
                                                            have hq := q6 [] (by omega) (by omega) (by omega) rfl trivial trivial (fun a ha => absurd ha (by intro hh; cases hh))
                                                            have z0 : (0 : Int32).toInt = 0 := rfl
                                                            have zN : (0 : Int32).toNatClampNeg = 0 := rfl
                                                            rw [zN, e4z, hcg] at hq
                                                            have hno := ((hq.2.1 (by omega)).resolve_left (fun hh => absurd hh.1 (by omega))).2
                                                            exact Or.inr ⟨rfl, hno, (funext (fun j => (hC6.1 27 j rfl).1)).trans g27, (hC6.1 22 6 rfl).1.trans g26⟩))⟩⟩
      · have r9 : w6.toInt ≠ 0 := fun e => h7 (Int32.toInt_inj.mp (e.trans (by decide : (0:Int) = (0 : Int32).toInt)))
        have l10 : 1 ≤ w6.toInt := t_nel h7 l6 rfl rfl
        refine ev_loc f_X0_find (nx := 83) rfl rfl rfl rfl ?_
        refine ev_getR f_X0_find (nx := 86) rfl (hI.wf.s rfl) rfl rfl (hI.wf.r rfl) rfl rfl ?_
        refine ev_ic f_X0_find (nx := 87) (v := 0) rfl (by decide) rfl ?_
        refine ev_loc f_X0_find (nx := 88) rfl rfl rfl rfl ?_
        refine ev_getR f_X0_find (nx := 91) rfl (hI.wf.s rfl) rfl rfl (hI.wf.r rfl) rfl rfl ?_
        refine ev_ic f_X0_find (nx := 92) (v := 0) rfl (by decide) rfl ?_
        refine ev_loc f_X0_find (nx := 93) rfl rfl rfl rfl ?_
        refine ev_cpyTIE f_X0_find (nx := 96) rfl rfl (hI.wf.s (k := 26) rfl) (hI.wf.s (k := 27) rfl) (by omega) (by decide : (0:Int) ≤ (0:Int32).toInt) (by decide : (0:Int32).toInt ≤ (0:Int)) (by decide : (0:Int) ≤ (0:Int32).toInt) (by decide : (0:Int32).toInt ≤ (0:Int)) (Int.le_trans (by decide : (0:Int) ≤ 1) l_a1) u_a1 (by decide) (by decide) rfl (hI.arr (hI.wf.s (k := 27) rfl) (t_cp27 hI _) (by decide)) (hX.arrI (fun j => t_inA_ok rfl)) (fun g11 e11 hI hX => ?_)
        refine ev_loc f_X0_find (nx := 97) rfl rfl rfl rfl ?_
        refine ev_loc f_X0_find (nx := 98) rfl rfl rfl rfl ?_
        refine ev_putIT f_X0_find (nx := 101) rfl (hI.wf.s rfl) rfl rfl rfl (hI.putB (hI.wf.s rfl) rfl rfl l_a1 (by decide) u_a1 (by decide)) (hX.upI rfl) (fun g12 e12 hI hX => ?_)
        refine ev_ic f_X0_find (nx := 102) (v := 1) rfl (by decide) rfl ?_
        exact ev_ret f_X0_find rfl rfl rfl ⟨_, _, _, rfl, hI, hX, ⟨_, rfl, (Int.le_trans (by decide : (0:Int) ≤ 1) (by decide : (1:Int) ≤ (1:Int32).toInt)), (by decide : (1:Int32).toInt ≤ (1:Int)), (show t_CL gi gl → ((1 : Int) = 1 ∧ ∃ L, s_X (s_ch ar3.toInt) (s_cE ar2.toNatClampNeg) ar1.toNatClampNeg [] 0 = some L ∧ s_RW (g12 27) L ∧ (L.length : Int) = ar1.toInt ∧ (g12 22 6).toInt = ar1.toInt) ∨ ((1 : Int) = 0 ∧ s_X (s_ch ar3.toInt) (s_cE ar2.toNatClampNeg) ar1.toNatClampNeg [] 0 = none ∧ g12 27 = gi 27 ∧ g12 22 6 = gi 22 6) from (by
                                                            intro hC
                                                            obtain ⟨g1, g2, g27, g26⟩ := j2_0 hC
                                                            have cy := t_clamp (i := y2_5) (by omega)
                                                            have c1 := t_clamp (i := ar1) (by omega)
                                                            have c2 := t_clamp (i := ar2) (by omega)
                                                            have h30 : (gi 22 3).toInt = 30 := hC.1
                                                            have hE := s_cE_b (n := ar2.toNatClampNeg) (by omega) (by omega)
                                                            have c4 := t_clamp (i := y2_4) (by omega)
                                                            have hm : (gi2 22 3).toInt = (gi 22 3).toInt := (congrArg Int32.toInt (((hC6.1 22 3 rfl).1).symm.trans ((by rw [e12, x_up2_off (Or.inr (by decide)), e11]; exact congrFun (if_neg (by decide)) 3 : g12 22 3 = gi6 22 3).symm.trans (hX.1 22 3 rfl).1)))
                                                            have e4z : y2_4.toNatClampNeg = s_cE ar2.toNatClampNeg := by omega
                                                            have hcg : ∀ k : Nat, s_X (gl2 25) (s_cE ar2.toNatClampNeg) k [] 0 = s_X (s_ch ar3.toInt) (s_cE ar2.toNatClampNeg) k [] 0 := fun k => s_X_cg (fun a ha => g1 a (by omega))
                                                            have hq := q6 [] (by omega) (by omega) (by omega) rfl trivial trivial (fun a ha => absurd ha (by intro hh; cases hh))
                                                            have z0 : (0 : Int32).toInt = 0 := rfl
                                                            have zN : (0 : Int32).toNatClampNeg = 0 := rfl
                                                            rw [zN, e4z, hcg] at hq
                                                            obtain ⟨_, L, g3, g4, g5⟩ := (hq.2.1 (by omega)).resolve_right (fun hh => absurd hh.1 (by omega))
                                                            refine Or.inl ⟨rfl, L, g3, ?_, g5, by rw [e12, x_up2_at]⟩
                                                            refine s_RW_eq g4 (fun j hj => ?_)
                                                            rw [e12, x_up2_ne (by decide), e11]
                                                            show (if 27 = 27 then va_cpy (gi6 26) (gi6 27) (0 : Int32).toNatClampNeg (0 : Int32).toNatClampNeg ar1.toNatClampNeg else gi6 27) j = _
                                                            rw [if_pos rfl, zN]
                                                            unfold va_cpy
                                                            rw [if_pos ⟨by omega, by omega⟩, show 0 + (j - 0) = j by omega]))⟩⟩
    · have r13 : y2_5.toInt < (gi2 22 3).toInt := Int32.lt_iff_toInt_lt.mp (t_nle h4)
      have u14 : y2_5.toInt ≤ 29 := t_ltu (t_nle h4) u3 rfl
      have l15 : 1 ≤ (gi2 22 3).toInt := t_ltl (t_nle h4) l2_5 rfl
      refine ev_loc f_X0_find (nx := 16) rfl rfl rfl rfl ?_
      refine ev_getR f_X0_find (nx := 19) rfl (hI.wf.s rfl) rfl rfl (hI.wf.r rfl) rfl rfl ?_
      refine ev_loc f_X0_find (nx := 21) rfl rfl rfl rfl ?_
      refine ev_loc f_X0_find (nx := 22) rfl rfl rfl rfl ?_
      refine ev_getR f_X0_find (nx := 25) rfl (hI.wf.s rfl) rfl rfl (hI.wf.r rfl) rfl rfl ?_
      refine ev_loc f_X0_find (nx := 27) rfl rfl rfl rfl ?_
      refine ev_laldT f_X0_find (nx := 28) rfl (hI.wf.s rfl) l2_5 (by decide) u14 (by decide) rfl (fun w16 e16 => ?_)
      refine ev_qL0 f_X0_find (nx := 31) (r := [.int y2_5, .ref 25]) rfl rfl rfl rfl rfl rfl rfl (c_s_soundOf hI (w16)) rfl (fun w17 q17 => ?_)
      have q17 : w17 = s_snd w16 := q17
      refine ev_loc f_X0_find (nx := 32) rfl rfl rfl rfl ?_
      refine ev_inS2 f_X0_find (nx := 35) (lo2 := [(0, .long w17), (2, .int ar3)]) rfl rfl rfl rfl f_X5_withEcho rfl rfl rfl rfl ?_
      refine ev_loc f_X5_withEcho (nx := 1) rfl rfl rfl rfl ?_
      refine ev_loc f_X5_withEcho (nx := 2) rfl rfl rfl rfl ?_
      refine ev_loc f_X5_withEcho (nx := 3) rfl rfl rfl rfl ?_
      refine ev_anyLE f_X5_withEcho (nx := 4) rfl rfl rfl rfl (fun z18 e18 => ?_)
      refine ev_anyLE f_X5_withEcho (nx := 5) rfl rfl rfl rfl (fun z19 e19 => ?_)
      refine ev_retK1 f_X5_withEcho rfl rfl rfl ?_
      refine ev_lastT f_X0_find (nx := 36) rfl (hI.wf.s rfl) l2_5 (by decide) u14 (by decide) rfl (hX.upL (t_inA_ok rfl)) (fun g20 e20 hX => ?_)
      refine ev_loc f_X0_find (nx := 37) rfl rfl rfl rfl ?_
      refine ev_getR f_X0_find (nx := 40) rfl (hI.wf.s rfl) rfl rfl (hI.wf.r rfl) rfl rfl ?_
      refine ev_loc f_X0_find (nx := 42) rfl rfl rfl rfl ?_
      refine ev_ialdT f_X0_find (nx := 43) rfl (hI.wf.s rfl) l2_5 (by decide) u14 (by decide) rfl (fun w21 e21 => ?_)
      refine ev_loc f_X0_find (nx := 44) rfl rfl rfl rfl ?_
      refine ev_if f_X0_find (t1 := 53) (t2 := 47) rfl rfl rfl (fun h22 => ?_) (fun h22 => ?_)
      · have r23 : ar2.toInt < w21.toInt := Int32.lt_iff_toInt_lt.mp h22
        have l24 : 2 ≤ w21.toInt := t_ltl h22 l_a2 rfl
        refine ev_incR f_X0_find (nx := 56) (c := 1) (l := 1) (u := 30) rfl rfl (by decide) (by decide) l2_5 u14 rfl rfl (by decide) (by decide) rfl (fun z25 e25 l25 u25 => ?_)
        refine ev_jmp f_X0_find (nx := 6) rfl rfl rfl ?_
        refine ev_sub (lo := [(5, .int z25), (4, .int y2_4), (0, .ref 22), (1, .int ar1), (2, .int ar2), (3, .int ar3)]) rfl (t_sc rfl (t_sc rfl (t_sc rfl (t_sc rfl (t_sc rfl (t_sc rfl t_sn)))))) ?_
        exact ih2 _ (by omega) gi2 g20 gr2 (z25) (y2_4) hI hX  (Int.le_trans (by decide : (0:Int) ≤ 1) l25) u25 l2_4 u2_4 c2_0 (fun hC => (by
                                                            obtain ⟨g1, g2, g3, g4⟩ := j2_0 hC
                                                            have cy := t_clamp (i := y2_5) (by omega)
                                                            have c2 := t_clamp (i := ar2) (by omega)
                                                            have h30 : (gi 22 3).toInt = 30 := hC.1
                                                            have hm : (gi2 22 3).toInt = (gi 22 3).toInt := congrArg Int32.toInt (hX.1 22 3 rfl).1
                                                            have hL := hC.2 y2_5.toNatClampNeg (by omega)
                                                            have hw : w16 = s_cL y2_5.toNatClampNeg := by rw [e16]; exact ((show g20 23 y2_5.toNatClampNeg = gl2 23 y2_5.toNatClampNeg from (by rw [e20, x_up2_off (Or.inl (by decide))])).symm.trans (hX.1 23 _ rfl).2.1).trans hL.1
                                                            have hs : w17 = s_snd (s_cL y2_5.toNatClampNeg) := by rw [← hw]; exact q17
                                                            have hv : z19 = s_ch ar3.toInt y2_5.toNatClampNeg := by unfold s_ch; rw [← hs]; exact s_ec_e e18 e19 rfl
                                                            have hb : w21.toInt = ((s_cn y2_5.toNatClampNeg : Nat) : Int) := by rw [e21]; exact (congrArg Int32.toInt (hX.1 24 _ rfl).1).trans hL.2
                                                            have hE := s_cE_k (k := y2_5.toNatClampNeg) (n := ar2.toNatClampNeg) (by omega) (by omega) (by omega)
                                                            refine ⟨fun k hk => ?_, ?_, g3, g4⟩
                                                            · by_cases hk2 : k = y2_5.toNatClampNeg
                                                              · rw [hk2, e20, x_up2_at]; exact hv
                                                              · rw [e20, x_up2_off (Or.inr hk2)]; exact g1 k (by omega)
                                                            · rcases Nat.lt_or_ge y2_5.toNatClampNeg (s_cE ar2.toNatClampNeg) with hh | hh
                                                              · have h9 := hE.mpr hh; omega
                                                              · have h9 : ¬ s_cn y2_5.toNatClampNeg ≤ ar2.toNatClampNeg := fun h8 => by have := hE.mp h8; omega
                                                                omega)) rfl
      · have r26 : w21.toInt ≤ ar2.toInt := Int32.le_iff_toInt_le.mp (t_nlt h22)
        have u27 : w21.toInt ≤ 4 := t_leu (t_nlt h22) u_a2
        refine ev_loc f_X0_find (nx := 49) rfl rfl rfl rfl ?_
        refine ev_ic f_X0_find (nx := 50) (v := 1) rfl (by decide) rfl ?_
        refine ev_addC f_X0_find (nx := 51) (c := 1) (l := 1) (u := 30) rfl (by decide) l2_5 u14 rfl rfl (by decide) (by decide) rfl (fun z28 e28 l28 u28 => ?_)
        refine ev_loc f_X0_find (nx := 53) (lo' := [(4, .int z28), (5, .int y2_5), (0, .ref 22), (1, .int ar1), (2, .int ar2), (3, .int ar3)]) rfl rfl rfl rfl ?_
        refine ev_incR f_X0_find (nx := 56) (c := 1) (l := 1) (u := 30) rfl rfl (by decide) (by decide) l2_5 u14 rfl rfl (by decide) (by decide) rfl (fun z29 e29 l29 u29 => ?_)
        refine ev_jmp f_X0_find (nx := 6) rfl rfl rfl ?_
        refine ev_sub (lo := [(5, .int z29), (4, .int z28), (0, .ref 22), (1, .int ar1), (2, .int ar2), (3, .int ar3)]) rfl (t_sc rfl (t_sc rfl (t_sc rfl (t_sc rfl (t_sc rfl (t_sc rfl t_sn)))))) ?_
        exact ih2 _ (by omega) gi2 g20 gr2 (z29) (z28) hI hX  (Int.le_trans (by decide : (0:Int) ≤ 1) l29) u29 (Int.le_trans (by decide : (0:Int) ≤ 1) l28) u28 c2_0 (fun hC => (by
                                                            obtain ⟨g1, g2, g3, g4⟩ := j2_0 hC
                                                            have cy := t_clamp (i := y2_5) (by omega)
                                                            have c2 := t_clamp (i := ar2) (by omega)
                                                            have h30 : (gi 22 3).toInt = 30 := hC.1
                                                            have hm : (gi2 22 3).toInt = (gi 22 3).toInt := congrArg Int32.toInt (hX.1 22 3 rfl).1
                                                            have hL := hC.2 y2_5.toNatClampNeg (by omega)
                                                            have hw : w16 = s_cL y2_5.toNatClampNeg := by rw [e16]; exact ((show g20 23 y2_5.toNatClampNeg = gl2 23 y2_5.toNatClampNeg from (by rw [e20, x_up2_off (Or.inl (by decide))])).symm.trans (hX.1 23 _ rfl).2.1).trans hL.1
                                                            have hs : w17 = s_snd (s_cL y2_5.toNatClampNeg) := by rw [← hw]; exact q17
                                                            have hv : z19 = s_ch ar3.toInt y2_5.toNatClampNeg := by unfold s_ch; rw [← hs]; exact s_ec_e e18 e19 rfl
                                                            have hb : w21.toInt = ((s_cn y2_5.toNatClampNeg : Nat) : Int) := by rw [e21]; exact (congrArg Int32.toInt (hX.1 24 _ rfl).1).trans hL.2
                                                            have hE := s_cE_k (k := y2_5.toNatClampNeg) (n := ar2.toNatClampNeg) (by omega) (by omega) (by omega)
                                                            refine ⟨fun k hk => ?_, ?_, g3, g4⟩
                                                            · by_cases hk2 : k = y2_5.toNatClampNeg
                                                              · rw [hk2, e20, x_up2_at]; exact hv
                                                              · rw [e20, x_up2_off (Or.inr hk2)]; exact g1 k (by omega)
                                                            · rcases Nat.lt_or_ge y2_5.toNatClampNeg (s_cE ar2.toNatClampNeg) with hh | hh
                                                              · have h9 := hE.mpr hh; omega
                                                              · have h9 : ¬ s_cn y2_5.toNatClampNeg ≤ ar2.toNatClampNeg := fun h8 => by have := hE.mp h8; omega
                                                                omega)) rfl
  refine ev_sub (lo := [(5, .int 0), (4, .int 0), (0, .ref 22), (1, .int ar1), (2, .int ar2), (3, .int ar3)]) rfl (t_sc rfl (t_sc rfl (t_sc rfl (t_sc rfl (t_sc rfl (t_sc rfl t_sn)))))) ?_
  exact L2 _ gi gl gr (0) (0) hI hX  (by decide : (0:Int) ≤ (0:Int32).toInt) (Int.le_trans (by decide : (0:Int32).toInt ≤ (0:Int)) (by decide : (0:Int) ≤ 30)) (by decide : (0:Int) ≤ (0:Int32).toInt) (Int.le_trans (by decide : (0:Int32).toInt ≤ (0:Int)) (by decide : (0:Int) ≤ 30)) rfl (fun hC => ⟨fun k hk => absurd hk (by have z0 : (0 : Int32).toInt = 0 := rfl; omega), by have z0 : (0 : Int32).toInt = 0 := rfl; omega, rfl, rfl⟩) rfl
noncomputable def wl_d_bt : List (Nat × Nat) := []
noncomputable def Q_d_bt (gi : Nat → Nat → Int32) (gl : Nat → Nat → Int64) (gr : Nat → Nat → Value) : Int32 → (Nat → Nat → Int32) → (Nat → Nat → Int64) → (Nat → Nat → Value) → Prop := fun (v : Int32) (gi2 : Nat → Nat → Int32) (gl2 : Nat → Nat → Int64) (gr2 : Nat → Nat → Value) => v = s_sI (fun i => gi 24 (gi 27 i).toInt.toNat) (gi 22 6).toInt.toNat
theorem c_d_bt {X : x_Ext} {d : Nat} {sh : List (Nat ⊕ (Nat × Nat))} {gi : Nat → Nat → Int32} {gl : Nat → Nat → Int64} {gr : Nat → Nat → Value} (hI : t_I sh gi gr) : x_Me X (d + 1) n_X0_blastsTold [.ref 22] (sh, gi, gl, gr) (t_PI wl_d_bt sh gi gl gr (-2147483648) 2147483647 (Q_d_bt gi gl gr)) := by
  have hX : t_X wl_d_bt sh gi gl gr gi gl gr := t_X.rf
  refine me_i f_X0_blastsTold (hI.wf.s rfl) rfl rfl rfl ?_
  obtain ⟨l1, u1⟩ := hI.b (hI.wf.s (k := 22) rfl) (t_bdK rfl : t_bd 0 6 = some (0, 4))
  refine ev_ic f_X0_blastsTold (nx := 1) (v := 0) rfl (by decide) rfl ?_
  refine ev_loc f_X0_blastsTold (nx := 2) (lo' := [(1, .int 0), (0, .ref 22)]) rfl rfl rfl rfl ?_
  refine ev_ic f_X0_blastsTold (nx := 3) (v := 0) rfl (by decide) rfl ?_
  refine ev_loc f_X0_blastsTold (nx := 4) (lo' := [(2, .int 0), (1, .int 0), (0, .ref 22)]) rfl rfl rfl rfl ?_
  have L2 : ∀ (m2 : Nat) (y2_2 : Int32) (y2_1 : Int32), 0 ≤ y2_2.toInt → y2_2.toInt ≤ 4 → (y2_1 = s_sI (fun i => gi 24 (gi 27 i).toInt.toNat) y2_2.toNatClampNeg ∧ y2_2.toInt ≤ (gi 22 6).toInt) → (4 - y2_2.toInt).toNat = m2 → x_Ev X (d + 1) n_X0_blastsTold 4 [(2, .int y2_2), (1, .int y2_1), (0, .ref 22)] [] (sh, gi, gl, gr) (t_PI wl_d_bt sh gi gl gr (-2147483648) 2147483647 (Q_d_bt gi gl gr)) := by
    intro m2
    induction m2 using Nat.strongRecOn with
    | _ m2 ih2 =>
    intro y2_2 y2_1 l2_2 u2_2 j2_0 hm2
    refine ev_loc f_X0_blastsTold (nx := 5) rfl rfl rfl rfl ?_
    refine ev_loc f_X0_blastsTold (nx := 6) rfl rfl rfl rfl ?_
    refine ev_gvI f_X0_blastsTold (nx := 9) (w := (gi 22 6)) rfl (hI.wf.s rfl) rfl rfl rfl rfl ?_
    refine ev_if f_X0_blastsTold (t1 := 32) (t2 := 12) rfl rfl rfl (fun h3 => ?_) (fun h3 => ?_)
    · have r4 : (gi 22 6).toInt ≤ y2_2.toInt := Int32.le_iff_toInt_le.mp h3
      refine ev_loc f_X0_blastsTold (nx := 33) rfl rfl rfl rfl ?_
      exact ev_ret f_X0_blastsTold rfl rfl rfl ⟨_, _, _, rfl, hI, hX, ⟨_, rfl, (t_lo y2_1), (t_hi y2_1), (show y2_1 = s_sI (fun i => gi 24 (gi 27 i).toInt.toNat) (gi 22 6).toInt.toNat from (by
                                                            obtain ⟨g1, g2⟩ := j2_0
                                                            have cy := t_clamp (i := y2_2) (by omega)
                                                            rw [g1, show y2_2.toNatClampNeg = (gi 22 6).toInt.toNat by omega]))⟩⟩
    · have r5 : y2_2.toInt < (gi 22 6).toInt := Int32.lt_iff_toInt_lt.mp (t_nle h3)
      have u6 : y2_2.toInt ≤ 3 := t_ltu (t_nle h3) u1 rfl
      have l7 : 1 ≤ (gi 22 6).toInt := t_ltl (t_nle h3) l2_2 rfl
      refine ev_loc f_X0_blastsTold (nx := 13) rfl rfl rfl rfl ?_
      refine ev_loc f_X0_blastsTold (nx := 14) rfl rfl rfl rfl ?_
      refine ev_getR f_X0_blastsTold (nx := 17) rfl (hI.wf.s rfl) rfl rfl (hI.wf.r rfl) rfl rfl ?_
      refine ev_loc f_X0_blastsTold (nx := 18) rfl rfl rfl rfl ?_
      refine ev_getR f_X0_blastsTold (nx := 21) rfl (hI.wf.s rfl) rfl rfl (hI.wf.r rfl) rfl rfl ?_
      refine ev_loc f_X0_blastsTold (nx := 22) rfl rfl rfl rfl ?_
      refine ev_ialdT f_X0_blastsTold (nx := 23) rfl (hI.wf.s rfl) l2_2 (by decide) u6 (by decide) rfl (fun w8 e8 => ?_)
      obtain ⟨l8, u8⟩ := hI.abi e8 (by decide +kernel : t_abr 27 0 3 0 29 = true) l2_2 (by decide) u6 (by decide)
      refine ev_ialdT f_X0_blastsTold (nx := 24) rfl (hI.wf.s rfl) l8 (by decide) u8 (by decide) rfl (fun w9 e9 => ?_)
      refine ev_anyIE f_X0_blastsTold (nx := 25) rfl rfl rfl rfl (fun z10 e10 => ?_)
      refine ev_loc f_X0_blastsTold (nx := 26) (lo' := [(1, .int z10), (2, .int y2_2), (0, .ref 22)]) rfl rfl rfl rfl ?_
      refine ev_incR f_X0_blastsTold (nx := 29) (c := 1) (l := 1) (u := 4) rfl rfl (by decide) (by decide) l2_2 u6 rfl rfl (by decide) (by decide) rfl (fun z11 e11 l11 u11 => ?_)
      refine ev_jmp f_X0_blastsTold (nx := 4) rfl rfl rfl ?_
      refine ev_sub (lo := [(2, .int z11), (1, .int z10), (0, .ref 22)]) rfl (t_sc rfl (t_sc rfl (t_sc rfl t_sn))) ?_
      exact ih2 _ (by omega) (z11) (z10) (Int.le_trans (by decide : (0:Int) ≤ 1) l11) u11 (by
                                                            obtain ⟨g1, g2⟩ := j2_0
                                                            have cy := t_clamp (i := y2_2) (by omega)
                                                            have cz := t_clamp (i := z11) (by omega)
                                                            have cw := t_clamp (i := w8) (by omega)
                                                            refine ⟨?_, by omega⟩
                                                            rw [show z11.toNatClampNeg = y2_2.toNatClampNeg + 1 by omega]
                                                            have h9 : w9 = gi 24 (gi 27 y2_2.toNatClampNeg).toInt.toNat := by rw [e9, ← e8, show w8.toNatClampNeg = w8.toInt.toNat by omega]
                                                            show _ = s_sI (fun i => gi 24 (gi 27 i).toInt.toNat) y2_2.toNatClampNeg + gi 24 (gi 27 y2_2.toNatClampNeg).toInt.toNat
                                                            rw [e10, g1, h9]) rfl
  refine ev_sub (lo := [(2, .int 0), (1, .int 0), (0, .ref 22)]) rfl (t_sc rfl (t_sc rfl (t_sc rfl t_sn))) ?_
  exact L2 _ (0) (0) (by decide : (0:Int) ≤ (0:Int32).toInt) (Int.le_trans (by decide : (0:Int32).toInt ≤ (0:Int)) (by decide : (0:Int) ≤ 4)) ⟨rfl, by have z0 : (0 : Int32).toInt = 0 := rfl; have := l1; omega⟩ rfl
noncomputable def wl_d_ct : List (Nat × Nat) := []
noncomputable def Q_d_ct (gi : Nat → Nat → Int32) (gl : Nat → Nat → Int64) (gr : Nat → Nat → Value) (ar1 : Int32) : Int64 → (Nat → Nat → Int32) → (Nat → Nat → Int64) → (Nat → Nat → Value) → Prop := fun (v : Int64) (gi2 : Nat → Nat → Int32) (gl2 : Nat → Nat → Int64) (gr2 : Nat → Nat → Value) => 0 ≤ ar1.toInt → ar1.toInt < (gi 22 6).toInt → v = gl 23 (gi 27 ar1.toNatClampNeg).toInt.toNat
theorem c_d_ct {X : x_Ext} {d : Nat} {sh : List (Nat ⊕ (Nat × Nat))} {gi : Nat → Nat → Int32} {gl : Nat → Nat → Int64} {gr : Nat → Nat → Value} (hI : t_I sh gi gr) (ar1 : Int32) : x_Me X (d + 1) n_X0_callTold [.ref 22, .int ar1] (sh, gi, gl, gr) (t_PL wl_d_ct sh gi gl gr (Q_d_ct gi gl gr ar1)) := by
  have hX : t_X wl_d_ct sh gi gl gr gi gl gr := t_X.rf
  refine me_i f_X0_callTold (hI.wf.s rfl) rfl rfl rfl ?_
  obtain ⟨l1, u1⟩ := hI.b (hI.wf.s (k := 22) rfl) (t_bdK rfl : t_bd 0 6 = some (0, 4))
  refine ev_loc f_X0_callTold (nx := 1) rfl rfl rfl rfl ?_
  refine ev_if f_X0_callTold (t1 := 26) (t2 := 4) rfl rfl rfl (fun h2 => ?_) (fun h2 => ?_)
  · have u3 : ar1.toInt ≤ (-1) := t_ltu h2 (by decide : (0:Int32).toInt ≤ (0:Int)) rfl
    refine ev_ldL f_X0_callTold (nx := 29) (v := -1) rfl (by decide) rfl ?_
    exact ev_ret f_X0_callTold rfl rfl rfl ⟨_, _, _, rfl, hI, hX, ⟨_, rfl, (show 0 ≤ ar1.toInt → ar1.toInt < (gi 22 6).toInt → ((-1) : Int64) = gl 23 (gi 27 ar1.toNatClampNeg).toInt.toNat from (by intro h0 h1; exfalso; omega))⟩⟩
  · have l4 : 0 ≤ ar1.toInt := t_lel (t_nlt h2) (by decide : (0:Int) ≤ (0:Int32).toInt)
    refine ev_loc f_X0_callTold (nx := 5) rfl rfl rfl rfl ?_
    refine ev_loc f_X0_callTold (nx := 6) rfl rfl rfl rfl ?_
    refine ev_gvI f_X0_callTold (nx := 9) (w := (gi 22 6)) rfl (hI.wf.s rfl) rfl rfl rfl rfl ?_
    refine ev_if f_X0_callTold (t1 := 26) (t2 := 12) rfl rfl rfl (fun h5 => ?_) (fun h5 => ?_)
    · have r6 : (gi 22 6).toInt ≤ ar1.toInt := Int32.le_iff_toInt_le.mp h5
      refine ev_ldL f_X0_callTold (nx := 29) (v := -1) rfl (by decide) rfl ?_
      exact ev_ret f_X0_callTold rfl rfl rfl ⟨_, _, _, rfl, hI, hX, ⟨_, rfl, (show 0 ≤ ar1.toInt → ar1.toInt < (gi 22 6).toInt → ((-1) : Int64) = gl 23 (gi 27 ar1.toNatClampNeg).toInt.toNat from (by intro h0 h1; exfalso; omega))⟩⟩
    · have r7 : ar1.toInt < (gi 22 6).toInt := Int32.lt_iff_toInt_lt.mp (t_nle h5)
      have u8 : ar1.toInt ≤ 3 := t_ltu (t_nle h5) u1 rfl
      have l9 : 1 ≤ (gi 22 6).toInt := t_ltl (t_nle h5) l4 rfl
      refine ev_loc f_X0_callTold (nx := 13) rfl rfl rfl rfl ?_
      refine ev_getR f_X0_callTold (nx := 16) rfl (hI.wf.s rfl) rfl rfl (hI.wf.r rfl) rfl rfl ?_
      refine ev_loc f_X0_callTold (nx := 17) rfl rfl rfl rfl ?_
      refine ev_getR f_X0_callTold (nx := 20) rfl (hI.wf.s rfl) rfl rfl (hI.wf.r rfl) rfl rfl ?_
      refine ev_loc f_X0_callTold (nx := 21) rfl rfl rfl rfl ?_
      refine ev_ialdT f_X0_callTold (nx := 22) rfl (hI.wf.s rfl) l4 (by decide) u8 (by decide) rfl (fun w10 e10 => ?_)
      obtain ⟨l10, u10⟩ := hI.abi e10 (by decide +kernel : t_abr 27 0 3 0 29 = true) l4 (by decide) u8 (by decide)
      refine ev_laldT f_X0_callTold (nx := 23) rfl (hI.wf.s rfl) l10 (by decide) u10 (by decide) rfl (fun w11 e11 => ?_)
      refine ev_jmp f_X0_callTold (nx := 29) rfl rfl rfl ?_
      exact ev_ret f_X0_callTold rfl rfl rfl ⟨_, _, _, rfl, hI, hX, ⟨_, rfl, (show 0 ≤ ar1.toInt → ar1.toInt < (gi 22 6).toInt → w11 = gl 23 (gi 27 ar1.toNatClampNeg).toInt.toNat from (by
                                                            intro h0 h1
                                                            have cw := t_clamp (i := w10) (by omega)
                                                            rw [e11, ← e10, show w10.toNatClampNeg = w10.toInt.toNat by omega]))⟩⟩
noncomputable def wl_d_codeAt : List (Nat × Nat) := [(0, 0)]
noncomputable def Q_d_codeAt (gi : Nat → Nat → Int32) (gl : Nat → Nat → Int64) (gr : Nat → Nat → Value) (ar1 : Int32) : Int64 → (Nat → Nat → Int32) → (Nat → Nat → Int64) → (Nat → Nat → Value) → Prop := fun (v : Int64) (gi2 : Nat → Nat → Int32) (gl2 : Nat → Nat → Int64) (gr2 : Nat → Nat → Value) => ((0 ≤ ar1.toInt ∧ ar1.toInt < (gi 22 6).toInt) → v = gl 23 (gi 27 ar1.toNatClampNeg).toInt.toNat) ∧ (¬ (0 ≤ ar1.toInt ∧ ar1.toInt < (gi 22 6).toInt) → v.toInt = -1)
theorem c_d_codeAt {X : x_Ext} {d : Nat} {sh : List (Nat ⊕ (Nat × Nat))} {gi : Nat → Nat → Int32} {gl : Nat → Nat → Int64} {gr : Nat → Nat → Value} (hI : t_I sh gi gr) (ar1 : Int32) : x_Me X (d + 2) n_X11_codeAt [.ref 0, .int ar1] (sh, gi, gl, gr) (t_PL wl_d_codeAt sh gi gl gr (Q_d_codeAt gi gl gr ar1)) := by
  have hX : t_X wl_d_codeAt sh gi gl gr gi gl gr := t_X.rf
  refine me_i f_X11_codeAt (hI.wf.s rfl) rfl rfl rfl ?_
  obtain ⟨l1, u1⟩ := hI.b (hI.wf.s (k := 22) rfl) (t_bdK rfl : t_bd 0 6 = some (0, 4))
  refine ev_loc f_X11_codeAt (nx := 1) rfl rfl rfl rfl ?_
  refine ev_if f_X11_codeAt (t1 := 15) (t2 := 4) rfl rfl rfl (fun h2 => ?_) (fun h2 => ?_)
  · have u3 : ar1.toInt ≤ (-1) := t_ltu h2 (by decide : (0:Int32).toInt ≤ (0:Int)) rfl
    refine ev_loc f_X11_codeAt (nx := 16) rfl rfl rfl rfl ?_
    refine ev_bp f_X11_codeAt (nx := 18) (v := 6) rfl (by decide) rfl ?_
    refine ev_inV2 f_X11_codeAt (nx := 21) (lo2 := [(0, .ref 0), (1, .int 6)]) rfl rfl rfl rfl f_X11_refuse (hI.wf.s rfl) rfl rfl rfl rfl rfl ?_
    refine ev_loc f_X11_refuse (nx := 1) rfl rfl rfl rfl ?_
    refine ev_loc f_X11_refuse (nx := 2) rfl rfl rfl rfl ?_
    refine ev_putIT f_X11_refuse (nx := 5) rfl (hI.wf.s rfl) rfl rfl rfl (hI.put0 (hI.wf.s rfl) rfl rfl) (hX.upI rfl) (fun g4 e4 hI hX => ?_)
    refine ev_ic f_X11_refuse (nx := 6) (v := -1) rfl (by decide) rfl ?_
    refine ev_retK1 f_X11_refuse rfl rfl rfl ?_
    refine ev_aluvL f_X11_codeAt (nx := 22) (w := -1) rfl rfl rfl (by decide) rfl ?_
    exact ev_ret f_X11_codeAt rfl rfl rfl ⟨_, _, _, rfl, hI, hX, ⟨_, rfl, (show ((0 ≤ ar1.toInt ∧ ar1.toInt < (gi 22 6).toInt) → ((-1) : Int64) = gl 23 (gi 27 ar1.toNatClampNeg).toInt.toNat) ∧ (¬ (0 ≤ ar1.toInt ∧ ar1.toInt < (gi 22 6).toInt) → ((-1) : Int64).toInt = -1) from ⟨fun h => absurd h (by omega), fun _ => (by decide)⟩)⟩⟩
  · have l5 : 0 ≤ ar1.toInt := t_lel (t_nlt h2) (by decide : (0:Int) ≤ (0:Int32).toInt)
    refine ev_loc f_X11_codeAt (nx := 5) rfl rfl rfl rfl ?_
    refine ev_loc f_X11_codeAt (nx := 6) rfl rfl rfl rfl ?_
    refine ev_getR f_X11_codeAt (nx := 9) rfl (hI.wf.s rfl) rfl rfl (hI.wf.r rfl) rfl rfl ?_
    refine ev_gvI f_X11_codeAt (nx := 12) (w := (gi 22 6)) rfl (hI.wf.s rfl) rfl rfl rfl rfl ?_
    refine ev_if f_X11_codeAt (t1 := 23) (t2 := 15) rfl rfl rfl (fun h6 => ?_) (fun h6 => ?_)
    · have r7 : ar1.toInt < (gi 22 6).toInt := Int32.lt_iff_toInt_lt.mp h6
      have u8 : ar1.toInt ≤ 3 := t_ltu h6 u1 rfl
      have l9 : 1 ≤ (gi 22 6).toInt := t_ltl h6 l5 rfl
      refine ev_loc f_X11_codeAt (nx := 24) rfl rfl rfl rfl ?_
      refine ev_loc f_X11_codeAt (nx := 25) rfl rfl rfl rfl ?_
      refine ev_getR f_X11_codeAt (nx := 28) rfl (hI.wf.s rfl) rfl rfl (hI.wf.r rfl) rfl rfl ?_
      refine ev_loc f_X11_codeAt (nx := 29) rfl rfl rfl rfl ?_
      refine ev_qL0 f_X11_codeAt (nx := 32) (r := [.ref 0]) rfl rfl rfl rfl rfl rfl rfl (c_d_ct hI (ar1)) rfl (fun w10 q10 => ?_)
      have q10 : 0 ≤ ar1.toInt → ar1.toInt < (gi 22 6).toInt → w10 = gl 23 (gi 27 ar1.toNatClampNeg).toInt.toNat := q10
      refine ev_inV2 f_X11_codeAt (nx := 35) (lo2 := [(0, .ref 0), (1, .long w10)]) rfl rfl rfl rfl f_X11_answerLong (hI.wf.s rfl) rfl rfl rfl rfl rfl ?_
      refine ev_loc f_X11_answerLong (nx := 1) rfl rfl rfl rfl ?_
      refine ev_ic f_X11_answerLong (nx := 2) (v := 0) rfl (by decide) rfl ?_
      refine ev_putIT f_X11_answerLong (nx := 5) rfl (hI.wf.s rfl) rfl rfl rfl (hI.put0 (hI.wf.s rfl) rfl rfl) (hX.upI rfl) (fun g11 e11 hI hX => ?_)
      refine ev_loc f_X11_answerLong (nx := 6) rfl rfl rfl rfl ?_
      refine ev_retK1 f_X11_answerLong rfl rfl rfl ?_
      exact ev_ret f_X11_codeAt rfl rfl rfl ⟨_, _, _, rfl, hI, hX, ⟨_, rfl, (show ((0 ≤ ar1.toInt ∧ ar1.toInt < (gi 22 6).toInt) → w10 = gl 23 (gi 27 ar1.toNatClampNeg).toInt.toNat) ∧ (¬ (0 ≤ ar1.toInt ∧ ar1.toInt < (gi 22 6).toInt) → w10.toInt = -1) from ⟨fun h => q10 h.1 h.2, fun h => absurd (show _ from ⟨by omega, by omega⟩) h⟩)⟩⟩
    · have r12 : (gi 22 6).toInt ≤ ar1.toInt := Int32.le_iff_toInt_le.mp (t_nlt h6)
      refine ev_loc f_X11_codeAt (nx := 16) rfl rfl rfl rfl ?_
      refine ev_bp f_X11_codeAt (nx := 18) (v := 6) rfl (by decide) rfl ?_
      refine ev_inV2 f_X11_codeAt (nx := 21) (lo2 := [(0, .ref 0), (1, .int 6)]) rfl rfl rfl rfl f_X11_refuse (hI.wf.s rfl) rfl rfl rfl rfl rfl ?_
      refine ev_loc f_X11_refuse (nx := 1) rfl rfl rfl rfl ?_
      refine ev_loc f_X11_refuse (nx := 2) rfl rfl rfl rfl ?_
      refine ev_putIT f_X11_refuse (nx := 5) rfl (hI.wf.s rfl) rfl rfl rfl (hI.put0 (hI.wf.s rfl) rfl rfl) (hX.upI rfl) (fun g13 e13 hI hX => ?_)
      refine ev_ic f_X11_refuse (nx := 6) (v := -1) rfl (by decide) rfl ?_
      refine ev_retK1 f_X11_refuse rfl rfl rfl ?_
      refine ev_aluvL f_X11_codeAt (nx := 22) (w := -1) rfl rfl rfl (by decide) rfl ?_
      exact ev_ret f_X11_codeAt rfl rfl rfl ⟨_, _, _, rfl, hI, hX, ⟨_, rfl, (show ((0 ≤ ar1.toInt ∧ ar1.toInt < (gi 22 6).toInt) → ((-1) : Int64) = gl 23 (gi 27 ar1.toNatClampNeg).toInt.toNat) ∧ (¬ (0 ≤ ar1.toInt ∧ ar1.toInt < (gi 22 6).toInt) → ((-1) : Int64).toInt = -1) from ⟨fun h => absurd h (by omega), fun _ => (by decide)⟩)⟩⟩
noncomputable def wl_d_code : List (Nat × Nat) := [(0, 0), (22, 6), (25, 9999), (26, 9999), (27, 9999)]
noncomputable def Q_d_code (gi : Nat → Nat → Int32) (gl : Nat → Nat → Int64) (gr : Nat → Nat → Value) (ar1 : Int32) (ar2 : Int32) (ar3 : Int32) : Int32 → (Nat → Nat → Int32) → (Nat → Nat → Int64) → (Nat → Nat → Value) → Prop := fun (v : Int32) (gi2 : Nat → Nat → Int32) (gl2 : Nat → Nat → Int64) (gr2 : Nat → Nat → Value) => t_CL gi gl → ((1 ≤ ar1.toInt ∧ ar1.toInt ≤ 4 ∧ 1 ≤ ar2.toInt ∧ ar2.toInt ≤ 4 ∧ 0 ≤ ar3.toInt ∧ ar3.toInt ≤ 9) → (∃ L, s_X (s_ch ar3.toInt) (s_cE ar2.toNatClampNeg) ar1.toNatClampNeg [] 0 = some L ∧ (L.length : Int) = ar1.toInt ∧ s_RW (gi2 27) L ∧ (gi2 22 6).toInt = ar1.toInt ∧ v = s_sI (fun i => gi2 24 (gi2 27 i).toInt.toNat) ar1.toNatClampNeg) ∨ (s_X (s_ch ar3.toInt) (s_cE ar2.toNatClampNeg) ar1.toNatClampNeg [] 0 = none ∧ v.toInt = -1 ∧ gi2 27 = gi 27 ∧ gi2 22 6 = gi 22 6)) ∧ (¬ (1 ≤ ar1.toInt ∧ ar1.toInt ≤ 4 ∧ 1 ≤ ar2.toInt ∧ ar2.toInt ≤ 4 ∧ 0 ≤ ar3.toInt ∧ ar3.toInt ≤ 9) → v.toInt = -1 ∧ gi2 27 = gi 27 ∧ gi2 22 6 = gi 22 6)
theorem c_d_code {X : x_Ext} {d : Nat} {sh : List (Nat ⊕ (Nat × Nat))} {gi : Nat → Nat → Int32} {gl : Nat → Nat → Int64} {gr : Nat → Nat → Value} (hI : t_I sh gi gr) (ar1 : Int32) (ar2 : Int32) (ar3 : Int32) : x_Me X (d + 11) n_X11_code [.ref 0, .int ar1, .int ar2, .int ar3] (sh, gi, gl, gr) (t_PI wl_d_code sh gi gl gr (-2147483648) 2147483647 (Q_d_code gi gl gr ar1 ar2 ar3)) := by
  have hX : t_X wl_d_code sh gi gl gr gi gl gr := t_X.rf
  refine me_i f_X11_code (hI.wf.s rfl) rfl rfl rfl ?_
  obtain ⟨l1, u1⟩ := hI.b (hI.wf.s (k := 22) rfl) (t_bdK rfl : t_bd 0 6 = some (0, 4))
  refine ev_loc f_X11_code (nx := 1) rfl rfl rfl rfl ?_
  refine ev_ic f_X11_code (nx := 2) (v := 1) rfl (by decide) rfl ?_
  refine ev_if f_X11_code (t1 := 30) (t2 := 5) rfl rfl rfl (fun h2 => ?_) (fun h2 => ?_)
  · have u3 : ar1.toInt ≤ 0 := t_ltu h2 (by decide : (1:Int32).toInt ≤ (1:Int)) rfl
    refine ev_loc f_X11_code (nx := 31) rfl rfl rfl rfl ?_
    refine ev_ic f_X11_code (nx := 32) (v := 1) rfl (by decide) rfl ?_
    refine ev_inV2 f_X11_code (nx := 35) (lo2 := [(0, .ref 0), (1, .int 1)]) rfl rfl rfl rfl f_X11_refuse (hI.wf.s rfl) rfl rfl rfl rfl rfl ?_
    refine ev_loc f_X11_refuse (nx := 1) rfl rfl rfl rfl ?_
    refine ev_loc f_X11_refuse (nx := 2) rfl rfl rfl rfl ?_
    refine ev_putIT f_X11_refuse (nx := 5) rfl (hI.wf.s rfl) rfl rfl rfl (hI.put0 (hI.wf.s rfl) rfl rfl) (hX.upI rfl) (fun g4 e4 hI hX => ?_)
    refine ev_ic f_X11_refuse (nx := 6) (v := -1) rfl (by decide) rfl ?_
    refine ev_retK1 f_X11_refuse rfl rfl rfl ?_
    exact ev_ret f_X11_code rfl rfl rfl ⟨_, _, _, rfl, hI, hX, ⟨_, rfl, (Int.le_trans (by decide : ((-2147483648):Int) ≤ (-1)) (by decide : ((-1):Int) ≤ ((-1):Int32).toInt)), (Int.le_trans (by decide : ((-1):Int32).toInt ≤ ((-1):Int)) (by decide : ((-1):Int) ≤ 2147483647)), (show t_CL gi gl → ((1 ≤ ar1.toInt ∧ ar1.toInt ≤ 4 ∧ 1 ≤ ar2.toInt ∧ ar2.toInt ≤ 4 ∧ 0 ≤ ar3.toInt ∧ ar3.toInt ≤ 9) → (∃ L, s_X (s_ch ar3.toInt) (s_cE ar2.toNatClampNeg) ar1.toNatClampNeg [] 0 = some L ∧ (L.length : Int) = ar1.toInt ∧ s_RW (g4 27) L ∧ (g4 22 6).toInt = ar1.toInt ∧ ((-1) : Int32) = s_sI (fun i => g4 24 (g4 27 i).toInt.toNat) ar1.toNatClampNeg) ∨ (s_X (s_ch ar3.toInt) (s_cE ar2.toNatClampNeg) ar1.toNatClampNeg [] 0 = none ∧ ((-1) : Int) = -1 ∧ g4 27 = gi 27 ∧ g4 22 6 = gi 22 6)) ∧ (¬ (1 ≤ ar1.toInt ∧ ar1.toInt ≤ 4 ∧ 1 ≤ ar2.toInt ∧ ar2.toInt ≤ 4 ∧ 0 ≤ ar3.toInt ∧ ar3.toInt ≤ 9) → ((-1) : Int) = -1 ∧ g4 27 = gi 27 ∧ g4 22 6 = gi 22 6) from (fun hC => ⟨fun h => absurd h (by omega), fun _ => ⟨rfl, ⟨by rw [e4]; exact x_up2_ne (by decide), by rw [e4]; exact x_up2_off (Or.inl (by decide))⟩⟩⟩))⟩⟩
  · have l5 : 1 ≤ ar1.toInt := t_lel (t_nlt h2) (by decide : (1:Int) ≤ (1:Int32).toInt)
    refine ev_loc f_X11_code (nx := 6) rfl rfl rfl rfl ?_
    refine ev_ic f_X11_code (nx := 7) (v := 4) rfl (by decide) rfl ?_
    refine ev_if f_X11_code (t1 := 30) (t2 := 10) rfl rfl rfl (fun h6 => ?_) (fun h6 => ?_)
    · have l7 : 5 ≤ ar1.toInt := t_ltl h6 (by decide : (4:Int) ≤ (4:Int32).toInt) rfl
      refine ev_loc f_X11_code (nx := 31) rfl rfl rfl rfl ?_
      refine ev_ic f_X11_code (nx := 32) (v := 1) rfl (by decide) rfl ?_
      refine ev_inV2 f_X11_code (nx := 35) (lo2 := [(0, .ref 0), (1, .int 1)]) rfl rfl rfl rfl f_X11_refuse (hI.wf.s rfl) rfl rfl rfl rfl rfl ?_
      refine ev_loc f_X11_refuse (nx := 1) rfl rfl rfl rfl ?_
      refine ev_loc f_X11_refuse (nx := 2) rfl rfl rfl rfl ?_
      refine ev_putIT f_X11_refuse (nx := 5) rfl (hI.wf.s rfl) rfl rfl rfl (hI.put0 (hI.wf.s rfl) rfl rfl) (hX.upI rfl) (fun g8 e8 hI hX => ?_)
      refine ev_ic f_X11_refuse (nx := 6) (v := -1) rfl (by decide) rfl ?_
      refine ev_retK1 f_X11_refuse rfl rfl rfl ?_
      exact ev_ret f_X11_code rfl rfl rfl ⟨_, _, _, rfl, hI, hX, ⟨_, rfl, (Int.le_trans (by decide : ((-2147483648):Int) ≤ (-1)) (by decide : ((-1):Int) ≤ ((-1):Int32).toInt)), (Int.le_trans (by decide : ((-1):Int32).toInt ≤ ((-1):Int)) (by decide : ((-1):Int) ≤ 2147483647)), (show t_CL gi gl → ((1 ≤ ar1.toInt ∧ ar1.toInt ≤ 4 ∧ 1 ≤ ar2.toInt ∧ ar2.toInt ≤ 4 ∧ 0 ≤ ar3.toInt ∧ ar3.toInt ≤ 9) → (∃ L, s_X (s_ch ar3.toInt) (s_cE ar2.toNatClampNeg) ar1.toNatClampNeg [] 0 = some L ∧ (L.length : Int) = ar1.toInt ∧ s_RW (g8 27) L ∧ (g8 22 6).toInt = ar1.toInt ∧ ((-1) : Int32) = s_sI (fun i => g8 24 (g8 27 i).toInt.toNat) ar1.toNatClampNeg) ∨ (s_X (s_ch ar3.toInt) (s_cE ar2.toNatClampNeg) ar1.toNatClampNeg [] 0 = none ∧ ((-1) : Int) = -1 ∧ g8 27 = gi 27 ∧ g8 22 6 = gi 22 6)) ∧ (¬ (1 ≤ ar1.toInt ∧ ar1.toInt ≤ 4 ∧ 1 ≤ ar2.toInt ∧ ar2.toInt ≤ 4 ∧ 0 ≤ ar3.toInt ∧ ar3.toInt ≤ 9) → ((-1) : Int) = -1 ∧ g8 27 = gi 27 ∧ g8 22 6 = gi 22 6) from (fun hC => ⟨fun h => absurd h (by omega), fun _ => ⟨rfl, ⟨by rw [e8]; exact x_up2_ne (by decide), by rw [e8]; exact x_up2_off (Or.inl (by decide))⟩⟩⟩))⟩⟩
    · have u9 : ar1.toInt ≤ 4 := t_leu (t_nlt h6) (by decide : (4:Int32).toInt ≤ (4:Int))
      refine ev_loc f_X11_code (nx := 11) rfl rfl rfl rfl ?_
      refine ev_ic f_X11_code (nx := 12) (v := 1) rfl (by decide) rfl ?_
      refine ev_if f_X11_code (t1 := 30) (t2 := 15) rfl rfl rfl (fun h10 => ?_) (fun h10 => ?_)
      · have u11 : ar2.toInt ≤ 0 := t_ltu h10 (by decide : (1:Int32).toInt ≤ (1:Int)) rfl
        refine ev_loc f_X11_code (nx := 31) rfl rfl rfl rfl ?_
        refine ev_ic f_X11_code (nx := 32) (v := 1) rfl (by decide) rfl ?_
        refine ev_inV2 f_X11_code (nx := 35) (lo2 := [(0, .ref 0), (1, .int 1)]) rfl rfl rfl rfl f_X11_refuse (hI.wf.s rfl) rfl rfl rfl rfl rfl ?_
        refine ev_loc f_X11_refuse (nx := 1) rfl rfl rfl rfl ?_
        refine ev_loc f_X11_refuse (nx := 2) rfl rfl rfl rfl ?_
        refine ev_putIT f_X11_refuse (nx := 5) rfl (hI.wf.s rfl) rfl rfl rfl (hI.put0 (hI.wf.s rfl) rfl rfl) (hX.upI rfl) (fun g12 e12 hI hX => ?_)
        refine ev_ic f_X11_refuse (nx := 6) (v := -1) rfl (by decide) rfl ?_
        refine ev_retK1 f_X11_refuse rfl rfl rfl ?_
        exact ev_ret f_X11_code rfl rfl rfl ⟨_, _, _, rfl, hI, hX, ⟨_, rfl, (Int.le_trans (by decide : ((-2147483648):Int) ≤ (-1)) (by decide : ((-1):Int) ≤ ((-1):Int32).toInt)), (Int.le_trans (by decide : ((-1):Int32).toInt ≤ ((-1):Int)) (by decide : ((-1):Int) ≤ 2147483647)), (show t_CL gi gl → ((1 ≤ ar1.toInt ∧ ar1.toInt ≤ 4 ∧ 1 ≤ ar2.toInt ∧ ar2.toInt ≤ 4 ∧ 0 ≤ ar3.toInt ∧ ar3.toInt ≤ 9) → (∃ L, s_X (s_ch ar3.toInt) (s_cE ar2.toNatClampNeg) ar1.toNatClampNeg [] 0 = some L ∧ (L.length : Int) = ar1.toInt ∧ s_RW (g12 27) L ∧ (g12 22 6).toInt = ar1.toInt ∧ ((-1) : Int32) = s_sI (fun i => g12 24 (g12 27 i).toInt.toNat) ar1.toNatClampNeg) ∨ (s_X (s_ch ar3.toInt) (s_cE ar2.toNatClampNeg) ar1.toNatClampNeg [] 0 = none ∧ ((-1) : Int) = -1 ∧ g12 27 = gi 27 ∧ g12 22 6 = gi 22 6)) ∧ (¬ (1 ≤ ar1.toInt ∧ ar1.toInt ≤ 4 ∧ 1 ≤ ar2.toInt ∧ ar2.toInt ≤ 4 ∧ 0 ≤ ar3.toInt ∧ ar3.toInt ≤ 9) → ((-1) : Int) = -1 ∧ g12 27 = gi 27 ∧ g12 22 6 = gi 22 6) from (fun hC => ⟨fun h => absurd h (by omega), fun _ => ⟨rfl, ⟨by rw [e12]; exact x_up2_ne (by decide), by rw [e12]; exact x_up2_off (Or.inl (by decide))⟩⟩⟩))⟩⟩
      · have l13 : 1 ≤ ar2.toInt := t_lel (t_nlt h10) (by decide : (1:Int) ≤ (1:Int32).toInt)
        refine ev_loc f_X11_code (nx := 16) rfl rfl rfl rfl ?_
        refine ev_ic f_X11_code (nx := 17) (v := 4) rfl (by decide) rfl ?_
        refine ev_if f_X11_code (t1 := 30) (t2 := 20) rfl rfl rfl (fun h14 => ?_) (fun h14 => ?_)
        · have l15 : 5 ≤ ar2.toInt := t_ltl h14 (by decide : (4:Int) ≤ (4:Int32).toInt) rfl
          refine ev_loc f_X11_code (nx := 31) rfl rfl rfl rfl ?_
          refine ev_ic f_X11_code (nx := 32) (v := 1) rfl (by decide) rfl ?_
          refine ev_inV2 f_X11_code (nx := 35) (lo2 := [(0, .ref 0), (1, .int 1)]) rfl rfl rfl rfl f_X11_refuse (hI.wf.s rfl) rfl rfl rfl rfl rfl ?_
          refine ev_loc f_X11_refuse (nx := 1) rfl rfl rfl rfl ?_
          refine ev_loc f_X11_refuse (nx := 2) rfl rfl rfl rfl ?_
          refine ev_putIT f_X11_refuse (nx := 5) rfl (hI.wf.s rfl) rfl rfl rfl (hI.put0 (hI.wf.s rfl) rfl rfl) (hX.upI rfl) (fun g16 e16 hI hX => ?_)
          refine ev_ic f_X11_refuse (nx := 6) (v := -1) rfl (by decide) rfl ?_
          refine ev_retK1 f_X11_refuse rfl rfl rfl ?_
          exact ev_ret f_X11_code rfl rfl rfl ⟨_, _, _, rfl, hI, hX, ⟨_, rfl, (Int.le_trans (by decide : ((-2147483648):Int) ≤ (-1)) (by decide : ((-1):Int) ≤ ((-1):Int32).toInt)), (Int.le_trans (by decide : ((-1):Int32).toInt ≤ ((-1):Int)) (by decide : ((-1):Int) ≤ 2147483647)), (show t_CL gi gl → ((1 ≤ ar1.toInt ∧ ar1.toInt ≤ 4 ∧ 1 ≤ ar2.toInt ∧ ar2.toInt ≤ 4 ∧ 0 ≤ ar3.toInt ∧ ar3.toInt ≤ 9) → (∃ L, s_X (s_ch ar3.toInt) (s_cE ar2.toNatClampNeg) ar1.toNatClampNeg [] 0 = some L ∧ (L.length : Int) = ar1.toInt ∧ s_RW (g16 27) L ∧ (g16 22 6).toInt = ar1.toInt ∧ ((-1) : Int32) = s_sI (fun i => g16 24 (g16 27 i).toInt.toNat) ar1.toNatClampNeg) ∨ (s_X (s_ch ar3.toInt) (s_cE ar2.toNatClampNeg) ar1.toNatClampNeg [] 0 = none ∧ ((-1) : Int) = -1 ∧ g16 27 = gi 27 ∧ g16 22 6 = gi 22 6)) ∧ (¬ (1 ≤ ar1.toInt ∧ ar1.toInt ≤ 4 ∧ 1 ≤ ar2.toInt ∧ ar2.toInt ≤ 4 ∧ 0 ≤ ar3.toInt ∧ ar3.toInt ≤ 9) → ((-1) : Int) = -1 ∧ g16 27 = gi 27 ∧ g16 22 6 = gi 22 6) from (fun hC => ⟨fun h => absurd h (by omega), fun _ => ⟨rfl, ⟨by rw [e16]; exact x_up2_ne (by decide), by rw [e16]; exact x_up2_off (Or.inl (by decide))⟩⟩⟩))⟩⟩
        · have u17 : ar2.toInt ≤ 4 := t_leu (t_nlt h14) (by decide : (4:Int32).toInt ≤ (4:Int))
          refine ev_loc f_X11_code (nx := 21) rfl rfl rfl rfl ?_
          refine ev_if f_X11_code (t1 := 30) (t2 := 24) rfl rfl rfl (fun h18 => ?_) (fun h18 => ?_)
          · have u19 : ar3.toInt ≤ (-1) := t_ltu h18 (by decide : (0:Int32).toInt ≤ (0:Int)) rfl
            refine ev_loc f_X11_code (nx := 31) rfl rfl rfl rfl ?_
            refine ev_ic f_X11_code (nx := 32) (v := 1) rfl (by decide) rfl ?_
            refine ev_inV2 f_X11_code (nx := 35) (lo2 := [(0, .ref 0), (1, .int 1)]) rfl rfl rfl rfl f_X11_refuse (hI.wf.s rfl) rfl rfl rfl rfl rfl ?_
            refine ev_loc f_X11_refuse (nx := 1) rfl rfl rfl rfl ?_
            refine ev_loc f_X11_refuse (nx := 2) rfl rfl rfl rfl ?_
            refine ev_putIT f_X11_refuse (nx := 5) rfl (hI.wf.s rfl) rfl rfl rfl (hI.put0 (hI.wf.s rfl) rfl rfl) (hX.upI rfl) (fun g20 e20 hI hX => ?_)
            refine ev_ic f_X11_refuse (nx := 6) (v := -1) rfl (by decide) rfl ?_
            refine ev_retK1 f_X11_refuse rfl rfl rfl ?_
            exact ev_ret f_X11_code rfl rfl rfl ⟨_, _, _, rfl, hI, hX, ⟨_, rfl, (Int.le_trans (by decide : ((-2147483648):Int) ≤ (-1)) (by decide : ((-1):Int) ≤ ((-1):Int32).toInt)), (Int.le_trans (by decide : ((-1):Int32).toInt ≤ ((-1):Int)) (by decide : ((-1):Int) ≤ 2147483647)), (show t_CL gi gl → ((1 ≤ ar1.toInt ∧ ar1.toInt ≤ 4 ∧ 1 ≤ ar2.toInt ∧ ar2.toInt ≤ 4 ∧ 0 ≤ ar3.toInt ∧ ar3.toInt ≤ 9) → (∃ L, s_X (s_ch ar3.toInt) (s_cE ar2.toNatClampNeg) ar1.toNatClampNeg [] 0 = some L ∧ (L.length : Int) = ar1.toInt ∧ s_RW (g20 27) L ∧ (g20 22 6).toInt = ar1.toInt ∧ ((-1) : Int32) = s_sI (fun i => g20 24 (g20 27 i).toInt.toNat) ar1.toNatClampNeg) ∨ (s_X (s_ch ar3.toInt) (s_cE ar2.toNatClampNeg) ar1.toNatClampNeg [] 0 = none ∧ ((-1) : Int) = -1 ∧ g20 27 = gi 27 ∧ g20 22 6 = gi 22 6)) ∧ (¬ (1 ≤ ar1.toInt ∧ ar1.toInt ≤ 4 ∧ 1 ≤ ar2.toInt ∧ ar2.toInt ≤ 4 ∧ 0 ≤ ar3.toInt ∧ ar3.toInt ≤ 9) → ((-1) : Int) = -1 ∧ g20 27 = gi 27 ∧ g20 22 6 = gi 22 6) from (fun hC => ⟨fun h => absurd h (by omega), fun _ => ⟨rfl, ⟨by rw [e20]; exact x_up2_ne (by decide), by rw [e20]; exact x_up2_off (Or.inl (by decide))⟩⟩⟩))⟩⟩
          · have l21 : 0 ≤ ar3.toInt := t_lel (t_nlt h18) (by decide : (0:Int) ≤ (0:Int32).toInt)
            refine ev_loc f_X11_code (nx := 25) rfl rfl rfl rfl ?_
            refine ev_bp f_X11_code (nx := 27) (v := 9) rfl (by decide) rfl ?_
            refine ev_if f_X11_code (t1 := 36) (t2 := 30) rfl rfl rfl (fun h22 => ?_) (fun h22 => ?_)
            · have u23 : ar3.toInt ≤ 9 := t_leu h22 (by decide : (9:Int32).toInt ≤ (9:Int))
              refine ev_loc f_X11_code (nx := 37) rfl rfl rfl rfl ?_
              refine ev_getR f_X11_code (nx := 40) rfl (hI.wf.s rfl) rfl rfl (hI.wf.r rfl) rfl rfl ?_
              refine ev_loc f_X11_code (nx := 41) rfl rfl rfl rfl ?_
              refine ev_loc f_X11_code (nx := 42) rfl rfl rfl rfl ?_
              refine ev_loc f_X11_code (nx := 43) rfl rfl rfl rfl ?_
              refine ev_qI f_X11_code (nx := 46) (r := []) rfl rfl rfl rfl rfl rfl rfl (c_d_find hI (ar1) l5 u9 (ar2) l13 u17 (ar3) l21 u23) rfl hX rfl (fun w24 gi24 gl24 gr24 l24 u24 hI hX hC24 q24 => ?_)
              have q24 : t_CL gi gl → (w24.toInt = 1 ∧ ∃ L, s_X (s_ch ar3.toInt) (s_cE ar2.toNatClampNeg) ar1.toNatClampNeg [] 0 = some L ∧ s_RW (gi24 27) L ∧ (L.length : Int) = ar1.toInt ∧ (gi24 22 6).toInt = ar1.toInt) ∨ (w24.toInt = 0 ∧ s_X (s_ch ar3.toInt) (s_cE ar2.toNatClampNeg) ar1.toNatClampNeg [] 0 = none ∧ gi24 27 = gi 27 ∧ gi24 22 6 = gi 22 6) := q24
              obtain ⟨l25, u25⟩ := hI.b (hI.wf.s (k := 22) rfl) (t_bdK rfl : t_bd 0 6 = some (0, 4))
              refine ev_if f_X11_code (t1 := 63) (t2 := 49) rfl rfl rfl (fun h26 => ?_) (fun h26 => ?_)
              · have u27 : w24.toInt ≤ 0 := t_equ h26 (by decide : (0:Int32).toInt ≤ (0:Int))
                refine ev_loc f_X11_code (nx := 64) rfl rfl rfl rfl ?_
                refine ev_bp f_X11_code (nx := 66) (v := 6) rfl (by decide) rfl ?_
                refine ev_inV2 f_X11_code (nx := 69) (lo2 := [(0, .ref 0), (1, .int 6)]) rfl rfl rfl rfl f_X11_refuse (hI.wf.s rfl) rfl rfl rfl rfl rfl ?_
                refine ev_loc f_X11_refuse (nx := 1) rfl rfl rfl rfl ?_
                refine ev_loc f_X11_refuse (nx := 2) rfl rfl rfl rfl ?_
                refine ev_putIT f_X11_refuse (nx := 5) rfl (hI.wf.s rfl) rfl rfl rfl (hI.put0 (hI.wf.s rfl) rfl rfl) (hX.upI rfl) (fun g28 e28 hI hX => ?_)
                refine ev_ic f_X11_refuse (nx := 6) (v := -1) rfl (by decide) rfl ?_
                refine ev_retK1 f_X11_refuse rfl rfl rfl ?_
                exact ev_ret f_X11_code rfl rfl rfl ⟨_, _, _, rfl, hI, hX, ⟨_, rfl, (Int.le_trans (by decide : ((-2147483648):Int) ≤ (-1)) (by decide : ((-1):Int) ≤ ((-1):Int32).toInt)), (Int.le_trans (by decide : ((-1):Int32).toInt ≤ ((-1):Int)) (by decide : ((-1):Int) ≤ 2147483647)), (show t_CL gi gl → ((1 ≤ ar1.toInt ∧ ar1.toInt ≤ 4 ∧ 1 ≤ ar2.toInt ∧ ar2.toInt ≤ 4 ∧ 0 ≤ ar3.toInt ∧ ar3.toInt ≤ 9) → (∃ L, s_X (s_ch ar3.toInt) (s_cE ar2.toNatClampNeg) ar1.toNatClampNeg [] 0 = some L ∧ (L.length : Int) = ar1.toInt ∧ s_RW (g28 27) L ∧ (g28 22 6).toInt = ar1.toInt ∧ ((-1) : Int32) = s_sI (fun i => g28 24 (g28 27 i).toInt.toNat) ar1.toNatClampNeg) ∨ (s_X (s_ch ar3.toInt) (s_cE ar2.toNatClampNeg) ar1.toNatClampNeg [] 0 = none ∧ ((-1) : Int) = -1 ∧ g28 27 = gi 27 ∧ g28 22 6 = gi 22 6)) ∧ (¬ (1 ≤ ar1.toInt ∧ ar1.toInt ≤ 4 ∧ 1 ≤ ar2.toInt ∧ ar2.toInt ≤ 4 ∧ 0 ≤ ar3.toInt ∧ ar3.toInt ≤ 9) → ((-1) : Int) = -1 ∧ g28 27 = gi 27 ∧ g28 22 6 = gi 22 6) from (by
                                                            intro hC
                                                            have hq := q24 hC
                                                            obtain ⟨_, g1, g2, g3⟩ := hq.resolve_left (fun hh => absurd hh.1 (by omega))
                                                            exact ⟨fun _ => Or.inr ⟨g1, rfl, by rw [e28, x_up2_ne (by decide)]; exact g2, by rw [e28, x_up2_ne (by decide)]; exact g3⟩, fun h => absurd (show _ from ⟨by omega, by omega, by omega, by omega, by omega, by omega⟩) h⟩))⟩⟩
              · have r29 : w24.toInt ≠ 0 := fun e => h26 (Int32.toInt_inj.mp (e.trans (by decide : (0:Int) = (0 : Int32).toInt)))
                have l30 : 1 ≤ w24.toInt := t_nel h26 l24 rfl rfl
                refine ev_loc f_X11_code (nx := 50) rfl rfl rfl rfl ?_
                refine ev_loc f_X11_code (nx := 51) rfl rfl rfl rfl ?_
                refine ev_getR f_X11_code (nx := 54) rfl (hI.wf.s rfl) rfl rfl (hI.wf.r rfl) rfl rfl ?_
                refine ev_qI0 f_X11_code (nx := 57) (r := [.ref 0]) rfl rfl rfl rfl rfl rfl rfl (c_d_bt hI ) rfl (fun w31 l31 u31 q31 => ?_)
                have q31 : w31 = s_sI (fun i => gi24 24 (gi24 27 i).toInt.toNat) (gi24 22 6).toInt.toNat := q31
                refine ev_inV2 f_X11_code (nx := 60) (lo2 := [(0, .ref 0), (1, .int w31)]) rfl rfl rfl rfl f_X11_answer (hI.wf.s rfl) rfl rfl rfl rfl rfl ?_
                refine ev_loc f_X11_answer (nx := 1) rfl rfl rfl rfl ?_
                refine ev_ic f_X11_answer (nx := 2) (v := 0) rfl (by decide) rfl ?_
                refine ev_putIT f_X11_answer (nx := 5) rfl (hI.wf.s rfl) rfl rfl rfl (hI.put0 (hI.wf.s rfl) rfl rfl) (hX.upI rfl) (fun g32 e32 hI hX => ?_)
                refine ev_loc f_X11_answer (nx := 6) rfl rfl rfl rfl ?_
                refine ev_retK1 f_X11_answer rfl rfl rfl ?_
                refine ev_jmp f_X11_code (nx := 69) rfl rfl rfl ?_
                exact ev_ret f_X11_code rfl rfl rfl ⟨_, _, _, rfl, hI, hX, ⟨_, rfl, l31, u31, (show t_CL gi gl → ((1 ≤ ar1.toInt ∧ ar1.toInt ≤ 4 ∧ 1 ≤ ar2.toInt ∧ ar2.toInt ≤ 4 ∧ 0 ≤ ar3.toInt ∧ ar3.toInt ≤ 9) → (∃ L, s_X (s_ch ar3.toInt) (s_cE ar2.toNatClampNeg) ar1.toNatClampNeg [] 0 = some L ∧ (L.length : Int) = ar1.toInt ∧ s_RW (g32 27) L ∧ (g32 22 6).toInt = ar1.toInt ∧ w31 = s_sI (fun i => g32 24 (g32 27 i).toInt.toNat) ar1.toNatClampNeg) ∨ (s_X (s_ch ar3.toInt) (s_cE ar2.toNatClampNeg) ar1.toNatClampNeg [] 0 = none ∧ w31.toInt = -1 ∧ g32 27 = gi 27 ∧ g32 22 6 = gi 22 6)) ∧ (¬ (1 ≤ ar1.toInt ∧ ar1.toInt ≤ 4 ∧ 1 ≤ ar2.toInt ∧ ar2.toInt ≤ 4 ∧ 0 ≤ ar3.toInt ∧ ar3.toInt ≤ 9) → w31.toInt = -1 ∧ g32 27 = gi 27 ∧ g32 22 6 = gi 22 6) from (by
                                                            intro hC
                                                            have hq := q24 hC
                                                            obtain ⟨_, L, g1, g2, g3, g4⟩ := hq.resolve_right (fun hh => absurd hh.1 (by omega))
                                                            have c1 := t_clamp (i := ar1) (by omega)
                                                            refine ⟨fun _ => Or.inl ⟨L, g1, g3, by rw [e32, x_up2_ne (by decide)]; exact g2, by rw [e32, x_up2_ne (by decide)]; exact g4, ?_⟩, fun h => absurd (show _ from ⟨by omega, by omega, by omega, by omega, by omega, by omega⟩) h⟩
                                                            have h9 := q31
                                                            rw [g4, show ar1.toInt.toNat = ar1.toNatClampNeg by omega] at h9
                                                            rw [h9]
                                                            rw [e32]; exact (s_sI_cg _ (fun i _ => by rw [x_up2_ne (by decide), x_up2_ne (by decide)])).symm))⟩⟩
            · have l33 : 10 ≤ ar3.toInt := t_ltl (t_nle h22) (by decide : (9:Int) ≤ (9:Int32).toInt) rfl
              refine ev_loc f_X11_code (nx := 31) rfl rfl rfl rfl ?_
              refine ev_ic f_X11_code (nx := 32) (v := 1) rfl (by decide) rfl ?_
              refine ev_inV2 f_X11_code (nx := 35) (lo2 := [(0, .ref 0), (1, .int 1)]) rfl rfl rfl rfl f_X11_refuse (hI.wf.s rfl) rfl rfl rfl rfl rfl ?_
              refine ev_loc f_X11_refuse (nx := 1) rfl rfl rfl rfl ?_
              refine ev_loc f_X11_refuse (nx := 2) rfl rfl rfl rfl ?_
              refine ev_putIT f_X11_refuse (nx := 5) rfl (hI.wf.s rfl) rfl rfl rfl (hI.put0 (hI.wf.s rfl) rfl rfl) (hX.upI rfl) (fun g34 e34 hI hX => ?_)
              refine ev_ic f_X11_refuse (nx := 6) (v := -1) rfl (by decide) rfl ?_
              refine ev_retK1 f_X11_refuse rfl rfl rfl ?_
              exact ev_ret f_X11_code rfl rfl rfl ⟨_, _, _, rfl, hI, hX, ⟨_, rfl, (Int.le_trans (by decide : ((-2147483648):Int) ≤ (-1)) (by decide : ((-1):Int) ≤ ((-1):Int32).toInt)), (Int.le_trans (by decide : ((-1):Int32).toInt ≤ ((-1):Int)) (by decide : ((-1):Int) ≤ 2147483647)), (show t_CL gi gl → ((1 ≤ ar1.toInt ∧ ar1.toInt ≤ 4 ∧ 1 ≤ ar2.toInt ∧ ar2.toInt ≤ 4 ∧ 0 ≤ ar3.toInt ∧ ar3.toInt ≤ 9) → (∃ L, s_X (s_ch ar3.toInt) (s_cE ar2.toNatClampNeg) ar1.toNatClampNeg [] 0 = some L ∧ (L.length : Int) = ar1.toInt ∧ s_RW (g34 27) L ∧ (g34 22 6).toInt = ar1.toInt ∧ ((-1) : Int32) = s_sI (fun i => g34 24 (g34 27 i).toInt.toNat) ar1.toNatClampNeg) ∨ (s_X (s_ch ar3.toInt) (s_cE ar2.toNatClampNeg) ar1.toNatClampNeg [] 0 = none ∧ ((-1) : Int) = -1 ∧ g34 27 = gi 27 ∧ g34 22 6 = gi 22 6)) ∧ (¬ (1 ≤ ar1.toInt ∧ ar1.toInt ≤ 4 ∧ 1 ≤ ar2.toInt ∧ ar2.toInt ≤ 4 ∧ 0 ≤ ar3.toInt ∧ ar3.toInt ≤ 9) → ((-1) : Int) = -1 ∧ g34 27 = gi 27 ∧ g34 22 6 = gi 22 6) from (fun hC => ⟨fun h => absurd h (by omega), fun _ => ⟨rfl, ⟨by rw [e34]; exact x_up2_ne (by decide), by rw [e34]; exact x_up2_off (Or.inl (by decide))⟩⟩⟩))⟩⟩
noncomputable def wl_f_code : List (Nat × Nat) := [(0, 0), (22, 6), (25, 9999), (26, 9999), (27, 9999)]
noncomputable def Q_f_code (gi : Nat → Nat → Int32) (gl : Nat → Nat → Int64) (gr : Nat → Nat → Value) (ar1 : Int32) (ar2 : Int32) (ar3 : Int32) : Int32 → (Nat → Nat → Int32) → (Nat → Nat → Int64) → (Nat → Nat → Value) → Prop := fun (v : Int32) (gi2 : Nat → Nat → Int32) (gl2 : Nat → Nat → Int64) (gr2 : Nat → Nat → Value) => t_CL gi gl → (¬ (1 ≤ ar1.toInt ∧ ar1.toInt ≤ 4 ∧ 1 ≤ ar2.toInt ∧ ar2.toInt ≤ 4 ∧ 0 ≤ ar3.toInt ∧ ar3.toInt ≤ 9) → (gi2 0 0).toInt = 1) ∧ ((1 ≤ ar1.toInt ∧ ar1.toInt ≤ 4 ∧ 1 ≤ ar2.toInt ∧ ar2.toInt ≤ 4 ∧ 0 ≤ ar3.toInt ∧ ar3.toInt ≤ 9) → (s_X (s_ch ar3.toInt) (s_cE ar2.toNatClampNeg) ar1.toNatClampNeg [] 0 = none → (gi2 0 0).toInt = 6) ∧ (s_X (s_ch ar3.toInt) (s_cE ar2.toNatClampNeg) ar1.toNatClampNeg [] 0 ≠ none → (gi2 0 0).toInt = 0))
theorem c_f_code {X : x_Ext} {d : Nat} {sh : List (Nat ⊕ (Nat × Nat))} {gi : Nat → Nat → Int32} {gl : Nat → Nat → Int64} {gr : Nat → Nat → Value} (hI : t_I sh gi gr) (ar1 : Int32) (ar2 : Int32) (ar3 : Int32) : x_Me X (d + 11) n_X11_code [.ref 0, .int ar1, .int ar2, .int ar3] (sh, gi, gl, gr) (t_PI wl_f_code sh gi gl gr (-2147483648) 2147483647 (Q_f_code gi gl gr ar1 ar2 ar3)) := by
  have hX : t_X wl_f_code sh gi gl gr gi gl gr := t_X.rf
  refine me_i f_X11_code (hI.wf.s rfl) rfl rfl rfl ?_
  refine ev_loc f_X11_code (nx := 1) rfl rfl rfl rfl ?_
  refine ev_ic f_X11_code (nx := 2) (v := 1) rfl (by decide) rfl ?_
  refine ev_if f_X11_code (t1 := 30) (t2 := 5) rfl rfl rfl (fun h2 => ?_) (fun h2 => ?_)
  · have u3 : ar1.toInt ≤ 0 := t_ltu h2 (by decide : (1:Int32).toInt ≤ (1:Int)) rfl
    refine ev_loc f_X11_code (nx := 31) rfl rfl rfl rfl ?_
    refine ev_ic f_X11_code (nx := 32) (v := 1) rfl (by decide) rfl ?_
    refine ev_inV2 f_X11_code (nx := 35) (lo2 := [(0, .ref 0), (1, .int 1)]) rfl rfl rfl rfl f_X11_refuse (hI.wf.s rfl) rfl rfl rfl rfl rfl ?_
    refine ev_loc f_X11_refuse (nx := 1) rfl rfl rfl rfl ?_
    refine ev_loc f_X11_refuse (nx := 2) rfl rfl rfl rfl ?_
    refine ev_putIT f_X11_refuse (nx := 5) rfl (hI.wf.s rfl) rfl rfl rfl (hI.put0 (hI.wf.s rfl) rfl rfl) (hX.upI rfl) (fun g4 e4 hI hX => ?_)
    refine ev_ic f_X11_refuse (nx := 6) (v := -1) rfl (by decide) rfl ?_
    refine ev_retK1 f_X11_refuse rfl rfl rfl ?_
    exact ev_ret f_X11_code rfl rfl rfl ⟨_, _, _, rfl, hI, hX, ⟨_, rfl, (Int.le_trans (by decide : ((-2147483648):Int) ≤ (-1)) (by decide : ((-1):Int) ≤ ((-1):Int32).toInt)), (Int.le_trans (by decide : ((-1):Int32).toInt ≤ ((-1):Int)) (by decide : ((-1):Int) ≤ 2147483647)), (show t_CL gi gl → (¬ (1 ≤ ar1.toInt ∧ ar1.toInt ≤ 4 ∧ 1 ≤ ar2.toInt ∧ ar2.toInt ≤ 4 ∧ 0 ≤ ar3.toInt ∧ ar3.toInt ≤ 9) → (g4 0 0).toInt = 1) ∧ ((1 ≤ ar1.toInt ∧ ar1.toInt ≤ 4 ∧ 1 ≤ ar2.toInt ∧ ar2.toInt ≤ 4 ∧ 0 ≤ ar3.toInt ∧ ar3.toInt ≤ 9) → (s_X (s_ch ar3.toInt) (s_cE ar2.toNatClampNeg) ar1.toNatClampNeg [] 0 = none → (g4 0 0).toInt = 6) ∧ (s_X (s_ch ar3.toInt) (s_cE ar2.toNatClampNeg) ar1.toNatClampNeg [] 0 ≠ none → (g4 0 0).toInt = 0)) from (fun hC => ⟨fun _ => (by have ffs : (g4 0 0).toInt = 1 := (congrArg Int32.toInt (by rw [e4]; exact x_up2_at _ _ _ _ : g4 0 0 = 1)).trans (by decide); omega), fun h => absurd h (by omega)⟩))⟩⟩
  · have l5 : 1 ≤ ar1.toInt := t_lel (t_nlt h2) (by decide : (1:Int) ≤ (1:Int32).toInt)
    refine ev_loc f_X11_code (nx := 6) rfl rfl rfl rfl ?_
    refine ev_ic f_X11_code (nx := 7) (v := 4) rfl (by decide) rfl ?_
    refine ev_if f_X11_code (t1 := 30) (t2 := 10) rfl rfl rfl (fun h6 => ?_) (fun h6 => ?_)
    · have l7 : 5 ≤ ar1.toInt := t_ltl h6 (by decide : (4:Int) ≤ (4:Int32).toInt) rfl
      refine ev_loc f_X11_code (nx := 31) rfl rfl rfl rfl ?_
      refine ev_ic f_X11_code (nx := 32) (v := 1) rfl (by decide) rfl ?_
      refine ev_inV2 f_X11_code (nx := 35) (lo2 := [(0, .ref 0), (1, .int 1)]) rfl rfl rfl rfl f_X11_refuse (hI.wf.s rfl) rfl rfl rfl rfl rfl ?_
      refine ev_loc f_X11_refuse (nx := 1) rfl rfl rfl rfl ?_
      refine ev_loc f_X11_refuse (nx := 2) rfl rfl rfl rfl ?_
      refine ev_putIT f_X11_refuse (nx := 5) rfl (hI.wf.s rfl) rfl rfl rfl (hI.put0 (hI.wf.s rfl) rfl rfl) (hX.upI rfl) (fun g8 e8 hI hX => ?_)
      refine ev_ic f_X11_refuse (nx := 6) (v := -1) rfl (by decide) rfl ?_
      refine ev_retK1 f_X11_refuse rfl rfl rfl ?_
      exact ev_ret f_X11_code rfl rfl rfl ⟨_, _, _, rfl, hI, hX, ⟨_, rfl, (Int.le_trans (by decide : ((-2147483648):Int) ≤ (-1)) (by decide : ((-1):Int) ≤ ((-1):Int32).toInt)), (Int.le_trans (by decide : ((-1):Int32).toInt ≤ ((-1):Int)) (by decide : ((-1):Int) ≤ 2147483647)), (show t_CL gi gl → (¬ (1 ≤ ar1.toInt ∧ ar1.toInt ≤ 4 ∧ 1 ≤ ar2.toInt ∧ ar2.toInt ≤ 4 ∧ 0 ≤ ar3.toInt ∧ ar3.toInt ≤ 9) → (g8 0 0).toInt = 1) ∧ ((1 ≤ ar1.toInt ∧ ar1.toInt ≤ 4 ∧ 1 ≤ ar2.toInt ∧ ar2.toInt ≤ 4 ∧ 0 ≤ ar3.toInt ∧ ar3.toInt ≤ 9) → (s_X (s_ch ar3.toInt) (s_cE ar2.toNatClampNeg) ar1.toNatClampNeg [] 0 = none → (g8 0 0).toInt = 6) ∧ (s_X (s_ch ar3.toInt) (s_cE ar2.toNatClampNeg) ar1.toNatClampNeg [] 0 ≠ none → (g8 0 0).toInt = 0)) from (fun hC => ⟨fun _ => (by have ffs : (g8 0 0).toInt = 1 := (congrArg Int32.toInt (by rw [e8]; exact x_up2_at _ _ _ _ : g8 0 0 = 1)).trans (by decide); omega), fun h => absurd h (by omega)⟩))⟩⟩
    · have u9 : ar1.toInt ≤ 4 := t_leu (t_nlt h6) (by decide : (4:Int32).toInt ≤ (4:Int))
      refine ev_loc f_X11_code (nx := 11) rfl rfl rfl rfl ?_
      refine ev_ic f_X11_code (nx := 12) (v := 1) rfl (by decide) rfl ?_
      refine ev_if f_X11_code (t1 := 30) (t2 := 15) rfl rfl rfl (fun h10 => ?_) (fun h10 => ?_)
      · have u11 : ar2.toInt ≤ 0 := t_ltu h10 (by decide : (1:Int32).toInt ≤ (1:Int)) rfl
        refine ev_loc f_X11_code (nx := 31) rfl rfl rfl rfl ?_
        refine ev_ic f_X11_code (nx := 32) (v := 1) rfl (by decide) rfl ?_
        refine ev_inV2 f_X11_code (nx := 35) (lo2 := [(0, .ref 0), (1, .int 1)]) rfl rfl rfl rfl f_X11_refuse (hI.wf.s rfl) rfl rfl rfl rfl rfl ?_
        refine ev_loc f_X11_refuse (nx := 1) rfl rfl rfl rfl ?_
        refine ev_loc f_X11_refuse (nx := 2) rfl rfl rfl rfl ?_
        refine ev_putIT f_X11_refuse (nx := 5) rfl (hI.wf.s rfl) rfl rfl rfl (hI.put0 (hI.wf.s rfl) rfl rfl) (hX.upI rfl) (fun g12 e12 hI hX => ?_)
        refine ev_ic f_X11_refuse (nx := 6) (v := -1) rfl (by decide) rfl ?_
        refine ev_retK1 f_X11_refuse rfl rfl rfl ?_
        exact ev_ret f_X11_code rfl rfl rfl ⟨_, _, _, rfl, hI, hX, ⟨_, rfl, (Int.le_trans (by decide : ((-2147483648):Int) ≤ (-1)) (by decide : ((-1):Int) ≤ ((-1):Int32).toInt)), (Int.le_trans (by decide : ((-1):Int32).toInt ≤ ((-1):Int)) (by decide : ((-1):Int) ≤ 2147483647)), (show t_CL gi gl → (¬ (1 ≤ ar1.toInt ∧ ar1.toInt ≤ 4 ∧ 1 ≤ ar2.toInt ∧ ar2.toInt ≤ 4 ∧ 0 ≤ ar3.toInt ∧ ar3.toInt ≤ 9) → (g12 0 0).toInt = 1) ∧ ((1 ≤ ar1.toInt ∧ ar1.toInt ≤ 4 ∧ 1 ≤ ar2.toInt ∧ ar2.toInt ≤ 4 ∧ 0 ≤ ar3.toInt ∧ ar3.toInt ≤ 9) → (s_X (s_ch ar3.toInt) (s_cE ar2.toNatClampNeg) ar1.toNatClampNeg [] 0 = none → (g12 0 0).toInt = 6) ∧ (s_X (s_ch ar3.toInt) (s_cE ar2.toNatClampNeg) ar1.toNatClampNeg [] 0 ≠ none → (g12 0 0).toInt = 0)) from (fun hC => ⟨fun _ => (by have ffs : (g12 0 0).toInt = 1 := (congrArg Int32.toInt (by rw [e12]; exact x_up2_at _ _ _ _ : g12 0 0 = 1)).trans (by decide); omega), fun h => absurd h (by omega)⟩))⟩⟩
      · have l13 : 1 ≤ ar2.toInt := t_lel (t_nlt h10) (by decide : (1:Int) ≤ (1:Int32).toInt)
        refine ev_loc f_X11_code (nx := 16) rfl rfl rfl rfl ?_
        refine ev_ic f_X11_code (nx := 17) (v := 4) rfl (by decide) rfl ?_
        refine ev_if f_X11_code (t1 := 30) (t2 := 20) rfl rfl rfl (fun h14 => ?_) (fun h14 => ?_)
        · have l15 : 5 ≤ ar2.toInt := t_ltl h14 (by decide : (4:Int) ≤ (4:Int32).toInt) rfl
          refine ev_loc f_X11_code (nx := 31) rfl rfl rfl rfl ?_
          refine ev_ic f_X11_code (nx := 32) (v := 1) rfl (by decide) rfl ?_
          refine ev_inV2 f_X11_code (nx := 35) (lo2 := [(0, .ref 0), (1, .int 1)]) rfl rfl rfl rfl f_X11_refuse (hI.wf.s rfl) rfl rfl rfl rfl rfl ?_
          refine ev_loc f_X11_refuse (nx := 1) rfl rfl rfl rfl ?_
          refine ev_loc f_X11_refuse (nx := 2) rfl rfl rfl rfl ?_
          refine ev_putIT f_X11_refuse (nx := 5) rfl (hI.wf.s rfl) rfl rfl rfl (hI.put0 (hI.wf.s rfl) rfl rfl) (hX.upI rfl) (fun g16 e16 hI hX => ?_)
          refine ev_ic f_X11_refuse (nx := 6) (v := -1) rfl (by decide) rfl ?_
          refine ev_retK1 f_X11_refuse rfl rfl rfl ?_
          exact ev_ret f_X11_code rfl rfl rfl ⟨_, _, _, rfl, hI, hX, ⟨_, rfl, (Int.le_trans (by decide : ((-2147483648):Int) ≤ (-1)) (by decide : ((-1):Int) ≤ ((-1):Int32).toInt)), (Int.le_trans (by decide : ((-1):Int32).toInt ≤ ((-1):Int)) (by decide : ((-1):Int) ≤ 2147483647)), (show t_CL gi gl → (¬ (1 ≤ ar1.toInt ∧ ar1.toInt ≤ 4 ∧ 1 ≤ ar2.toInt ∧ ar2.toInt ≤ 4 ∧ 0 ≤ ar3.toInt ∧ ar3.toInt ≤ 9) → (g16 0 0).toInt = 1) ∧ ((1 ≤ ar1.toInt ∧ ar1.toInt ≤ 4 ∧ 1 ≤ ar2.toInt ∧ ar2.toInt ≤ 4 ∧ 0 ≤ ar3.toInt ∧ ar3.toInt ≤ 9) → (s_X (s_ch ar3.toInt) (s_cE ar2.toNatClampNeg) ar1.toNatClampNeg [] 0 = none → (g16 0 0).toInt = 6) ∧ (s_X (s_ch ar3.toInt) (s_cE ar2.toNatClampNeg) ar1.toNatClampNeg [] 0 ≠ none → (g16 0 0).toInt = 0)) from (fun hC => ⟨fun _ => (by have ffs : (g16 0 0).toInt = 1 := (congrArg Int32.toInt (by rw [e16]; exact x_up2_at _ _ _ _ : g16 0 0 = 1)).trans (by decide); omega), fun h => absurd h (by omega)⟩))⟩⟩
        · have u17 : ar2.toInt ≤ 4 := t_leu (t_nlt h14) (by decide : (4:Int32).toInt ≤ (4:Int))
          refine ev_loc f_X11_code (nx := 21) rfl rfl rfl rfl ?_
          refine ev_if f_X11_code (t1 := 30) (t2 := 24) rfl rfl rfl (fun h18 => ?_) (fun h18 => ?_)
          · have u19 : ar3.toInt ≤ (-1) := t_ltu h18 (by decide : (0:Int32).toInt ≤ (0:Int)) rfl
            refine ev_loc f_X11_code (nx := 31) rfl rfl rfl rfl ?_
            refine ev_ic f_X11_code (nx := 32) (v := 1) rfl (by decide) rfl ?_
            refine ev_inV2 f_X11_code (nx := 35) (lo2 := [(0, .ref 0), (1, .int 1)]) rfl rfl rfl rfl f_X11_refuse (hI.wf.s rfl) rfl rfl rfl rfl rfl ?_
            refine ev_loc f_X11_refuse (nx := 1) rfl rfl rfl rfl ?_
            refine ev_loc f_X11_refuse (nx := 2) rfl rfl rfl rfl ?_
            refine ev_putIT f_X11_refuse (nx := 5) rfl (hI.wf.s rfl) rfl rfl rfl (hI.put0 (hI.wf.s rfl) rfl rfl) (hX.upI rfl) (fun g20 e20 hI hX => ?_)
            refine ev_ic f_X11_refuse (nx := 6) (v := -1) rfl (by decide) rfl ?_
            refine ev_retK1 f_X11_refuse rfl rfl rfl ?_
            exact ev_ret f_X11_code rfl rfl rfl ⟨_, _, _, rfl, hI, hX, ⟨_, rfl, (Int.le_trans (by decide : ((-2147483648):Int) ≤ (-1)) (by decide : ((-1):Int) ≤ ((-1):Int32).toInt)), (Int.le_trans (by decide : ((-1):Int32).toInt ≤ ((-1):Int)) (by decide : ((-1):Int) ≤ 2147483647)), (show t_CL gi gl → (¬ (1 ≤ ar1.toInt ∧ ar1.toInt ≤ 4 ∧ 1 ≤ ar2.toInt ∧ ar2.toInt ≤ 4 ∧ 0 ≤ ar3.toInt ∧ ar3.toInt ≤ 9) → (g20 0 0).toInt = 1) ∧ ((1 ≤ ar1.toInt ∧ ar1.toInt ≤ 4 ∧ 1 ≤ ar2.toInt ∧ ar2.toInt ≤ 4 ∧ 0 ≤ ar3.toInt ∧ ar3.toInt ≤ 9) → (s_X (s_ch ar3.toInt) (s_cE ar2.toNatClampNeg) ar1.toNatClampNeg [] 0 = none → (g20 0 0).toInt = 6) ∧ (s_X (s_ch ar3.toInt) (s_cE ar2.toNatClampNeg) ar1.toNatClampNeg [] 0 ≠ none → (g20 0 0).toInt = 0)) from (fun hC => ⟨fun _ => (by have ffs : (g20 0 0).toInt = 1 := (congrArg Int32.toInt (by rw [e20]; exact x_up2_at _ _ _ _ : g20 0 0 = 1)).trans (by decide); omega), fun h => absurd h (by omega)⟩))⟩⟩
          · have l21 : 0 ≤ ar3.toInt := t_lel (t_nlt h18) (by decide : (0:Int) ≤ (0:Int32).toInt)
            refine ev_loc f_X11_code (nx := 25) rfl rfl rfl rfl ?_
            refine ev_bp f_X11_code (nx := 27) (v := 9) rfl (by decide) rfl ?_
            refine ev_if f_X11_code (t1 := 36) (t2 := 30) rfl rfl rfl (fun h22 => ?_) (fun h22 => ?_)
            · have u23 : ar3.toInt ≤ 9 := t_leu h22 (by decide : (9:Int32).toInt ≤ (9:Int))
              refine ev_loc f_X11_code (nx := 37) rfl rfl rfl rfl ?_
              refine ev_getR f_X11_code (nx := 40) rfl (hI.wf.s rfl) rfl rfl (hI.wf.r rfl) rfl rfl ?_
              refine ev_loc f_X11_code (nx := 41) rfl rfl rfl rfl ?_
              refine ev_loc f_X11_code (nx := 42) rfl rfl rfl rfl ?_
              refine ev_loc f_X11_code (nx := 43) rfl rfl rfl rfl ?_
              refine ev_qI f_X11_code (nx := 46) (r := []) rfl rfl rfl rfl rfl rfl rfl (c_d_find hI (ar1) l5 u9 (ar2) l13 u17 (ar3) l21 u23) rfl hX rfl (fun w24 gi24 gl24 gr24 l24 u24 hI hX hC24 q24 => ?_)
              have q24 : t_CL gi gl → (w24.toInt = 1 ∧ ∃ L, s_X (s_ch ar3.toInt) (s_cE ar2.toNatClampNeg) ar1.toNatClampNeg [] 0 = some L ∧ s_RW (gi24 27) L ∧ (L.length : Int) = ar1.toInt ∧ (gi24 22 6).toInt = ar1.toInt) ∨ (w24.toInt = 0 ∧ s_X (s_ch ar3.toInt) (s_cE ar2.toNatClampNeg) ar1.toNatClampNeg [] 0 = none ∧ gi24 27 = gi 27 ∧ gi24 22 6 = gi 22 6) := q24
              refine ev_if f_X11_code (t1 := 63) (t2 := 49) rfl rfl rfl (fun h25 => ?_) (fun h25 => ?_)
              · have u26 : w24.toInt ≤ 0 := t_equ h25 (by decide : (0:Int32).toInt ≤ (0:Int))
                refine ev_loc f_X11_code (nx := 64) rfl rfl rfl rfl ?_
                refine ev_bp f_X11_code (nx := 66) (v := 6) rfl (by decide) rfl ?_
                refine ev_inV2 f_X11_code (nx := 69) (lo2 := [(0, .ref 0), (1, .int 6)]) rfl rfl rfl rfl f_X11_refuse (hI.wf.s rfl) rfl rfl rfl rfl rfl ?_
                refine ev_loc f_X11_refuse (nx := 1) rfl rfl rfl rfl ?_
                refine ev_loc f_X11_refuse (nx := 2) rfl rfl rfl rfl ?_
                refine ev_putIT f_X11_refuse (nx := 5) rfl (hI.wf.s rfl) rfl rfl rfl (hI.put0 (hI.wf.s rfl) rfl rfl) (hX.upI rfl) (fun g27 e27 hI hX => ?_)
                refine ev_ic f_X11_refuse (nx := 6) (v := -1) rfl (by decide) rfl ?_
                refine ev_retK1 f_X11_refuse rfl rfl rfl ?_
                exact ev_ret f_X11_code rfl rfl rfl ⟨_, _, _, rfl, hI, hX, ⟨_, rfl, (Int.le_trans (by decide : ((-2147483648):Int) ≤ (-1)) (by decide : ((-1):Int) ≤ ((-1):Int32).toInt)), (Int.le_trans (by decide : ((-1):Int32).toInt ≤ ((-1):Int)) (by decide : ((-1):Int) ≤ 2147483647)), (show t_CL gi gl → (¬ (1 ≤ ar1.toInt ∧ ar1.toInt ≤ 4 ∧ 1 ≤ ar2.toInt ∧ ar2.toInt ≤ 4 ∧ 0 ≤ ar3.toInt ∧ ar3.toInt ≤ 9) → (g27 0 0).toInt = 1) ∧ ((1 ≤ ar1.toInt ∧ ar1.toInt ≤ 4 ∧ 1 ≤ ar2.toInt ∧ ar2.toInt ≤ 4 ∧ 0 ≤ ar3.toInt ∧ ar3.toInt ≤ 9) → (s_X (s_ch ar3.toInt) (s_cE ar2.toNatClampNeg) ar1.toNatClampNeg [] 0 = none → (g27 0 0).toInt = 6) ∧ (s_X (s_ch ar3.toInt) (s_cE ar2.toNatClampNeg) ar1.toNatClampNeg [] 0 ≠ none → (g27 0 0).toInt = 0)) from (by
                                                            intro hC
                                                            have hq := q24 hC
                                                            obtain ⟨_, g1, -⟩ := hq.resolve_left (fun hh => absurd hh.1 (by omega))
                                                            exact ⟨fun h => absurd (show _ from ⟨by omega, by omega, by omega, by omega, by omega, by omega⟩) h, fun h => ⟨fun h2 => (by have ffs : (g27 0 0).toInt = 6 := (congrArg Int32.toInt (by rw [e27]; exact x_up2_at _ _ _ _ : g27 0 0 = 6)).trans (by decide); omega), fun h2 => absurd g1 h2⟩⟩))⟩⟩
              · have r28 : w24.toInt ≠ 0 := fun e => h25 (Int32.toInt_inj.mp (e.trans (by decide : (0:Int) = (0 : Int32).toInt)))
                have l29 : 1 ≤ w24.toInt := t_nel h25 l24 rfl rfl
                refine ev_loc f_X11_code (nx := 50) rfl rfl rfl rfl ?_
                refine ev_loc f_X11_code (nx := 51) rfl rfl rfl rfl ?_
                refine ev_getR f_X11_code (nx := 54) rfl (hI.wf.s rfl) rfl rfl (hI.wf.r rfl) rfl rfl ?_
                refine ev_qI0 f_X11_code (nx := 57) (r := [.ref 0]) rfl rfl rfl rfl rfl rfl rfl (c_d_bt hI ) rfl (fun w30 l30 u30 q30 => ?_)
                have q30 : w30 = s_sI (fun i => gi24 24 (gi24 27 i).toInt.toNat) (gi24 22 6).toInt.toNat := q30
                refine ev_inV2 f_X11_code (nx := 60) (lo2 := [(0, .ref 0), (1, .int w30)]) rfl rfl rfl rfl f_X11_answer (hI.wf.s rfl) rfl rfl rfl rfl rfl ?_
                refine ev_loc f_X11_answer (nx := 1) rfl rfl rfl rfl ?_
                refine ev_ic f_X11_answer (nx := 2) (v := 0) rfl (by decide) rfl ?_
                refine ev_putIT f_X11_answer (nx := 5) rfl (hI.wf.s rfl) rfl rfl rfl (hI.put0 (hI.wf.s rfl) rfl rfl) (hX.upI rfl) (fun g31 e31 hI hX => ?_)
                refine ev_loc f_X11_answer (nx := 6) rfl rfl rfl rfl ?_
                refine ev_retK1 f_X11_answer rfl rfl rfl ?_
                refine ev_jmp f_X11_code (nx := 69) rfl rfl rfl ?_
                exact ev_ret f_X11_code rfl rfl rfl ⟨_, _, _, rfl, hI, hX, ⟨_, rfl, l30, u30, (show t_CL gi gl → (¬ (1 ≤ ar1.toInt ∧ ar1.toInt ≤ 4 ∧ 1 ≤ ar2.toInt ∧ ar2.toInt ≤ 4 ∧ 0 ≤ ar3.toInt ∧ ar3.toInt ≤ 9) → (g31 0 0).toInt = 1) ∧ ((1 ≤ ar1.toInt ∧ ar1.toInt ≤ 4 ∧ 1 ≤ ar2.toInt ∧ ar2.toInt ≤ 4 ∧ 0 ≤ ar3.toInt ∧ ar3.toInt ≤ 9) → (s_X (s_ch ar3.toInt) (s_cE ar2.toNatClampNeg) ar1.toNatClampNeg [] 0 = none → (g31 0 0).toInt = 6) ∧ (s_X (s_ch ar3.toInt) (s_cE ar2.toNatClampNeg) ar1.toNatClampNeg [] 0 ≠ none → (g31 0 0).toInt = 0)) from (by
                                                            intro hC
                                                            have hq := q24 hC
                                                            obtain ⟨_, L, g1, -⟩ := hq.resolve_right (fun hh => absurd hh.1 (by omega))
                                                            exact ⟨fun h => absurd (show _ from ⟨by omega, by omega, by omega, by omega, by omega, by omega⟩) h, fun h => ⟨fun h2 => absurd (g1.symm.trans h2) (by intro hh; cases hh), fun h2 => (by have ffs : (g31 0 0).toInt = 0 := (congrArg Int32.toInt (by rw [e31]; exact x_up2_at _ _ _ _ : g31 0 0 = 0)).trans (by decide); omega)⟩⟩))⟩⟩
            · have l32 : 10 ≤ ar3.toInt := t_ltl (t_nle h22) (by decide : (9:Int) ≤ (9:Int32).toInt) rfl
              refine ev_loc f_X11_code (nx := 31) rfl rfl rfl rfl ?_
              refine ev_ic f_X11_code (nx := 32) (v := 1) rfl (by decide) rfl ?_
              refine ev_inV2 f_X11_code (nx := 35) (lo2 := [(0, .ref 0), (1, .int 1)]) rfl rfl rfl rfl f_X11_refuse (hI.wf.s rfl) rfl rfl rfl rfl rfl ?_
              refine ev_loc f_X11_refuse (nx := 1) rfl rfl rfl rfl ?_
              refine ev_loc f_X11_refuse (nx := 2) rfl rfl rfl rfl ?_
              refine ev_putIT f_X11_refuse (nx := 5) rfl (hI.wf.s rfl) rfl rfl rfl (hI.put0 (hI.wf.s rfl) rfl rfl) (hX.upI rfl) (fun g33 e33 hI hX => ?_)
              refine ev_ic f_X11_refuse (nx := 6) (v := -1) rfl (by decide) rfl ?_
              refine ev_retK1 f_X11_refuse rfl rfl rfl ?_
              exact ev_ret f_X11_code rfl rfl rfl ⟨_, _, _, rfl, hI, hX, ⟨_, rfl, (Int.le_trans (by decide : ((-2147483648):Int) ≤ (-1)) (by decide : ((-1):Int) ≤ ((-1):Int32).toInt)), (Int.le_trans (by decide : ((-1):Int32).toInt ≤ ((-1):Int)) (by decide : ((-1):Int) ≤ 2147483647)), (show t_CL gi gl → (¬ (1 ≤ ar1.toInt ∧ ar1.toInt ≤ 4 ∧ 1 ≤ ar2.toInt ∧ ar2.toInt ≤ 4 ∧ 0 ≤ ar3.toInt ∧ ar3.toInt ≤ 9) → (g33 0 0).toInt = 1) ∧ ((1 ≤ ar1.toInt ∧ ar1.toInt ≤ 4 ∧ 1 ≤ ar2.toInt ∧ ar2.toInt ≤ 4 ∧ 0 ≤ ar3.toInt ∧ ar3.toInt ≤ 9) → (s_X (s_ch ar3.toInt) (s_cE ar2.toNatClampNeg) ar1.toNatClampNeg [] 0 = none → (g33 0 0).toInt = 6) ∧ (s_X (s_ch ar3.toInt) (s_cE ar2.toNatClampNeg) ar1.toNatClampNeg [] 0 ≠ none → (g33 0 0).toInt = 0)) from (fun hC => ⟨fun _ => (by have ffs : (g33 0 0).toInt = 1 := (congrArg Int32.toInt (by rw [e33]; exact x_up2_at _ _ _ _ : g33 0 0 = 1)).trans (by decide); omega), fun h => absurd h (by omega)⟩))⟩⟩
