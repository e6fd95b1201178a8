/-! ===== printed by riv.py: CODES of the class ===== -/
noncomputable def wl_d_hir : List (Nat × Nat) := []
noncomputable def Q_d_hir (gi : Nat → Nat → Int32) (gl : Nat → Nat → Int64) (gr : Nat → Nat → Value) (ar1 : Int32) : Int64 → (Nat → Nat → Int32) → (Nat → Nat → Int64) → (Nat → Nat → Value) → Prop := fun (v : Int64) (gi2 : Nat → Nat → Int32) (gl2 : Nat → Nat → Int64) (gr2 : Nat → Nat → Value) => 0 ≤ ar1.toInt → ar1.toInt ≤ 3 → (gi 22 3).toInt = 30 → v = s_rh (gl 25) (gi 26) ar1.toNatClampNeg
theorem c_d_hir {X : x_Ext} {d : Nat} {sh : List (Nat ⊕ (Nat × Nat))} {gi : Nat → Nat → Int32} {gl : Nat → Nat → Int64} {gr : Nat → Nat → Value} (hI : t_I sh gi gr) (ar1 : Int32) : x_Me X (d + 1) n_X0_heardInRow [.ref 22, .int ar1] (sh, gi, gl, gr) (t_PL wl_d_hir sh gi gl gr (Q_d_hir gi gl gr ar1)) := by
  have hX : t_X wl_d_hir sh gi gl gr gi gl gr := t_X.rf
  refine me_i f_X0_heardInRow (hI.wf.s rfl) rfl rfl rfl ?_
  obtain ⟨l1, u1⟩ := hI.b (hI.wf.s (k := 22) rfl) (t_bdK rfl : t_bd 0 3 = some (0, 30))
  refine ev_loc f_X0_heardInRow (nx := 1) rfl rfl rfl rfl ?_
  refine ev_if f_X0_heardInRow (t1 := 35) (t2 := 4) rfl rfl rfl (fun h2 => ?_) (fun h2 => ?_)
  · have u3 : ar1.toInt ≤ (-1) := t_ltu h2 (by decide : (0:Int32).toInt ≤ (0:Int)) rfl
    refine ev_lc f_X0_heardInRow (nx := 36) (v := 0) rfl (by decide) rfl ?_
    exact ev_ret f_X0_heardInRow rfl rfl rfl ⟨_, _, _, rfl, hI, hX, ⟨_, rfl, (show 0 ≤ ar1.toInt → ar1.toInt ≤ 3 → (gi 22 3).toInt = 30 → (0 : Int64) = s_rh (gl 25) (gi 26) ar1.toNatClampNeg from (by intro h0 h1 h30; exfalso; omega))⟩⟩
  · have l4 : 0 ≤ ar1.toInt := t_lel (t_nlt h2) (by decide : (0:Int) ≤ (0:Int32).toInt)
    refine ev_loc f_X0_heardInRow (nx := 5) rfl rfl rfl rfl ?_
    refine ev_loc f_X0_heardInRow (nx := 6) rfl rfl rfl rfl ?_
    refine ev_getR f_X0_heardInRow (nx := 9) rfl (hI.wf.s rfl) rfl rfl (hI.wf.r rfl) rfl rfl ?_
    refine ev_alenv f_X0_heardInRow (nx := 10) (w := 4) rfl (hI.wf.s rfl) rfl (by decide) rfl ?_
    refine ev_if f_X0_heardInRow (t1 := 35) (t2 := 13) rfl rfl rfl (fun h5 => ?_) (fun h5 => ?_)
    · have l6 : 4 ≤ ar1.toInt := t_lel h5 (by decide : (4:Int) ≤ (4:Int32).toInt)
      refine ev_lc f_X0_heardInRow (nx := 36) (v := 0) rfl (by decide) rfl ?_
      exact ev_ret f_X0_heardInRow rfl rfl rfl ⟨_, _, _, rfl, hI, hX, ⟨_, rfl, (show 0 ≤ ar1.toInt → ar1.toInt ≤ 3 → (gi 22 3).toInt = 30 → (0 : Int64) = s_rh (gl 25) (gi 26) ar1.toNatClampNeg from (by intro h0 h1 h30; exfalso; omega))⟩⟩
    · have u7 : ar1.toInt ≤ 3 := t_ltu (t_nle h5) (by decide : (4:Int32).toInt ≤ (4:Int)) rfl
      refine ev_loc f_X0_heardInRow (nx := 14) rfl rfl rfl rfl ?_
      refine ev_getR f_X0_heardInRow (nx := 17) rfl (hI.wf.s rfl) rfl rfl (hI.wf.r rfl) rfl rfl ?_
      refine ev_loc f_X0_heardInRow (nx := 18) rfl rfl rfl rfl ?_
      refine ev_ialdT f_X0_heardInRow (nx := 19) rfl (hI.wf.s rfl) l4 (by decide) u7 (by decide) rfl (fun w8 e8 => ?_)
      obtain ⟨l8, u8⟩ := hI.abi e8 (by decide +kernel : t_abr 26 0 3 0 29 = true) l4 (by decide) u7 (by decide)
      refine ev_f f_X0_heardInRow (t1 := 35) (t2 := 22) rfl rfl rfl (t_ltF (by decide : (0:Int32).toInt ≤ (0:Int)) l8 (by decide)) ?_
      refine ev_loc f_X0_heardInRow (nx := 23) rfl rfl rfl rfl ?_
      refine ev_getR f_X0_heardInRow (nx := 26) rfl (hI.wf.s rfl) rfl rfl (hI.wf.r rfl) rfl rfl ?_
      refine ev_loc f_X0_heardInRow (nx := 27) rfl rfl rfl rfl ?_
      refine ev_ialdT f_X0_heardInRow (nx := 28) rfl (hI.wf.s rfl) l4 (by decide) u7 (by decide) rfl (fun w9 e9 => ?_)
      rw [e9.trans e8.symm]
      refine ev_loc f_X0_heardInRow (nx := 29) rfl rfl rfl rfl ?_
      refine ev_gvI f_X0_heardInRow (nx := 32) (w := (gi 22 3)) rfl (hI.wf.s rfl) rfl rfl rfl rfl ?_
      refine ev_if f_X0_heardInRow (t1 := 37) (t2 := 35) rfl rfl rfl (fun h10 => ?_) (fun h10 => ?_)
      · have r11 : w8.toInt < (gi 22 3).toInt := Int32.lt_iff_toInt_lt.mp h10
        have l12 : 1 ≤ (gi 22 3).toInt := t_ltl h10 l8 rfl
        refine ev_loc f_X0_heardInRow (nx := 38) rfl rfl rfl rfl ?_
        refine ev_getR f_X0_heardInRow (nx := 41) rfl (hI.wf.s rfl) rfl rfl (hI.wf.r rfl) rfl rfl ?_
        refine ev_loc f_X0_heardInRow (nx := 42) rfl rfl rfl rfl ?_
        refine ev_getR f_X0_heardInRow (nx := 45) rfl (hI.wf.s rfl) rfl rfl (hI.wf.r rfl) rfl rfl ?_
        refine ev_loc f_X0_heardInRow (nx := 46) rfl rfl rfl rfl ?_
        refine ev_ialdT f_X0_heardInRow (nx := 47) rfl (hI.wf.s rfl) l4 (by decide) u7 (by decide) rfl (fun w13 e13 => ?_)
        rw [e13.trans e8.symm]
        refine ev_laldT f_X0_heardInRow (nx := 48) rfl (hI.wf.s rfl) l8 (by decide) u8 (by decide) rfl (fun w14 e14 => ?_)
        exact ev_ret f_X0_heardInRow rfl rfl rfl ⟨_, _, _, rfl, hI, hX, ⟨_, rfl, (show 0 ≤ ar1.toInt → ar1.toInt ≤ 3 → (gi 22 3).toInt = 30 → w14 = s_rh (gl 25) (gi 26) ar1.toNatClampNeg from (by
                                                            intro h0 h1 h30
                                                            have c8 := t_clamp (i := w8) (by omega)
                                                            show w14 = gl 25 (gi 26 ar1.toNatClampNeg).toInt.toNat
                                                            rw [← e8, e14, show w8.toNatClampNeg = w8.toInt.toNat by omega]))⟩⟩
      · have r15 : (gi 22 3).toInt ≤ w8.toInt := Int32.le_iff_toInt_le.mp (t_nlt h10)
        have u16 : (gi 22 3).toInt ≤ 29 := t_leu (t_nlt h10) u8
        refine ev_lc f_X0_heardInRow (nx := 36) (v := 0) rfl (by decide) rfl ?_
        exact ev_ret f_X0_heardInRow rfl rfl rfl ⟨_, _, _, rfl, hI, hX, ⟨_, rfl, (show 0 ≤ ar1.toInt → ar1.toInt ≤ 3 → (gi 22 3).toInt = 30 → (0 : Int64) = s_rh (gl 25) (gi 26) ar1.toNatClampNeg from (by intro h0 h1 h30; exfalso; omega))⟩⟩
noncomputable def wl_d_fit : List (Nat × Nat) := []
noncomputable def Q_d_fit (gi : Nat → Nat → Int32) (gl : Nat → Nat → Int64) (gr : Nat → Nat → Value) (ar1 : Int32) : Int32 → (Nat → Nat → Int32) → (Nat → Nat → Int64) → (Nat → Nat → Value) → Prop := fun (v : Int32) (gi2 : Nat → Nat → Int32) (gl2 : Nat → Nat → Int64) (gr2 : Nat → Nat → Value) => (gi 22 3).toInt = 30 → (v.toInt = 1 ↔ s_fx (s_rh (gl 25) (gi 26)) ar1.toNatClampNeg)
theorem c_d_fit {X : x_Ext} {d : Nat} {sh : List (Nat ⊕ (Nat × Nat))} {gi : Nat → Nat → Int32} {gl : Nat → Nat → Int64} {gr : Nat → Nat → Value} (hI : t_I sh gi gr) (ar1 : Int32) (l_a1 : 0 ≤ ar1.toInt) (u_a1 : ar1.toInt ≤ 3) : x_Me X (d + 2) n_X0_fitsLast [.ref 22, .int ar1] (sh, gi, gl, gr) (t_PI wl_d_fit sh gi gl gr 0 1 (Q_d_fit gi gl gr ar1)) := by
  have hX : t_X wl_d_fit sh gi gl gr gi gl gr := t_X.rf
  refine me_i f_X0_fitsLast (hI.wf.s rfl) rfl rfl rfl ?_
  obtain ⟨l1, u1⟩ := hI.b (hI.wf.s (k := 22) rfl) (t_bdK rfl : t_bd 0 3 = some (0, 30))
  refine ev_ic f_X0_fitsLast (nx := 1) (v := 0) rfl (by decide) rfl ?_
  refine ev_loc f_X0_fitsLast (nx := 2) (lo' := [(2, .int 0), (0, .ref 22), (1, .int ar1)]) rfl rfl rfl rfl ?_
  have L2 : ∀ (m2 : Nat) (y2_2 : Int32), 0 ≤ y2_2.toInt → y2_2.toInt ≤ 3 → ((gi 22 3).toInt = 30 → ∀ a : Nat, (a : Int) < y2_2.toInt → s_fy (s_rh (gl 25) (gi 26)) ar1.toNatClampNeg a) → (3 - y2_2.toInt).toNat = m2 → x_Ev X (d + 2) n_X0_fitsLast 2 [(2, .int y2_2), (0, .ref 22), (1, .int ar1)] [] (sh, gi, gl, gr) (t_PI wl_d_fit sh gi gl gr 0 1 (Q_d_fit gi gl gr ar1)) := by
    intro m2
    induction m2 using Nat.strongRecOn with
    | _ m2 ih2 =>
    intro y2_2 l2_2 u2_2 j2_0 hm2
    refine ev_loc f_X0_fitsLast (nx := 3) rfl rfl rfl rfl ?_
    refine ev_loc f_X0_fitsLast (nx := 4) rfl rfl rfl rfl ?_
    refine ev_if f_X0_fitsLast (t1 := 113) (t2 := 7) rfl rfl rfl (fun h3 => ?_) (fun h3 => ?_)
    · have r4 : ar1.toInt ≤ y2_2.toInt := Int32.le_iff_toInt_le.mp h3
      refine ev_ic f_X0_fitsLast (nx := 114) (v := 1) rfl (by decide) rfl ?_
      exact ev_ret f_X0_fitsLast rfl rfl rfl ⟨_, _, _, rfl, hI, hX, ⟨_, rfl, (Int.le_trans (by decide : (0:Int) ≤ 1) (by decide : (1:Int) ≤ (1:Int32).toInt)), (by decide : (1:Int32).toInt ≤ (1:Int)), (show (gi 22 3).toInt = 30 → ((1 : Int) = 1 ↔ s_fx (s_rh (gl 25) (gi 26)) ar1.toNatClampNeg) from (by
                                                            intro h30
                                                            have ck := t_clamp (i := ar1) (by omega)
                                                            exact ⟨fun _ a ha => j2_0 h30 a (by omega), fun _ => rfl⟩))⟩⟩
    · have r5 : y2_2.toInt < ar1.toInt := Int32.lt_iff_toInt_lt.mp (t_nle h3)
      have u6 : y2_2.toInt ≤ 2 := t_ltu (t_nle h3) u_a1 rfl
      have l7 : 1 ≤ ar1.toInt := t_ltl (t_nle h3) l2_2 rfl
      refine ev_loc f_X0_fitsLast (nx := 8) rfl rfl rfl rfl ?_
      refine ev_loc f_X0_fitsLast (nx := 9) rfl rfl rfl rfl ?_
      refine ev_qL0 f_X0_fitsLast (nx := 12) (r := []) rfl rfl rfl rfl rfl rfl rfl (c_d_hir hI (y2_2)) rfl (fun w8 q8 => ?_)
      have q8 : 0 ≤ y2_2.toInt → y2_2.toInt ≤ 3 → (gi 22 3).toInt = 30 → w8 = s_rh (gl 25) (gi 26) y2_2.toNatClampNeg := q8
      refine ev_loc f_X0_fitsLast (nx := 13) rfl rfl rfl rfl ?_
      refine ev_loc f_X0_fitsLast (nx := 14) rfl rfl rfl rfl ?_
      refine ev_qL0 f_X0_fitsLast (nx := 17) (r := [.long w8]) rfl rfl rfl rfl rfl rfl rfl (c_d_hir hI (ar1)) rfl (fun w9 q9 => ?_)
      have q9 : 0 ≤ ar1.toInt → ar1.toInt ≤ 3 → (gi 22 3).toInt = 30 → w9 = s_rh (gl 25) (gi 26) ar1.toNatClampNeg := q9
      refine ev_anyIE f_X0_fitsLast (nx := 18) rfl rfl rfl rfl (fun z10 e10 => ?_)
      refine ev_if f_X0_fitsLast (t1 := 21) (t2 := 23) rfl rfl rfl (fun h11 => ?_) (fun h11 => ?_)
      · have u12 : z10.toInt ≤ 0 := t_equ h11 (by decide : (0:Int32).toInt ≤ (0:Int))
        have l13 : 0 ≤ z10.toInt := t_eql h11 (by decide : (0:Int) ≤ (0:Int32).toInt)
        refine ev_ic f_X0_fitsLast (nx := 22) (v := 0) rfl (by decide) rfl ?_
        exact ev_ret f_X0_fitsLast rfl rfl rfl ⟨_, _, _, rfl, hI, hX, ⟨_, rfl, (by decide : (0:Int) ≤ (0:Int32).toInt), (Int.le_trans (by decide : (0:Int32).toInt ≤ (0:Int)) (by decide : (0:Int) ≤ 1)), (show (gi 22 3).toInt = 30 → ((0 : Int) = 1 ↔ s_fx (s_rh (gl 25) (gi 26)) ar1.toNatClampNeg) from (by
                                                            intro h30
                                                            have ck := t_clamp (i := ar1) (by omega)
                                                            have ca := t_clamp (i := y2_2) (by omega)
                                                            have cw8 := q8 (by omega) (by omega) h30
                                                            have cw9 := q9 (by omega) (by omega) h30
                                                            have k0 : (s_rh (gl 25) (gi 26)) y2_2.toNatClampNeg = (s_rh (gl 25) (gi 26)) ar1.toNatClampNeg := by have hh := ((lg_cmp_eq _ _).mp (e10.symm.trans h11)); rw [cw8, cw9] at hh; exact hh
                                                            exact ⟨fun hh => absurd hh (by decide), fun hh => absurd k0 (hh y2_2.toNatClampNeg (by omega)).1⟩))⟩⟩
      · have r14 : z10.toInt ≠ 0 := fun e => h11 (Int32.toInt_inj.mp (e.trans (by decide : (0:Int) = (0 : Int32).toInt)))
        refine ev_ic f_X0_fitsLast (nx := 24) (v := 0) rfl (by decide) rfl ?_
        refine ev_loc f_X0_fitsLast (nx := 25) (lo' := [(3, .int 0), (2, .int y2_2), (0, .ref 22), (1, .int ar1)]) rfl rfl rfl rfl ?_
        have L15 : ∀ (m15 : Nat) (y15_3 : Int32), 0 ≤ y15_3.toInt → y15_3.toInt ≤ 3 → ((gi 22 3).toInt = 30 → s_rh (gl 25) (gi 26) y2_2.toNatClampNeg ≠ s_rh (gl 25) (gi 26) ar1.toNatClampNeg ∧ ∀ b : Nat, (b : Int) < y15_3.toInt → y2_2.toNatClampNeg ≠ b → (s_rh (gl 25) (gi 26) y2_2.toNatClampNeg ||| s_rh (gl 25) (gi 26) b) ≠ s_rh (gl 25) (gi 26) ar1.toNatClampNeg ∧ (s_rh (gl 25) (gi 26) y2_2.toNatClampNeg ||| s_rh (gl 25) (gi 26) ar1.toNatClampNeg) ≠ s_rh (gl 25) (gi 26) b) → (3 - y15_3.toInt).toNat = m15 → x_Ev X (d + 2) n_X0_fitsLast 25 [(3, .int y15_3), (2, .int y2_2), (0, .ref 22), (1, .int ar1)] [] (sh, gi, gl, gr) (t_PI wl_d_fit sh gi gl gr 0 1 (Q_d_fit gi gl gr ar1)) := by
          intro m15
          induction m15 using Nat.strongRecOn with
          | _ m15 ih15 =>
          intro y15_3 l15_3 u15_3 j15_0 hm15
          refine ev_loc f_X0_fitsLast (nx := 26) rfl rfl rfl rfl ?_
          refine ev_loc f_X0_fitsLast (nx := 27) rfl rfl rfl rfl ?_
          refine ev_if f_X0_fitsLast (t1 := 107) (t2 := 30) rfl rfl rfl (fun h16 => ?_) (fun h16 => ?_)
          · have r17 : ar1.toInt ≤ y15_3.toInt := Int32.le_iff_toInt_le.mp h16
            have l18 : 1 ≤ y15_3.toInt := t_lel h16 l7
            refine ev_incR f_X0_fitsLast (nx := 110) (c := 1) (l := 1) (u := 3) rfl rfl (by decide) (by decide) l2_2 u6 rfl rfl (by decide) (by decide) rfl (fun z19 e19 l19 u19 => ?_)
            refine ev_jmp f_X0_fitsLast (nx := 2) rfl rfl rfl ?_
            refine ev_sub (lo := [(2, .int z19), (0, .ref 22), (1, .int ar1)]) rfl (t_sc rfl (t_sc rfl (t_sc rfl t_sn))) ?_
            exact ih2 _ (by omega) (z19) (Int.le_trans (by decide : (0:Int) ≤ 1) l19) u19 (fun h30 a ha => (by
                                                            have ca := t_clamp (i := y2_2) (by omega)
                                                            have ck := t_clamp (i := ar1) (by omega)
                                                            by_cases hk : a = y2_2.toNatClampNeg
                                                            · subst hk
                                                              exact And.intro (j15_0 h30).1 (fun b hb hab => (j15_0 h30).2 b (by omega) hab)
                                                            · exact j2_0 h30 a (by omega))) rfl
          · have r20 : y15_3.toInt < ar1.toInt := Int32.lt_iff_toInt_lt.mp (t_nle h16)
            have u21 : y15_3.toInt ≤ 2 := t_ltu (t_nle h16) u_a1 rfl
            refine ev_loc f_X0_fitsLast (nx := 31) rfl rfl rfl rfl ?_
            refine ev_loc f_X0_fitsLast (nx := 32) rfl rfl rfl rfl ?_
            refine ev_qL0 f_X0_fitsLast (nx := 35) (r := []) rfl rfl rfl rfl rfl rfl rfl (c_d_hir hI (y2_2)) rfl (fun w22 q22 => ?_)
            have q22 : 0 ≤ y2_2.toInt → y2_2.toInt ≤ 3 → (gi 22 3).toInt = 30 → w22 = s_rh (gl 25) (gi 26) y2_2.toNatClampNeg := q22
            refine ev_loc f_X0_fitsLast (nx := 36) rfl rfl rfl rfl ?_
            refine ev_loc f_X0_fitsLast (nx := 37) rfl rfl rfl rfl ?_
            refine ev_qL0 f_X0_fitsLast (nx := 40) (r := [.long w22]) rfl rfl rfl rfl rfl rfl rfl (c_d_hir hI (y15_3)) rfl (fun w23 q23 => ?_)
            have q23 : 0 ≤ y15_3.toInt → y15_3.toInt ≤ 3 → (gi 22 3).toInt = 30 → w23 = s_rh (gl 25) (gi 26) y15_3.toNatClampNeg := q23
            refine ev_anyLE f_X0_fitsLast (nx := 41) rfl rfl rfl rfl (fun z24 e24 => ?_)
            refine ev_loc f_X0_fitsLast (nx := 42) rfl rfl rfl rfl ?_
            refine ev_loc f_X0_fitsLast (nx := 43) rfl rfl rfl rfl ?_
            refine ev_qL0 f_X0_fitsLast (nx := 46) (r := [.long z24]) rfl rfl rfl rfl rfl rfl rfl (c_d_hir hI (ar1)) rfl (fun w25 q25 => ?_)
            have q25 : 0 ≤ ar1.toInt → ar1.toInt ≤ 3 → (gi 22 3).toInt = 30 → w25 = s_rh (gl 25) (gi 26) ar1.toNatClampNeg := q25
            refine ev_anyIE f_X0_fitsLast (nx := 47) rfl rfl rfl rfl (fun z26 e26 => ?_)
            refine ev_if f_X0_fitsLast (t1 := 50) (t2 := 54) rfl rfl rfl (fun h27 => ?_) (fun h27 => ?_)
            · have u28 : z26.toInt ≤ 0 := t_equ h27 (by decide : (0:Int32).toInt ≤ (0:Int))
              have l29 : 0 ≤ z26.toInt := t_eql h27 (by decide : (0:Int) ≤ (0:Int32).toInt)
              refine ev_ic f_X0_fitsLast (nx := 51) (v := 1) rfl (by decide) rfl ?_
              refine ev_jmp f_X0_fitsLast (nx := 55) rfl rfl rfl ?_
              refine ev_loc f_X0_fitsLast (nx := 57) (lo' := [(4, .int 1), (3, .int y15_3), (2, .int y2_2), (0, .ref 22), (1, .int ar1)]) rfl rfl rfl rfl ?_
              refine ev_loc f_X0_fitsLast (nx := 58) rfl rfl rfl rfl ?_
              refine ev_loc f_X0_fitsLast (nx := 59) rfl rfl rfl rfl ?_
              refine ev_qL0 f_X0_fitsLast (nx := 62) (r := []) rfl rfl rfl rfl rfl rfl rfl (c_d_hir hI (y2_2)) rfl (fun w30 q30 => ?_)
              have q30 : 0 ≤ y2_2.toInt → y2_2.toInt ≤ 3 → (gi 22 3).toInt = 30 → w30 = s_rh (gl 25) (gi 26) y2_2.toNatClampNeg := q30
              refine ev_loc f_X0_fitsLast (nx := 63) rfl rfl rfl rfl ?_
              refine ev_loc f_X0_fitsLast (nx := 64) rfl rfl rfl rfl ?_
              refine ev_qL0 f_X0_fitsLast (nx := 67) (r := [.long w30]) rfl rfl rfl rfl rfl rfl rfl (c_d_hir hI (ar1)) rfl (fun w31 q31 => ?_)
              have q31 : 0 ≤ ar1.toInt → ar1.toInt ≤ 3 → (gi 22 3).toInt = 30 → w31 = s_rh (gl 25) (gi 26) ar1.toNatClampNeg := q31
              refine ev_anyLE f_X0_fitsLast (nx := 68) rfl rfl rfl rfl (fun z32 e32 => ?_)
              refine ev_loc f_X0_fitsLast (nx := 69) rfl rfl rfl rfl ?_
              refine ev_loc f_X0_fitsLast (nx := 70) rfl rfl rfl rfl ?_
              refine ev_qL0 f_X0_fitsLast (nx := 73) (r := [.long z32]) rfl rfl rfl rfl rfl rfl rfl (c_d_hir hI (y15_3)) rfl (fun w33 q33 => ?_)
              have q33 : 0 ≤ y15_3.toInt → y15_3.toInt ≤ 3 → (gi 22 3).toInt = 30 → w33 = s_rh (gl 25) (gi 26) y15_3.toNatClampNeg := q33
              refine ev_anyIE f_X0_fitsLast (nx := 74) rfl rfl rfl rfl (fun z34 e34 => ?_)
              refine ev_if f_X0_fitsLast (t1 := 77) (t2 := 81) rfl rfl rfl (fun h35 => ?_) (fun h35 => ?_)
              · have u36 : z34.toInt ≤ 0 := t_equ h35 (by decide : (0:Int32).toInt ≤ (0:Int))
                have l37 : 0 ≤ z34.toInt := t_eql h35 (by decide : (0:Int) ≤ (0:Int32).toInt)
                refine ev_ic f_X0_fitsLast (nx := 78) (v := 1) rfl (by decide) rfl ?_
                refine ev_jmp f_X0_fitsLast (nx := 82) rfl rfl rfl ?_
                refine ev_loc f_X0_fitsLast (nx := 84) (lo' := [(5, .int 1), (4, .int 1), (3, .int y15_3), (2, .int y2_2), (0, .ref 22), (1, .int ar1)]) rfl rfl rfl rfl ?_
                refine ev_loc f_X0_fitsLast (nx := 85) rfl rfl rfl rfl ?_
                refine ev_loc f_X0_fitsLast (nx := 86) rfl rfl rfl rfl ?_
                refine ev_if f_X0_fitsLast (t1 := 101) (t2 := 89) rfl rfl rfl (fun h38 => ?_) (fun h38 => ?_)
                · have r39 : y2_2.toInt = y15_3.toInt := t_eqi h38
                  refine ev_incR f_X0_fitsLast (nx := 104) (c := 1) (l := 1) (u := 3) rfl rfl (by decide) (by decide) l15_3 u21 rfl rfl (by decide) (by decide) rfl (fun z40 e40 l40 u40 => ?_)
                  refine ev_jmp f_X0_fitsLast (nx := 25) rfl rfl rfl ?_
                  refine ev_sub (lo := [(3, .int z40), (2, .int y2_2), (0, .ref 22), (1, .int ar1)]) rfl (t_sc rfl (t_sc rfl (t_sc rfl (t_sc rfl t_sn)))) ?_
                  exact ih15 _ (by omega) (z40) (Int.le_trans (by decide : (0:Int) ≤ 1) l40) u40 (fun h30 => (by
                                                            have ca := t_clamp (i := y2_2) (by omega)
                                                            have cb := t_clamp (i := y15_3) (by omega)
                                                            have ck := t_clamp (i := ar1) (by omega)
                                                            have cw8 := q8 (by omega) (by omega) h30
                                                            have cw9 := q9 (by omega) (by omega) h30
                                                            have cw22 := q22 (by omega) (by omega) h30
                                                            have cw23 := q23 (by omega) (by omega) h30
                                                            have cw25 := q25 (by omega) (by omega) h30
                                                            have cw30 := q30 (by omega) (by omega) h30
                                                            have cw31 := q31 (by omega) (by omega) h30
                                                            have cw33 := q33 (by omega) (by omega) h30
                                                            have k0 : ¬ ((s_rh (gl 25) (gi 26)) y2_2.toNatClampNeg = (s_rh (gl 25) (gi 26)) ar1.toNatClampNeg) := fun hh => (fun hh => h11 (e10.trans ((lg_cmp_eq _ _).mpr hh))) (by rw [cw8, cw9]; exact hh)
                                                            have k1 : ((s_rh (gl 25) (gi 26)) y2_2.toNatClampNeg ||| (s_rh (gl 25) (gi 26)) y15_3.toNatClampNeg) = (s_rh (gl 25) (gi 26)) ar1.toNatClampNeg := by have hh := ((lg_cmp_eq _ _).mp (e26.symm.trans h27)); rw [e24, cw22, cw23, cw25] at hh; exact hh
                                                            have k2 : ((s_rh (gl 25) (gi 26)) y2_2.toNatClampNeg ||| (s_rh (gl 25) (gi 26)) ar1.toNatClampNeg) = (s_rh (gl 25) (gi 26)) y15_3.toNatClampNeg := by have hh := ((lg_cmp_eq _ _).mp (e34.symm.trans h35)); rw [e32, cw30, cw31, cw33] at hh; exact hh
                                                            refine ⟨(j15_0 h30).1, fun b hb hab => ?_⟩
                                                            by_cases hk : b = y15_3.toNatClampNeg
                                                            · exact absurd (show y2_2.toNatClampNeg = b by omega) hab
                                                            · exact (j15_0 h30).2 b (by omega) hab)) rfl
                · have r41 : y2_2.toInt ≠ y15_3.toInt := t_nei h38
                  refine ev_loc f_X0_fitsLast (nx := 91) rfl rfl rfl rfl ?_
                  refine ev_f f_X0_fitsLast (t1 := 94) (t2 := 99) rfl rfl rfl (by decide) ?_
                  refine ev_ic f_X0_fitsLast (nx := 100) (v := 0) rfl (by decide) rfl ?_
                  exact ev_ret f_X0_fitsLast rfl rfl rfl ⟨_, _, _, rfl, hI, hX, ⟨_, rfl, (by decide : (0:Int) ≤ (0:Int32).toInt), (Int.le_trans (by decide : (0:Int32).toInt ≤ (0:Int)) (by decide : (0:Int) ≤ 1)), (show (gi 22 3).toInt = 30 → ((0 : Int) = 1 ↔ s_fx (s_rh (gl 25) (gi 26)) ar1.toNatClampNeg) from (by
                                                            intro h30
                                                            have ck := t_clamp (i := ar1) (by omega)
                                                            have ca := t_clamp (i := y2_2) (by omega)
                                                            have cb := t_clamp (i := y15_3) (by omega)
                                                            have cw8 := q8 (by omega) (by omega) h30
                                                            have cw9 := q9 (by omega) (by omega) h30
                                                            have cw22 := q22 (by omega) (by omega) h30
                                                            have cw23 := q23 (by omega) (by omega) h30
                                                            have cw25 := q25 (by omega) (by omega) h30
                                                            have cw30 := q30 (by omega) (by omega) h30
                                                            have cw31 := q31 (by omega) (by omega) h30
                                                            have cw33 := q33 (by omega) (by omega) h30
                                                            have k0 : ¬ ((s_rh (gl 25) (gi 26)) y2_2.toNatClampNeg = (s_rh (gl 25) (gi 26)) ar1.toNatClampNeg) := fun hh => (fun hh => h11 (e10.trans ((lg_cmp_eq _ _).mpr hh))) (by rw [cw8, cw9]; exact hh)
                                                            have k1 : ((s_rh (gl 25) (gi 26)) y2_2.toNatClampNeg ||| (s_rh (gl 25) (gi 26)) y15_3.toNatClampNeg) = (s_rh (gl 25) (gi 26)) ar1.toNatClampNeg := by have hh := ((lg_cmp_eq _ _).mp (e26.symm.trans h27)); rw [e24, cw22, cw23, cw25] at hh; exact hh
                                                            have k2 : ((s_rh (gl 25) (gi 26)) y2_2.toNatClampNeg ||| (s_rh (gl 25) (gi 26)) ar1.toNatClampNeg) = (s_rh (gl 25) (gi 26)) y15_3.toNatClampNeg := by have hh := ((lg_cmp_eq _ _).mp (e34.symm.trans h35)); rw [e32, cw30, cw31, cw33] at hh; exact hh
                                                            refine ⟨fun hh => absurd hh (by decide), fun hh => ?_⟩
                                                            have hx := (hh y2_2.toNatClampNeg (by omega)).2 y15_3.toNatClampNeg (by omega) (by omega)
                                                            exact absurd k1 hx.1))⟩⟩
              · have r42 : z34.toInt ≠ 0 := fun e => h35 (Int32.toInt_inj.mp (e.trans (by decide : (0:Int) = (0 : Int32).toInt)))
                refine ev_ic f_X0_fitsLast (nx := 82) (v := 0) rfl (by decide) rfl ?_
                refine ev_loc f_X0_fitsLast (nx := 84) (lo' := [(5, .int 0), (4, .int 1), (3, .int y15_3), (2, .int y2_2), (0, .ref 22), (1, .int ar1)]) rfl rfl rfl rfl ?_
                refine ev_loc f_X0_fitsLast (nx := 85) rfl rfl rfl rfl ?_
                refine ev_loc f_X0_fitsLast (nx := 86) rfl rfl rfl rfl ?_
                refine ev_if f_X0_fitsLast (t1 := 101) (t2 := 89) rfl rfl rfl (fun h43 => ?_) (fun h43 => ?_)
                · have r44 : y2_2.toInt = y15_3.toInt := t_eqi h43
                  refine ev_incR f_X0_fitsLast (nx := 104) (c := 1) (l := 1) (u := 3) rfl rfl (by decide) (by decide) l15_3 u21 rfl rfl (by decide) (by decide) rfl (fun z45 e45 l45 u45 => ?_)
                  refine ev_jmp f_X0_fitsLast (nx := 25) rfl rfl rfl ?_
                  refine ev_sub (lo := [(3, .int z45), (2, .int y2_2), (0, .ref 22), (1, .int ar1)]) rfl (t_sc rfl (t_sc rfl (t_sc rfl (t_sc rfl t_sn)))) ?_
                  exact ih15 _ (by omega) (z45) (Int.le_trans (by decide : (0:Int) ≤ 1) l45) u45 (fun h30 => (by
                                                            have ca := t_clamp (i := y2_2) (by omega)
                                                            have cb := t_clamp (i := y15_3) (by omega)
                                                            have ck := t_clamp (i := ar1) (by omega)
                                                            have cw8 := q8 (by omega) (by omega) h30
                                                            have cw9 := q9 (by omega) (by omega) h30
                                                            have cw22 := q22 (by omega) (by omega) h30
                                                            have cw23 := q23 (by omega) (by omega) h30
                                                            have cw25 := q25 (by omega) (by omega) h30
                                                            have cw30 := q30 (by omega) (by omega) h30
                                                            have cw31 := q31 (by omega) (by omega) h30
                                                            have cw33 := q33 (by omega) (by omega) h30
                                                            have k0 : ¬ ((s_rh (gl 25) (gi 26)) y2_2.toNatClampNeg = (s_rh (gl 25) (gi 26)) ar1.toNatClampNeg) := fun hh => (fun hh => h11 (e10.trans ((lg_cmp_eq _ _).mpr hh))) (by rw [cw8, cw9]; exact hh)
                                                            have k1 : ((s_rh (gl 25) (gi 26)) y2_2.toNatClampNeg ||| (s_rh (gl 25) (gi 26)) y15_3.toNatClampNeg) = (s_rh (gl 25) (gi 26)) ar1.toNatClampNeg := by have hh := ((lg_cmp_eq _ _).mp (e26.symm.trans h27)); rw [e24, cw22, cw23, cw25] at hh; exact hh
                                                            have k2 : ¬ (((s_rh (gl 25) (gi 26)) y2_2.toNatClampNeg ||| (s_rh (gl 25) (gi 26)) ar1.toNatClampNeg) = (s_rh (gl 25) (gi 26)) y15_3.toNatClampNeg) := fun hh => (fun hh => h35 (e34.trans ((lg_cmp_eq _ _).mpr hh))) (by rw [e32, cw30, cw31, cw33]; exact hh)
                                                            refine ⟨(j15_0 h30).1, fun b hb hab => ?_⟩
                                                            by_cases hk : b = y15_3.toNatClampNeg
                                                            · exact absurd (show y2_2.toNatClampNeg = b by omega) hab
                                                            · exact (j15_0 h30).2 b (by omega) hab)) rfl
                · have r46 : y2_2.toInt ≠ y15_3.toInt := t_nei h43
                  refine ev_loc f_X0_fitsLast (nx := 91) rfl rfl rfl rfl ?_
                  refine ev_f f_X0_fitsLast (t1 := 94) (t2 := 99) rfl rfl rfl (by decide) ?_
                  refine ev_ic f_X0_fitsLast (nx := 100) (v := 0) rfl (by decide) rfl ?_
                  exact ev_ret f_X0_fitsLast rfl rfl rfl ⟨_, _, _, rfl, hI, hX, ⟨_, rfl, (by decide : (0:Int) ≤ (0:Int32).toInt), (Int.le_trans (by decide : (0:Int32).toInt ≤ (0:Int)) (by decide : (0:Int) ≤ 1)), (show (gi 22 3).toInt = 30 → ((0 : Int) = 1 ↔ s_fx (s_rh (gl 25) (gi 26)) ar1.toNatClampNeg) from (by
                                                            intro h30
                                                            have ck := t_clamp (i := ar1) (by omega)
                                                            have ca := t_clamp (i := y2_2) (by omega)
                                                            have cb := t_clamp (i := y15_3) (by omega)
                                                            have cw8 := q8 (by omega) (by omega) h30
                                                            have cw9 := q9 (by omega) (by omega) h30
                                                            have cw22 := q22 (by omega) (by omega) h30
                                                            have cw23 := q23 (by omega) (by omega) h30
                                                            have cw25 := q25 (by omega) (by omega) h30
                                                            have cw30 := q30 (by omega) (by omega) h30
                                                            have cw31 := q31 (by omega) (by omega) h30
                                                            have cw33 := q33 (by omega) (by omega) h30
                                                            have k0 : ¬ ((s_rh (gl 25) (gi 26)) y2_2.toNatClampNeg = (s_rh (gl 25) (gi 26)) ar1.toNatClampNeg) := fun hh => (fun hh => h11 (e10.trans ((lg_cmp_eq _ _).mpr hh))) (by rw [cw8, cw9]; exact hh)
                                                            have k1 : ((s_rh (gl 25) (gi 26)) y2_2.toNatClampNeg ||| (s_rh (gl 25) (gi 26)) y15_3.toNatClampNeg) = (s_rh (gl 25) (gi 26)) ar1.toNatClampNeg := by have hh := ((lg_cmp_eq _ _).mp (e26.symm.trans h27)); rw [e24, cw22, cw23, cw25] at hh; exact hh
                                                            have k2 : ¬ (((s_rh (gl 25) (gi 26)) y2_2.toNatClampNeg ||| (s_rh (gl 25) (gi 26)) ar1.toNatClampNeg) = (s_rh (gl 25) (gi 26)) y15_3.toNatClampNeg) := fun hh => (fun hh => h35 (e34.trans ((lg_cmp_eq _ _).mpr hh))) (by rw [e32, cw30, cw31, cw33]; exact hh)
                                                            refine ⟨fun hh => absurd hh (by decide), fun hh => ?_⟩
                                                            have hx := (hh y2_2.toNatClampNeg (by omega)).2 y15_3.toNatClampNeg (by omega) (by omega)
                                                            exact absurd k1 hx.1))⟩⟩
            · have r47 : z26.toInt ≠ 0 := fun e => h27 (Int32.toInt_inj.mp (e.trans (by decide : (0:Int) = (0 : Int32).toInt)))
              refine ev_ic f_X0_fitsLast (nx := 55) (v := 0) rfl (by decide) rfl ?_
              refine ev_loc f_X0_fitsLast (nx := 57) (lo' := [(4, .int 0), (3, .int y15_3), (2, .int y2_2), (0, .ref 22), (1, .int ar1)]) rfl rfl rfl rfl ?_
              refine ev_loc f_X0_fitsLast (nx := 58) rfl rfl rfl rfl ?_
              refine ev_loc f_X0_fitsLast (nx := 59) rfl rfl rfl rfl ?_
              refine ev_qL0 f_X0_fitsLast (nx := 62) (r := []) rfl rfl rfl rfl rfl rfl rfl (c_d_hir hI (y2_2)) rfl (fun w48 q48 => ?_)
              have q48 : 0 ≤ y2_2.toInt → y2_2.toInt ≤ 3 → (gi 22 3).toInt = 30 → w48 = s_rh (gl 25) (gi 26) y2_2.toNatClampNeg := q48
              refine ev_loc f_X0_fitsLast (nx := 63) rfl rfl rfl rfl ?_
              refine ev_loc f_X0_fitsLast (nx := 64) rfl rfl rfl rfl ?_
              refine ev_qL0 f_X0_fitsLast (nx := 67) (r := [.long w48]) rfl rfl rfl rfl rfl rfl rfl (c_d_hir hI (ar1)) rfl (fun w49 q49 => ?_)
              have q49 : 0 ≤ ar1.toInt → ar1.toInt ≤ 3 → (gi 22 3).toInt = 30 → w49 = s_rh (gl 25) (gi 26) ar1.toNatClampNeg := q49
              refine ev_anyLE f_X0_fitsLast (nx := 68) rfl rfl rfl rfl (fun z50 e50 => ?_)
              refine ev_loc f_X0_fitsLast (nx := 69) rfl rfl rfl rfl ?_
              refine ev_loc f_X0_fitsLast (nx := 70) rfl rfl rfl rfl ?_
              refine ev_qL0 f_X0_fitsLast (nx := 73) (r := [.long z50]) rfl rfl rfl rfl rfl rfl rfl (c_d_hir hI (y15_3)) rfl (fun w51 q51 => ?_)
              have q51 : 0 ≤ y15_3.toInt → y15_3.toInt ≤ 3 → (gi 22 3).toInt = 30 → w51 = s_rh (gl 25) (gi 26) y15_3.toNatClampNeg := q51
              refine ev_anyIE f_X0_fitsLast (nx := 74) rfl rfl rfl rfl (fun z52 e52 => ?_)
              refine ev_if f_X0_fitsLast (t1 := 77) (t2 := 81) rfl rfl rfl (fun h53 => ?_) (fun h53 => ?_)
              · have u54 : z52.toInt ≤ 0 := t_equ h53 (by decide : (0:Int32).toInt ≤ (0:Int))
                have l55 : 0 ≤ z52.toInt := t_eql h53 (by decide : (0:Int) ≤ (0:Int32).toInt)
                refine ev_ic f_X0_fitsLast (nx := 78) (v := 1) rfl (by decide) rfl ?_
                refine ev_jmp f_X0_fitsLast (nx := 82) rfl rfl rfl ?_
                refine ev_loc f_X0_fitsLast (nx := 84) (lo' := [(5, .int 1), (4, .int 0), (3, .int y15_3), (2, .int y2_2), (0, .ref 22), (1, .int ar1)]) rfl rfl rfl rfl ?_
                refine ev_loc f_X0_fitsLast (nx := 85) rfl rfl rfl rfl ?_
                refine ev_loc f_X0_fitsLast (nx := 86) rfl rfl rfl rfl ?_
                refine ev_if f_X0_fitsLast (t1 := 101) (t2 := 89) rfl rfl rfl (fun h56 => ?_) (fun h56 => ?_)
                · have r57 : y2_2.toInt = y15_3.toInt := t_eqi h56
                  refine ev_incR f_X0_fitsLast (nx := 104) (c := 1) (l := 1) (u := 3) rfl rfl (by decide) (by decide) l15_3 u21 rfl rfl (by decide) (by decide) rfl (fun z58 e58 l58 u58 => ?_)
                  refine ev_jmp f_X0_fitsLast (nx := 25) rfl rfl rfl ?_
                  refine ev_sub (lo := [(3, .int z58), (2, .int y2_2), (0, .ref 22), (1, .int ar1)]) rfl (t_sc rfl (t_sc rfl (t_sc rfl (t_sc rfl t_sn)))) ?_
                  exact ih15 _ (by omega) (z58) (Int.le_trans (by decide : (0:Int) ≤ 1) l58) u58 (fun h30 => (by
                                                            have ca := t_clamp (i := y2_2) (by omega)
                                                            have cb := t_clamp (i := y15_3) (by omega)
                                                            have ck := t_clamp (i := ar1) (by omega)
                                                            have cw8 := q8 (by omega) (by omega) h30
                                                            have cw9 := q9 (by omega) (by omega) h30
                                                            have cw22 := q22 (by omega) (by omega) h30
                                                            have cw23 := q23 (by omega) (by omega) h30
                                                            have cw25 := q25 (by omega) (by omega) h30
                                                            have cw48 := q48 (by omega) (by omega) h30
                                                            have cw49 := q49 (by omega) (by omega) h30
                                                            have cw51 := q51 (by omega) (by omega) h30
                                                            have k0 : ¬ ((s_rh (gl 25) (gi 26)) y2_2.toNatClampNeg = (s_rh (gl 25) (gi 26)) ar1.toNatClampNeg) := fun hh => (fun hh => h11 (e10.trans ((lg_cmp_eq _ _).mpr hh))) (by rw [cw8, cw9]; exact hh)
                                                            have k1 : ¬ (((s_rh (gl 25) (gi 26)) y2_2.toNatClampNeg ||| (s_rh (gl 25) (gi 26)) y15_3.toNatClampNeg) = (s_rh (gl 25) (gi 26)) ar1.toNatClampNeg) := fun hh => (fun hh => h27 (e26.trans ((lg_cmp_eq _ _).mpr hh))) (by rw [e24, cw22, cw23, cw25]; exact hh)
                                                            have k2 : ((s_rh (gl 25) (gi 26)) y2_2.toNatClampNeg ||| (s_rh (gl 25) (gi 26)) ar1.toNatClampNeg) = (s_rh (gl 25) (gi 26)) y15_3.toNatClampNeg := by have hh := ((lg_cmp_eq _ _).mp (e52.symm.trans h53)); rw [e50, cw48, cw49, cw51] at hh; exact hh
                                                            refine ⟨(j15_0 h30).1, fun b hb hab => ?_⟩
                                                            by_cases hk : b = y15_3.toNatClampNeg
                                                            · exact absurd (show y2_2.toNatClampNeg = b by omega) hab
                                                            · exact (j15_0 h30).2 b (by omega) hab)) rfl
                · have r59 : y2_2.toInt ≠ y15_3.toInt := t_nei h56
                  refine ev_loc f_X0_fitsLast (nx := 91) rfl rfl rfl rfl ?_
                  refine ev_t f_X0_fitsLast (t1 := 94) (t2 := 99) rfl rfl rfl (by decide) ?_
                  refine ev_loc f_X0_fitsLast (nx := 96) rfl rfl rfl rfl ?_
                  refine ev_f f_X0_fitsLast (t1 := 101) (t2 := 99) rfl rfl rfl (by decide) ?_
                  refine ev_ic f_X0_fitsLast (nx := 100) (v := 0) rfl (by decide) rfl ?_
                  exact ev_ret f_X0_fitsLast rfl rfl rfl ⟨_, _, _, rfl, hI, hX, ⟨_, rfl, (by decide : (0:Int) ≤ (0:Int32).toInt), (Int.le_trans (by decide : (0:Int32).toInt ≤ (0:Int)) (by decide : (0:Int) ≤ 1)), (show (gi 22 3).toInt = 30 → ((0 : Int) = 1 ↔ s_fx (s_rh (gl 25) (gi 26)) ar1.toNatClampNeg) from (by
                                                            intro h30
                                                            have ck := t_clamp (i := ar1) (by omega)
                                                            have ca := t_clamp (i := y2_2) (by omega)
                                                            have cb := t_clamp (i := y15_3) (by omega)
                                                            have cw8 := q8 (by omega) (by omega) h30
                                                            have cw9 := q9 (by omega) (by omega) h30
                                                            have cw22 := q22 (by omega) (by omega) h30
                                                            have cw23 := q23 (by omega) (by omega) h30
                                                            have cw25 := q25 (by omega) (by omega) h30
                                                            have cw48 := q48 (by omega) (by omega) h30
                                                            have cw49 := q49 (by omega) (by omega) h30
                                                            have cw51 := q51 (by omega) (by omega) h30
                                                            have k0 : ¬ ((s_rh (gl 25) (gi 26)) y2_2.toNatClampNeg = (s_rh (gl 25) (gi 26)) ar1.toNatClampNeg) := fun hh => (fun hh => h11 (e10.trans ((lg_cmp_eq _ _).mpr hh))) (by rw [cw8, cw9]; exact hh)
                                                            have k1 : ¬ (((s_rh (gl 25) (gi 26)) y2_2.toNatClampNeg ||| (s_rh (gl 25) (gi 26)) y15_3.toNatClampNeg) = (s_rh (gl 25) (gi 26)) ar1.toNatClampNeg) := fun hh => (fun hh => h27 (e26.trans ((lg_cmp_eq _ _).mpr hh))) (by rw [e24, cw22, cw23, cw25]; exact hh)
                                                            have k2 : ((s_rh (gl 25) (gi 26)) y2_2.toNatClampNeg ||| (s_rh (gl 25) (gi 26)) ar1.toNatClampNeg) = (s_rh (gl 25) (gi 26)) y15_3.toNatClampNeg := by have hh := ((lg_cmp_eq _ _).mp (e52.symm.trans h53)); rw [e50, cw48, cw49, cw51] at hh; exact hh
                                                            refine ⟨fun hh => absurd hh (by decide), fun hh => ?_⟩
                                                            have hx := (hh y2_2.toNatClampNeg (by omega)).2 y15_3.toNatClampNeg (by omega) (by omega)
                                                            exact absurd k2 hx.2))⟩⟩
              · have r60 : z52.toInt ≠ 0 := fun e => h53 (Int32.toInt_inj.mp (e.trans (by decide : (0:Int) = (0 : Int32).toInt)))
                refine ev_ic f_X0_fitsLast (nx := 82) (v := 0) rfl (by decide) rfl ?_
                refine ev_loc f_X0_fitsLast (nx := 84) (lo' := [(5, .int 0), (4, .int 0), (3, .int y15_3), (2, .int y2_2), (0, .ref 22), (1, .int ar1)]) rfl rfl rfl rfl ?_
                refine ev_loc f_X0_fitsLast (nx := 85) rfl rfl rfl rfl ?_
                refine ev_loc f_X0_fitsLast (nx := 86) rfl rfl rfl rfl ?_
                refine ev_if f_X0_fitsLast (t1 := 101) (t2 := 89) rfl rfl rfl (fun h61 => ?_) (fun h61 => ?_)
                · have r62 : y2_2.toInt = y15_3.toInt := t_eqi h61
                  refine ev_incR f_X0_fitsLast (nx := 104) (c := 1) (l := 1) (u := 3) rfl rfl (by decide) (by decide) l15_3 u21 rfl rfl (by decide) (by decide) rfl (fun z63 e63 l63 u63 => ?_)
                  refine ev_jmp f_X0_fitsLast (nx := 25) rfl rfl rfl ?_
                  refine ev_sub (lo := [(3, .int z63), (2, .int y2_2), (0, .ref 22), (1, .int ar1)]) rfl (t_sc rfl (t_sc rfl (t_sc rfl (t_sc rfl t_sn)))) ?_
                  exact ih15 _ (by omega) (z63) (Int.le_trans (by decide : (0:Int) ≤ 1) l63) u63 (fun h30 => (by
                                                            have ca := t_clamp (i := y2_2) (by omega)
                                                            have cb := t_clamp (i := y15_3) (by omega)
                                                            have ck := t_clamp (i := ar1) (by omega)
                                                            have cw8 := q8 (by omega) (by omega) h30
                                                            have cw9 := q9 (by omega) (by omega) h30
                                                            have cw22 := q22 (by omega) (by omega) h30
                                                            have cw23 := q23 (by omega) (by omega) h30
                                                            have cw25 := q25 (by omega) (by omega) h30
                                                            have cw48 := q48 (by omega) (by omega) h30
                                                            have cw49 := q49 (by omega) (by omega) h30
                                                            have cw51 := q51 (by omega) (by omega) h30
                                                            have k0 : ¬ ((s_rh (gl 25) (gi 26)) y2_2.toNatClampNeg = (s_rh (gl 25) (gi 26)) ar1.toNatClampNeg) := fun hh => (fun hh => h11 (e10.trans ((lg_cmp_eq _ _).mpr hh))) (by rw [cw8, cw9]; exact hh)
                                                            have k1 : ¬ (((s_rh (gl 25) (gi 26)) y2_2.toNatClampNeg ||| (s_rh (gl 25) (gi 26)) y15_3.toNatClampNeg) = (s_rh (gl 25) (gi 26)) ar1.toNatClampNeg) := fun hh => (fun hh => h27 (e26.trans ((lg_cmp_eq _ _).mpr hh))) (by rw [e24, cw22, cw23, cw25]; exact hh)
                                                            have k2 : ¬ (((s_rh (gl 25) (gi 26)) y2_2.toNatClampNeg ||| (s_rh (gl 25) (gi 26)) ar1.toNatClampNeg) = (s_rh (gl 25) (gi 26)) y15_3.toNatClampNeg) := fun hh => (fun hh => h53 (e52.trans ((lg_cmp_eq _ _).mpr hh))) (by rw [e50, cw48, cw49, cw51]; exact hh)
                                                            refine ⟨(j15_0 h30).1, fun b hb hab => ?_⟩
                                                            by_cases hk : b = y15_3.toNatClampNeg
                                                            · exact absurd (show y2_2.toNatClampNeg = b by omega) hab
                                                            · exact (j15_0 h30).2 b (by omega) hab)) rfl
                · have r64 : y2_2.toInt ≠ y15_3.toInt := t_nei h61
                  refine ev_loc f_X0_fitsLast (nx := 91) rfl rfl rfl rfl ?_
                  refine ev_t f_X0_fitsLast (t1 := 94) (t2 := 99) rfl rfl rfl (by decide) ?_
                  refine ev_loc f_X0_fitsLast (nx := 96) rfl rfl rfl rfl ?_
                  refine ev_t f_X0_fitsLast (t1 := 101) (t2 := 99) rfl rfl rfl (by decide) ?_
                  refine ev_incR f_X0_fitsLast (nx := 104) (c := 1) (l := 1) (u := 3) rfl rfl (by decide) (by decide) l15_3 u21 rfl rfl (by decide) (by decide) rfl (fun z65 e65 l65 u65 => ?_)
                  refine ev_jmp f_X0_fitsLast (nx := 25) rfl rfl rfl ?_
                  refine ev_sub (lo := [(3, .int z65), (2, .int y2_2), (0, .ref 22), (1, .int ar1)]) rfl (t_sc rfl (t_sc rfl (t_sc rfl (t_sc rfl t_sn)))) ?_
                  exact ih15 _ (by omega) (z65) (Int.le_trans (by decide : (0:Int) ≤ 1) l65) u65 (fun h30 => (by
                                                            have ca := t_clamp (i := y2_2) (by omega)
                                                            have cb := t_clamp (i := y15_3) (by omega)
                                                            have ck := t_clamp (i := ar1) (by omega)
                                                            have cw8 := q8 (by omega) (by omega) h30
                                                            have cw9 := q9 (by omega) (by omega) h30
                                                            have cw22 := q22 (by omega) (by omega) h30
                                                            have cw23 := q23 (by omega) (by omega) h30
                                                            have cw25 := q25 (by omega) (by omega) h30
                                                            have cw48 := q48 (by omega) (by omega) h30
                                                            have cw49 := q49 (by omega) (by omega) h30
                                                            have cw51 := q51 (by omega) (by omega) h30
                                                            have k0 : ¬ ((s_rh (gl 25) (gi 26)) y2_2.toNatClampNeg = (s_rh (gl 25) (gi 26)) ar1.toNatClampNeg) := fun hh => (fun hh => h11 (e10.trans ((lg_cmp_eq _ _).mpr hh))) (by rw [cw8, cw9]; exact hh)
                                                            have k1 : ¬ (((s_rh (gl 25) (gi 26)) y2_2.toNatClampNeg ||| (s_rh (gl 25) (gi 26)) y15_3.toNatClampNeg) = (s_rh (gl 25) (gi 26)) ar1.toNatClampNeg) := fun hh => (fun hh => h27 (e26.trans ((lg_cmp_eq _ _).mpr hh))) (by rw [e24, cw22, cw23, cw25]; exact hh)
                                                            have k2 : ¬ (((s_rh (gl 25) (gi 26)) y2_2.toNatClampNeg ||| (s_rh (gl 25) (gi 26)) ar1.toNatClampNeg) = (s_rh (gl 25) (gi 26)) y15_3.toNatClampNeg) := fun hh => (fun hh => h53 (e52.trans ((lg_cmp_eq _ _).mpr hh))) (by rw [e50, cw48, cw49, cw51]; exact hh)
                                                            refine ⟨(j15_0 h30).1, fun b hb hab => ?_⟩
                                                            by_cases hk : b = y15_3.toNatClampNeg
                                                            · subst hk
                                                              exact ⟨k1, k2⟩
                                                            · exact (j15_0 h30).2 b (by omega) hab)) rfl
        refine ev_sub (lo := [(3, .int 0), (2, .int y2_2), (0, .ref 22), (1, .int ar1)]) rfl (t_sc rfl (t_sc rfl (t_sc rfl (t_sc rfl t_sn)))) ?_
        exact L15 _ (0) (by decide : (0:Int) ≤ (0:Int32).toInt) (Int.le_trans (by decide : (0:Int32).toInt ≤ (0:Int)) (by decide : (0:Int) ≤ 3)) (fun h30 => (by
                                                            have ca := t_clamp (i := y2_2) (by omega)
                                                            have ck := t_clamp (i := ar1) (by omega)
                                                            have cw8 := q8 (by omega) (by omega) h30
                                                            have cw9 := q9 (by omega) (by omega) h30
                                                            have k0 : ¬ ((s_rh (gl 25) (gi 26)) y2_2.toNatClampNeg = (s_rh (gl 25) (gi 26)) ar1.toNatClampNeg) := fun hh => (fun hh => h11 (e10.trans ((lg_cmp_eq _ _).mpr hh))) (by rw [cw8, cw9]; exact hh)
                                                            exact ⟨k0, fun b hb => absurd hb (by have z0 : (0 : Int32).toInt = 0 := rfl; omega)⟩)) rfl
  refine ev_sub (lo := [(2, .int 0), (0, .ref 22), (1, .int ar1)]) rfl (t_sc rfl (t_sc rfl (t_sc rfl t_sn))) ?_
  exact L2 _ (0) (by decide : (0:Int) ≤ (0:Int32).toInt) (Int.le_trans (by decide : (0:Int32).toInt ≤ (0:Int)) (by decide : (0:Int) ≤ 3)) (fun h30 a ha => absurd ha (by have z0 : (0 : Int32).toInt = 0 := rfl; omega)) rfl
noncomputable def wl_d_ext : List (Nat × Nat) := [(26, 9999)]
noncomputable def Q_d_ext (gi : Nat → Nat → Int32) (gl : Nat → Nat → Int64) (gr : Nat → Nat → Value) (ar1 : Int32) (ar2 : Int32) (ar3 : Int32) (ar4 : Int32) : Int32 → (Nat → Nat → Int32) → (Nat → Nat → Int64) → (Nat → Nat → Value) → Prop := fun (v : Int32) (gi2 : Nat → Nat → Int32) (gl2 : Nat → Nat → Int64) (gr2 : Nat → Nat → Value) => ∀ l : List Nat, (gi 22 3).toInt = 30 → 1 ≤ ar2.toInt → ar2.toInt ≤ 4 → (l.length : Int) = ar1.toInt → s_RW (gi 26) l → s_dc l → (∀ a, a ∈ l → (a : Int) < ar3.toInt) → (ar2.toInt ≤ ar1.toInt → v.toInt = 1 ∧ gi2 26 = gi 26) ∧ (ar1.toInt < ar2.toInt → (v.toInt = 1 ∧ ∃ L, s_X (gl 25) ar4.toNatClampNeg ar2.toNatClampNeg l ar3.toNatClampNeg = some L ∧ s_RW (gi2 26) L ∧ (L.length : Int) = ar2.toInt) ∨ (v.toInt = 0 ∧ s_X (gl 25) ar4.toNatClampNeg ar2.toNatClampNeg l ar3.toNatClampNeg = none)) ∧ ∀ j : Nat, (j : Int) < ar1.toInt → gi2 26 j = gi 26 j
theorem r_d_ext {X : x_Ext} {d : Nat} {sh : List (Nat ⊕ (Nat × Nat))} : ∀ (r : Nat) {gi : Nat → Nat → Int32} {gl : Nat → Nat → Int64} {gr : Nat → Nat → Value} (hI : t_I sh gi gr) (ar1 : Int32) (l_a1 : 0 ≤ ar1.toInt) (u_a1 : ar1.toInt ≤ 4) (ar2 : Int32) (ar3 : Int32) (l_a3 : 0 ≤ ar3.toInt) (u_a3 : ar3.toInt ≤ 30) (ar4 : Int32) (l_a4 : 0 ≤ ar4.toInt) (u_a4 : ar4.toInt ≤ 30), (5 - ar1.toInt).toNat < r → x_Me X (d + r + 3) n_X0_extend [.ref 22, .int ar1, .int ar2, .int ar3, .int ar4] (sh, gi, gl, gr) (t_PI wl_d_ext sh gi gl gr 0 1 (Q_d_ext gi gl gr ar1 ar2 ar3 ar4)) := by
  intro r
  induction r with
  | zero => intro gi gl gr hI ar1 l_a1 u_a1 ar2 ar3 l_a3 u_a3 ar4 l_a4 u_a4 hr; omega
  | succ r ih =>
  intro gi gl gr hI ar1 l_a1 u_a1 ar2 ar3 l_a3 u_a3 ar4 l_a4 u_a4 hr
  rw [show d + (r + 1) + 3 = d + r + 4 by omega]
  have hX : t_X wl_d_ext sh gi gl gr gi gl gr := t_X.rf
  refine me_i f_X0_extend (hI.wf.s rfl) rfl rfl rfl ?_
  obtain ⟨l1, u1⟩ := hI.b (hI.wf.s (k := 22) rfl) (t_bdK rfl : t_bd 0 3 = some (0, 30))
  refine ev_loc f_X0_extend (nx := 1) rfl rfl rfl rfl ?_
  refine ev_loc f_X0_extend (nx := 2) rfl rfl rfl rfl ?_
  refine ev_if f_X0_extend (t1 := 7) (t2 := 5) rfl rfl rfl (fun h2 => ?_) (fun h2 => ?_)
  · have r3 : ar1.toInt < ar2.toInt := Int32.lt_iff_toInt_lt.mp h2
    have l4 : 1 ≤ ar2.toInt := t_ltl h2 l_a1 rfl
    refine ev_loc f_X0_extend (nx := 8) rfl rfl rfl rfl ?_
    refine ev_loc f_X0_extend (nx := 10) (lo' := [(5, .int ar3), (0, .ref 22), (1, .int ar1), (2, .int ar2), (3, .int ar3), (4, .int ar4)]) rfl rfl rfl rfl ?_
    have L5 : ∀ (m5 : Nat) (gi5 : Nat → Nat → Int32) (gl5 : Nat → Nat → Int64) (gr5 : Nat → Nat → Value) (y5_5 : Int32), t_I sh gi5 gr5 → t_X wl_d_ext sh gi gl gr gi5 gl5 gr5 → 0 ≤ y5_5.toInt → y5_5.toInt ≤ 30 → gi5 22 3 = (gi 22 3) → (∀ l : List Nat, (gi 22 3).toInt = 30 → 1 ≤ ar2.toInt → ar2.toInt ≤ 4 → (l.length : Int) = ar1.toInt → s_RW (gi 26) l → s_dc l → (∀ a, a ∈ l → (a : Int) < ar3.toInt) → s_X (gl 25) ar4.toNatClampNeg ar2.toNatClampNeg l ar3.toNatClampNeg = s_X (gl 25) ar4.toNatClampNeg ar2.toNatClampNeg l y5_5.toNatClampNeg ∧ ar3.toInt ≤ y5_5.toInt ∧ ∀ j : Nat, (j : Int) < ar1.toInt → gi5 26 j = gi 26 j) → (30 - y5_5.toInt).toNat = m5 → x_Ev X (d + r + 4) n_X0_extend 10 [(5, .int y5_5), (0, .ref 22), (1, .int ar1), (2, .int ar2), (3, .int ar3), (4, .int ar4)] [] (sh, gi5, gl5, gr5) (t_PI wl_d_ext sh gi gl gr 0 1 (Q_d_ext gi gl gr ar1 ar2 ar3 ar4)) := by
      intro m5
      induction m5 using Nat.strongRecOn with
      | _ m5 ih5 =>
      intro gi5 gl5 gr5 y5_5 hI hX l5_5 u5_5 c5_0 j5_0 hm5
      refine ev_loc f_X0_extend (nx := 12) rfl rfl rfl rfl ?_
      refine ev_loc f_X0_extend (nx := 14) rfl rfl rfl rfl ?_
      refine ev_if f_X0_extend (t1 := 67) (t2 := 17) rfl rfl rfl (fun h6 => ?_) (fun h6 => ?_)
      · have r7 : ar4.toInt ≤ y5_5.toInt := Int32.le_iff_toInt_le.mp h6
        refine ev_ic f_X0_extend (nx := 68) (v := 0) rfl (by decide) rfl ?_
        exact ev_ret f_X0_extend rfl rfl rfl ⟨_, _, _, rfl, hI, hX, ⟨_, rfl, (by decide : (0:Int) ≤ (0:Int32).toInt), (Int.le_trans (by decide : (0:Int32).toInt ≤ (0:Int)) (by decide : (0:Int) ≤ 1)), (show ∀ l : List Nat, (gi 22 3).toInt = 30 → 1 ≤ ar2.toInt → ar2.toInt ≤ 4 → (l.length : Int) = ar1.toInt → s_RW (gi 26) l → s_dc l → (∀ a, a ∈ l → (a : Int) < ar3.toInt) → (ar2.toInt ≤ ar1.toInt → (0 : Int) = 1 ∧ gi5 26 = gi 26) ∧ (ar1.toInt < ar2.toInt → ((0 : Int) = 1 ∧ ∃ L, s_X (gl 25) ar4.toNatClampNeg ar2.toNatClampNeg l ar3.toNatClampNeg = some L ∧ s_RW (gi5 26) L ∧ (L.length : Int) = ar2.toInt) ∨ ((0 : Int) = 0 ∧ s_X (gl 25) ar4.toNatClampNeg ar2.toNatClampNeg l ar3.toNatClampNeg = none)) ∧ ∀ j : Nat, (j : Int) < ar1.toInt → gi5 26 j = gi 26 j from (by
                                                            intro l h30 hm1 hm4 hl hr hd hf
                                                            have ck := t_clamp (i := ar1) l_a1
                                                            have cm := t_clamp (i := ar2) (by omega)
                                                            have ce := t_clamp (i := ar4) (by omega)
                                                            have hn : l.length = ar1.toNatClampNeg := by omega
                                                            obtain ⟨hx, hge, hlo⟩ := j5_0 l h30 hm1 hm4 hl hr hd hf
                                                            have cy := t_clamp (i := y5_5) (by omega)
                                                            exact ⟨fun h => absurd h (by omega), fun _ => Or.inr ⟨rfl, by rw [hx, s_X_e (by omega)]⟩, hlo⟩))⟩⟩
      · have r8 : y5_5.toInt < ar4.toInt := Int32.lt_iff_toInt_lt.mp (t_nle h6)
        have u9 : y5_5.toInt ≤ 29 := t_ltu (t_nle h6) u_a4 rfl
        have l10 : 1 ≤ ar4.toInt := t_ltl (t_nle h6) l5_5 rfl
        refine ev_loc f_X0_extend (nx := 18) rfl rfl rfl rfl ?_
        refine ev_loc f_X0_extend (nx := 19) rfl rfl rfl rfl ?_
        refine ev_getR f_X0_extend (nx := 22) rfl (hI.wf.s rfl) rfl rfl (hI.wf.r rfl) rfl rfl ?_
        refine ev_alenv f_X0_extend (nx := 23) (w := 4) rfl (hI.wf.s rfl) rfl (by decide) rfl ?_
        refine ev_if f_X0_extend (t1 := 67) (t2 := 26) rfl rfl rfl (fun h11 => ?_) (fun h11 => ?_)
        · have l12 : 4 ≤ ar1.toInt := t_lel h11 (by decide : (4:Int) ≤ (4:Int32).toInt)
          refine ev_ic f_X0_extend (nx := 68) (v := 0) rfl (by decide) rfl ?_
          exact ev_ret f_X0_extend rfl rfl rfl ⟨_, _, _, rfl, hI, hX, ⟨_, rfl, (by decide : (0:Int) ≤ (0:Int32).toInt), (Int.le_trans (by decide : (0:Int32).toInt ≤ (0:Int)) (by decide : (0:Int) ≤ 1)), (show ∀ l : List Nat, (gi 22 3).toInt = 30 → 1 ≤ ar2.toInt → ar2.toInt ≤ 4 → (l.length : Int) = ar1.toInt → s_RW (gi 26) l → s_dc l → (∀ a, a ∈ l → (a : Int) < ar3.toInt) → (ar2.toInt ≤ ar1.toInt → (0 : Int) = 1 ∧ gi5 26 = gi 26) ∧ (ar1.toInt < ar2.toInt → ((0 : Int) = 1 ∧ ∃ L, s_X (gl 25) ar4.toNatClampNeg ar2.toNatClampNeg l ar3.toNatClampNeg = some L ∧ s_RW (gi5 26) L ∧ (L.length : Int) = ar2.toInt) ∨ ((0 : Int) = 0 ∧ s_X (gl 25) ar4.toNatClampNeg ar2.toNatClampNeg l ar3.toNatClampNeg = none)) ∧ ∀ j : Nat, (j : Int) < ar1.toInt → gi5 26 j = gi 26 j from (by
                                                            intro l h30 hm1 hm4 hl hr hd hf
                                                            have ck := t_clamp (i := ar1) l_a1
                                                            have cm := t_clamp (i := ar2) (by omega)
                                                            have ce := t_clamp (i := ar4) (by omega)
                                                            have hn : l.length = ar1.toNatClampNeg := by omega
                                                            obtain ⟨hx, hge, hlo⟩ := j5_0 l h30 hm1 hm4 hl hr hd hf
                                                            have cy := t_clamp (i := y5_5) (by omega)
                                                            exact ⟨fun h => absurd h (by omega), fun _ => Or.inr ⟨rfl, by rw [hx, s_X_e (by omega)]⟩, hlo⟩))⟩⟩
        · have u13 : ar1.toInt ≤ 3 := t_ltu (t_nle h11) (by decide : (4:Int32).toInt ≤ (4:Int)) rfl
          refine ev_loc f_X0_extend (nx := 27) rfl rfl rfl rfl ?_
          refine ev_getR f_X0_extend (nx := 30) rfl (hI.wf.s rfl) rfl rfl (hI.wf.r rfl) rfl rfl ?_
          refine ev_loc f_X0_extend (nx := 31) rfl rfl rfl rfl ?_
          refine ev_loc f_X0_extend (nx := 33) rfl rfl rfl rfl ?_
          refine ev_iastT f_X0_extend (nx := 34) rfl (hI.wf.s rfl) l_a1 (by decide) u13 (by decide) rfl (hI.astL (hI.wf.s rfl) (by decide +kernel : t_abw 26 0 3 0 29 = true) (t_cl1 l_a1 (by decide)) (t_cl2 l_a1 u13 (by decide) (by decide)) l5_5 u9 rfl) (hX.upI (t_inA_ok rfl)) (fun g14 e14 hI hX => ?_)
          refine ev_loc f_X0_extend (nx := 35) rfl rfl rfl rfl ?_
          refine ev_loc f_X0_extend (nx := 36) rfl rfl rfl rfl ?_
          refine ev_qI0 f_X0_extend (nx := 39) (r := []) rfl rfl rfl rfl rfl rfl rfl (c_d_fit hI (ar1) l_a1 u13) rfl (fun w15 l15 u15 q15 => ?_)
          have ff16 : (g14 22 3).toInt = (gi 22 3).toInt := congrArg Int32.toInt ((by rw [e14]; exact x_up2_off (Or.inl (by decide)) : g14 22 3 = gi5 22 3).trans c5_0)
          have q15 : (g14 22 3).toInt = 30 → (w15.toInt = 1 ↔ s_fx (s_rh (gl5 25) (g14 26)) ar1.toNatClampNeg) := q15
          refine ev_if f_X0_extend (t1 := 61) (t2 := 42) rfl rfl rfl (fun h17 => ?_) (fun h17 => ?_)
          · have u18 : w15.toInt ≤ 0 := t_equ h17 (by decide : (0:Int32).toInt ≤ (0:Int))
            refine ev_incR f_X0_extend (nx := 64) (c := 1) (l := 1) (u := 30) rfl rfl (by decide) (by decide) l5_5 u9 rfl rfl (by decide) (by decide) rfl (fun z19 e19 l19 u19 => ?_)
            refine ev_jmp f_X0_extend (nx := 10) rfl rfl rfl ?_
            refine ev_sub (lo := [(5, .int z19), (0, .ref 22), (1, .int ar1), (2, .int ar2), (3, .int ar3), (4, .int ar4)]) rfl (t_sc rfl (t_sc rfl (t_sc rfl (t_sc rfl (t_sc rfl (t_sc rfl t_sn)))))) ?_
            exact ih5 _ (by omega) g14 gl5 gr5 (z19) hI hX  (Int.le_trans (by decide : (0:Int) ≤ 1) l19) u19 ((by rw [e14]; exact x_up2_off (Or.inl (by decide)) : g14 22 3 = gi5 22 3).trans c5_0) (fun l h30 hm1 hm4 hl hr hd hf => (by
                                                            have ck := t_clamp (i := ar1) l_a1
                                                            have cm := t_clamp (i := ar2) (by omega)
                                                            have ce := t_clamp (i := ar4) (by omega)
                                                            have hn : l.length = ar1.toNatClampNeg := by omega
                                                            obtain ⟨hx, hge, hlo⟩ := j5_0 l h30 hm1 hm4 hl hr hd hf
                                                            have cy := t_clamp (i := y5_5) (by omega)
                                                            have hr2 : s_RW (g14 26) (y5_5.toNatClampNeg :: l) := And.intro (by rw [hn, e14, x_up2_at]; omega) (s_RW_eq hr (fun j hj => by rw [e14, x_up2_off (Or.inr (by omega))]; exact hlo j (by omega)))
                                                            have hd2 : s_dc (y5_5.toNatClampNeg :: l) := And.intro (fun a ha => by have := hf a ha; omega) hd
                                                            have h30b : (g14 22 3).toInt = 30 := (congrArg Int32.toInt (hX.1 22 3 rfl).1).trans h30
                                                            have hgl : gl5 25 = gl 25 := funext (fun j => (hX.1 25 j rfl).2.1)
                                                            have hfit := q15 h30b
                                                            rw [hgl, ← hn, ← s_ft_ix hd2 hr2] at hfit
                                                            have c5 := t_clamp (i := z19) (by omega)
                                                            have hz5 : z19.toNatClampNeg = y5_5.toNatClampNeg + 1 := by omega
                                                            refine ⟨?_, by omega, fun j hj => (by rw [e14, x_up2_off (Or.inr (by omega))] : g14 26 j = _).trans (hlo j hj)⟩
                                                            rw [hx, hz5]; exact s_X_n (fun hh => absurd (hfit.mpr hh) (by omega)))) rfl
          · have r20 : w15.toInt ≠ 0 := fun e => h17 (Int32.toInt_inj.mp (e.trans (by decide : (0:Int) = (0 : Int32).toInt)))
            have l21 : 1 ≤ w15.toInt := t_nel h17 l15 rfl rfl
            refine ev_loc f_X0_extend (nx := 43) rfl rfl rfl rfl ?_
            refine ev_loc f_X0_extend (nx := 44) rfl rfl rfl rfl ?_
            refine ev_ic f_X0_extend (nx := 45) (v := 1) rfl (by decide) rfl ?_
            refine ev_addC f_X0_extend (nx := 46) (c := 1) (l := 1) (u := 4) rfl (by decide) l_a1 u13 rfl rfl (by decide) (by decide) rfl (fun z22 e22 l22 u22 => ?_)
            refine ev_loc f_X0_extend (nx := 47) rfl rfl rfl rfl ?_
            refine ev_loc f_X0_extend (nx := 49) rfl rfl rfl rfl ?_
            refine ev_ic f_X0_extend (nx := 50) (v := 1) rfl (by decide) rfl ?_
            refine ev_addC f_X0_extend (nx := 51) (c := 1) (l := 1) (u := 30) rfl (by decide) l5_5 u9 rfl rfl (by decide) (by decide) rfl (fun z23 e23 l23 u23 => ?_)
            refine ev_loc f_X0_extend (nx := 53) rfl rfl rfl rfl ?_
            refine ev_qI f_X0_extend (nx := 56) (r := []) rfl rfl rfl rfl rfl rfl rfl (x_Me.up (ih hI (z22) (Int.le_trans (by decide : (0:Int) ≤ 1) l22) u22 (ar2) (z23) (Int.le_trans (by decide : (0:Int) ≤ 1) l23) u23 (ar4) (Int.le_trans (by decide : (0:Int) ≤ 1) l10) u_a4 (by omega)) (by omega)) rfl hX rfl (fun w24 gi24 gl24 gr24 l24 u24 hI hX hC24 q24 => ?_)
            have ff25 : (g14 22 3).toInt = (gi 22 3).toInt := congrArg Int32.toInt ((by rw [e14]; exact x_up2_off (Or.inl (by decide)) : g14 22 3 = gi5 22 3).trans c5_0)
            have q24 : ∀ l : List Nat, (g14 22 3).toInt = 30 → 1 ≤ ar2.toInt → ar2.toInt ≤ 4 → (l.length : Int) = z22.toInt → s_RW (g14 26) l → s_dc l → (∀ a, a ∈ l → (a : Int) < z23.toInt) → (ar2.toInt ≤ z22.toInt → w24.toInt = 1 ∧ gi24 26 = g14 26) ∧ (z22.toInt < ar2.toInt → (w24.toInt = 1 ∧ ∃ L, s_X (gl5 25) ar4.toNatClampNeg ar2.toNatClampNeg l z23.toNatClampNeg = some L ∧ s_RW (gi24 26) L ∧ (L.length : Int) = ar2.toInt) ∨ (w24.toInt = 0 ∧ s_X (gl5 25) ar4.toNatClampNeg ar2.toNatClampNeg l z23.toNatClampNeg = none)) ∧ ∀ j : Nat, (j : Int) < z22.toInt → gi24 26 j = g14 26 j := q24
            refine ev_if f_X0_extend (t1 := 61) (t2 := 59) rfl rfl rfl (fun h26 => ?_) (fun h26 => ?_)
            · have u27 : w24.toInt ≤ 0 := t_equ h26 (by decide : (0:Int32).toInt ≤ (0:Int))
              refine ev_incR f_X0_extend (nx := 64) (c := 1) (l := 1) (u := 30) rfl rfl (by decide) (by decide) l5_5 u9 rfl rfl (by decide) (by decide) rfl (fun z28 e28 l28 u28 => ?_)
              refine ev_jmp f_X0_extend (nx := 10) rfl rfl rfl ?_
              refine ev_sub (lo := [(5, .int z28), (0, .ref 22), (1, .int ar1), (2, .int ar2), (3, .int ar3), (4, .int ar4)]) rfl (t_sc rfl (t_sc rfl (t_sc rfl (t_sc rfl (t_sc rfl (t_sc rfl t_sn)))))) ?_
              exact ih5 _ (by omega) gi24 gl24 gr24 (z28) hI hX  (Int.le_trans (by decide : (0:Int) ≤ 1) l28) u28 ((hC24.1 22 3 rfl).1.trans ((by rw [e14]; exact x_up2_off (Or.inl (by decide)) : g14 22 3 = gi5 22 3).trans c5_0)) (fun l h30 hm1 hm4 hl hr hd hf => (by
                                                            have ck := t_clamp (i := ar1) l_a1
                                                            have cm := t_clamp (i := ar2) (by omega)
                                                            have ce := t_clamp (i := ar4) (by omega)
                                                            have hn : l.length = ar1.toNatClampNeg := by omega
                                                            obtain ⟨hx, hge, hlo⟩ := j5_0 l h30 hm1 hm4 hl hr hd hf
                                                            have cy := t_clamp (i := y5_5) (by omega)
                                                            have hr2 : s_RW (g14 26) (y5_5.toNatClampNeg :: l) := And.intro (by rw [hn, e14, x_up2_at]; omega) (s_RW_eq hr (fun j hj => by rw [e14, x_up2_off (Or.inr (by omega))]; exact hlo j (by omega)))
                                                            have hd2 : s_dc (y5_5.toNatClampNeg :: l) := And.intro (fun a ha => by have := hf a ha; omega) hd
                                                            have h30b : (g14 22 3).toInt = 30 := (congrArg Int32.toInt (((hC24.1 22 3 rfl).1).symm.trans (hX.1 22 3 rfl).1)).trans h30
                                                            have hgl : gl5 25 = gl 25 := funext (fun j => ((hC24.1 25 j rfl).2.1).symm.trans (hX.1 25 j rfl).2.1)
                                                            have hfit := q15 h30b
                                                            rw [hgl, ← hn, ← s_ft_ix hd2 hr2] at hfit
                                                            have hq := q24 (y5_5.toNatClampNeg :: l) h30b hm1 hm4 (by rw [List.length_cons]; omega) hr2 hd2 (fun a ha => by rcases List.mem_cons.mp ha with h | h; (subst h; omega); (have := hf a h; omega))
                                                            rw [hgl] at hq
                                                            have c5 := t_clamp (i := z28) (by omega)
                                                            have hz5 : z28.toNatClampNeg = y5_5.toNatClampNeg + 1 := by omega
                                                            have c3 := t_clamp (i := z23) (by omega)
                                                            have hzn : z23.toNatClampNeg = y5_5.toNatClampNeg + 1 := by omega
                                                            rw [hzn] at hq
                                                            have hlt2 : ar1.toInt + 1 < ar2.toInt := by
                                                              by_cases hh : ar1.toInt + 1 < ar2.toInt
                                                              · exact hh
                                                              · have := (hq.1 (by omega)).1; omega
                                                            have hno := ((hq.2.1 (by omega)).resolve_left (fun hh => absurd hh.1 (by omega))).2
                                                            refine ⟨?_, by omega, fun j hj => (hq.2.2 j (by omega)).trans ((show g14 26 j = gi5 26 j from (by rw [e14, x_up2_off (Or.inr (by omega))])).trans (hlo j hj))⟩
                                                            rw [hx, hz5, s_X_s (by omega) (hfit.mp (by omega)), s_ifF (by omega), hno]; rfl)) rfl
            · have r29 : w24.toInt ≠ 0 := fun e => h26 (Int32.toInt_inj.mp (e.trans (by decide : (0:Int) = (0 : Int32).toInt)))
              have l30 : 1 ≤ w24.toInt := t_nel h26 l24 rfl rfl
              refine ev_ic f_X0_extend (nx := 60) (v := 1) rfl (by decide) rfl ?_
              exact ev_ret f_X0_extend rfl rfl rfl ⟨_, _, _, rfl, hI, hX, ⟨_, rfl, (Int.le_trans (by decide : (0:Int) ≤ 1) (by decide : (1:Int) ≤ (1:Int32).toInt)), (by decide : (1:Int32).toInt ≤ (1:Int)), (show ∀ l : List Nat, (gi 22 3).toInt = 30 → 1 ≤ ar2.toInt → ar2.toInt ≤ 4 → (l.length : Int) = ar1.toInt → s_RW (gi 26) l → s_dc l → (∀ a, a ∈ l → (a : Int) < ar3.toInt) → (ar2.toInt ≤ ar1.toInt → (1 : Int) = 1 ∧ gi24 26 = gi 26) ∧ (ar1.toInt < ar2.toInt → ((1 : Int) = 1 ∧ ∃ L, s_X (gl 25) ar4.toNatClampNeg ar2.toNatClampNeg l ar3.toNatClampNeg = some L ∧ s_RW (gi24 26) L ∧ (L.length : Int) = ar2.toInt) ∨ ((1 : Int) = 0 ∧ s_X (gl 25) ar4.toNatClampNeg ar2.toNatClampNeg l ar3.toNatClampNeg = none)) ∧ ∀ j : Nat, (j : Int) < ar1.toInt → gi24 26 j = gi 26 j from (by
                                                            intro l h30 hm1 hm4 hl hr hd hf
                                                            have ck := t_clamp (i := ar1) l_a1
                                                            have cm := t_clamp (i := ar2) (by omega)
                                                            have ce := t_clamp (i := ar4) (by omega)
                                                            have hn : l.length = ar1.toNatClampNeg := by omega
                                                            obtain ⟨hx, hge, hlo⟩ := j5_0 l h30 hm1 hm4 hl hr hd hf
                                                            have cy := t_clamp (i := y5_5) (by omega)
                                                            have hr2 : s_RW (g14 26) (y5_5.toNatClampNeg :: l) := And.intro (by rw [hn, e14, x_up2_at]; omega) (s_RW_eq hr (fun j hj => by rw [e14, x_up2_off (Or.inr (by omega))]; exact hlo j (by omega)))
                                                            have hd2 : s_dc (y5_5.toNatClampNeg :: l) := And.intro (fun a ha => by have := hf a ha; omega) hd
                                                            have h30b : (g14 22 3).toInt = 30 := (congrArg Int32.toInt (((hC24.1 22 3 rfl).1).symm.trans (hX.1 22 3 rfl).1)).trans h30
                                                            have hgl : gl5 25 = gl 25 := funext (fun j => ((hC24.1 25 j rfl).2.1).symm.trans (hX.1 25 j rfl).2.1)
                                                            have hfit := q15 h30b
                                                            rw [hgl, ← hn, ← s_ft_ix hd2 hr2] at hfit
                                                            have hq := q24 (y5_5.toNatClampNeg :: l) h30b hm1 hm4 (by rw [List.length_cons]; omega) hr2 hd2 (fun a ha => by rcases List.mem_cons.mp ha with h | h; (subst h; omega); (have := hf a h; omega))
                                                            rw [hgl] at hq
                                                            have c3 := t_clamp (i := z23) (by omega)
                                                            have hzn : z23.toNatClampNeg = y5_5.toNatClampNeg + 1 := by omega
                                                            rw [hzn] at hq
                                                            refine ⟨fun h => absurd h (by omega), fun _ => Or.inl ⟨rfl, ?_⟩, fun j hj => (hq.2.2 j (by omega)).trans ((show g14 26 j = gi5 26 j from (by rw [e14, x_up2_off (Or.inr (by omega))])).trans (hlo j hj))⟩
                                                            by_cases hz : ar2.toInt ≤ ar1.toInt + 1
                                                            · have hA := (hq.1 (by omega)).2
                                                              refine ⟨y5_5.toNatClampNeg :: l, ?_, by rw [hA]; exact hr2, by rw [List.length_cons]; omega⟩
                                                              rw [hx, s_X_s (by omega) (hfit.mp (by omega)), s_ifT (by omega)]; rfl
                                                            · obtain ⟨_, L, g1, g2, g3⟩ := (hq.2.1 (by omega)).resolve_right (fun hh => absurd hh.1 (by omega))
                                                              exact ⟨L, (by rw [hx, s_X_s (by omega) (hfit.mp (by omega)), s_ifF (by omega), g1]; rfl), g2, g3⟩))⟩⟩
    refine ev_sub (lo := [(5, .int ar3), (0, .ref 22), (1, .int ar1), (2, .int ar2), (3, .int ar3), (4, .int ar4)]) rfl (t_sc rfl (t_sc rfl (t_sc rfl (t_sc rfl (t_sc rfl (t_sc rfl t_sn)))))) ?_
    exact L5 _ gi gl gr (ar3) hI hX  l_a3 u_a3 rfl (fun l h30 hm1 hm4 hl hr hd hf => ⟨rfl, Int.le_refl _, fun _ _ => rfl⟩) rfl
  · have r31 : ar2.toInt ≤ ar1.toInt := Int32.le_iff_toInt_le.mp (t_nlt h2)
    have u32 : ar2.toInt ≤ 4 := t_leu (t_nlt h2) u_a1
    refine ev_ic f_X0_extend (nx := 6) (v := 1) rfl (by decide) rfl ?_
    exact ev_ret f_X0_extend rfl rfl rfl ⟨_, _, _, rfl, hI, hX, ⟨_, rfl, (Int.le_trans (by decide : (0:Int) ≤ 1) (by decide : (1:Int) ≤ (1:Int32).toInt)), (by decide : (1:Int32).toInt ≤ (1:Int)), (show ∀ l : List Nat, (gi 22 3).toInt = 30 → 1 ≤ ar2.toInt → ar2.toInt ≤ 4 → (l.length : Int) = ar1.toInt → s_RW (gi 26) l → s_dc l → (∀ a, a ∈ l → (a : Int) < ar3.toInt) → (ar2.toInt ≤ ar1.toInt → (1 : Int) = 1 ∧ gi 26 = gi 26) ∧ (ar1.toInt < ar2.toInt → ((1 : Int) = 1 ∧ ∃ L, s_X (gl 25) ar4.toNatClampNeg ar2.toNatClampNeg l ar3.toNatClampNeg = some L ∧ s_RW (gi 26) L ∧ (L.length : Int) = ar2.toInt) ∨ ((1 : Int) = 0 ∧ s_X (gl 25) ar4.toNatClampNeg ar2.toNatClampNeg l ar3.toNatClampNeg = none)) ∧ ∀ j : Nat, (j : Int) < ar1.toInt → gi 26 j = gi 26 j from (by
                                                            intro l h30 hm1 hm4 hl hr hd hf
                                                            have ck := t_clamp (i := ar1) l_a1
                                                            have cm := t_clamp (i := ar2) (by omega)
                                                            have ce := t_clamp (i := ar4) (by omega)
                                                            have hn : l.length = ar1.toNatClampNeg := by omega
                                                            exact ⟨fun _ => ⟨rfl, rfl⟩, fun h => absurd h (by omega), fun _ _ => rfl⟩))⟩⟩
theorem c_d_ext {X : x_Ext} {d : Nat} {sh : List (Nat ⊕ (Nat × Nat))} {gi : Nat → Nat → Int32} {gl : Nat → Nat → Int64} {gr : Nat → Nat → Value} (hI : t_I sh gi gr) (ar1 : Int32) (l_a1 : 0 ≤ ar1.toInt) (u_a1 : ar1.toInt ≤ 4) (ar2 : Int32) (ar3 : Int32) (l_a3 : 0 ≤ ar3.toInt) (u_a3 : ar3.toInt ≤ 30) (ar4 : Int32) (l_a4 : 0 ≤ ar4.toInt) (u_a4 : ar4.toInt ≤ 30) : x_Me X (d + 9) n_X0_extend [.ref 22, .int ar1, .int ar2, .int ar3, .int ar4] (sh, gi, gl, gr) (t_PI wl_d_ext sh gi gl gr 0 1 (Q_d_ext gi gl gr ar1 ar2 ar3 ar4)) := r_d_ext 6 hI ar1 l_a1 u_a1 ar2 ar3 l_a3 u_a3 ar4 l_a4 u_a4 (by omega)
noncomputable def wl_d_find : List (Nat × Nat) := [(22, 6), (25, 9999), (26, 9999), (27, 9999)]
noncomputable def Q_d_find (gi : Nat → Nat → Int32) (gl : Nat → Nat → Int64) (gr : Nat → Nat → Value) (ar1 : Int32) (ar2 : Int32) (ar3 : Int32) : Int32 → (Nat → Nat → Int32) → (Nat → Nat → Int64) → (Nat → Nat → Value) → Prop := fun (v : Int32) (gi2 : Nat → Nat → Int32) (gl2 : Nat → Nat → Int64) (gr2 : Nat → Nat → Value) => t_CL gi gl → (v.toInt = 1 ∧ ∃ L, s_X (s_ch ar3.toInt) (s_cE ar2.toNatClampNeg) ar1.toNatClampNeg [] 0 = some L ∧ s_RW (gi2 27) L ∧ (L.length : Int) = ar1.toInt ∧ (gi2 22 6).toInt = ar1.toInt) ∨ (v.toInt = 0 ∧ s_X (s_ch ar3.toInt) (s_cE ar2.toNatClampNeg) ar1.toNatClampNeg [] 0 = none ∧ gi2 27 = gi 27 ∧ gi2 22 6 = gi 22 6)
theorem c_d_find {X : x_Ext} {d : Nat} {sh : List (Nat ⊕ (Nat × Nat))} {gi : Nat → Nat → Int32} {gl : Nat → Nat → Int64} {gr : Nat → Nat → Value} (hI : t_I sh gi gr) (ar1 : Int32) (l_a1 : 1 ≤ ar1.toInt) (u_a1 : ar1.toInt ≤ 4) (ar2 : Int32) (l_a2 : 1 ≤ ar2.toInt) (u_a2 : ar2.toInt ≤ 4) (ar3 : Int32) (l_a3 : 0 ≤ ar3.toInt) (u_a3 : ar3.toInt ≤ 9) : x_Me X (d + 10) n_X0_find [.ref 22, .int ar1, .int ar2, .int ar3] (sh, gi, gl, gr) (t_PI wl_d_find sh gi gl gr 0 1 (Q_d_find gi gl gr ar1 ar2 ar3)) := by
  have hX : t_X wl_d_find sh gi gl gr gi gl gr := t_X.rf
  refine me_i f_X0_find (hI.wf.s rfl) rfl rfl rfl ?_
  obtain ⟨l1, u1⟩ := hI.b (hI.wf.s (k := 22) rfl) (t_bdK rfl : t_bd 0 6 = some (0, 4))
  refine ev_ic f_X0_find (nx := 1) (v := 0) rfl (by decide) rfl ?_
  refine ev_loc f_X0_find (nx := 3) (lo' := [(4, .int 0), (0, .ref 22), (1, .int ar1), (2, .int ar2), (3, .int ar3)]) rfl rfl rfl rfl ?_
  refine ev_ic f_X0_find (nx := 4) (v := 0) rfl (by decide) rfl ?_
  refine ev_loc f_X0_find (nx := 6) (lo' := [(5, .int 0), (4, .int 0), (0, .ref 22), (1, .int ar1), (2, .int ar2), (3, .int ar3)]) rfl rfl rfl rfl ?_
  have L2 : ∀ (m2 : Nat) (gi2 : Nat → Nat → Int32) (gl2 : Nat → Nat → Int64) (gr2 : Nat → Nat → Value) (y2_5 : Int32) (y2_4 : Int32), t_I sh gi2 gr2 → t_X wl_d_find sh gi gl gr gi2 gl2 gr2 → 0 ≤ y2_5.toInt → y2_5.toInt ≤ 30 → 0 ≤ y2_4.toInt → y2_4.toInt ≤ 30 → gi2 22 6 = (gi 22 6) → (t_CL gi gl → (∀ k : Nat, (k : Int) < y2_5.toInt → gl2 25 k = s_ch ar3.toInt k) ∧ y2_4.toInt = min y2_5.toInt ((s_cE ar2.toNatClampNeg : Nat) : Int) ∧ gi2 27 = gi 27 ∧ gi2 22 6 = gi 22 6) → (30 - y2_5.toInt).toNat = m2 → x_Ev X (d + 10) n_X0_find 6 [(5, .int y2_5), (4, .int y2_4), (0, .ref 22), (1, .int ar1), (2, .int ar2), (3, .int ar3)] [] (sh, gi2, gl2, gr2) (t_PI wl_d_find sh gi gl gr 0 1 (Q_d_find gi gl gr ar1 ar2 ar3)) := by
    intro m2
    induction m2 using Nat.strongRecOn with
    | _ m2 ih2 =>
    intro gi2 gl2 gr2 y2_5 y2_4 hI hX l2_5 u2_5 l2_4 u2_4 c2_0 j2_0 hm2
    refine ev_loc f_X0_find (nx := 8) rfl rfl rfl rfl ?_
    refine ev_loc f_X0_find (nx := 9) rfl rfl rfl rfl ?_
    refine ev_getI f_X0_find (nx := 12) rfl (hI.wf.s rfl) rfl rfl rfl ?_
    obtain ⟨l3, u3⟩ := hI.b (hI.wf.s (k := 22) rfl) (t_bdK rfl : t_bd 0 3 = some (0, 30))
    refine ev_if f_X0_find (t1 := 59) (t2 := 15) rfl rfl rfl (fun h4 => ?_) (fun h4 => ?_)
    · have r5 : (gi2 22 3).toInt ≤ y2_5.toInt := Int32.le_iff_toInt_le.mp h4
      refine ev_loc f_X0_find (nx := 60) rfl rfl rfl rfl ?_
      refine ev_loc f_X0_find (nx := 61) rfl rfl rfl rfl ?_
      refine ev_getR f_X0_find (nx := 64) rfl (hI.wf.s rfl) rfl rfl (hI.wf.r rfl) rfl rfl ?_
      refine ev_alenv f_X0_find (nx := 65) (w := 4) rfl (hI.wf.s rfl) rfl (by decide) rfl ?_
      refine ev_f f_X0_find (t1 := 80) (t2 := 68) rfl rfl rfl (t_ltF u_a1 (by decide : (4:Int) ≤ (4:Int32).toInt) (by decide)) ?_
      refine ev_loc f_X0_find (nx := 69) rfl rfl rfl rfl ?_
      refine ev_ic f_X0_find (nx := 70) (v := 0) rfl (by decide) rfl ?_
      refine ev_loc f_X0_find (nx := 71) rfl rfl rfl rfl ?_
      refine ev_ic f_X0_find (nx := 72) (v := 0) rfl (by decide) rfl ?_
      refine ev_loc f_X0_find (nx := 74) rfl rfl rfl rfl ?_
      refine ev_qI f_X0_find (nx := 77) (r := []) rfl rfl rfl rfl rfl rfl rfl (c_d_ext hI (0) (by decide : (0:Int) ≤ (0:Int32).toInt) (Int.le_trans (by decide : (0:Int32).toInt ≤ (0:Int)) (by decide : (0:Int) ≤ 4)) (ar1) (0) (by decide : (0:Int) ≤ (0:Int32).toInt) (Int.le_trans (by decide : (0:Int32).toInt ≤ (0:Int)) (by decide : (0:Int) ≤ 30)) (y2_4) l2_4 u2_4) rfl hX rfl (fun w6 gi6 gl6 gr6 l6 u6 hI hX hC6 q6 => ?_)
      have q6 : ∀ l : List Nat, (gi2 22 3).toInt = 30 → 1 ≤ ar1.toInt → ar1.toInt ≤ 4 → (l.length : Int) = 0 → s_RW (gi2 26) l → s_dc l → (∀ a, a ∈ l → (a : Int) < 0) → (ar1.toInt ≤ 0 → w6.toInt = 1 ∧ gi6 26 = gi2 26) ∧ (0 < ar1.toInt → (w6.toInt = 1 ∧ ∃ L, s_X (gl2 25) y2_4.toNatClampNeg ar1.toNatClampNeg l (0 : Int32).toNatClampNeg = some L ∧ s_RW (gi6 26) L ∧ (L.length : Int) = ar1.toInt) ∨ (w6.toInt = 0 ∧ s_X (gl2 25) y2_4.toNatClampNeg ar1.toNatClampNeg l (0 : Int32).toNatClampNeg = none)) ∧ ∀ j : Nat, (j : Int) < 0 → gi6 26 j = gi2 26 j := q6
      refine ev_if f_X0_find (t1 := 80) (t2 := 82) rfl rfl rfl (fun h7 => ?_) (fun h7 => ?_)
      · have u8 : w6.toInt ≤ 0 := t_equ h7 (by decide : (0:Int32).toInt ≤ (0:Int))
        refine ev_ic f_X0_find (nx := 81) (v := 0) rfl (by decide) rfl ?_
        exact ev_ret f_X0_find rfl rfl rfl ⟨_, _, _, rfl, hI, hX, ⟨_, rfl, (by decide : (0:Int) ≤ (0:Int32).toInt), (Int.le_trans (by decide : (0:Int32).toInt ≤ (0:Int)) (by decide : (0:Int) ≤ 1)), (show t_CL gi gl → ((0 : Int) = 1 ∧ ∃ L, s_X (s_ch ar3.toInt) (s_cE ar2.toNatClampNeg) ar1.toNatClampNeg [] 0 = some L ∧ s_RW (gi6 27) L ∧ (L.length : Int) = ar1.toInt ∧ (gi6 22 6).toInt = ar1.toInt) ∨ ((0 : Int) = 0 ∧ s_X (s_ch ar3.toInt) (s_cE ar2.toNatClampNeg) ar1.toNatClampNeg [] 0 = none ∧ gi6 27 = gi 27 ∧ gi6 22 6 = gi 22 6) from (by
                                                            intro hC
                                                            obtain ⟨g1, g2, g27, g26⟩ := j2_0 hC
                                                            have cy := t_clamp (i := y2_5) (by omega)
                                                            have c1 := t_clamp (i := ar1) (by omega)
                                                            have c2 := t_clamp (i := ar2) (by omega)
                                                            have h30 : (gi 22 3).toInt = 30 := hC.1
                                                            have hE := s_cE_b (n := ar2.toNatClampNeg) (by omega) (by omega)
                                                            have c4 := t_clamp (i := y2_4) (by omega)
                                                            have hm : (gi2 22 3).toInt = (gi 22 3).toInt := (congrArg Int32.toInt (((hC6.1 22 3 rfl).1).symm.trans (hX.1 22 3 rfl).1))
                                                            have e4z : y2_4.toNatClampNeg = s_cE ar2.toNatClampNeg := by omega
                                                            have hcg : ∀ k : Nat, s_X (gl2 25) (s_cE ar2.toNatClampNeg) k [] 0 = s_X (s_ch ar3.toInt) (s_cE ar2.toNatClampNeg) k [] 0 := fun k => s_X_cg (fun a ha => g1 a (by omega))
                                                            have hq := q6 [] (by omega) (by omega) (by omega) rfl trivial trivial (fun a ha => absurd ha (by intro hh; cases hh))
                                                            have z0 : (0 : Int32).toInt = 0 := rfl
                                                            have zN : (0 : Int32).toNatClampNeg = 0 := rfl
                                                            rw [zN, e4z, hcg] at hq
                                                            have hno := ((hq.2.1 (by omega)).resolve_left (fun hh => absurd hh.1 (by omega))).2
                                                            exact Or.inr ⟨rfl, hno, (funext (fun j => (hC6.1 27 j rfl).1)).trans g27, (hC6.1 22 6 rfl).1.trans g26⟩))⟩⟩
      · have r9 : w6.toInt ≠ 0 := fun e => h7 (Int32.toInt_inj.mp (e.trans (by decide : (0:Int) = (0 : Int32).toInt)))
        have l10 : 1 ≤ w6.toInt := t_nel h7 l6 rfl rfl
        refine ev_loc f_X0_find (nx := 83) rfl rfl rfl rfl ?_
        refine ev_getR f_X0_find (nx := 86) rfl (hI.wf.s rfl) rfl rfl (hI.wf.r rfl) rfl rfl ?_
        refine ev_ic f_X0_find (nx := 87) (v := 0) rfl (by decide) rfl ?_
        refine ev_loc f_X0_find (nx := 88) rfl rfl rfl rfl ?_
        refine ev_getR f_X0_find (nx := 91) rfl (hI.wf.s rfl) rfl rfl (hI.wf.r rfl) rfl rfl ?_
        refine ev_ic f_X0_find (nx := 92) (v := 0) rfl (by decide) rfl ?_
        refine ev_loc f_X0_find (nx := 93) rfl rfl rfl rfl ?_
        refine ev_cpyTIE f_X0_find (nx := 96) rfl rfl (hI.wf.s (k := 26) rfl) (hI.wf.s (k := 27) rfl) (by omega) (by decide : (0:Int) ≤ (0:Int32).toInt) (by decide : (0:Int32).toInt ≤ (0:Int)) (by decide : (0:Int) ≤ (0:Int32).toInt) (by decide : (0:Int32).toInt ≤ (0:Int)) (Int.le_trans (by decide : (0:Int) ≤ 1) l_a1) u_a1 (by decide) (by decide) rfl (hI.arr (hI.wf.s (k := 27) rfl) (t_cp27 hI _) (by decide)) (hX.arrI (fun j => t_inA_ok rfl)) (fun g11 e11 hI hX => ?_)
        refine ev_loc f_X0_find (nx := 97) rfl rfl rfl rfl ?_
        refine ev_loc f_X0_find (nx := 98) rfl rfl rfl rfl ?_
        refine ev_putIT f_X0_find (nx := 101) rfl (hI.wf.s rfl) rfl rfl rfl (hI.putB (hI.wf.s rfl) rfl rfl l_a1 (by decide) u_a1 (by decide)) (hX.upI rfl) (fun g12 e12 hI hX => ?_)
        refine ev_ic f_X0_find (nx := 102) (v := 1) rfl (by decide) rfl ?_
        exact ev_ret f_X0_find rfl rfl rfl ⟨_, _, _, rfl, hI, hX, ⟨_, rfl, (Int.le_trans (by decide : (0:Int) ≤ 1) (by decide : (1:Int) ≤ (1:Int32).toInt)), (by decide : (1:Int32).toInt ≤ (1:Int)), (show t_CL gi gl → ((1 : Int) = 1 ∧ ∃ L, s_X (s_ch ar3.toInt) (s_cE ar2.toNatClampNeg) ar1.toNatClampNeg [] 0 = some L ∧ s_RW (g12 27) L ∧ (L.length : Int) = ar1.toInt ∧ (g12 22 6).toInt = ar1.toInt) ∨ ((1 : Int) = 0 ∧ s_X (s_ch ar3.toInt) (s_cE ar2.toNatClampNeg) ar1.toNatClampNeg [] 0 = none ∧ g12 27 = gi 27 ∧ g12 22 6 = gi 22 6) from (by
                                                            intro hC
                                                            obtain ⟨g1, g2, g27, g26⟩ := j2_0 hC
                                                            have cy := t_clamp (i := y2_5) (by omega)
                                                            have c1 := t_clamp (i := ar1) (by omega)
                                                            have c2 := t_clamp (i := ar2) (by omega)
                                                            have h30 : (gi 22 3).toInt = 30 := hC.1
                                                            have hE := s_cE_b (n := ar2.toNatClampNeg) (by omega) (by omega)
                                                            have c4 := t_clamp (i := y2_4) (by omega)
                                                            have hm : (gi2 22 3).toInt = (gi 22 3).toInt := (congrArg Int32.toInt (((hC6.1 22 3 rfl).1).symm.trans ((by rw [e12, x_up2_off (Or.inr (by decide)), e11]; exact congrFun (if_neg (by decide)) 3 : g12 22 3 = gi6 22 3).symm.trans (hX.1 22 3 rfl).1)))
                                                            have e4z : y2_4.toNatClampNeg = s_cE ar2.toNatClampNeg := by omega
                                                            have hcg : ∀ k : Nat, s_X (gl2 25) (s_cE ar2.toNatClampNeg) k [] 0 = s_X (s_ch ar3.toInt) (s_cE ar2.toNatClampNeg) k [] 0 := fun k => s_X_cg (fun a ha => g1 a (by omega))
                                                            have hq := q6 [] (by omega) (by omega) (by omega) rfl trivial trivial (fun a ha => absurd ha (by intro hh; cases hh))
                                                            have z0 : (0 : Int32).toInt = 0 := rfl
                                                            have zN : (0 : Int32).toNatClampNeg = 0 := rfl
                                                            rw [zN, e4z, hcg] at hq
                                                            obtain ⟨_, L, g3, g4, g5⟩ := (hq.2.1 (by omega)).resolve_right (fun hh => absurd hh.1 (by omega))
                                                            refine Or.inl ⟨rfl, L, g3, ?_, g5, by rw [e12, x_up2_at]⟩
                                                            refine s_RW_eq g4 (fun j hj => ?_)
                                                            rw [e12, x_up2_ne (by decide), e11]
                                                            show (if 27 = 27 then va_cpy (gi6 26) (gi6 27) (0 : Int32).toNatClampNeg (0 : Int32).toNatClampNeg ar1.toNatClampNeg else gi6 27) j = _
                                                            rw [if_pos rfl, zN]
                                                            unfold va_cpy
                                                            rw [if_pos ⟨by omega, by omega⟩, show 0 + (j - 0) = j by omega]))⟩⟩
    · have r13 : y2_5.toInt < (gi2 22 3).toInt := Int32.lt_iff_toInt_lt.mp (t_nle h4)
      have u14 : y2_5.toInt ≤ 29 := t_ltu (t_nle h4) u3 rfl
      have l15 : 1 ≤ (gi2 22 3).toInt := t_ltl (t_nle h4) l2_5 rfl
      refine ev_loc f_X0_find (nx := 16) rfl rfl rfl rfl ?_
      refine ev_getR f_X0_find (nx := 19) rfl (hI.wf.s rfl) rfl rfl (hI.wf.r rfl) rfl rfl ?_
      refine ev_loc f_X0_find (nx := 21) rfl rfl rfl rfl ?_
      refine ev_loc f_X0_find (nx := 22) rfl rfl rfl rfl ?_
      refine ev_getR f_X0_find (nx := 25) rfl (hI.wf.s rfl) rfl rfl (hI.wf.r rfl) rfl rfl ?_
      refine ev_loc f_X0_find (nx := 27) rfl rfl rfl rfl ?_
      refine ev_laldT f_X0_find (nx := 28) rfl (hI.wf.s rfl) l2_5 (by decide) u14 (by decide) rfl (fun w16 e16 => ?_)
      refine ev_qL0 f_X0_find (nx := 31) (r := [.int y2_5, .ref 25]) rfl rfl rfl rfl rfl rfl rfl (c_s_soundOf hI (w16)) rfl (fun w17 q17 => ?_)
      have q17 : w17 = s_snd w16 := q17
      refine ev_loc f_X0_find (nx := 32) rfl rfl rfl rfl ?_
      refine ev_inS2 f_X0_find (nx := 35) (lo2 := [(0, .long w17), (2, .int ar3)]) rfl rfl rfl rfl f_X5_withEcho rfl rfl rfl rfl ?_
      refine ev_loc f_X5_withEcho (nx := 1) rfl rfl rfl rfl ?_
      refine ev_loc f_X5_withEcho (nx := 2) rfl rfl rfl rfl ?_
      refine ev_loc f_X5_withEcho (nx := 3) rfl rfl rfl rfl ?_
      refine ev_anyLE f_X5_withEcho (nx := 4) rfl rfl rfl rfl (fun z18 e18 => ?_)
      refine ev_anyLE f_X5_withEcho (nx := 5) rfl rfl rfl rfl (fun z19 e19 => ?_)
      refine ev_retK1 f_X5_withEcho rfl rfl rfl ?_
      refine ev_lastT f_X0_find (nx := 36) rfl (hI.wf.s rfl) l2_5 (by decide) u14 (by decide) rfl (hX.upL (t_inA_ok rfl)) (fun g20 e20 hX => ?_)
      refine ev_loc f_X0_find (nx := 37) rfl rfl rfl rfl ?_
      refine ev_getR f_X0_find (nx := 40) rfl (hI.wf.s rfl) rfl rfl (hI.wf.r rfl) rfl rfl ?_
      refine ev_loc f_X0_find (nx := 42) rfl rfl rfl rfl ?_
      refine ev_ialdT f_X0_find (nx := 43) rfl (hI.wf.s rfl) l2_5 (by decide) u14 (by decide) rfl (fun w21 e21 => ?_)
      refine ev_loc f_X0_find (nx := 44) rfl rfl rfl rfl ?_
      refine ev_if f_X0_find (t1 := 53) (t2 := 47) rfl rfl rfl (fun h22 => ?_) (fun h22 => ?_)
      · have r23 : ar2.toInt < w21.toInt := Int32.lt_iff_toInt_lt.mp h22
        have l24 : 2 ≤ w21.toInt := t_ltl h22 l_a2 rfl
        refine ev_incR f_X0_find (nx := 56) (c := 1) (l := 1) (u := 30) rfl rfl (by decide) (by decide) l2_5 u14 rfl rfl (by decide) (by decide) rfl (fun z25 e25 l25 u25 => ?_)
        refine ev_jmp f_X0_find (nx := 6) rfl rfl rfl ?_
        refine ev_sub (lo := [(5, .int z25), (4, .int y2_4), (0, .ref 22), (1, .int ar1), (2, .int ar2), (3, .int ar3)]) rfl (t_sc rfl (t_sc rfl (t_sc rfl (t_sc rfl (t_sc rfl (t_sc rfl t_sn)))))) ?_
        exact ih2 _ (by omega) gi2 g20 gr2 (z25) (y2_4) hI hX  (Int.le_trans (by decide : (0:Int) ≤ 1) l25) u25 l2_4 u2_4 c2_0 (fun hC => (by
                                                            obtain ⟨g1, g2, g3, g4⟩ := j2_0 hC
                                                            have cy := t_clamp (i := y2_5) (by omega)
                                                            have c2 := t_clamp (i := ar2) (by omega)
                                                            have h30 : (gi 22 3).toInt = 30 := hC.1
                                                            have hm : (gi2 22 3).toInt = (gi 22 3).toInt := congrArg Int32.toInt (hX.1 22 3 rfl).1
                                                            have hL := hC.2 y2_5.toNatClampNeg (by omega)
                                                            have hw : w16 = s_cL y2_5.toNatClampNeg := by rw [e16]; exact ((show g20 23 y2_5.toNatClampNeg = gl2 23 y2_5.toNatClampNeg from (by rw [e20, x_up2_off (Or.inl (by decide))])).symm.trans (hX.1 23 _ rfl).2.1).trans hL.1
                                                            have hs : w17 = s_snd (s_cL y2_5.toNatClampNeg) := by rw [← hw]; exact q17
                                                            have hv : z19 = s_ch ar3.toInt y2_5.toNatClampNeg := by unfold s_ch; rw [← hs]; exact s_ec_e e18 e19 rfl
                                                            have hb : w21.toInt = ((s_cn y2_5.toNatClampNeg : Nat) : Int) := by rw [e21]; exact (congrArg Int32.toInt (hX.1 24 _ rfl).1).trans hL.2
                                                            have hE := s_cE_k (k := y2_5.toNatClampNeg) (n := ar2.toNatClampNeg) (by omega) (by omega) (by omega)
                                                            refine ⟨fun k hk => ?_, ?_, g3, g4⟩
                                                            · by_cases hk2 : k = y2_5.toNatClampNeg
                                                              · rw [hk2, e20, x_up2_at]; exact hv
                                                              · rw [e20, x_up2_off (Or.inr hk2)]; exact g1 k (by omega)
                                                            · rcases Nat.lt_or_ge y2_5.toNatClampNeg (s_cE ar2.toNatClampNeg) with hh | hh
                                                              · have h9 := hE.mpr hh; omega
                                                              · have h9 : ¬ s_cn y2_5.toNatClampNeg ≤ ar2.toNatClampNeg := fun h8 => by have := hE.mp h8; omega
                                                                omega)) rfl
      · have r26 : w21.toInt ≤ ar2.toInt := Int32.le_iff_toInt_le.mp (t_nlt h22)
        have u27 : w21.toInt ≤ 4 := t_leu (t_nlt h22) u_a2
        refine ev_loc f_X0_find (nx := 49) rfl rfl rfl rfl ?_
        refine ev_ic f_X0_find (nx := 50) (v := 1) rfl (by decide) rfl ?_
        refine ev_addC f_X0_find (nx := 51) (c := 1) (l := 1) (u := 30) rfl (by decide) l2_5 u14 rfl rfl (by decide) (by decide) rfl (fun z28 e28 l28 u28 => ?_)
        refine ev_loc f_X0_find (nx := 53) (lo' := [(4, .int z28), (5, .int y2_5), (0, .ref 22), (1, .int ar1), (2, .int ar2), (3, .int ar3)]) rfl rfl rfl rfl ?_
        refine ev_incR f_X0_find (nx := 56) (c := 1) (l := 1) (u := 30) rfl rfl (by decide) (by decide) l2_5 u14 rfl rfl (by decide) (by decide) rfl (fun z29 e29 l29 u29 => ?_)
        refine ev_jmp f_X0_find (nx := 6) rfl rfl rfl ?_
        refine ev_sub (lo := [(5, .int z29), (4, .int z28), (0, .ref 22), (1, .int ar1), (2, .int ar2), (3, .int ar3)]) rfl (t_sc rfl (t_sc rfl (t_sc rfl (t_sc rfl (t_sc rfl (t_sc rfl t_sn)))))) ?_
        exact ih2 _ (by omega) gi2 g20 gr2 (z29) (z28) hI hX  (Int.le_trans (by decide : (0:Int) ≤ 1) l29) u29 (Int.le_trans (by decide : (0:Int) ≤ 1) l28) u28 c2_0 (fun hC => (by
                                                            obtain ⟨g1, g2, g3, g4⟩ := j2_0 hC
                                                            have cy := t_clamp (i := y2_5) (by omega)
                                                            have c2 := t_clamp (i := ar2) (by omega)
                                                            have h30 : (gi 22 3).toInt = 30 := hC.1
                                                            have hm : (gi2 22 3).toInt = (gi 22 3).toInt := congrArg Int32.toInt (hX.1 22 3 rfl).1
                                                            have hL := hC.2 y2_5.toNatClampNeg (by omega)
                                                            have hw : w16 = s_cL y2_5.toNatClampNeg := by rw [e16]; exact ((show g20 23 y2_5.toNatClampNeg = gl2 23 y2_5.toNatClampNeg from (by rw [e20, x_up2_off (Or.inl (by decide))])).symm.trans (hX.1 23 _ rfl).2.1).trans hL.1
                                                            have hs : w17 = s_snd (s_cL y2_5.toNatClampNeg) := by rw [← hw]; exact q17
                                                            have hv : z19 = s_ch ar3.toInt y2_5.toNatClampNeg := by unfold s_ch; rw [← hs]; exact s_ec_e e18 e19 rfl
                                                            have hb : w21.toInt = ((s_cn y2_5.toNatClampNeg : Nat) : Int) := by rw [e21]; exact (congrArg Int32.toInt (hX.1 24 _ rfl).1).trans hL.2
                                                            have hE := s_cE_k (k := y2_5.toNatClampNeg) (n := ar2.toNatClampNeg) (by omega) (by omega) (by omega)
                                                            refine ⟨fun k hk => ?_, ?_, g3, g4⟩
                                                            · by_cases hk2 : k = y2_5.toNatClampNeg
                                                              · rw [hk2, e20, x_up2_at]; exact hv
                                                              · rw [e20, x_up2_off (Or.inr hk2)]; exact g1 k (by omega)
                                                            · rcases Nat.lt_or_ge y2_5.toNatClampNeg (s_cE ar2.toNatClampNeg) with hh | hh
                                                              · have h9 := hE.mpr hh; omega
                                                              · have h9 : ¬ s_cn y2_5.toNatClampNeg ≤ ar2.toNatClampNeg := fun h8 => by have := hE.mp h8; omega
                                                                omega)) rfl
  refine ev_sub (lo := [(5, .int 0), (4, .int 0), (0, .ref 22), (1, .int ar1), (2, .int ar2), (3, .int ar3)]) rfl (t_sc rfl (t_sc rfl (t_sc rfl (t_sc rfl (t_sc rfl (t_sc rfl t_sn)))))) ?_
  exact L2 _ gi gl gr (0) (0) hI hX  (by decide : (0:Int) ≤ (0:Int32).toInt) (Int.le_trans (by decide : (0:Int32).toInt ≤ (0:Int)) (by decide : (0:Int) ≤ 30)) (by decide : (0:Int) ≤ (0:Int32).toInt) (Int.le_trans (by decide : (0:Int32).toInt ≤ (0:Int)) (by decide : (0:Int) ≤ 30)) rfl (fun hC => ⟨fun k hk => absurd hk (by have z0 : (0 : Int32).toInt = 0 := rfl; omega), by have z0 : (0 : Int32).toInt = 0 := rfl; omega, rfl, rfl⟩) rfl
noncomputable def wl_d_bt : List (Nat × Nat) := []
noncomputable def Q_d_bt (gi : Nat → Nat → Int32) (gl : Nat → Nat → Int64) (gr : Nat → Nat → Value) : Int32 → (Nat → Nat → Int32) → (Nat → Nat → Int64) → (Nat → Nat → Value) → Prop := fun (v : Int32) (gi2 : Nat → Nat → Int32) (gl2 : Nat → Nat → Int64) (gr2 : Nat → Nat → Value) => v = s_sI (fun i => gi 24 (gi 27 i).toInt.toNat) (gi 22 6).toInt.toNat
theorem c_d_bt {X : x_Ext} {d : Nat} {sh : List (Nat ⊕ (Nat × Nat))} {gi : Nat → Nat → Int32} {gl : Nat → Nat → Int64} {gr : Nat → Nat → Value} (hI : t_I sh gi gr) : x_Me X (d + 1) n_X0_blastsTold [.ref 22] (sh, gi, gl, gr) (t_PI wl_d_bt sh gi gl gr (-2147483648) 2147483647 (Q_d_bt gi gl gr)) := by
  have hX : t_X wl_d_bt sh gi gl gr gi gl gr := t_X.rf
  refine me_i f_X0_blastsTold (hI.wf.s rfl) rfl rfl rfl ?_
  obtain ⟨l1, u1⟩ := hI.b (hI.wf.s (k := 22) rfl) (t_bdK rfl : t_bd 0 6 = some (0, 4))
  refine ev_ic f_X0_blastsTold (nx := 1) (v := 0) rfl (by decide) rfl ?_
  refine ev_loc f_X0_blastsTold (nx := 2) (lo' := [(1, .int 0), (0, .ref 22)]) rfl rfl rfl rfl ?_
  refine ev_ic f_X0_blastsTold (nx := 3) (v := 0) rfl (by decide) rfl ?_
  refine ev_loc f_X0_blastsTold (nx := 4) (lo' := [(2, .int 0), (1, .int 0), (0, .ref 22)]) rfl rfl rfl rfl ?_
  have L2 : ∀ (m2 : Nat) (y2_2 : Int32) (y2_1 : Int32), 0 ≤ y2_2.toInt → y2_2.toInt ≤ 4 → (y2_1 = s_sI (fun i => gi 24 (gi 27 i).toInt.toNat) y2_2.toNatClampNeg ∧ y2_2.toInt ≤ (gi 22 6).toInt) → (4 - y2_2.toInt).toNat = m2 → x_Ev X (d + 1) n_X0_blastsTold 4 [(2, .int y2_2), (1, .int y2_1), (0, .ref 22)] [] (sh, gi, gl, gr) (t_PI wl_d_bt sh gi gl gr (-2147483648) 2147483647 (Q_d_bt gi gl gr)) := by
    intro m2
    induction m2 using Nat.strongRecOn with
    | _ m2 ih2 =>
    intro y2_2 y2_1 l2_2 u2_2 j2_0 hm2
    refine ev_loc f_X0_blastsTold (nx := 5) rfl rfl rfl rfl ?_
    refine ev_loc f_X0_blastsTold (nx := 6) rfl rfl rfl rfl ?_
    refine ev_gvI f_X0_blastsTold (nx := 9) (w := (gi 22 6)) rfl (hI.wf.s rfl) rfl rfl rfl rfl ?_
    refine ev_if f_X0_blastsTold (t1 := 32) (t2 := 12) rfl rfl rfl (fun h3 => ?_) (fun h3 => ?_)
    · have r4 : (gi 22 6).toInt ≤ y2_2.toInt := Int32.le_iff_toInt_le.mp h3
      refine ev_loc f_X0_blastsTold (nx := 33) rfl rfl rfl rfl ?_
      exact ev_ret f_X0_blastsTold rfl rfl rfl ⟨_, _, _, rfl, hI, hX, ⟨_, rfl, (t_lo y2_1), (t_hi y2_1), (show y2_1 = s_sI (fun i => gi 24 (gi 27 i).toInt.toNat) (gi 22 6).toInt.toNat from (by
                                                            obtain ⟨g1, g2⟩ := j2_0
                                                            have cy := t_clamp (i := y2_2) (by omega)
                                                            rw [g1, show y2_2.toNatClampNeg = (gi 22 6).toInt.toNat by omega]))⟩⟩
    · have r5 : y2_2.toInt < (gi 22 6).toInt := Int32.lt_iff_toInt_lt.mp (t_nle h3)
      have u6 : y2_2.toInt ≤ 3 := t_ltu (t_nle h3) u1 rfl
      have l7 : 1 ≤ (gi 22 6).toInt := t_ltl (t_nle h3) l2_2 rfl
      refine ev_loc f_X0_blastsTold (nx := 13) rfl rfl rfl rfl ?_
      refine ev_loc f_X0_blastsTold (nx := 14) rfl rfl rfl rfl ?_
      refine ev_getR f_X0_blastsTold (nx := 17) rfl (hI.wf.s rfl) rfl rfl (hI.wf.r rfl) rfl rfl ?_
      refine ev_loc f_X0_blastsTold (nx := 18) rfl rfl rfl rfl ?_
      refine ev_getR f_X0_blastsTold (nx := 21) rfl (hI.wf.s rfl) rfl rfl (hI.wf.r rfl) rfl rfl ?_
      refine ev_loc f_X0_blastsTold (nx := 22) rfl rfl rfl rfl ?_
      refine ev_ialdT f_X0_blastsTold (nx := 23) rfl (hI.wf.s rfl) l2_2 (by decide) u6 (by decide) rfl (fun w8 e8 => ?_)
      obtain ⟨l8, u8⟩ := hI.abi e8 (by decide +kernel : t_abr 27 0 3 0 29 = true) l2_2 (by decide) u6 (by decide)
      refine ev_ialdT f_X0_blastsTold (nx := 24) rfl (hI.wf.s rfl) l8 (by decide) u8 (by decide) rfl (fun w9 e9 => ?_)
      refine ev_anyIE f_X0_blastsTold (nx := 25) rfl rfl rfl rfl (fun z10 e10 => ?_)
      refine ev_loc f_X0_blastsTold (nx := 26) (lo' := [(1, .int z10), (2, .int y2_2), (0, .ref 22)]) rfl rfl rfl rfl ?_
      refine ev_incR f_X0_blastsTold (nx := 29) (c := 1) (l := 1) (u := 4) rfl rfl (by decide) (by decide) l2_2 u6 rfl rfl (by decide) (by decide) rfl (fun z11 e11 l11 u11 => ?_)
      refine ev_jmp f_X0_blastsTold (nx := 4) rfl rfl rfl ?_
      refine ev_sub (lo := [(2, .int z11), (1, .int z10), (0, .ref 22)]) rfl (t_sc rfl (t_sc rfl (t_sc rfl t_sn))) ?_
      exact ih2 _ (by omega) (z11) (z10) (Int.le_trans (by decide : (0:Int) ≤ 1) l11) u11 (by
                                                            obtain ⟨g1, g2⟩ := j2_0
                                                            have cy := t_clamp (i := y2_2) (by omega)
                                                            have cz := t_clamp (i := z11) (by omega)
                                                            have cw := t_clamp (i := w8) (by omega)
                                                            refine ⟨?_, by omega⟩
                                                            rw [show z11.toNatClampNeg = y2_2.toNatClampNeg + 1 by omega]
                                                            have h9 : w9 = gi 24 (gi 27 y2_2.toNatClampNeg).toInt.toNat := by rw [e9, ← e8, show w8.toNatClampNeg = w8.toInt.toNat by omega]
                                                            show _ = s_sI (fun i => gi 24 (gi 27 i).toInt.toNat) y2_2.toNatClampNeg + gi 24 (gi 27 y2_2.toNatClampNeg).toInt.toNat
                                                            rw [e10, g1, h9]) rfl
  refine ev_sub (lo := [(2, .int 0), (1, .int 0), (0, .ref 22)]) rfl (t_sc rfl (t_sc rfl (t_sc rfl t_sn))) ?_
  exact L2 _ (0) (0) (by decide : (0:Int) ≤ (0:Int32).toInt) (Int.le_trans (by decide : (0:Int32).toInt ≤ (0:Int)) (by decide : (0:Int) ≤ 4)) ⟨rfl, by have z0 : (0 : Int32).toInt = 0 := rfl; have := l1; omega⟩ rfl
noncomputable def wl_d_ct : List (Nat × Nat) := []
noncomputable def Q_d_ct (gi : Nat → Nat → Int32) (gl : Nat → Nat → Int64) (gr : Nat → Nat → Value) (ar1 : Int32) : Int64 → (Nat → Nat → Int32) → (Nat → Nat → Int64) → (Nat → Nat → Value) → Prop := fun (v : Int64) (gi2 : Nat → Nat → Int32) (gl2 : Nat → Nat → Int64) (gr2 : Nat → Nat → Value) => 0 ≤ ar1.toInt → ar1.toInt < (gi 22 6).toInt → v = gl 23 (gi 27 ar1.toNatClampNeg).toInt.toNat
theorem c_d_ct {X : x_Ext} {d : Nat} {sh : List (Nat ⊕ (Nat × Nat))} {gi : Nat → Nat → Int32} {gl : Nat → Nat → Int64} {gr : Nat → Nat → Value} (hI : t_I sh gi gr) (ar1 : Int32) : x_Me X (d + 1) n_X0_callTold [.ref 22, .int ar1] (sh, gi, gl, gr) (t_PL wl_d_ct sh gi gl gr (Q_d_ct gi gl gr ar1)) := by
  have hX : t_X wl_d_ct sh gi gl gr gi gl gr := t_X.rf
  refine me_i f_X0_callTold (hI.wf.s rfl) rfl rfl rfl ?_
  obtain ⟨l1, u1⟩ := hI.b (hI.wf.s (k := 22) rfl) (t_bdK rfl : t_bd 0 6 = some (0, 4))
  refine ev_loc f_X0_callTold (nx := 1) rfl rfl rfl rfl ?_
  refine ev_if f_X0_callTold (t1 := 26) (t2 := 4) rfl rfl rfl (fun h2 => ?_) (fun h2 => ?_)
  · have u3 : ar1.toInt ≤ (-1) := t_ltu h2 (by decide : (0:Int32).toInt ≤ (0:Int)) rfl
    refine ev_ldL f_X0_callTold (nx := 29) (v := -1) rfl (by decide) rfl ?_
    exact ev_ret f_X0_callTold rfl rfl rfl ⟨_, _, _, rfl, hI, hX, ⟨_, rfl, (show 0 ≤ ar1.toInt → ar1.toInt < (gi 22 6).toInt → ((-1) : Int64) = gl 23 (gi 27 ar1.toNatClampNeg).toInt.toNat from (by intro h0 h1; exfalso; omega))⟩⟩
  · have l4 : 0 ≤ ar1.toInt := t_lel (t_nlt h2) (by decide : (0:Int) ≤ (0:Int32).toInt)
    refine ev_loc f_X0_callTold (nx := 5) rfl rfl rfl rfl ?_
    refine ev_loc f_X0_callTold (nx := 6) rfl rfl rfl rfl ?_
    refine ev_gvI f_X0_callTold (nx := 9) (w := (gi 22 6)) rfl (hI.wf.s rfl) rfl rfl rfl rfl ?_
    refine ev_if f_X0_callTold (t1 := 26) (t2 := 12) rfl rfl rfl (fun h5 => ?_) (fun h5 => ?_)
    · have r6 : (gi 22 6).toInt ≤ ar1.toInt := Int32.le_iff_toInt_le.mp h5
      refine ev_ldL f_X0_callTold (nx := 29) (v := -1) rfl (by decide) rfl ?_
      exact ev_ret f_X0_callTold rfl rfl rfl ⟨_, _, _, rfl, hI, hX, ⟨_, rfl, (show 0 ≤ ar1.toInt → ar1.toInt < (gi 22 6).toInt → ((-1) : Int64) = gl 23 (gi 27 ar1.toNatClampNeg).toInt.toNat from (by intro h0 h1; exfalso; omega))⟩⟩
    · have r7 : ar1.toInt < (gi 22 6).toInt := Int32.lt_iff_toInt_lt.mp (t_nle h5)
      have u8 : ar1.toInt ≤ 3 := t_ltu (t_nle h5) u1 rfl
      have l9 : 1 ≤ (gi 22 6).toInt := t_ltl (t_nle h5) l4 rfl
      refine ev_loc f_X0_callTold (nx := 13) rfl rfl rfl rfl ?_
      refine ev_getR f_X0_callTold (nx := 16) rfl (hI.wf.s rfl) rfl rfl (hI.wf.r rfl) rfl rfl ?_
      refine ev_loc f_X0_callTold (nx := 17) rfl rfl rfl rfl ?_
      refine ev_getR f_X0_callTold (nx := 20) rfl (hI.wf.s rfl) rfl rfl (hI.wf.r rfl) rfl rfl ?_
      refine ev_loc f_X0_callTold (nx := 21) rfl rfl rfl rfl ?_
      refine ev_ialdT f_X0_callTold (nx := 22) rfl (hI.wf.s rfl) l4 (by decide) u8 (by decide) rfl (fun w10 e10 => ?_)
      obtain ⟨l10, u10⟩ := hI.abi e10 (by decide +kernel : t_abr 27 0 3 0 29 = true) l4 (by decide) u8 (by decide)
      refine ev_laldT f_X0_callTold (nx := 23) rfl (hI.wf.s rfl) l10 (by decide) u10 (by decide) rfl (fun w11 e11 => ?_)
      refine ev_jmp f_X0_callTold (nx := 29) rfl rfl rfl ?_
      exact ev_ret f_X0_callTold rfl rfl rfl ⟨_, _, _, rfl, hI, hX, ⟨_, rfl, (show 0 ≤ ar1.toInt → ar1.toInt < (gi 22 6).toInt → w11 = gl 23 (gi 27 ar1.toNatClampNeg).toInt.toNat from (by
                                                            intro h0 h1
                                                            have cw := t_clamp (i := w10) (by omega)
                                                            rw [e11, ← e10, show w10.toNatClampNeg = w10.toInt.toNat by omega]))⟩⟩
noncomputable def wl_d_codeAt : List (Nat × Nat) := [(0, 0)]
noncomputable def Q_d_codeAt (gi : Nat → Nat → Int32) (gl : Nat → Nat → Int64) (gr : Nat → Nat → Value) (ar1 : Int32) : Int64 → (Nat → Nat → Int32) → (Nat → Nat → Int64) → (Nat → Nat → Value) → Prop := fun (v : Int64) (gi2 : Nat → Nat → Int32) (gl2 : Nat → Nat → Int64) (gr2 : Nat → Nat → Value) => ((0 ≤ ar1.toInt ∧ ar1.toInt < (gi 22 6).toInt) → v = gl 23 (gi 27 ar1.toNatClampNeg).toInt.toNat) ∧ (¬ (0 ≤ ar1.toInt ∧ ar1.toInt < (gi 22 6).toInt) → v.toInt = -1)
theorem c_d_codeAt {X : x_Ext} {d : Nat} {sh : List (Nat ⊕ (Nat × Nat))} {gi : Nat → Nat → Int32} {gl : Nat → Nat → Int64} {gr : Nat → Nat → Value} (hI : t_I sh gi gr) (ar1 : Int32) : x_Me X (d + 2) n_X11_codeAt [.ref 0, .int ar1] (sh, gi, gl, gr) (t_PL wl_d_codeAt sh gi gl gr (Q_d_codeAt gi gl gr ar1)) := by
  have hX : t_X wl_d_codeAt sh gi gl gr gi gl gr := t_X.rf
  refine me_i f_X11_codeAt (hI.wf.s rfl) rfl rfl rfl ?_
  obtain ⟨l1, u1⟩ := hI.b (hI.wf.s (k := 22) rfl) (t_bdK rfl : t_bd 0 6 = some (0, 4))
  refine ev_loc f_X11_codeAt (nx := 1) rfl rfl rfl rfl ?_
  refine ev_if f_X11_codeAt (t1 := 15) (t2 := 4) rfl rfl rfl (fun h2 => ?_) (fun h2 => ?_)
  · have u3 : ar1.toInt ≤ (-1) := t_ltu h2 (by decide : (0:Int32).toInt ≤ (0:Int)) rfl
    refine ev_loc f_X11_codeAt (nx := 16) rfl rfl rfl rfl ?_
    refine ev_bp f_X11_codeAt (nx := 18) (v := 6) rfl (by decide) rfl ?_
    refine ev_inV2 f_X11_codeAt (nx := 21) (lo2 := [(0, .ref 0), (1, .int 6)]) rfl rfl rfl rfl f_X11_refuse (hI.wf.s rfl) rfl rfl rfl rfl rfl ?_
    refine ev_loc f_X11_refuse (nx := 1) rfl rfl rfl rfl ?_
    refine ev_loc f_X11_refuse (nx := 2) rfl rfl rfl rfl ?_
    refine ev_putIT f_X11_refuse (nx := 5) rfl (hI.wf.s rfl) rfl rfl rfl (hI.put0 (hI.wf.s rfl) rfl rfl) (hX.upI rfl) (fun g4 e4 hI hX => ?_)
    refine ev_ic f_X11_refuse (nx := 6) (v := -1) rfl (by decide) rfl ?_
    refine ev_retK1 f_X11_refuse rfl rfl rfl ?_
    refine ev_aluvL f_X11_codeAt (nx := 22) (w := -1) rfl rfl rfl (by decide) rfl ?_
    exact ev_ret f_X11_codeAt rfl rfl rfl ⟨_, _, _, rfl, hI, hX, ⟨_, rfl, (show ((0 ≤ ar1.toInt ∧ ar1.toInt < (gi 22 6).toInt) → ((-1) : Int64) = gl 23 (gi 27 ar1.toNatClampNeg).toInt.toNat) ∧ (¬ (0 ≤ ar1.toInt ∧ ar1.toInt < (gi 22 6).toInt) → ((-1) : Int64).toInt = -1) from ⟨fun h => absurd h (by omega), fun _ => (by decide)⟩)⟩⟩
  · have l5 : 0 ≤ ar1.toInt := t_lel (t_nlt h2) (by decide : (0:Int) ≤ (0:Int32).toInt)
    refine ev_loc f_X11_codeAt (nx := 5) rfl rfl rfl rfl ?_
    refine ev_loc f_X11_codeAt (nx := 6) rfl rfl rfl rfl ?_
    refine ev_getR f_X11_codeAt (nx := 9) rfl (hI.wf.s rfl) rfl rfl (hI.wf.r rfl) rfl rfl ?_
    refine ev_gvI f_X11_codeAt (nx := 12) (w := (gi 22 6)) rfl (hI.wf.s rfl) rfl rfl rfl rfl ?_
    refine ev_if f_X11_codeAt (t1 := 23) (t2 := 15) rfl rfl rfl (fun h6 => ?_) (fun h6 => ?_)
    · have r7 : ar1.toInt < (gi 22 6).toInt := Int32.lt_iff_toInt_lt.mp h6
      have u8 : ar1.toInt ≤ 3 := t_ltu h6 u1 rfl
      have l9 : 1 ≤ (gi 22 6).toInt := t_ltl h6 l5 rfl
      refine ev_loc f_X11_codeAt (nx := 24) rfl rfl rfl rfl ?_
      refine ev_loc f_X11_codeAt (nx := 25) rfl rfl rfl rfl ?_
      refine ev_getR f_X11_codeAt (nx := 28) rfl (hI.wf.s rfl) rfl rfl (hI.wf.r rfl) rfl rfl ?_
      refine ev_loc f_X11_codeAt (nx := 29) rfl rfl rfl rfl ?_
      refine ev_qL0 f_X11_codeAt (nx := 32) (r := [.ref 0]) rfl rfl rfl rfl rfl rfl rfl (c_d_ct hI (ar1)) rfl (fun w10 q10 => ?_)
      have q10 : 0 ≤ ar1.toInt → ar1.toInt < (gi 22 6).toInt → w10 = gl 23 (gi 27 ar1.toNatClampNeg).toInt.toNat := q10
      refine ev_inV2 f_X11_codeAt (nx := 35) (lo2 := [(0, .ref 0), (1, .long w10)]) rfl rfl rfl rfl f_X11_answerLong (hI.wf.s rfl) rfl rfl rfl rfl rfl ?_
      refine ev_loc f_X11_answerLong (nx := 1) rfl rfl rfl rfl ?_
      refine ev_ic f_X11_answerLong (nx := 2) (v := 0) rfl (by decide) rfl ?_
      refine ev_putIT f_X11_answerLong (nx := 5) rfl (hI.wf.s rfl) rfl rfl rfl (hI.put0 (hI.wf.s rfl) rfl rfl) (hX.upI rfl) (fun g11 e11 hI hX => ?_)
      refine ev_loc f_X11_answerLong (nx := 6) rfl rfl rfl rfl ?_
      refine ev_retK1 f_X11_answerLong rfl rfl rfl ?_
      exact ev_ret f_X11_codeAt rfl rfl rfl ⟨_, _, _, rfl, hI, hX, ⟨_, rfl, (show ((0 ≤ ar1.toInt ∧ ar1.toInt < (gi 22 6).toInt) → w10 = gl 23 (gi 27 ar1.toNatClampNeg).toInt.toNat) ∧ (¬ (0 ≤ ar1.toInt ∧ ar1.toInt < (gi 22 6).toInt) → w10.toInt = -1) from ⟨fun h => q10 h.1 h.2, fun h => absurd (show _ from ⟨by omega, by omega⟩) h⟩)⟩⟩
    · have r12 : (gi 22 6).toInt ≤ ar1.toInt := Int32.le_iff_toInt_le.mp (t_nlt h6)
      refine ev_loc f_X11_codeAt (nx := 16) rfl rfl rfl rfl ?_
      refine ev_bp f_X11_codeAt (nx := 18) (v := 6) rfl (by decide) rfl ?_
      refine ev_inV2 f_X11_codeAt (nx := 21) (lo2 := [(0, .ref 0), (1, .int 6)]) rfl rfl rfl rfl f_X11_refuse (hI.wf.s rfl) rfl rfl rfl rfl rfl ?_
      refine ev_loc f_X11_refuse (nx := 1) rfl rfl rfl rfl ?_
      refine ev_loc f_X11_refuse (nx := 2) rfl rfl rfl rfl ?_
      refine ev_putIT f_X11_refuse (nx := 5) rfl (hI.wf.s rfl) rfl rfl rfl (hI.put0 (hI.wf.s rfl) rfl rfl) (hX.upI rfl) (fun g13 e13 hI hX => ?_)
      refine ev_ic f_X11_refuse (nx := 6) (v := -1) rfl (by decide) rfl ?_
      refine ev_retK1 f_X11_refuse rfl rfl rfl ?_
      refine ev_aluvL f_X11_codeAt (nx := 22) (w := -1) rfl rfl rfl (by decide) rfl ?_
      exact ev_ret f_X11_codeAt rfl rfl rfl ⟨_, _, _, rfl, hI, hX, ⟨_, rfl, (show ((0 ≤ ar1.toInt ∧ ar1.toInt < (gi 22 6).toInt) → ((-1) : Int64) = gl 23 (gi 27 ar1.toNatClampNeg).toInt.toNat) ∧ (¬ (0 ≤ ar1.toInt ∧ ar1.toInt < (gi 22 6).toInt) → ((-1) : Int64).toInt = -1) from ⟨fun h => absurd h (by omega), fun _ => (by decide)⟩)⟩⟩
noncomputable def wl_d_code : List (Nat × Nat) := [(0, 0), (22, 6), (25, 9999), (26, 9999), (27, 9999)]
noncomputable def Q_d_code (gi : Nat → Nat → Int32) (gl : Nat → Nat → Int64) (gr : Nat → Nat → Value) (ar1 : Int32) (ar2 : Int32) (ar3 : Int32) : Int32 → (Nat → Nat → Int32) → (Nat → Nat → Int64) → (Nat → Nat → Value) → Prop := fun (v : Int32) (gi2 : Nat → Nat → Int32) (gl2 : Nat → Nat → Int64) (gr2 : Nat → Nat → Value) => t_CL gi gl → ((1 ≤ ar1.toInt ∧ ar1.toInt ≤ 4 ∧ 1 ≤ ar2.toInt ∧ ar2.toInt ≤ 4 ∧ 0 ≤ ar3.toInt ∧ ar3.toInt ≤ 9) → (∃ L, s_X (s_ch ar3.toInt) (s_cE ar2.toNatClampNeg) ar1.toNatClampNeg [] 0 = some L ∧ (L.length : Int) = ar1.toInt ∧ s_RW (gi2 27) L ∧ (gi2 22 6).toInt = ar1.toInt ∧ v = s_sI (fun i => gi2 24 (gi2 27 i).toInt.toNat) ar1.toNatClampNeg) ∨ (s_X (s_ch ar3.toInt) (s_cE ar2.toNatClampNeg) ar1.toNatClampNeg [] 0 = none ∧ v.toInt = -1 ∧ gi2 27 = gi 27 ∧ gi2 22 6 = gi 22 6)) ∧ (¬ (1 ≤ ar1.toInt ∧ ar1.toInt ≤ 4 ∧ 1 ≤ ar2.toInt ∧ ar2.toInt ≤ 4 ∧ 0 ≤ ar3.toInt ∧ ar3.toInt ≤ 9) → v.toInt = -1 ∧ gi2 27 = gi 27 ∧ gi2 22 6 = gi 22 6)
theorem c_d_code {X : x_Ext} {d : Nat} {sh : List (Nat ⊕ (Nat × Nat))} {gi : Nat → Nat → Int32} {gl : Nat → Nat → Int64} {gr : Nat → Nat → Value} (hI : t_I sh gi gr) (ar1 : Int32) (ar2 : Int32) (ar3 : Int32) : x_Me X (d + 11) n_X11_code [.ref 0, .int ar1, .int ar2, .int ar3] (sh, gi, gl, gr) (t_PI wl_d_code sh gi gl gr (-2147483648) 2147483647 (Q_d_code gi gl gr ar1 ar2 ar3)) := by
  have hX : t_X wl_d_code sh gi gl gr gi gl gr := t_X.rf
  refine me_i f_X11_code (hI.wf.s rfl) rfl rfl rfl ?_
  obtain ⟨l1, u1⟩ := hI.b (hI.wf.s (k := 22) rfl) (t_bdK rfl : t_bd 0 6 = some (0, 4))
  refine ev_loc f_X11_code (nx := 1) rfl rfl rfl rfl ?_
  refine ev_ic f_X11_code (nx := 2) (v := 1) rfl (by decide) rfl ?_
  refine ev_if f_X11_code (t1 := 30) (t2 := 5) rfl rfl rfl (fun h2 => ?_) (fun h2 => ?_)
  · have u3 : ar1.toInt ≤ 0 := t_ltu h2 (by decide : (1:Int32).toInt ≤ (1:Int)) rfl
    refine ev_loc f_X11_code (nx := 31) rfl rfl rfl rfl ?_
    refine ev_ic f_X11_code (nx := 32) (v := 1) rfl (by decide) rfl ?_
    refine ev_inV2 f_X11_code (nx := 35) (lo2 := [(0, .ref 0), (1, .int 1)]) rfl rfl rfl rfl f_X11_refuse (hI.wf.s rfl) rfl rfl rfl rfl rfl ?_
    refine ev_loc f_X11_refuse (nx := 1) rfl rfl rfl rfl ?_
    refine ev_loc f_X11_refuse (nx := 2) rfl rfl rfl rfl ?_
    refine ev_putIT f_X11_refuse (nx := 5) rfl (hI.wf.s rfl) rfl rfl rfl (hI.put0 (hI.wf.s rfl) rfl rfl) (hX.upI rfl) (fun g4 e4 hI hX => ?_)
    refine ev_ic f_X11_refuse (nx := 6) (v := -1) rfl (by decide) rfl ?_
    refine ev_retK1 f_X11_refuse rfl rfl rfl ?_
    exact ev_ret f_X11_code rfl rfl rfl ⟨_, _, _, rfl, hI, hX, ⟨_, rfl, (Int.le_trans (by decide : ((-2147483648):Int) ≤ (-1)) (by decide : ((-1):Int) ≤ ((-1):Int32).toInt)), (Int.le_trans (by decide : ((-1):Int32).toInt ≤ ((-1):Int)) (by decide : ((-1):Int) ≤ 2147483647)), (show t_CL gi gl → ((1 ≤ ar1.toInt ∧ ar1.toInt ≤ 4 ∧ 1 ≤ ar2.toInt ∧ ar2.toInt ≤ 4 ∧ 0 ≤ ar3.toInt ∧ ar3.toInt ≤ 9) → (∃ L, s_X (s_ch ar3.toInt) (s_cE ar2.toNatClampNeg) ar1.toNatClampNeg [] 0 = some L ∧ (L.length : Int) = ar1.toInt ∧ s_RW (g4 27) L ∧ (g4 22 6).toInt = ar1.toInt ∧ ((-1) : Int32) = s_sI (fun i => g4 24 (g4 27 i).toInt.toNat) ar1.toNatClampNeg) ∨ (s_X (s_ch ar3.toInt) (s_cE ar2.toNatClampNeg) ar1.toNatClampNeg [] 0 = none ∧ ((-1) : Int) = -1 ∧ g4 27 = gi 27 ∧ g4 22 6 = gi 22 6)) ∧ (¬ (1 ≤ ar1.toInt ∧ ar1.toInt ≤ 4 ∧ 1 ≤ ar2.toInt ∧ ar2.toInt ≤ 4 ∧ 0 ≤ ar3.toInt ∧ ar3.toInt ≤ 9) → ((-1) : Int) = -1 ∧ g4 27 = gi 27 ∧ g4 22 6 = gi 22 6) from (fun hC => ⟨fun h => absurd h (by omega), fun _ => ⟨rfl, ⟨by rw [e4]; exact x_up2_ne (by decide), by rw [e4]; exact x_up2_off (Or.inl (by decide))⟩⟩⟩))⟩⟩
  · have l5 : 1 ≤ ar1.toInt := t_lel (t_nlt h2) (by decide : (1:Int) ≤ (1:Int32).toInt)
    refine ev_loc f_X11_code (nx := 6) rfl rfl rfl rfl ?_
    refine ev_ic f_X11_code (nx := 7) (v := 4) rfl (by decide) rfl ?_
    refine ev_if f_X11_code (t1 := 30) (t2 := 10) rfl rfl rfl (fun h6 => ?_) (fun h6 => ?_)
    · have l7 : 5 ≤ ar1.toInt := t_ltl h6 (by decide : (4:Int) ≤ (4:Int32).toInt) rfl
      refine ev_loc f_X11_code (nx := 31) rfl rfl rfl rfl ?_
      refine ev_ic f_X11_code (nx := 32) (v := 1) rfl (by decide) rfl ?_
      refine ev_inV2 f_X11_code (nx := 35) (lo2 := [(0, .ref 0), (1, .int 1)]) rfl rfl rfl rfl f_X11_refuse (hI.wf.s rfl) rfl rfl rfl rfl rfl ?_
      refine ev_loc f_X11_refuse (nx := 1) rfl rfl rfl rfl ?_
      refine ev_loc f_X11_refuse (nx := 2) rfl rfl rfl rfl ?_
      refine ev_putIT f_X11_refuse (nx := 5) rfl (hI.wf.s rfl) rfl rfl rfl (hI.put0 (hI.wf.s rfl) rfl rfl) (hX.upI rfl) (fun g8 e8 hI hX => ?_)
      refine ev_ic f_X11_refuse (nx := 6) (v := -1) rfl (by decide) rfl ?_
      refine ev_retK1 f_X11_refuse rfl rfl rfl ?_
      exact ev_ret f_X11_code rfl rfl rfl ⟨_, _, _, rfl, hI, hX, ⟨_, rfl, (Int.le_trans (by decide : ((-2147483648):Int) ≤ (-1)) (by decide : ((-1):Int) ≤ ((-1):Int32).toInt)), (Int.le_trans (by decide : ((-1):Int32).toInt ≤ ((-1):Int)) (by decide : ((-1):Int) ≤ 2147483647)), (show t_CL gi gl → ((1 ≤ ar1.toInt ∧ ar1.toInt ≤ 4 ∧ 1 ≤ ar2.toInt ∧ ar2.toInt ≤ 4 ∧ 0 ≤ ar3.toInt ∧ ar3.toInt ≤ 9) → (∃ L, s_X (s_ch ar3.toInt) (s_cE ar2.toNatClampNeg) ar1.toNatClampNeg [] 0 = some L ∧ (L.length : Int) = ar1.toInt ∧ s_RW (g8 27) L ∧ (g8 22 6).toInt = ar1.toInt ∧ ((-1) : Int32) = s_sI (fun i => g8 24 (g8 27 i).toInt.toNat) ar1.toNatClampNeg) ∨ (s_X (s_ch ar3.toInt) (s_cE ar2.toNatClampNeg) ar1.toNatClampNeg [] 0 = none ∧ ((-1) : Int) = -1 ∧ g8 27 = gi 27 ∧ g8 22 6 = gi 22 6)) ∧ (¬ (1 ≤ ar1.toInt ∧ ar1.toInt ≤ 4 ∧ 1 ≤ ar2.toInt ∧ ar2.toInt ≤ 4 ∧ 0 ≤ ar3.toInt ∧ ar3.toInt ≤ 9) → ((-1) : Int) = -1 ∧ g8 27 = gi 27 ∧ g8 22 6 = gi 22 6) from (fun hC => ⟨fun h => absurd h (by omega), fun _ => ⟨rfl, ⟨by rw [e8]; exact x_up2_ne (by decide), by rw [e8]; exact x_up2_off (Or.inl (by decide))⟩⟩⟩))⟩⟩
    · have u9 : ar1.toInt ≤ 4 := t_leu (t_nlt h6) (by decide : (4:Int32).toInt ≤ (4:Int))
      refine ev_loc f_X11_code (nx := 11) rfl rfl rfl rfl ?_
      refine ev_ic f_X11_code (nx := 12) (v := 1) rfl (by decide) rfl ?_
      refine ev_if f_X11_code (t1 := 30) (t2 := 15) rfl rfl rfl (fun h10 => ?_) (fun h10 => ?_)
      · have u11 : ar2.toInt ≤ 0 := t_ltu h10 (by decide : (1:Int32).toInt ≤ (1:Int)) rfl
        refine ev_loc f_X11_code (nx := 31) rfl rfl rfl rfl ?_
        refine ev_ic f_X11_code (nx := 32) (v := 1) rfl (by decide) rfl ?_
        refine ev_inV2 f_X11_code (nx := 35) (lo2 := [(0, .ref 0), (1, .int 1)]) rfl rfl rfl rfl f_X11_refuse (hI.wf.s rfl) rfl rfl rfl rfl rfl ?_
        refine ev_loc f_X11_refuse (nx := 1) rfl rfl rfl rfl ?_
        refine ev_loc f_X11_refuse (nx := 2) rfl rfl rfl rfl ?_
        refine ev_putIT f_X11_refuse (nx := 5) rfl (hI.wf.s rfl) rfl rfl rfl (hI.put0 (hI.wf.s rfl) rfl rfl) (hX.upI rfl) (fun g12 e12 hI hX => ?_)
        refine ev_ic f_X11_refuse (nx := 6) (v := -1) rfl (by decide) rfl ?_
        refine ev_retK1 f_X11_refuse rfl rfl rfl ?_
        exact ev_ret f_X11_code rfl rfl rfl ⟨_, _, _, rfl, hI, hX, ⟨_, rfl, (Int.le_trans (by decide : ((-2147483648):Int) ≤ (-1)) (by decide : ((-1):Int) ≤ ((-1):Int32).toInt)), (Int.le_trans (by decide : ((-1):Int32).toInt ≤ ((-1):Int)) (by decide : ((-1):Int) ≤ 2147483647)), (show t_CL gi gl → ((1 ≤ ar1.toInt ∧ ar1.toInt ≤ 4 ∧ 1 ≤ ar2.toInt ∧ ar2.toInt ≤ 4 ∧ 0 ≤ ar3.toInt ∧ ar3.toInt ≤ 9) → (∃ L, s_X (s_ch ar3.toInt) (s_cE ar2.toNatClampNeg) ar1.toNatClampNeg [] 0 = some L ∧ (L.length : Int) = ar1.toInt ∧ s_RW (g12 27) L ∧ (g12 22 6).toInt = ar1.toInt ∧ ((-1) : Int32) = s_sI (fun i => g12 24 (g12 27 i).toInt.toNat) ar1.toNatClampNeg) ∨ (s_X (s_ch ar3.toInt) (s_cE ar2.toNatClampNeg) ar1.toNatClampNeg [] 0 = none ∧ ((-1) : Int) = -1 ∧ g12 27 = gi 27 ∧ g12 22 6 = gi 22 6)) ∧ (¬ (1 ≤ ar1.toInt ∧ ar1.toInt ≤ 4 ∧ 1 ≤ ar2.toInt ∧ ar2.toInt ≤ 4 ∧ 0 ≤ ar3.toInt ∧ ar3.toInt ≤ 9) → ((-1) : Int) = -1 ∧ g12 27 = gi 27 ∧ g12 22 6 = gi 22 6) from (fun hC => ⟨fun h => absurd h (by omega), fun _ => ⟨rfl, ⟨by rw [e12]; exact x_up2_ne (by decide), by rw [e12]; exact x_up2_off (Or.inl (by decide))⟩⟩⟩))⟩⟩
      · have l13 : 1 ≤ ar2.toInt := t_lel (t_nlt h10) (by decide : (1:Int) ≤ (1:Int32).toInt)
        refine ev_loc f_X11_code (nx := 16) rfl rfl rfl rfl ?_
        refine ev_ic f_X11_code (nx := 17) (v := 4) rfl (by decide) rfl ?_
        refine ev_if f_X11_code (t1 := 30) (t2 := 20) rfl rfl rfl (fun h14 => ?_) (fun h14 => ?_)
        · have l15 : 5 ≤ ar2.toInt := t_ltl h14 (by decide : (4:Int) ≤ (4:Int32).toInt) rfl
          refine ev_loc f_X11_code (nx := 31) rfl rfl rfl rfl ?_
          refine ev_ic f_X11_code (nx := 32) (v := 1) rfl (by decide) rfl ?_
          refine ev_inV2 f_X11_code (nx := 35) (lo2 := [(0, .ref 0), (1, .int 1)]) rfl rfl rfl rfl f_X11_refuse (hI.wf.s rfl) rfl rfl rfl rfl rfl ?_
          refine ev_loc f_X11_refuse (nx := 1) rfl rfl rfl rfl ?_
          refine ev_loc f_X11_refuse (nx := 2) rfl rfl rfl rfl ?_
          refine ev_putIT f_X11_refuse (nx := 5) rfl (hI.wf.s rfl) rfl rfl rfl (hI.put0 (hI.wf.s rfl) rfl rfl) (hX.upI rfl) (fun g16 e16 hI hX => ?_)
          refine ev_ic f_X11_refuse (nx := 6) (v := -1) rfl (by decide) rfl ?_
          refine ev_retK1 f_X11_refuse rfl rfl rfl ?_
          exact ev_ret f_X11_code rfl rfl rfl ⟨_, _, _, rfl, hI, hX, ⟨_, rfl, (Int.le_trans (by decide : ((-2147483648):Int) ≤ (-1)) (by decide : ((-1):Int) ≤ ((-1):Int32).toInt)), (Int.le_trans (by decide : ((-1):Int32).toInt ≤ ((-1):Int)) (by decide : ((-1):Int) ≤ 2147483647)), (show t_CL gi gl → ((1 ≤ ar1.toInt ∧ ar1.toInt ≤ 4 ∧ 1 ≤ ar2.toInt ∧ ar2.toInt ≤ 4 ∧ 0 ≤ ar3.toInt ∧ ar3.toInt ≤ 9) → (∃ L, s_X (s_ch ar3.toInt) (s_cE ar2.toNatClampNeg) ar1.toNatClampNeg [] 0 = some L ∧ (L.length : Int) = ar1.toInt ∧ s_RW (g16 27) L ∧ (g16 22 6).toInt = ar1.toInt ∧ ((-1) : Int32) = s_sI (fun i => g16 24 (g16 27 i).toInt.toNat) ar1.toNatClampNeg) ∨ (s_X (s_ch ar3.toInt) (s_cE ar2.toNatClampNeg) ar1.toNatClampNeg [] 0 = none ∧ ((-1) : Int) = -1 ∧ g16 27 = gi 27 ∧ g16 22 6 = gi 22 6)) ∧ (¬ (1 ≤ ar1.toInt ∧ ar1.toInt ≤ 4 ∧ 1 ≤ ar2.toInt ∧ ar2.toInt ≤ 4 ∧ 0 ≤ ar3.toInt ∧ ar3.toInt ≤ 9) → ((-1) : Int) = -1 ∧ g16 27 = gi 27 ∧ g16 22 6 = gi 22 6) from (fun hC => ⟨fun h => absurd h (by omega), fun _ => ⟨rfl, ⟨by rw [e16]; exact x_up2_ne (by decide), by rw [e16]; exact x_up2_off (Or.inl (by decide))⟩⟩⟩))⟩⟩
        · have u17 : ar2.toInt ≤ 4 := t_leu (t_nlt h14) (by decide : (4:Int32).toInt ≤ (4:Int))
          refine ev_loc f_X11_code (nx := 21) rfl rfl rfl rfl ?_
          refine ev_if f_X11_code (t1 := 30) (t2 := 24) rfl rfl rfl (fun h18 => ?_) (fun h18 => ?_)
          · have u19 : ar3.toInt ≤ (-1) := t_ltu h18 (by decide : (0:Int32).toInt ≤ (0:Int)) rfl
            refine ev_loc f_X11_code (nx := 31) rfl rfl rfl rfl ?_
            refine ev_ic f_X11_code (nx := 32) (v := 1) rfl (by decide) rfl ?_
            refine ev_inV2 f_X11_code (nx := 35) (lo2 := [(0, .ref 0), (1, .int 1)]) rfl rfl rfl rfl f_X11_refuse (hI.wf.s rfl) rfl rfl rfl rfl rfl ?_
            refine ev_loc f_X11_refuse (nx := 1) rfl rfl rfl rfl ?_
            refine ev_loc f_X11_refuse (nx := 2) rfl rfl rfl rfl ?_
            refine ev_putIT f_X11_refuse (nx := 5) rfl (hI.wf.s rfl) rfl rfl rfl (hI.put0 (hI.wf.s rfl) rfl rfl) (hX.upI rfl) (fun g20 e20 hI hX => ?_)
            refine ev_ic f_X11_refuse (nx := 6) (v := -1) rfl (by decide) rfl ?_
            refine ev_retK1 f_X11_refuse rfl rfl rfl ?_
            exact ev_ret f_X11_code rfl rfl rfl ⟨_, _, _, rfl, hI, hX, ⟨_, rfl, (Int.le_trans (by decide : ((-2147483648):Int) ≤ (-1)) (by decide : ((-1):Int) ≤ ((-1):Int32).toInt)), (Int.le_trans (by decide : ((-1):Int32).toInt ≤ ((-1):Int)) (by decide : ((-1):Int) ≤ 2147483647)), (show t_CL gi gl → ((1 ≤ ar1.toInt ∧ ar1.toInt ≤ 4 ∧ 1 ≤ ar2.toInt ∧ ar2.toInt ≤ 4 ∧ 0 ≤ ar3.toInt ∧ ar3.toInt ≤ 9) → (∃ L, s_X (s_ch ar3.toInt) (s_cE ar2.toNatClampNeg) ar1.toNatClampNeg [] 0 = some L ∧ (L.length : Int) = ar1.toInt ∧ s_RW (g20 27) L ∧ (g20 22 6).toInt = ar1.toInt ∧ ((-1) : Int32) = s_sI (fun i => g20 24 (g20 27 i).toInt.toNat) ar1.toNatClampNeg) ∨ (s_X (s_ch ar3.toInt) (s_cE ar2.toNatClampNeg) ar1.toNatClampNeg [] 0 = none ∧ ((-1) : Int) = -1 ∧ g20 27 = gi 27 ∧ g20 22 6 = gi 22 6)) ∧ (¬ (1 ≤ ar1.toInt ∧ ar1.toInt ≤ 4 ∧ 1 ≤ ar2.toInt ∧ ar2.toInt ≤ 4 ∧ 0 ≤ ar3.toInt ∧ ar3.toInt ≤ 9) → ((-1) : Int) = -1 ∧ g20 27 = gi 27 ∧ g20 22 6 = gi 22 6) from (fun hC => ⟨fun h => absurd h (by omega), fun _ => ⟨rfl, ⟨by rw [e20]; exact x_up2_ne (by decide), by rw [e20]; exact x_up2_off (Or.inl (by decide))⟩⟩⟩))⟩⟩
          · have l21 : 0 ≤ ar3.toInt := t_lel (t_nlt h18) (by decide : (0:Int) ≤ (0:Int32).toInt)
            refine ev_loc f_X11_code (nx := 25) rfl rfl rfl rfl ?_
            refine ev_bp f_X11_code (nx := 27) (v := 9) rfl (by decide) rfl ?_
            refine ev_if f_X11_code (t1 := 36) (t2 := 30) rfl rfl rfl (fun h22 => ?_) (fun h22 => ?_)
            · have u23 : ar3.toInt ≤ 9 := t_leu h22 (by decide : (9:Int32).toInt ≤ (9:Int))
              refine ev_loc f_X11_code (nx := 37) rfl rfl rfl rfl ?_
              refine ev_getR f_X11_code (nx := 40) rfl (hI.wf.s rfl) rfl rfl (hI.wf.r rfl) rfl rfl ?_
              refine ev_loc f_X11_code (nx := 41) rfl rfl rfl rfl ?_
              refine ev_loc f_X11_code (nx := 42) rfl rfl rfl rfl ?_
              refine ev_loc f_X11_code (nx := 43) rfl rfl rfl rfl ?_
              refine ev_qI f_X11_code (nx := 46) (r := []) rfl rfl rfl rfl rfl rfl rfl (c_d_find hI (ar1) l5 u9 (ar2) l13 u17 (ar3) l21 u23) rfl hX rfl (fun w24 gi24 gl24 gr24 l24 u24 hI hX hC24 q24 => ?_)
              have q24 : t_CL gi gl → (w24.toInt = 1 ∧ ∃ L, s_X (s_ch ar3.toInt) (s_cE ar2.toNatClampNeg) ar1.toNatClampNeg [] 0 = some L ∧ s_RW (gi24 27) L ∧ (L.length : Int) = ar1.toInt ∧ (gi24 22 6).toInt = ar1.toInt) ∨ (w24.toInt = 0 ∧ s_X (s_ch ar3.toInt) (s_cE ar2.toNatClampNeg) ar1.toNatClampNeg [] 0 = none ∧ gi24 27 = gi 27 ∧ gi24 22 6 = gi 22 6) := q24
              obtain ⟨l25, u25⟩ := hI.b (hI.wf.s (k := 22) rfl) (t_bdK rfl : t_bd 0 6 = some (0, 4))
              refine ev_if f_X11_code (t1 := 63) (t2 := 49) rfl rfl rfl (fun h26 => ?_) (fun h26 => ?_)
              · have u27 : w24.toInt ≤ 0 := t_equ h26 (by decide : (0:Int32).toInt ≤ (0:Int))
                refine ev_loc f_X11_code (nx := 64) rfl rfl rfl rfl ?_
                refine ev_bp f_X11_code (nx := 66) (v := 6) rfl (by decide) rfl ?_
                refine ev_inV2 f_X11_code (nx := 69) (lo2 := [(0, .ref 0), (1, .int 6)]) rfl rfl rfl rfl f_X11_refuse (hI.wf.s rfl) rfl rfl rfl rfl rfl ?_
                refine ev_loc f_X11_refuse (nx := 1) rfl rfl rfl rfl ?_
                refine ev_loc f_X11_refuse (nx := 2) rfl rfl rfl rfl ?_
                refine ev_putIT f_X11_refuse (nx := 5) rfl (hI.wf.s rfl) rfl rfl rfl (hI.put0 (hI.wf.s rfl) rfl rfl) (hX.upI rfl) (fun g28 e28 hI hX => ?_)
                refine ev_ic f_X11_refuse (nx := 6) (v := -1) rfl (by decide) rfl ?_
                refine ev_retK1 f_X11_refuse rfl rfl rfl ?_
                exact ev_ret f_X11_code rfl rfl rfl ⟨_, _, _, rfl, hI, hX, ⟨_, rfl, (Int.le_trans (by decide : ((-2147483648):Int) ≤ (-1)) (by decide : ((-1):Int) ≤ ((-1):Int32).toInt)), (Int.le_trans (by decide : ((-1):Int32).toInt ≤ ((-1):Int)) (by decide : ((-1):Int) ≤ 2147483647)), (show t_CL gi gl → ((1 ≤ ar1.toInt ∧ ar1.toInt ≤ 4 ∧ 1 ≤ ar2.toInt ∧ ar2.toInt ≤ 4 ∧ 0 ≤ ar3.toInt ∧ ar3.toInt ≤ 9) → (∃ L, s_X (s_ch ar3.toInt) (s_cE ar2.toNatClampNeg) ar1.toNatClampNeg [] 0 = some L ∧ (L.length : Int) = ar1.toInt ∧ s_RW (g28 27) L ∧ (g28 22 6).toInt = ar1.toInt ∧ ((-1) : Int32) = s_sI (fun i => g28 24 (g28 27 i).toInt.toNat) ar1.toNatClampNeg) ∨ (s_X (s_ch ar3.toInt) (s_cE ar2.toNatClampNeg) ar1.toNatClampNeg [] 0 = none ∧ ((-1) : Int) = -1 ∧ g28 27 = gi 27 ∧ g28 22 6 = gi 22 6)) ∧ (¬ (1 ≤ ar1.toInt ∧ ar1.toInt ≤ 4 ∧ 1 ≤ ar2.toInt ∧ ar2.toInt ≤ 4 ∧ 0 ≤ ar3.toInt ∧ ar3.toInt ≤ 9) → ((-1) : Int) = -1 ∧ g28 27 = gi 27 ∧ g28 22 6 = gi 22 6) from (by
                                                            intro hC
                                                            have hq := q24 hC
                                                            obtain ⟨_, g1, g2, g3⟩ := hq.resolve_left (fun hh => absurd hh.1 (by omega))
                                                            exact ⟨fun _ => Or.inr ⟨g1, rfl, by rw [e28, x_up2_ne (by decide)]; exact g2, by rw [e28, x_up2_ne (by decide)]; exact g3⟩, fun h => absurd (show _ from ⟨by omega, by omega, by omega, by omega, by omega, by omega⟩) h⟩))⟩⟩
              · have r29 : w24.toInt ≠ 0 := fun e => h26 (Int32.toInt_inj.mp (e.trans (by decide : (0:Int) = (0 : Int32).toInt)))
                have l30 : 1 ≤ w24.toInt := t_nel h26 l24 rfl rfl
                refine ev_loc f_X11_code (nx := 50) rfl rfl rfl rfl ?_
                refine ev_loc f_X11_code (nx := 51) rfl rfl rfl rfl ?_
                refine ev_getR f_X11_code (nx := 54) rfl (hI.wf.s rfl) rfl rfl (hI.wf.r rfl) rfl rfl ?_
                refine ev_qI0 f_X11_code (nx := 57) (r := [.ref 0]) rfl rfl rfl rfl rfl rfl rfl (c_d_bt hI ) rfl (fun w31 l31 u31 q31 => ?_)
                have q31 : w31 = s_sI (fun i => gi24 24 (gi24 27 i).toInt.toNat) (gi24 22 6).toInt.toNat := q31
                refine ev_inV2 f_X11_code (nx := 60) (lo2 := [(0, .ref 0), (1, .int w31)]) rfl rfl rfl rfl f_X11_answer (hI.wf.s rfl) rfl rfl rfl rfl rfl ?_
                refine ev_loc f_X11_answer (nx := 1) rfl rfl rfl rfl ?_
                refine ev_ic f_X11_answer (nx := 2) (v := 0) rfl (by decide) rfl ?_
                refine ev_putIT f_X11_answer (nx := 5) rfl (hI.wf.s rfl) rfl rfl rfl (hI.put0 (hI.wf.s rfl) rfl rfl) (hX.upI rfl) (fun g32 e32 hI hX => ?_)
                refine ev_loc f_X11_answer (nx := 6) rfl rfl rfl rfl ?_
                refine ev_retK1 f_X11_answer rfl rfl rfl ?_
                refine ev_jmp f_X11_code (nx := 69) rfl rfl rfl ?_
                exact ev_ret f_X11_code rfl rfl rfl ⟨_, _, _, rfl, hI, hX, ⟨_, rfl, l31, u31, (show t_CL gi gl → ((1 ≤ ar1.toInt ∧ ar1.toInt ≤ 4 ∧ 1 ≤ ar2.toInt ∧ ar2.toInt ≤ 4 ∧ 0 ≤ ar3.toInt ∧ ar3.toInt ≤ 9) → (∃ L, s_X (s_ch ar3.toInt) (s_cE ar2.toNatClampNeg) ar1.toNatClampNeg [] 0 = some L ∧ (L.length : Int) = ar1.toInt ∧ s_RW (g32 27) L ∧ (g32 22 6).toInt = ar1.toInt ∧ w31 = s_sI (fun i => g32 24 (g32 27 i).toInt.toNat) ar1.toNatClampNeg) ∨ (s_X (s_ch ar3.toInt) (s_cE ar2.toNatClampNeg) ar1.toNatClampNeg [] 0 = none ∧ w31.toInt = -1 ∧ g32 27 = gi 27 ∧ g32 22 6 = gi 22 6)) ∧ (¬ (1 ≤ ar1.toInt ∧ ar1.toInt ≤ 4 ∧ 1 ≤ ar2.toInt ∧ ar2.toInt ≤ 4 ∧ 0 ≤ ar3.toInt ∧ ar3.toInt ≤ 9) → w31.toInt = -1 ∧ g32 27 = gi 27 ∧ g32 22 6 = gi 22 6) from (by
                                                            intro hC
                                                            have hq := q24 hC
                                                            obtain ⟨_, L, g1, g2, g3, g4⟩ := hq.resolve_right (fun hh => absurd hh.1 (by omega))
                                                            have c1 := t_clamp (i := ar1) (by omega)
                                                            refine ⟨fun _ => Or.inl ⟨L, g1, g3, by rw [e32, x_up2_ne (by decide)]; exact g2, by rw [e32, x_up2_ne (by decide)]; exact g4, ?_⟩, fun h => absurd (show _ from ⟨by omega, by omega, by omega, by omega, by omega, by omega⟩) h⟩
                                                            have h9 := q31
                                                            rw [g4, show ar1.toInt.toNat = ar1.toNatClampNeg by omega] at h9
                                                            rw [h9]
                                                            rw [e32]; exact (s_sI_cg _ (fun i _ => by rw [x_up2_ne (by decide), x_up2_ne (by decide)])).symm))⟩⟩
            · have l33 : 10 ≤ ar3.toInt := t_ltl (t_nle h22) (by decide : (9:Int) ≤ (9:Int32).toInt) rfl
              refine ev_loc f_X11_code (nx := 31) rfl rfl rfl rfl ?_
              refine ev_ic f_X11_code (nx := 32) (v := 1) rfl (by decide) rfl ?_
              refine ev_inV2 f_X11_code (nx := 35) (lo2 := [(0, .ref 0), (1, .int 1)]) rfl rfl rfl rfl f_X11_refuse (hI.wf.s rfl) rfl rfl rfl rfl rfl ?_
              refine ev_loc f_X11_refuse (nx := 1) rfl rfl rfl rfl ?_
              refine ev_loc f_X11_refuse (nx := 2) rfl rfl rfl rfl ?_
              refine ev_putIT f_X11_refuse (nx := 5) rfl (hI.wf.s rfl) rfl rfl rfl (hI.put0 (hI.wf.s rfl) rfl rfl) (hX.upI rfl) (fun g34 e34 hI hX => ?_)
              refine ev_ic f_X11_refuse (nx := 6) (v := -1) rfl (by decide) rfl ?_
              refine ev_retK1 f_X11_refuse rfl rfl rfl ?_
              exact ev_ret f_X11_code rfl rfl rfl ⟨_, _, _, rfl, hI, hX, ⟨_, rfl, (Int.le_trans (by decide : ((-2147483648):Int) ≤ (-1)) (by decide : ((-1):Int) ≤ ((-1):Int32).toInt)), (Int.le_trans (by decide : ((-1):Int32).toInt ≤ ((-1):Int)) (by decide : ((-1):Int) ≤ 2147483647)), (show t_CL gi gl → ((1 ≤ ar1.toInt ∧ ar1.toInt ≤ 4 ∧ 1 ≤ ar2.toInt ∧ ar2.toInt ≤ 4 ∧ 0 ≤ ar3.toInt ∧ ar3.toInt ≤ 9) → (∃ L, s_X (s_ch ar3.toInt) (s_cE ar2.toNatClampNeg) ar1.toNatClampNeg [] 0 = some L ∧ (L.length : Int) = ar1.toInt ∧ s_RW (g34 27) L ∧ (g34 22 6).toInt = ar1.toInt ∧ ((-1) : Int32) = s_sI (fun i => g34 24 (g34 27 i).toInt.toNat) ar1.toNatClampNeg) ∨ (s_X (s_ch ar3.toInt) (s_cE ar2.toNatClampNeg) ar1.toNatClampNeg [] 0 = none ∧ ((-1) : Int) = -1 ∧ g34 27 = gi 27 ∧ g34 22 6 = gi 22 6)) ∧ (¬ (1 ≤ ar1.toInt ∧ ar1.toInt ≤ 4 ∧ 1 ≤ ar2.toInt ∧ ar2.toInt ≤ 4 ∧ 0 ≤ ar3.toInt ∧ ar3.toInt ≤ 9) → ((-1) : Int) = -1 ∧ g34 27 = gi 27 ∧ g34 22 6 = gi 22 6) from (fun hC => ⟨fun h => absurd h (by omega), fun _ => ⟨rfl, ⟨by rw [e34]; exact x_up2_ne (by decide), by rw [e34]; exact x_up2_off (Or.inl (by decide))⟩⟩⟩))⟩⟩
/-! ===== printed by riv.py: CODES of the other side ===== -/
noncomputable def wl_e_lays : List (Nat × Nat) := [(69, 39), (70, 175211755), (84, 9999), (85, 9999), (87, 9999)]
noncomputable def Q_e_lays (gi : Nat → Nat → Int32) (gl : Nat → Nat → Int64) (gr : Nat → Nat → Value) (ar1 : Int32) (ar2 : Int32) : (Nat → Nat → Int32) → (Nat → Nat → Int64) → (Nat → Nat → Value) → Prop := fun (gi2 : Nat → Nat → Int32) (gl2 : Nat → Nat → Int64) (gr2 : Nat → Nat → Value) => (gi2 69 39).toInt = (s_cE ar1.toNatClampNeg : Nat) ∧ (∀ k : Nat, (k : Int) < (gi2 69 39).toInt → gl2 84 k = s_ch ar2.toInt k ∧ gl2 85 k = s_cL k ∧ (gi2 87 k).toInt = (s_cn k : Nat))
theorem c_e_lays {X : x_Ext} {d : Nat} {sh : List (Nat ⊕ (Nat × Nat))} {gi : Nat → Nat → Int32} {gl : Nat → Nat → Int64} {gr : Nat → Nat → Value} (hI : t_I sh gi gr) (ar1 : Int32) (l_a1 : 1 ≤ ar1.toInt) (u_a1 : ar1.toInt ≤ 4) (ar2 : Int32) (l_a2 : 0 ≤ ar2.toInt) (u_a2 : ar2.toInt ≤ 9) : x_Me X (d + 2) n_X12_laysCalls [.ref 69, .int ar1, .int ar2] (sh, gi, gl, gr) (t_PN wl_e_lays sh gi gl gr (Q_e_lays gi gl gr ar1 ar2)) := by
  have hX : t_X wl_e_lays sh gi gl gr gi gl gr := t_X.rf
  refine me_i f_X12_laysCalls (hI.wf.s rfl) rfl rfl rfl ?_
  obtain ⟨l1, u1⟩ := hI.b (hI.wf.s (k := 69) rfl) (t_bdK rfl : t_bd 11 39 = some (0, 30))
  refine ev_loc f_X12_laysCalls (nx := 1) rfl rfl rfl rfl ?_
  refine ev_ic f_X12_laysCalls (nx := 2) (v := 0) rfl (by decide) rfl ?_
  refine ev_putIT f_X12_laysCalls (nx := 5) rfl (hI.wf.s rfl) rfl rfl rfl (hI.putB (hI.wf.s rfl) rfl rfl (by decide : (0:Int) ≤ (0:Int32).toInt) (by decide) (by decide : (0:Int32).toInt ≤ (0:Int)) (by decide)) (hX.upI rfl) (fun g2 e2 hI hX => ?_)
  refine ev_ic f_X12_laysCalls (nx := 6) (v := 1) rfl (by decide) rfl ?_
  refine ev_loc f_X12_laysCalls (nx := 7) (lo' := [(3, .int 1), (0, .ref 69), (1, .int ar1), (2, .int ar2)]) rfl rfl rfl rfl ?_
  have L3 : ∀ (m3 : Nat) (gi3 : Nat → Nat → Int32) (gl3 : Nat → Nat → Int64) (gr3 : Nat → Nat → Value) (y3_3 : Int32), t_I sh gi3 gr3 → t_X wl_e_lays sh gi gl gr gi3 gl3 gr3 → 1 ≤ y3_3.toInt → y3_3.toInt ≤ 5 → ((y3_3.toInt = 1 ∧ (gi3 69 39).toInt = 0) ∨ (y3_3.toInt = 2 ∧ (gi3 69 39).toInt = 2) ∨ (y3_3.toInt = 3 ∧ (gi3 69 39).toInt = 6) ∨ (y3_3.toInt = 4 ∧ (gi3 69 39).toInt = 14) ∨ (y3_3.toInt = 5 ∧ (gi3 69 39).toInt = 30)) → (∀ k : Nat, (k : Int) < (gi3 69 39).toInt → gl3 84 k = s_ch ar2.toInt k ∧ gl3 85 k = s_cL k ∧ (gi3 87 k).toInt = (s_cn k : Nat)) → y3_3.toInt ≤ ar1.toInt + 1 → (5 - y3_3.toInt).toNat = m3 → x_Ev X (d + 2) n_X12_laysCalls 7 [(3, .int y3_3), (0, .ref 69), (1, .int ar1), (2, .int ar2)] [] (sh, gi3, gl3, gr3) (t_PN wl_e_lays sh gi gl gr (Q_e_lays gi gl gr ar1 ar2)) := by
    intro m3
    induction m3 using Nat.strongRecOn with
    | _ m3 ih3 =>
    intro gi3 gl3 gr3 y3_3 hI hX l3_3 u3_3 j3_0 j3_1 j3_2 hm3
    obtain ⟨l4, u4⟩ := hI.b (hI.wf.s (k := 69) rfl) (t_bdK rfl : t_bd 11 39 = some (0, 30))
    refine ev_loc f_X12_laysCalls (nx := 8) rfl rfl rfl rfl ?_
    refine ev_loc f_X12_laysCalls (nx := 9) rfl rfl rfl rfl ?_
    refine ev_if f_X12_laysCalls (t1 := 172) (t2 := 12) rfl rfl rfl (fun h5 => ?_) (fun h5 => ?_)
    · have r6 : ar1.toInt < y3_3.toInt := Int32.lt_iff_toInt_lt.mp h5
      have l7 : 2 ≤ y3_3.toInt := t_ltl h5 l_a1 rfl
      exact ev_ret f_X12_laysCalls rfl rfl rfl ⟨_, _, _, rfl, hI, hX, ⟨rfl, (show (gi3 69 39).toInt = (s_cE ar1.toNatClampNeg : Nat) ∧ (∀ k : Nat, (k : Int) < (gi3 69 39).toInt → gl3 84 k = s_ch ar2.toInt k ∧ gl3 85 k = s_cL k ∧ (gi3 87 k).toInt = (s_cn k : Nat)) from (by
                                                            refine ⟨?_, j3_1⟩
                                                            have c1 := t_clamp (i := ar1) (by omega)
                                                            rcases j3_0 with hh | hh | hh | hh | hh
                                                            · omega
                                                            · have e9 : s_cE 1 = 2 := rfl
                                                              rw [show ar1.toNatClampNeg = 1 by omega, e9]; omega
                                                            · have e9 : s_cE 2 = 6 := rfl
                                                              rw [show ar1.toNatClampNeg = 2 by omega, e9]; omega
                                                            · have e9 : s_cE 3 = 14 := rfl
                                                              rw [show ar1.toNatClampNeg = 3 by omega, e9]; omega
                                                            · have e9 : s_cE 4 = 30 := rfl
                                                              rw [show ar1.toNatClampNeg = 4 by omega, e9]; omega))⟩⟩
    · have r8 : y3_3.toInt ≤ ar1.toInt := Int32.le_iff_toInt_le.mp (t_nlt h5)
      have u9 : y3_3.toInt ≤ 4 := t_leu (t_nlt h5) u_a1
      refine ev_ic f_X12_laysCalls (nx := 13) (v := 0) rfl (by decide) rfl ?_
      refine ev_loc f_X12_laysCalls (nx := 15) (lo' := [(4, .int 0), (3, .int y3_3), (0, .ref 69), (1, .int ar1), (2, .int ar2)]) rfl rfl rfl rfl ?_
      have L10 : ∀ (m10 : Nat) (gi10 : Nat → Nat → Int32) (gl10 : Nat → Nat → Int64) (gr10 : Nat → Nat → Value) (y10_4 : Int32), t_I sh gi10 gr10 → t_X wl_e_lays sh gi gl gr gi10 gl10 gr10 → 0 ≤ y10_4.toInt → y10_4.toInt ≤ 16 → ((y3_3.toInt = 1 ∧ (gi10 69 39).toInt = y10_4.toInt ∧ y10_4.toInt ≤ 2) ∨ (y3_3.toInt = 2 ∧ (gi10 69 39).toInt = 2 + y10_4.toInt ∧ y10_4.toInt ≤ 4) ∨ (y3_3.toInt = 3 ∧ (gi10 69 39).toInt = 6 + y10_4.toInt ∧ y10_4.toInt ≤ 8) ∨ (y3_3.toInt = 4 ∧ (gi10 69 39).toInt = 14 + y10_4.toInt ∧ y10_4.toInt ≤ 16)) → (∀ k : Nat, (k : Int) < (gi10 69 39).toInt → gl10 84 k = s_ch ar2.toInt k ∧ gl10 85 k = s_cL k ∧ (gi10 87 k).toInt = (s_cn k : Nat)) → (16 - y10_4.toInt).toNat = m10 → x_Ev X (d + 2) n_X12_laysCalls 15 [(4, .int y10_4), (3, .int y3_3), (0, .ref 69), (1, .int ar1), (2, .int ar2)] [] (sh, gi10, gl10, gr10) (t_PN wl_e_lays sh gi gl gr (Q_e_lays gi gl gr ar1 ar2)) := by
        intro m10
        induction m10 using Nat.strongRecOn with
        | _ m10 ih10 =>
        intro gi10 gl10 gr10 y10_4 hI hX l10_4 u10_4 j10_0 j10_1 hm10
        obtain ⟨l11, u11⟩ := hI.b (hI.wf.s (k := 69) rfl) (t_bdK rfl : t_bd 11 39 = some (0, 30))
        refine ev_loc f_X12_laysCalls (nx := 17) rfl rfl rfl rfl ?_
        refine ev_ic f_X12_laysCalls (nx := 18) (v := 1) rfl (by decide) rfl ?_
        refine ev_loc f_X12_laysCalls (nx := 19) rfl rfl rfl rfl ?_
        refine ev_shl1E f_X12_laysCalls (nx := 20) rfl l3_3 u9 (by decide) (by decide) rfl (fun z12 s12 => ?_)
        have l12 : 2 ≤ z12.toInt := by have := l3_3; have := u9; omega
        have u12 : z12.toInt ≤ 16 := by have := l3_3; have := u9; omega
        refine ev_if f_X12_laysCalls (t1 := 166) (t2 := 23) rfl rfl rfl (fun h13 => ?_) (fun h13 => ?_)
        · have r14 : z12.toInt ≤ y10_4.toInt := Int32.le_iff_toInt_le.mp h13
          have l15 : 2 ≤ y10_4.toInt := t_lel h13 l12
          refine ev_incR f_X12_laysCalls (nx := 169) (c := 1) (l := 2) (u := 5) rfl rfl (by decide) (by decide) l3_3 u9 rfl rfl (by decide) (by decide) rfl (fun z16 e16 l16 u16 => ?_)
          refine ev_jmp f_X12_laysCalls (nx := 7) rfl rfl rfl ?_
          refine ev_sub (lo := [(3, .int z16), (0, .ref 69), (1, .int ar1), (2, .int ar2)]) rfl (t_sc rfl (t_sc rfl (t_sc rfl (t_sc rfl t_sn)))) ?_
          exact ih3 _ (by omega) gi10 gl10 gr10 (z16) hI hX  (Int.le_trans (by decide : (1:Int) ≤ 2) l16) u16 (by omega) j10_1 (by omega) rfl
        · have r17 : y10_4.toInt < z12.toInt := Int32.lt_iff_toInt_lt.mp (t_nle h13)
          have u18 : y10_4.toInt ≤ 15 := t_ltu (t_nle h13) u12 rfl
          refine ev_lc f_X12_laysCalls (nx := 24) (v := 0) rfl (by decide) rfl ?_
          refine ev_loc f_X12_laysCalls (nx := 26) (lo' := [(5, .long 0), (4, .int y10_4), (3, .int y3_3), (0, .ref 69), (1, .int ar1), (2, .int ar2)]) rfl rfl rfl rfl ?_
          refine ev_ic f_X12_laysCalls (nx := 27) (v := 0) rfl (by decide) rfl ?_
          refine ev_loc f_X12_laysCalls (nx := 29) (lo' := [(7, .int 0), (5, .long 0), (4, .int y10_4), (3, .int y3_3), (0, .ref 69), (1, .int ar1), (2, .int ar2)]) rfl rfl rfl rfl ?_
          have L19 : ∀ (m19 : Nat) (gi19 : Nat → Nat → Int32) (gl19 : Nat → Nat → Int64) (gr19 : Nat → Nat → Value) (y19_7 : Int32) (y19_5 : Int64), t_I sh gi19 gr19 → t_X wl_e_lays sh gi gl gr gi19 gl19 gr19 → 0 ≤ y19_7.toInt → y19_7.toInt ≤ 4 → ((y3_3.toInt = 1 ∧ (gi19 69 39).toInt = y10_4.toInt ∧ y10_4.toInt < 2) ∨ (y3_3.toInt = 2 ∧ (gi19 69 39).toInt = 2 + y10_4.toInt ∧ y10_4.toInt < 4) ∨ (y3_3.toInt = 3 ∧ (gi19 69 39).toInt = 6 + y10_4.toInt ∧ y10_4.toInt < 8) ∨ (y3_3.toInt = 4 ∧ (gi19 69 39).toInt = 14 + y10_4.toInt ∧ y10_4.toInt < 16)) → (∀ k : Nat, (k : Int) < (gi19 69 39).toInt → gl19 84 k = s_ch ar2.toInt k ∧ gl19 85 k = s_cL k ∧ (gi19 87 k).toInt = (s_cn k : Nat)) → (y19_5 = s_cw y3_3.toNatClampNeg y10_4.toNatClampNeg y19_7.toNatClampNeg ∧ y19_7.toInt ≤ y3_3.toInt ∧ ∀ t : Nat, (t : Int) < y19_7.toInt → gi19 70 (1752 + t) = s_bK y3_3.toNatClampNeg y10_4.toNatClampNeg t) → (4 - y19_7.toInt).toNat = m19 → x_Ev X (d + 2) n_X12_laysCalls 29 [(7, .int y19_7), (5, .long y19_5), (4, .int y10_4), (3, .int y3_3), (0, .ref 69), (1, .int ar1), (2, .int ar2)] [] (sh, gi19, gl19, gr19) (t_PN wl_e_lays sh gi gl gr (Q_e_lays gi gl gr ar1 ar2)) := by
            intro m19
            induction m19 using Nat.strongRecOn with
            | _ m19 ih19 =>
            intro gi19 gl19 gr19 y19_7 y19_5 hI hX l19_7 u19_7 j19_0 j19_1 j19_2 hm19
            obtain ⟨l20, u20⟩ := hI.b (hI.wf.s (k := 69) rfl) (t_bdK rfl : t_bd 11 39 = some (0, 30))
            refine ev_loc f_X12_laysCalls (nx := 31) rfl rfl rfl rfl ?_
            refine ev_loc f_X12_laysCalls (nx := 32) rfl rfl rfl rfl ?_
            refine ev_if f_X12_laysCalls (t1 := 108) (t2 := 35) rfl rfl rfl (fun h21 => ?_) (fun h21 => ?_)
            · have r22 : y3_3.toInt ≤ y19_7.toInt := Int32.le_iff_toInt_le.mp h21
              have l23 : 1 ≤ y19_7.toInt := t_lel h21 l3_3
              refine ev_loc f_X12_laysCalls (nx := 109) rfl rfl rfl rfl ?_
              refine ev_getR f_X12_laysCalls (nx := 112) rfl (hI.wf.s rfl) rfl rfl (hI.wf.r rfl) rfl rfl ?_
              refine ev_loc f_X12_laysCalls (nx := 113) rfl rfl rfl rfl ?_
              refine ev_gvI f_X12_laysCalls (nx := 116) (w := (gi19 69 39)) rfl (hI.wf.s rfl) rfl rfl rfl rfl ?_
              refine ev_loc f_X12_laysCalls (nx := 117) rfl rfl rfl rfl ?_
              refine ev_sp f_X12_laysCalls (nx := 120) (v := 1752) rfl (by decide) rfl ?_
              refine ev_loc f_X12_laysCalls (nx := 121) rfl rfl rfl rfl ?_
              refine ev_qL0 f_X12_laysCalls (nx := 124) (r := [.int (gi19 69 39), .ref 84]) rfl rfl rfl rfl rfl rfl rfl (c_n_beatsOf hI (1752) (Int.le_trans (by decide : (11:Int) ≤ 1752) (by decide : (1752:Int) ≤ (1752:Int32).toInt)) (by decide : (1752:Int32).toInt ≤ (1752:Int)) (y3_3) (Int.le_trans u9 (by decide : (4:Int) ≤ 6))) rfl (fun w24 q24 => ?_)
              have q24 : (0 ≤ w24.toInt ∧ w24.toInt < 16777216) ∧ (0 ≤ y3_3.toInt → w24 = (s_bt (fun t => gi19 70 ((1752 : Int32).toNatClampNeg + t)) y3_3.toNatClampNeg).1) := q24
              refine ev_loc f_X12_laysCalls (nx := 125) rfl rfl rfl rfl ?_
              refine ev_inS2 f_X12_laysCalls (nx := 128) (lo2 := [(0, .long w24), (2, .int ar2)]) rfl rfl rfl rfl f_X12_echoed rfl rfl rfl rfl ?_
              refine ev_loc f_X12_echoed (nx := 1) rfl rfl rfl rfl ?_
              refine ev_if f_X12_echoed (t1 := 4) (t2 := 8) rfl rfl rfl (fun h25 => ?_) (fun h25 => ?_)
              · have u26 : ar2.toInt ≤ 0 := t_equ h25 (by decide : (0:Int32).toInt ≤ (0:Int))
                refine ev_loc f_X12_echoed (nx := 5) rfl rfl rfl rfl ?_
                refine ev_jmp f_X12_echoed (nx := 13) rfl rfl rfl ?_
                refine ev_retK1 f_X12_echoed rfl rfl rfl ?_
                have u28 : (gi19 69 39).toInt ≤ (29:Int) := (by omega)
                refine ev_lastT f_X12_laysCalls (nx := 129) rfl (hI.wf.s rfl) l20 (by decide) u28 (by decide) rfl (hX.upL (t_inA_ok rfl)) (fun g27 e27 hX => ?_)
                refine ev_loc f_X12_laysCalls (nx := 130) rfl rfl rfl rfl ?_
                refine ev_getR f_X12_laysCalls (nx := 133) rfl (hI.wf.s rfl) rfl rfl (hI.wf.r rfl) rfl rfl ?_
                refine ev_loc f_X12_laysCalls (nx := 134) rfl rfl rfl rfl ?_
                refine ev_gvI f_X12_laysCalls (nx := 137) (w := (gi19 69 39)) rfl (hI.wf.s rfl) rfl rfl rfl rfl ?_
                refine ev_loc f_X12_laysCalls (nx := 139) rfl rfl rfl rfl ?_
                refine ev_lastT f_X12_laysCalls (nx := 140) rfl (hI.wf.s rfl) l20 (by decide) u28 (by decide) rfl (hX.upL (t_inA_ok rfl)) (fun g29 e29 hX => ?_)
                refine ev_loc f_X12_laysCalls (nx := 141) rfl rfl rfl rfl ?_
                refine ev_getR f_X12_laysCalls (nx := 144) rfl (hI.wf.s rfl) rfl rfl (hI.wf.r rfl) rfl rfl ?_
                refine ev_loc f_X12_laysCalls (nx := 145) rfl rfl rfl rfl ?_
                refine ev_gvI f_X12_laysCalls (nx := 148) (w := (gi19 69 39)) rfl (hI.wf.s rfl) rfl rfl rfl rfl ?_
                refine ev_loc f_X12_laysCalls (nx := 149) rfl rfl rfl rfl ?_
                refine ev_iastT f_X12_laysCalls (nx := 150) rfl (hI.wf.s rfl) l20 (by decide) u28 (by decide) rfl (hI.astG (hI.wf.s rfl) (fun lo hi e => absurd e (t_nob (by decide +kernel) _)) (fun k hk e => by have := hk.2.1; omega)) (hX.upI (t_inA_ok rfl)) (fun g30 e30 hI hX => ?_)
                refine ev_loc f_X12_laysCalls (nx := 151) rfl rfl rfl rfl ?_
                refine ev_alu f_X12_laysCalls (nx := 152) rfl rfl rfl rfl ?_
                refine ev_gvI f_X12_laysCalls (nx := 155) (w := (gi19 69 39)) rfl (hI.wf.s rfl) rfl rfl ((by rw [e30]; exact x_up2_off (Or.inl (by decide)) : g30 69 39 = gi19 69 39).trans rfl) rfl ?_
                refine ev_ic f_X12_laysCalls (nx := 156) (v := 1) rfl (by decide) rfl ?_
                refine ev_addC f_X12_laysCalls (nx := 157) (c := 1) (l := 1) (u := 30) rfl (by decide) l20 u28 rfl rfl (by decide) (by decide) rfl (fun z31 e31 l31 u31 => ?_)
                refine ev_putIT f_X12_laysCalls (nx := 160) rfl (hI.wf.s rfl) rfl rfl rfl (hI.putB (hI.wf.s rfl) rfl rfl l31 (by decide) u31 (by decide)) (hX.upI rfl) (fun g32 e32 hI hX => ?_)
                refine ev_incR f_X12_laysCalls (nx := 163) (c := 1) (l := 1) (u := 16) rfl rfl (by decide) (by decide) l10_4 u18 rfl rfl (by decide) (by decide) rfl (fun z33 e33 l33 u33 => ?_)
                refine ev_jmp f_X12_laysCalls (nx := 15) rfl rfl rfl ?_
                refine ev_sub (lo := [(4, .int z33), (3, .int y3_3), (0, .ref 69), (1, .int ar1), (2, .int ar2)]) rfl (t_sc rfl (t_sc rfl (t_sc rfl (t_sc rfl (t_sc rfl t_sn))))) ?_
                exact ih10 _ (by omega) g32 g29 gr19 (z33) hI hX  (Int.le_trans (by decide : (0:Int) ≤ 1) l33) u33 (by have ff34 : (g32 69 39).toInt = z31.toInt := congrArg Int32.toInt (by rw [e32]; exact x_up2_at _ _ _ _ : g32 69 39 = z31); omega) (fun k hk => (by
                                                            obtain ⟨g1, g2, g3⟩ := j19_2
                                                            have c3 := t_clamp (i := y3_3) (by omega)
                                                            have c4 := t_clamp (i := y10_4) (by omega)
                                                            have c7 := t_clamp (i := y19_7) (by omega)
                                                            have ci := t_clamp (i := (gi19 69 39)) (by omega)
                                                            have hnew : s_cn (gi19 69 39).toNatClampNeg = y3_3.toNatClampNeg ∧ s_cL (gi19 69 39).toNatClampNeg = s_cw y3_3.toNatClampNeg y10_4.toNatClampNeg y3_3.toNatClampNeg := s_cL_x (by rcases j19_0 with hh | hh | hh | hh; exact Or.inl ⟨by omega, by omega, by omega⟩; exact Or.inr (Or.inl ⟨by omega, by omega, by omega⟩); exact Or.inr (Or.inr (Or.inl ⟨by omega, by omega, by omega⟩)); exact Or.inr (Or.inr (Or.inr ⟨by omega, by omega, by omega⟩)))
                                                            have ey73 : y19_7.toNatClampNeg = y3_3.toNatClampNeg := by omega
                                                            rw [ey73] at g1
                                                            have hs : w24 = s_snd (s_cL (gi19 69 39).toNatClampNeg) := by
                                                              have h1 := q24.2 (by omega)
                                                              have h2 := s_bs (b := gi19 70) (q := 1752) (k := y3_3.toNatClampNeg) (by omega) (fun t ht => by rw [g3 t (by omega)]; exact s_bK_v)
                                                              rw [hnew.2]
                                                              unfold s_cw
                                                              rw [← s_ll_cg (b := gi19 70) (q := 1752) (fun t ht => by rw [Nat.zero_add]; exact g3 t (by omega)), ← h2]
                                                              exact h1
                                                            have hh : w24 = s_ch ar2.toInt (gi19 69 39).toNatClampNeg := by unfold s_ch; rw [← hs, show ar2.toInt = 0 by omega, s_ec_0]
                                                            rw [e32, x_up2_at] at hk
                                                            by_cases hk2 : k = (gi19 69 39).toNatClampNeg
                                                            · subst hk2
                                                              refine ⟨?_, ?_, ?_⟩
                                                              · rw [e29, x_up2_ne (by decide), e27, x_up2_at]; exact hh
                                                              · rw [e29, x_up2_at, hnew.2]; exact g1
                                                              · rw [e32, x_up2_ne (by decide), e30, x_up2_at, hnew.1]; omega
                                                            · have h9 := j19_1 k (by omega)
                                                              refine ⟨?_, ?_, ?_⟩
                                                              · rw [e29, x_up2_ne (by decide), e27, x_up2_off (Or.inr hk2)]; exact h9.1
                                                              · rw [e29, x_up2_off (Or.inr hk2), e27, x_up2_ne (by decide)]; exact h9.2.1
                                                              · rw [e32, x_up2_ne (by decide), e30, x_up2_off (Or.inr hk2)]; exact h9.2.2)) rfl
              · have r35 : ar2.toInt ≠ 0 := fun e => h25 (Int32.toInt_inj.mp (e.trans (by decide : (0:Int) = (0 : Int32).toInt)))
                have l36 : 1 ≤ ar2.toInt := t_nel h25 l_a2 rfl rfl
                refine ev_loc f_X12_echoed (nx := 9) rfl rfl rfl rfl ?_
                refine ev_loc f_X12_echoed (nx := 10) rfl rfl rfl rfl ?_
                refine ev_loc f_X12_echoed (nx := 11) rfl rfl rfl rfl ?_
                refine ev_anyLE f_X12_echoed (nx := 12) rfl rfl rfl rfl (fun z37 e37 => ?_)
                refine ev_anyLE f_X12_echoed (nx := 13) rfl rfl rfl rfl (fun z38 e38 => ?_)
                refine ev_retK1 f_X12_echoed rfl rfl rfl ?_
                have u40 : (gi19 69 39).toInt ≤ (29:Int) := (by omega)
                refine ev_lastT f_X12_laysCalls (nx := 129) rfl (hI.wf.s rfl) l20 (by decide) u40 (by decide) rfl (hX.upL (t_inA_ok rfl)) (fun g39 e39 hX => ?_)
                refine ev_loc f_X12_laysCalls (nx := 130) rfl rfl rfl rfl ?_
                refine ev_getR f_X12_laysCalls (nx := 133) rfl (hI.wf.s rfl) rfl rfl (hI.wf.r rfl) rfl rfl ?_
                refine ev_loc f_X12_laysCalls (nx := 134) rfl rfl rfl rfl ?_
                refine ev_gvI f_X12_laysCalls (nx := 137) (w := (gi19 69 39)) rfl (hI.wf.s rfl) rfl rfl rfl rfl ?_
                refine ev_loc f_X12_laysCalls (nx := 139) rfl rfl rfl rfl ?_
                refine ev_lastT f_X12_laysCalls (nx := 140) rfl (hI.wf.s rfl) l20 (by decide) u40 (by decide) rfl (hX.upL (t_inA_ok rfl)) (fun g41 e41 hX => ?_)
                refine ev_loc f_X12_laysCalls (nx := 141) rfl rfl rfl rfl ?_
                refine ev_getR f_X12_laysCalls (nx := 144) rfl (hI.wf.s rfl) rfl rfl (hI.wf.r rfl) rfl rfl ?_
                refine ev_loc f_X12_laysCalls (nx := 145) rfl rfl rfl rfl ?_
                refine ev_gvI f_X12_laysCalls (nx := 148) (w := (gi19 69 39)) rfl (hI.wf.s rfl) rfl rfl rfl rfl ?_
                refine ev_loc f_X12_laysCalls (nx := 149) rfl rfl rfl rfl ?_
                refine ev_iastT f_X12_laysCalls (nx := 150) rfl (hI.wf.s rfl) l20 (by decide) u40 (by decide) rfl (hI.astG (hI.wf.s rfl) (fun lo hi e => absurd e (t_nob (by decide +kernel) _)) (fun k hk e => by have := hk.2.1; omega)) (hX.upI (t_inA_ok rfl)) (fun g42 e42 hI hX => ?_)
                refine ev_loc f_X12_laysCalls (nx := 151) rfl rfl rfl rfl ?_
                refine ev_alu f_X12_laysCalls (nx := 152) rfl rfl rfl rfl ?_
                refine ev_gvI f_X12_laysCalls (nx := 155) (w := (gi19 69 39)) rfl (hI.wf.s rfl) rfl rfl ((by rw [e42]; exact x_up2_off (Or.inl (by decide)) : g42 69 39 = gi19 69 39).trans rfl) rfl ?_
                refine ev_ic f_X12_laysCalls (nx := 156) (v := 1) rfl (by decide) rfl ?_
                refine ev_addC f_X12_laysCalls (nx := 157) (c := 1) (l := 1) (u := 30) rfl (by decide) l20 u40 rfl rfl (by decide) (by decide) rfl (fun z43 e43 l43 u43 => ?_)
                refine ev_putIT f_X12_laysCalls (nx := 160) rfl (hI.wf.s rfl) rfl rfl rfl (hI.putB (hI.wf.s rfl) rfl rfl l43 (by decide) u43 (by decide)) (hX.upI rfl) (fun g44 e44 hI hX => ?_)
                refine ev_incR f_X12_laysCalls (nx := 163) (c := 1) (l := 1) (u := 16) rfl rfl (by decide) (by decide) l10_4 u18 rfl rfl (by decide) (by decide) rfl (fun z45 e45 l45 u45 => ?_)
                refine ev_jmp f_X12_laysCalls (nx := 15) rfl rfl rfl ?_
                refine ev_sub (lo := [(4, .int z45), (3, .int y3_3), (0, .ref 69), (1, .int ar1), (2, .int ar2)]) rfl (t_sc rfl (t_sc rfl (t_sc rfl (t_sc rfl (t_sc rfl t_sn))))) ?_
                exact ih10 _ (by omega) g44 g41 gr19 (z45) hI hX  (Int.le_trans (by decide : (0:Int) ≤ 1) l45) u45 (by have ff46 : (g44 69 39).toInt = z43.toInt := congrArg Int32.toInt (by rw [e44]; exact x_up2_at _ _ _ _ : g44 69 39 = z43); omega) (fun k hk => (by
                                                            obtain ⟨g1, g2, g3⟩ := j19_2
                                                            have c3 := t_clamp (i := y3_3) (by omega)
                                                            have c4 := t_clamp (i := y10_4) (by omega)
                                                            have c7 := t_clamp (i := y19_7) (by omega)
                                                            have ci := t_clamp (i := (gi19 69 39)) (by omega)
                                                            have hnew : s_cn (gi19 69 39).toNatClampNeg = y3_3.toNatClampNeg ∧ s_cL (gi19 69 39).toNatClampNeg = s_cw y3_3.toNatClampNeg y10_4.toNatClampNeg y3_3.toNatClampNeg := s_cL_x (by rcases j19_0 with hh | hh | hh | hh; exact Or.inl ⟨by omega, by omega, by omega⟩; exact Or.inr (Or.inl ⟨by omega, by omega, by omega⟩); exact Or.inr (Or.inr (Or.inl ⟨by omega, by omega, by omega⟩)); exact Or.inr (Or.inr (Or.inr ⟨by omega, by omega, by omega⟩)))
                                                            have ey73 : y19_7.toNatClampNeg = y3_3.toNatClampNeg := by omega
                                                            rw [ey73] at g1
                                                            have hs : w24 = s_snd (s_cL (gi19 69 39).toNatClampNeg) := by
                                                              have h1 := q24.2 (by omega)
                                                              have h2 := s_bs (b := gi19 70) (q := 1752) (k := y3_3.toNatClampNeg) (by omega) (fun t ht => by rw [g3 t (by omega)]; exact s_bK_v)
                                                              rw [hnew.2]
                                                              unfold s_cw
                                                              rw [← s_ll_cg (b := gi19 70) (q := 1752) (fun t ht => by rw [Nat.zero_add]; exact g3 t (by omega)), ← h2]
                                                              exact h1
                                                            have hh : z38 = s_ch ar2.toInt (gi19 69 39).toNatClampNeg := by unfold s_ch; rw [← hs]; exact s_ec_e e37 e38 rfl
                                                            rw [e44, x_up2_at] at hk
                                                            by_cases hk2 : k = (gi19 69 39).toNatClampNeg
                                                            · subst hk2
                                                              refine ⟨?_, ?_, ?_⟩
                                                              · rw [e41, x_up2_ne (by decide), e39, x_up2_at]; exact hh
                                                              · rw [e41, x_up2_at, hnew.2]; exact g1
                                                              · rw [e44, x_up2_ne (by decide), e42, x_up2_at, hnew.1]; omega
                                                            · have h9 := j19_1 k (by omega)
                                                              refine ⟨?_, ?_, ?_⟩
                                                              · rw [e41, x_up2_ne (by decide), e39, x_up2_off (Or.inr hk2)]; exact h9.1
                                                              · rw [e41, x_up2_off (Or.inr hk2), e39, x_up2_ne (by decide)]; exact h9.2.1
                                                              · rw [e44, x_up2_ne (by decide), e42, x_up2_off (Or.inr hk2)]; exact h9.2.2)) rfl
            · have r47 : y19_7.toInt < y3_3.toInt := Int32.lt_iff_toInt_lt.mp (t_nle h21)
              have u48 : y19_7.toInt ≤ 3 := t_ltu (t_nle h21) u9 rfl
              refine ev_loc f_X12_laysCalls (nx := 37) rfl rfl rfl rfl ?_
              refine ev_loc f_X12_laysCalls (nx := 38) rfl rfl rfl rfl ?_
              refine ev_ic f_X12_laysCalls (nx := 39) (v := 1) rfl (by decide) rfl ?_
              refine ev_subC f_X12_laysCalls (nx := 40) (c := 1) (l := 0) (u := 3) rfl (by decide) l3_3 u9 rfl rfl (by decide) (by decide) rfl (fun z49 e49 l49 u49 => ?_)
              refine ev_loc f_X12_laysCalls (nx := 42) rfl rfl rfl rfl ?_
              refine ev_subR f_X12_laysCalls (nx := 43) (l := (-3)) (u := 3) rfl l49 u49 l19_7 u48 rfl rfl (by decide) (by decide) rfl (fun z50 e50 l50 u50 => ?_)
              refine ev_anyIE f_X12_laysCalls (nx := 44) rfl rfl rfl rfl (fun z51 e51 => ?_)
              refine ev_ic f_X12_laysCalls (nx := 45) (v := 1) rfl (by decide) rfl ?_
              refine ev_anyIE f_X12_laysCalls (nx := 46) rfl rfl rfl rfl (fun z52 e52 => ?_)
              refine ev_ic f_X12_laysCalls (nx := 47) (v := 1) rfl (by decide) rfl ?_
              refine ev_if f_X12_laysCalls (t1 := 50) (t2 := 54) rfl rfl rfl (fun h53 => ?_) (fun h53 => ?_)
              · have u54 : z52.toInt ≤ 1 := t_equ h53 (by decide : (1:Int32).toInt ≤ (1:Int))
                have l55 : 1 ≤ z52.toInt := t_eql h53 (by decide : (1:Int) ≤ (1:Int32).toInt)
                refine ev_ic f_X12_laysCalls (nx := 51) (v := 1) rfl (by decide) rfl ?_
                refine ev_jmp f_X12_laysCalls (nx := 55) rfl rfl rfl ?_
                refine ev_loc f_X12_laysCalls (nx := 57) (lo' := [(8, .int 1), (7, .int y19_7), (5, .long y19_5), (4, .int y10_4), (3, .int y3_3), (0, .ref 69), (1, .int ar1), (2, .int ar2)]) rfl rfl rfl rfl ?_
                refine ev_loc f_X12_laysCalls (nx := 58) rfl rfl rfl rfl ?_
                refine ev_getR f_X12_laysCalls (nx := 61) rfl (hI.wf.s rfl) rfl rfl (hI.wf.r rfl) rfl rfl ?_
                refine ev_sp f_X12_laysCalls (nx := 64) (v := 1752) rfl (by decide) rfl ?_
                refine ev_loc f_X12_laysCalls (nx := 66) rfl rfl rfl rfl ?_
                refine ev_addK f_X12_laysCalls (nx := 67) (c := 1752) (l := 1752) (u := 1755) rfl (by decide) l19_7 u48 rfl rfl (by decide) (by decide) rfl (fun z56 e56 l56 u56 => ?_)
                refine ev_loc f_X12_laysCalls (nx := 69) rfl rfl rfl rfl ?_
                refine ev_f f_X12_laysCalls (t1 := 77) (t2 := 72) rfl rfl rfl (by decide) ?_
                refine ev_bp f_X12_laysCalls (nx := 74) (v := 115) rfl (by decide) rfl ?_
                refine ev_jmp f_X12_laysCalls (nx := 79) rfl rfl rfl ?_
                refine ev_iastT f_X12_laysCalls (nx := 80) rfl (hI.wf.s rfl) l56 (by decide) u56 (by decide) rfl (hI.astL (hI.wf.s rfl) (by decide +kernel : t_abw 70 1752 1755 115 115 = true) (t_cl1 l56 (by decide)) (t_cl2 l56 u56 (by decide) (by decide)) (by decide : (115:Int) ≤ (115:Int32).toInt) (by decide : (115:Int32).toInt ≤ (115:Int)) rfl) (hX.upI (t_inR (p := 1752) (m := 1755) rfl l56 (by decide) u56 (by decide) (by decide))) (fun g57 e57 hI hX => ?_)
                refine ev_ldL f_X12_laysCalls (nx := 83) (v := 32) rfl (by decide) rfl ?_
                refine ev_loc f_X12_laysCalls (nx := 85) rfl rfl rfl rfl ?_
                refine ev_anyLE f_X12_laysCalls (nx := 86) rfl rfl rfl rfl (fun z58 e58 => ?_)
                refine ev_loc f_X12_laysCalls (nx := 88) rfl rfl rfl rfl ?_
                refine ev_f f_X12_laysCalls (t1 := 96) (t2 := 91) rfl rfl rfl (by decide) ?_
                refine ev_bp f_X12_laysCalls (nx := 93) (v := 19) rfl (by decide) rfl ?_
                refine ev_jmp f_X12_laysCalls (nx := 98) rfl rfl rfl ?_
                refine ev_aluvL f_X12_laysCalls (nx := 99) (w := 19) rfl rfl rfl (by decide) rfl ?_
                refine ev_anyLE f_X12_laysCalls (nx := 100) rfl rfl rfl rfl (fun z59 e59 => ?_)
                refine ev_loc f_X12_laysCalls (nx := 102) (lo' := [(5, .long z59), (8, .int 1), (7, .int y19_7), (4, .int y10_4), (3, .int y3_3), (0, .ref 69), (1, .int ar1), (2, .int ar2)]) rfl rfl rfl rfl ?_
                refine ev_incR f_X12_laysCalls (nx := 105) (c := 1) (l := 1) (u := 4) rfl rfl (by decide) (by decide) l19_7 u48 rfl rfl (by decide) (by decide) rfl (fun z60 e60 l60 u60 => ?_)
                refine ev_jmp f_X12_laysCalls (nx := 29) rfl rfl rfl ?_
                refine ev_sub (lo := [(7, .int z60), (5, .long z59), (4, .int y10_4), (3, .int y3_3), (0, .ref 69), (1, .int ar1), (2, .int ar2)]) rfl (t_sc rfl (t_sc rfl (t_sc rfl (t_sc rfl (t_sc rfl (t_sc rfl (t_sc rfl t_sn))))))) ?_
                exact ih19 _ (by omega) g57 gl19 gr19 (z60) (z59) hI hX  (Int.le_trans (by decide : (0:Int) ≤ 1) l60) u60 (by have ff61 : (g57 69 39).toInt = (gi19 69 39).toInt := congrArg Int32.toInt ((by rw [e57]; exact x_up2_off (Or.inl (by decide)) : g57 69 39 = gi19 69 39).trans rfl); omega) (fun k hk => (by rw [e57, x_up2_ne (by decide)] at hk; rw [e57, x_up2_ne (by decide)]; exact j19_1 k hk)) (by
                                                            obtain ⟨g1, g2, g3⟩ := j19_2
                                                            have c3 := t_clamp (i := y3_3) (by omega)
                                                            have c4 := t_clamp (i := y10_4) (by omega)
                                                            have c7 := t_clamp (i := y19_7) (by omega)
                                                            have c9 := t_clamp (i := z60) (by omega)
                                                            have c8 := t_clamp (i := z50) (by omega)
                                                            have hbit := s_bit (c := y10_4) (a := z50) (by omega) (by omega) (by omega) (by omega) e51 e52
                                                            rw [show z50.toNatClampNeg = y3_3.toNatClampNeg - 1 - y19_7.toNatClampNeg by omega] at hbit
                                                            have hb : s_bK y3_3.toNatClampNeg y10_4.toNatClampNeg y19_7.toNatClampNeg = 115 := if_pos (hbit.mp h53)
                                                            rw [show z60.toNatClampNeg = y19_7.toNatClampNeg + 1 by omega]
                                                            refine ⟨?_, by omega, fun t ht => ?_⟩
                                                            · show z59 = s_cw y3_3.toNatClampNeg y10_4.toNatClampNeg y19_7.toNatClampNeg * 32 + Int64.ofInt ((s_bK y3_3.toNatClampNeg y10_4.toNatClampNeg (0 + y19_7.toNatClampNeg)).toInt - 96)
                                                              rw [Nat.zero_add, hb, e59, e58, g1, Int64.mul_comm]; rfl
                                                            · have cx := t_clamp (i := z56) (by omega)
                                                              by_cases ht2 : t = y19_7.toNatClampNeg
                                                              · rw [ht2, hb, e57, show 1752 + y19_7.toNatClampNeg = z56.toNatClampNeg by omega, x_up2_at]
                                                              · rw [e57, x_up2_off (Or.inr (by omega))]; exact g3 t (by omega)) rfl
              · have r62 : z52.toInt ≠ 1 := fun e => h53 (Int32.toInt_inj.mp (e.trans (by decide : (1:Int) = (1 : Int32).toInt)))
                refine ev_ic f_X12_laysCalls (nx := 55) (v := 0) rfl (by decide) rfl ?_
                refine ev_loc f_X12_laysCalls (nx := 57) (lo' := [(8, .int 0), (7, .int y19_7), (5, .long y19_5), (4, .int y10_4), (3, .int y3_3), (0, .ref 69), (1, .int ar1), (2, .int ar2)]) rfl rfl rfl rfl ?_
                refine ev_loc f_X12_laysCalls (nx := 58) rfl rfl rfl rfl ?_
                refine ev_getR f_X12_laysCalls (nx := 61) rfl (hI.wf.s rfl) rfl rfl (hI.wf.r rfl) rfl rfl ?_
                refine ev_sp f_X12_laysCalls (nx := 64) (v := 1752) rfl (by decide) rfl ?_
                refine ev_loc f_X12_laysCalls (nx := 66) rfl rfl rfl rfl ?_
                refine ev_addK f_X12_laysCalls (nx := 67) (c := 1752) (l := 1752) (u := 1755) rfl (by decide) l19_7 u48 rfl rfl (by decide) (by decide) rfl (fun z63 e63 l63 u63 => ?_)
                refine ev_loc f_X12_laysCalls (nx := 69) rfl rfl rfl rfl ?_
                refine ev_t f_X12_laysCalls (t1 := 77) (t2 := 72) rfl rfl rfl (by decide) ?_
                refine ev_bp f_X12_laysCalls (nx := 79) (v := 108) rfl (by decide) rfl ?_
                refine ev_iastT f_X12_laysCalls (nx := 80) rfl (hI.wf.s rfl) l63 (by decide) u63 (by decide) rfl (hI.astL (hI.wf.s rfl) (by decide +kernel : t_abw 70 1752 1755 108 108 = true) (t_cl1 l63 (by decide)) (t_cl2 l63 u63 (by decide) (by decide)) (by decide : (108:Int) ≤ (108:Int32).toInt) (by decide : (108:Int32).toInt ≤ (108:Int)) rfl) (hX.upI (t_inR (p := 1752) (m := 1755) rfl l63 (by decide) u63 (by decide) (by decide))) (fun g64 e64 hI hX => ?_)
                refine ev_ldL f_X12_laysCalls (nx := 83) (v := 32) rfl (by decide) rfl ?_
                refine ev_loc f_X12_laysCalls (nx := 85) rfl rfl rfl rfl ?_
                refine ev_anyLE f_X12_laysCalls (nx := 86) rfl rfl rfl rfl (fun z65 e65 => ?_)
                refine ev_loc f_X12_laysCalls (nx := 88) rfl rfl rfl rfl ?_
                refine ev_t f_X12_laysCalls (t1 := 96) (t2 := 91) rfl rfl rfl (by decide) ?_
                refine ev_bp f_X12_laysCalls (nx := 98) (v := 12) rfl (by decide) rfl ?_
                refine ev_aluvL f_X12_laysCalls (nx := 99) (w := 12) rfl rfl rfl (by decide) rfl ?_
                refine ev_anyLE f_X12_laysCalls (nx := 100) rfl rfl rfl rfl (fun z66 e66 => ?_)
                refine ev_loc f_X12_laysCalls (nx := 102) (lo' := [(5, .long z66), (8, .int 0), (7, .int y19_7), (4, .int y10_4), (3, .int y3_3), (0, .ref 69), (1, .int ar1), (2, .int ar2)]) rfl rfl rfl rfl ?_
                refine ev_incR f_X12_laysCalls (nx := 105) (c := 1) (l := 1) (u := 4) rfl rfl (by decide) (by decide) l19_7 u48 rfl rfl (by decide) (by decide) rfl (fun z67 e67 l67 u67 => ?_)
                refine ev_jmp f_X12_laysCalls (nx := 29) rfl rfl rfl ?_
                refine ev_sub (lo := [(7, .int z67), (5, .long z66), (4, .int y10_4), (3, .int y3_3), (0, .ref 69), (1, .int ar1), (2, .int ar2)]) rfl (t_sc rfl (t_sc rfl (t_sc rfl (t_sc rfl (t_sc rfl (t_sc rfl (t_sc rfl t_sn))))))) ?_
                exact ih19 _ (by omega) g64 gl19 gr19 (z67) (z66) hI hX  (Int.le_trans (by decide : (0:Int) ≤ 1) l67) u67 (by have ff68 : (g64 69 39).toInt = (gi19 69 39).toInt := congrArg Int32.toInt ((by rw [e64]; exact x_up2_off (Or.inl (by decide)) : g64 69 39 = gi19 69 39).trans rfl); omega) (fun k hk => (by rw [e64, x_up2_ne (by decide)] at hk; rw [e64, x_up2_ne (by decide)]; exact j19_1 k hk)) (by
                                                            obtain ⟨g1, g2, g3⟩ := j19_2
                                                            have c3 := t_clamp (i := y3_3) (by omega)
                                                            have c4 := t_clamp (i := y10_4) (by omega)
                                                            have c7 := t_clamp (i := y19_7) (by omega)
                                                            have c9 := t_clamp (i := z67) (by omega)
                                                            have c8 := t_clamp (i := z50) (by omega)
                                                            have hbit := s_bit (c := y10_4) (a := z50) (by omega) (by omega) (by omega) (by omega) e51 e52
                                                            rw [show z50.toNatClampNeg = y3_3.toNatClampNeg - 1 - y19_7.toNatClampNeg by omega] at hbit
                                                            have hb : s_bK y3_3.toNatClampNeg y10_4.toNatClampNeg y19_7.toNatClampNeg = 108 := if_neg (fun hh => h53 (hbit.mpr hh))
                                                            rw [show z67.toNatClampNeg = y19_7.toNatClampNeg + 1 by omega]
                                                            refine ⟨?_, by omega, fun t ht => ?_⟩
                                                            · show z66 = s_cw y3_3.toNatClampNeg y10_4.toNatClampNeg y19_7.toNatClampNeg * 32 + Int64.ofInt ((s_bK y3_3.toNatClampNeg y10_4.toNatClampNeg (0 + y19_7.toNatClampNeg)).toInt - 96)
                                                              rw [Nat.zero_add, hb, e66, e65, g1, Int64.mul_comm]; rfl
                                                            · have cx := t_clamp (i := z63) (by omega)
                                                              by_cases ht2 : t = y19_7.toNatClampNeg
                                                              · rw [ht2, hb, e64, show 1752 + y19_7.toNatClampNeg = z63.toNatClampNeg by omega, x_up2_at]
                                                              · rw [e64, x_up2_off (Or.inr (by omega))]; exact g3 t (by omega)) rfl
          refine ev_sub (lo := [(7, .int 0), (5, .long 0), (4, .int y10_4), (3, .int y3_3), (0, .ref 69), (1, .int ar1), (2, .int ar2)]) rfl (t_sc rfl (t_sc rfl (t_sc rfl (t_sc rfl (t_sc rfl (t_sc rfl (t_sc rfl t_sn))))))) ?_
          exact L19 _ gi10 gl10 gr10 (0) (0) hI hX  (by decide : (0:Int) ≤ (0:Int32).toInt) (Int.le_trans (by decide : (0:Int32).toInt ≤ (0:Int)) (by decide : (0:Int) ≤ 4)) (by omega) j10_1 ⟨rfl, by have z0 : (0 : Int32).toInt = 0 := rfl; omega, fun t ht => absurd ht (by have z0 : (0 : Int32).toInt = 0 := rfl; omega)⟩ rfl
      refine ev_sub (lo := [(4, .int 0), (3, .int y3_3), (0, .ref 69), (1, .int ar1), (2, .int ar2)]) rfl (t_sc rfl (t_sc rfl (t_sc rfl (t_sc rfl (t_sc rfl t_sn))))) ?_
      exact L10 _ gi3 gl3 gr3 (0) hI hX  (by decide : (0:Int) ≤ (0:Int32).toInt) (Int.le_trans (by decide : (0:Int32).toInt ≤ (0:Int)) (by decide : (0:Int) ≤ 16)) (by have kf69 : (0 : Int32).toInt = 0 := (by decide); omega) j3_1 rfl
  refine ev_sub (lo := [(3, .int 1), (0, .ref 69), (1, .int ar1), (2, .int ar2)]) rfl (t_sc rfl (t_sc rfl (t_sc rfl (t_sc rfl t_sn)))) ?_
  exact L3 _ g2 gl gr (1) hI hX  (by decide : (1:Int) ≤ (1:Int32).toInt) (Int.le_trans (by decide : (1:Int32).toInt ≤ (1:Int)) (by decide : (1:Int) ≤ 5)) (by have kf70 : (1 : Int32).toInt = 1 := (by decide); have ff71 : (g2 69 39).toInt = 0 := (congrArg Int32.toInt (by rw [e2]; exact x_up2_at _ _ _ _ : g2 69 39 = 0)).trans (by decide); omega) (fun k hk => absurd hk (by have ff72 : (g2 69 39).toInt = 0 := (congrArg Int32.toInt (by rw [e2]; exact x_up2_at _ _ _ _ : g2 69 39 = 0)).trans (by decide); omega)) (by have kf73 : (1 : Int32).toInt = 1 := (by decide); omega) rfl
noncomputable def wl_e_isc : List (Nat × Nat) := []
noncomputable def Q_e_isc (gi : Nat → Nat → Int32) (gl : Nat → Nat → Int64) (gr : Nat → Nat → Value) (ar1 : Int32) : Int32 → (Nat → Nat → Int32) → (Nat → Nat → Int64) → (Nat → Nat → Value) → Prop := fun (v : Int32) (gi2 : Nat → Nat → Int32) (gl2 : Nat → Nat → Int64) (gr2 : Nat → Nat → Value) => v.toInt = 1 ↔ s_ix (s_rh (gl 84) (gi 88)) ar1.toNatClampNeg
theorem c_e_isc {X : x_Ext} {d : Nat} {sh : List (Nat ⊕ (Nat × Nat))} {gi : Nat → Nat → Int32} {gl : Nat → Nat → Int64} {gr : Nat → Nat → Value} (hI : t_I sh gi gr) (ar1 : Int32) (l_a1 : 1 ≤ ar1.toInt) (u_a1 : ar1.toInt ≤ 4) (e_p0 : (∀ j : Nat, (j : Int) < ar1.toInt → 0 ≤ (gi 88 j).toInt ∧ (gi 88 j).toInt ≤ 29)) : x_Me X (d + 1) n_X12_isCode [.ref 69, .int ar1] (sh, gi, gl, gr) (t_PI wl_e_isc sh gi gl gr 0 1 (Q_e_isc gi gl gr ar1)) := by
  have hX : t_X wl_e_isc sh gi gl gr gi gl gr := t_X.rf
  refine me_i f_X12_isCode (hI.wf.s rfl) rfl rfl rfl ?_
  refine ev_ic f_X12_isCode (nx := 1) (v := 0) rfl (by decide) rfl ?_
  refine ev_loc f_X12_isCode (nx := 2) (lo' := [(2, .int 0), (0, .ref 69), (1, .int ar1)]) rfl rfl rfl rfl ?_
  have L1 : ∀ (m1 : Nat) (y1_2 : Int32), 0 ≤ y1_2.toInt → y1_2.toInt ≤ 4 → (∀ a : Nat, (a : Int) < y1_2.toInt → ∀ b, b < a → (s_rh (gl 84) (gi 88)) a ≠ (s_rh (gl 84) (gi 88)) b ∧ ∀ c, c < ar1.toNatClampNeg → c ≠ a → c ≠ b → ((s_rh (gl 84) (gi 88)) a ||| (s_rh (gl 84) (gi 88)) b) ≠ (s_rh (gl 84) (gi 88)) c) → (4 - y1_2.toInt).toNat = m1 → x_Ev X (d + 1) n_X12_isCode 2 [(2, .int y1_2), (0, .ref 69), (1, .int ar1)] [] (sh, gi, gl, gr) (t_PI wl_e_isc sh gi gl gr 0 1 (Q_e_isc gi gl gr ar1)) := by
    intro m1
    induction m1 using Nat.strongRecOn with
    | _ m1 ih1 =>
    intro y1_2 l1_2 u1_2 j1_0 hm1
    refine ev_loc f_X12_isCode (nx := 3) rfl rfl rfl rfl ?_
    refine ev_loc f_X12_isCode (nx := 4) rfl rfl rfl rfl ?_
    refine ev_if f_X12_isCode (t1 := 122) (t2 := 7) rfl rfl rfl (fun h2 => ?_) (fun h2 => ?_)
    · have r3 : ar1.toInt ≤ y1_2.toInt := Int32.le_iff_toInt_le.mp h2
      have l4 : 1 ≤ y1_2.toInt := t_lel h2 l_a1
      refine ev_ic f_X12_isCode (nx := 123) (v := 1) rfl (by decide) rfl ?_
      exact ev_ret f_X12_isCode rfl rfl rfl ⟨_, _, _, rfl, hI, hX, ⟨_, rfl, (Int.le_trans (by decide : (0:Int) ≤ 1) (by decide : (1:Int) ≤ (1:Int32).toInt)), (by decide : (1:Int32).toInt ≤ (1:Int)), (show (1 : Int) = 1 ↔ s_ix (s_rh (gl 84) (gi 88)) ar1.toNatClampNeg from (by
                                                            have k_ar1 := t_clamp (i := ar1) (by omega)
                                                            exact ⟨fun _ a ha => j1_0 a (by omega), fun _ => rfl⟩))⟩⟩
    · have r5 : y1_2.toInt < ar1.toInt := Int32.lt_iff_toInt_lt.mp (t_nle h2)
      have u6 : y1_2.toInt ≤ 3 := t_ltu (t_nle h2) u_a1 rfl
      refine ev_ic f_X12_isCode (nx := 8) (v := 0) rfl (by decide) rfl ?_
      refine ev_loc f_X12_isCode (nx := 9) (lo' := [(3, .int 0), (2, .int y1_2), (0, .ref 69), (1, .int ar1)]) rfl rfl rfl rfl ?_
      have L7 : ∀ (m7 : Nat) (y7_3 : Int32), 0 ≤ y7_3.toInt → y7_3.toInt ≤ 3 → (∀ b : Nat, (b : Int) < y7_3.toInt → (s_rh (gl 84) (gi 88)) y1_2.toNatClampNeg ≠ (s_rh (gl 84) (gi 88)) b ∧ ∀ c, c < ar1.toNatClampNeg → c ≠ y1_2.toNatClampNeg → c ≠ b → ((s_rh (gl 84) (gi 88)) y1_2.toNatClampNeg ||| (s_rh (gl 84) (gi 88)) b) ≠ (s_rh (gl 84) (gi 88)) c) → (3 - y7_3.toInt).toNat = m7 → x_Ev X (d + 1) n_X12_isCode 9 [(3, .int y7_3), (2, .int y1_2), (0, .ref 69), (1, .int ar1)] [] (sh, gi, gl, gr) (t_PI wl_e_isc sh gi gl gr 0 1 (Q_e_isc gi gl gr ar1)) := by
        intro m7
        induction m7 using Nat.strongRecOn with
        | _ m7 ih7 =>
        intro y7_3 l7_3 u7_3 j7_0 hm7
        refine ev_loc f_X12_isCode (nx := 10) rfl rfl rfl rfl ?_
        refine ev_loc f_X12_isCode (nx := 11) rfl rfl rfl rfl ?_
        refine ev_if f_X12_isCode (t1 := 116) (t2 := 14) rfl rfl rfl (fun h8 => ?_) (fun h8 => ?_)
        · have r9 : y1_2.toInt ≤ y7_3.toInt := Int32.le_iff_toInt_le.mp h8
          refine ev_incR f_X12_isCode (nx := 119) (c := 1) (l := 1) (u := 4) rfl rfl (by decide) (by decide) l1_2 u6 rfl rfl (by decide) (by decide) rfl (fun z10 e10 l10 u10 => ?_)
          refine ev_jmp f_X12_isCode (nx := 2) rfl rfl rfl ?_
          refine ev_sub (lo := [(2, .int z10), (0, .ref 69), (1, .int ar1)]) rfl (t_sc rfl (t_sc rfl (t_sc rfl t_sn))) ?_
          exact ih1 _ (by omega) (z10) (Int.le_trans (by decide : (0:Int) ≤ 1) l10) u10 (fun a ha => (by
                                                            have k_ar1 := t_clamp (i := ar1) (by omega)
                                                            have k_y1_2 := t_clamp (i := y1_2) (by omega)
                                                            by_cases hk : a = y1_2.toNatClampNeg
                                                            · subst hk
                                                              exact fun b hb => j7_0 b (by omega)
                                                            · exact j1_0 a (by omega))) rfl
        · have r11 : y7_3.toInt < y1_2.toInt := Int32.lt_iff_toInt_lt.mp (t_nle h8)
          have u12 : y7_3.toInt ≤ 2 := t_ltu (t_nle h8) u6 rfl
          have l13 : 1 ≤ y1_2.toInt := t_ltl (t_nle h8) l7_3 rfl
          refine ev_loc f_X12_isCode (nx := 15) rfl rfl rfl rfl ?_
          refine ev_getR f_X12_isCode (nx := 18) rfl (hI.wf.s rfl) rfl rfl (hI.wf.r rfl) rfl rfl ?_
          refine ev_loc f_X12_isCode (nx := 19) rfl rfl rfl rfl ?_
          refine ev_getR f_X12_isCode (nx := 22) rfl (hI.wf.s rfl) rfl rfl (hI.wf.r rfl) rfl rfl ?_
          refine ev_loc f_X12_isCode (nx := 23) rfl rfl rfl rfl ?_
          refine ev_ialdT f_X12_isCode (nx := 24) rfl (hI.wf.s rfl) l13 (by decide) u6 (by decide) rfl (fun w14 e14 => ?_)
          obtain ⟨l14, u14⟩ := hI.abi e14 (by decide +kernel : t_abr 88 1 3 (-1) 30 = true) l13 (by decide) u6 (by decide)
          have l16 : (0:Int) ≤ w14.toInt := (by have hc := t_clamp (i := y1_2) (by omega); have hj := e_p0 y1_2.toNatClampNeg (by omega); rw [← e14] at hj; omega)
          have u16 : w14.toInt ≤ (29:Int) := (by have hc := t_clamp (i := y1_2) (by omega); have hj := e_p0 y1_2.toNatClampNeg (by omega); rw [← e14] at hj; omega)
          refine ev_laldT f_X12_isCode (nx := 25) rfl (hI.wf.s rfl) l16 (by decide) u16 (by decide) rfl (fun w15 e15 => ?_)
          refine ev_loc f_X12_isCode (nx := 26) rfl rfl rfl rfl ?_
          refine ev_getR f_X12_isCode (nx := 29) rfl (hI.wf.s rfl) rfl rfl (hI.wf.r rfl) rfl rfl ?_
          refine ev_loc f_X12_isCode (nx := 30) rfl rfl rfl rfl ?_
          refine ev_getR f_X12_isCode (nx := 33) rfl (hI.wf.s rfl) rfl rfl (hI.wf.r rfl) rfl rfl ?_
          refine ev_loc f_X12_isCode (nx := 34) rfl rfl rfl rfl ?_
          refine ev_ialdT f_X12_isCode (nx := 35) rfl (hI.wf.s rfl) l7_3 (by decide) u12 (by decide) rfl (fun w17 e17 => ?_)
          obtain ⟨l17, u17⟩ := hI.abi e17 (by decide +kernel : t_abr 88 0 2 (-1) 30 = true) l7_3 (by decide) u12 (by decide)
          have l19 : (0:Int) ≤ w17.toInt := (by have hc := t_clamp (i := y7_3) (by omega); have hj := e_p0 y7_3.toNatClampNeg (by omega); rw [← e17] at hj; omega)
          have u19 : w17.toInt ≤ (29:Int) := (by have hc := t_clamp (i := y7_3) (by omega); have hj := e_p0 y7_3.toNatClampNeg (by omega); rw [← e17] at hj; omega)
          refine ev_laldT f_X12_isCode (nx := 36) rfl (hI.wf.s rfl) l19 (by decide) u19 (by decide) rfl (fun w18 e18 => ?_)
          refine ev_anyIE f_X12_isCode (nx := 37) rfl rfl rfl rfl (fun z20 e20 => ?_)
          refine ev_if f_X12_isCode (t1 := 40) (t2 := 42) rfl rfl rfl (fun h21 => ?_) (fun h21 => ?_)
          · have u22 : z20.toInt ≤ 0 := t_equ h21 (by decide : (0:Int32).toInt ≤ (0:Int))
            have l23 : 0 ≤ z20.toInt := t_eql h21 (by decide : (0:Int) ≤ (0:Int32).toInt)
            refine ev_ic f_X12_isCode (nx := 41) (v := 0) rfl (by decide) rfl ?_
            exact ev_ret f_X12_isCode rfl rfl rfl ⟨_, _, _, rfl, hI, hX, ⟨_, rfl, (by decide : (0:Int) ≤ (0:Int32).toInt), (Int.le_trans (by decide : (0:Int32).toInt ≤ (0:Int)) (by decide : (0:Int) ≤ 1)), (show (0 : Int) = 1 ↔ s_ix (s_rh (gl 84) (gi 88)) ar1.toNatClampNeg from (by
                                                            have k_ar1 := t_clamp (i := ar1) (by omega)
                                                            have k_y1_2 := t_clamp (i := y1_2) (by omega)
                                                            have k_y7_3 := t_clamp (i := y7_3) (by omega)
                                                            have hjw15 := e_p0 y1_2.toNatClampNeg (by have := t_clamp (i := y1_2) (by omega); omega)
                                                            rw [← e14] at hjw15
                                                            have cw15 : w15 = (s_rh (gl 84) (gi 88)) y1_2.toNatClampNeg := by
                                                              have ck := t_clamp (i := w14) (by omega)
                                                              show _ = gl 84 (gi 88 y1_2.toNatClampNeg).toInt.toNat
                                                              rw [e15, ← e14, show w14.toNatClampNeg = w14.toInt.toNat by omega]
                                                            have hjw18 := e_p0 y7_3.toNatClampNeg (by have := t_clamp (i := y7_3) (by omega); omega)
                                                            rw [← e17] at hjw18
                                                            have cw18 : w18 = (s_rh (gl 84) (gi 88)) y7_3.toNatClampNeg := by
                                                              have ck := t_clamp (i := w17) (by omega)
                                                              show _ = gl 84 (gi 88 y7_3.toNatClampNeg).toInt.toNat
                                                              rw [e18, ← e17, show w17.toNatClampNeg = w17.toInt.toNat by omega]
                                                            have k0 : (s_rh (gl 84) (gi 88)) y1_2.toNatClampNeg = (s_rh (gl 84) (gi 88)) y7_3.toNatClampNeg := by have hh := ((lg_cmp_eq _ _).mp (e20.symm.trans h21)); rw [cw15, cw18] at hh; exact hh
                                                            exact ⟨fun hh => absurd hh (by decide), fun hh => absurd k0 (hh y1_2.toNatClampNeg (by omega) y7_3.toNatClampNeg (by omega)).1⟩))⟩⟩
          · have r24 : z20.toInt ≠ 0 := fun e => h21 (Int32.toInt_inj.mp (e.trans (by decide : (0:Int) = (0 : Int32).toInt)))
            refine ev_ic f_X12_isCode (nx := 43) (v := 0) rfl (by decide) rfl ?_
            refine ev_loc f_X12_isCode (nx := 45) (lo' := [(4, .int 0), (3, .int y7_3), (2, .int y1_2), (0, .ref 69), (1, .int ar1)]) rfl rfl rfl rfl ?_
            have L25 : ∀ (m25 : Nat) (y25_4 : Int32), 0 ≤ y25_4.toInt → y25_4.toInt ≤ 4 → ((s_rh (gl 84) (gi 88)) y1_2.toNatClampNeg ≠ (s_rh (gl 84) (gi 88)) y7_3.toNatClampNeg ∧ ∀ c : Nat, (c : Int) < y25_4.toInt → c ≠ y1_2.toNatClampNeg → c ≠ y7_3.toNatClampNeg → ((s_rh (gl 84) (gi 88)) y1_2.toNatClampNeg ||| (s_rh (gl 84) (gi 88)) y7_3.toNatClampNeg) ≠ (s_rh (gl 84) (gi 88)) c) → (4 - y25_4.toInt).toNat = m25 → x_Ev X (d + 1) n_X12_isCode 45 [(4, .int y25_4), (3, .int y7_3), (2, .int y1_2), (0, .ref 69), (1, .int ar1)] [] (sh, gi, gl, gr) (t_PI wl_e_isc sh gi gl gr 0 1 (Q_e_isc gi gl gr ar1)) := by
              intro m25
              induction m25 using Nat.strongRecOn with
              | _ m25 ih25 =>
              intro y25_4 l25_4 u25_4 j25_0 hm25
              refine ev_loc f_X12_isCode (nx := 47) rfl rfl rfl rfl ?_
              refine ev_loc f_X12_isCode (nx := 48) rfl rfl rfl rfl ?_
              refine ev_if f_X12_isCode (t1 := 110) (t2 := 51) rfl rfl rfl (fun h26 => ?_) (fun h26 => ?_)
              · have r27 : ar1.toInt ≤ y25_4.toInt := Int32.le_iff_toInt_le.mp h26
                have l28 : 1 ≤ y25_4.toInt := t_lel h26 l_a1
                refine ev_incR f_X12_isCode (nx := 113) (c := 1) (l := 1) (u := 3) rfl rfl (by decide) (by decide) l7_3 u12 rfl rfl (by decide) (by decide) rfl (fun z29 e29 l29 u29 => ?_)
                refine ev_jmp f_X12_isCode (nx := 9) rfl rfl rfl ?_
                refine ev_sub (lo := [(3, .int z29), (2, .int y1_2), (0, .ref 69), (1, .int ar1)]) rfl (t_sc rfl (t_sc rfl (t_sc rfl (t_sc rfl t_sn)))) ?_
                exact ih7 _ (by omega) (z29) (Int.le_trans (by decide : (0:Int) ≤ 1) l29) u29 (fun b hb => (by
                                                            have k_ar1 := t_clamp (i := ar1) (by omega)
                                                            have k_y1_2 := t_clamp (i := y1_2) (by omega)
                                                            have k_y7_3 := t_clamp (i := y7_3) (by omega)
                                                            by_cases hk : b = y7_3.toNatClampNeg
                                                            · subst hk
                                                              exact ⟨(j25_0).1, fun c hc => (j25_0).2 c (by omega)⟩
                                                            · exact j7_0 b (by omega))) rfl
              · have r30 : y25_4.toInt < ar1.toInt := Int32.lt_iff_toInt_lt.mp (t_nle h26)
                have u31 : y25_4.toInt ≤ 3 := t_ltu (t_nle h26) u_a1 rfl
                refine ev_loc f_X12_isCode (nx := 53) rfl rfl rfl rfl ?_
                refine ev_loc f_X12_isCode (nx := 54) rfl rfl rfl rfl ?_
                refine ev_if f_X12_isCode (t1 := 104) (t2 := 57) rfl rfl rfl (fun h32 => ?_) (fun h32 => ?_)
                · have r33 : y25_4.toInt = y1_2.toInt := t_eqi h32
                  have l34 : 1 ≤ y25_4.toInt := t_eql h32 l13
                  refine ev_incR f_X12_isCode (nx := 107) (c := 1) (l := 2) (u := 4) rfl rfl (by decide) (by decide) l34 u31 rfl rfl (by decide) (by decide) rfl (fun z35 e35 l35 u35 => ?_)
                  refine ev_jmp f_X12_isCode (nx := 45) rfl rfl rfl ?_
                  refine ev_sub (lo := [(4, .int z35), (3, .int y7_3), (2, .int y1_2), (0, .ref 69), (1, .int ar1)]) rfl (t_sc rfl (t_sc rfl (t_sc rfl (t_sc rfl (t_sc rfl t_sn))))) ?_
                  exact ih25 _ (by omega) (z35) (Int.le_trans (by decide : (0:Int) ≤ 2) l35) u35 (by
                                                            have k_ar1 := t_clamp (i := ar1) (by omega)
                                                            have k_y1_2 := t_clamp (i := y1_2) (by omega)
                                                            have k_y7_3 := t_clamp (i := y7_3) (by omega)
                                                            have k_y25_4 := t_clamp (i := y25_4) (by omega)
                                                            have hjw15 := e_p0 y1_2.toNatClampNeg (by have := t_clamp (i := y1_2) (by omega); omega)
                                                            rw [← e14] at hjw15
                                                            have cw15 : w15 = (s_rh (gl 84) (gi 88)) y1_2.toNatClampNeg := by
                                                              have ck := t_clamp (i := w14) (by omega)
                                                              show _ = gl 84 (gi 88 y1_2.toNatClampNeg).toInt.toNat
                                                              rw [e15, ← e14, show w14.toNatClampNeg = w14.toInt.toNat by omega]
                                                            have hjw18 := e_p0 y7_3.toNatClampNeg (by have := t_clamp (i := y7_3) (by omega); omega)
                                                            rw [← e17] at hjw18
                                                            have cw18 : w18 = (s_rh (gl 84) (gi 88)) y7_3.toNatClampNeg := by
                                                              have ck := t_clamp (i := w17) (by omega)
                                                              show _ = gl 84 (gi 88 y7_3.toNatClampNeg).toInt.toNat
                                                              rw [e18, ← e17, show w17.toNatClampNeg = w17.toInt.toNat by omega]
                                                            have k0 : ¬ ((s_rh (gl 84) (gi 88)) y1_2.toNatClampNeg = (s_rh (gl 84) (gi 88)) y7_3.toNatClampNeg) := fun hh => (fun hh => h21 (e20.trans ((lg_cmp_eq _ _).mpr hh))) (by rw [cw15, cw18]; exact hh)
                                                            refine ⟨(j25_0).1, fun c hc h1 h2 => ?_⟩
                                                            by_cases hk : c = y25_4.toNatClampNeg
                                                            · exfalso; omega
                                                            · exact (j25_0).2 c (by omega) h1 h2) rfl
                · have r36 : y25_4.toInt ≠ y1_2.toInt := t_nei h32
                  refine ev_loc f_X12_isCode (nx := 59) rfl rfl rfl rfl ?_
                  refine ev_loc f_X12_isCode (nx := 60) rfl rfl rfl rfl ?_
                  refine ev_if f_X12_isCode (t1 := 104) (t2 := 63) rfl rfl rfl (fun h37 => ?_) (fun h37 => ?_)
                  · have r38 : y25_4.toInt = y7_3.toInt := t_eqi h37
                    have u39 : y25_4.toInt ≤ 2 := t_equ h37 u12
                    refine ev_incR f_X12_isCode (nx := 107) (c := 1) (l := 1) (u := 3) rfl rfl (by decide) (by decide) l25_4 u39 rfl rfl (by decide) (by decide) rfl (fun z40 e40 l40 u40 => ?_)
                    refine ev_jmp f_X12_isCode (nx := 45) rfl rfl rfl ?_
                    refine ev_sub (lo := [(4, .int z40), (3, .int y7_3), (2, .int y1_2), (0, .ref 69), (1, .int ar1)]) rfl (t_sc rfl (t_sc rfl (t_sc rfl (t_sc rfl (t_sc rfl t_sn))))) ?_
                    exact ih25 _ (by omega) (z40) (Int.le_trans (by decide : (0:Int) ≤ 1) l40) (Int.le_trans u40 (by decide : (3:Int) ≤ 4)) (by
                                                            have k_ar1 := t_clamp (i := ar1) (by omega)
                                                            have k_y1_2 := t_clamp (i := y1_2) (by omega)
                                                            have k_y7_3 := t_clamp (i := y7_3) (by omega)
                                                            have k_y25_4 := t_clamp (i := y25_4) (by omega)
                                                            have hjw15 := e_p0 y1_2.toNatClampNeg (by have := t_clamp (i := y1_2) (by omega); omega)
                                                            rw [← e14] at hjw15
                                                            have cw15 : w15 = (s_rh (gl 84) (gi 88)) y1_2.toNatClampNeg := by
                                                              have ck := t_clamp (i := w14) (by omega)
                                                              show _ = gl 84 (gi 88 y1_2.toNatClampNeg).toInt.toNat
                                                              rw [e15, ← e14, show w14.toNatClampNeg = w14.toInt.toNat by omega]
                                                            have hjw18 := e_p0 y7_3.toNatClampNeg (by have := t_clamp (i := y7_3) (by omega); omega)
                                                            rw [← e17] at hjw18
                                                            have cw18 : w18 = (s_rh (gl 84) (gi 88)) y7_3.toNatClampNeg := by
                                                              have ck := t_clamp (i := w17) (by omega)
                                                              show _ = gl 84 (gi 88 y7_3.toNatClampNeg).toInt.toNat
                                                              rw [e18, ← e17, show w17.toNatClampNeg = w17.toInt.toNat by omega]
                                                            have k0 : ¬ ((s_rh (gl 84) (gi 88)) y1_2.toNatClampNeg = (s_rh (gl 84) (gi 88)) y7_3.toNatClampNeg) := fun hh => (fun hh => h21 (e20.trans ((lg_cmp_eq _ _).mpr hh))) (by rw [cw15, cw18]; exact hh)
                                                            refine ⟨(j25_0).1, fun c hc h1 h2 => ?_⟩
                                                            by_cases hk : c = y25_4.toNatClampNeg
                                                            · exfalso; omega
                                                            · exact (j25_0).2 c (by omega) h1 h2) rfl
                  · have r41 : y25_4.toInt ≠ y7_3.toInt := t_nei h37
                    refine ev_loc f_X12_isCode (nx := 64) rfl rfl rfl rfl ?_
                    refine ev_getR f_X12_isCode (nx := 67) rfl (hI.wf.s rfl) rfl rfl (hI.wf.r rfl) rfl rfl ?_
                    refine ev_loc f_X12_isCode (nx := 68) rfl rfl rfl rfl ?_
                    refine ev_getR f_X12_isCode (nx := 71) rfl (hI.wf.s rfl) rfl rfl (hI.wf.r rfl) rfl rfl ?_
                    refine ev_loc f_X12_isCode (nx := 72) rfl rfl rfl rfl ?_
                    refine ev_ialdT f_X12_isCode (nx := 73) rfl (hI.wf.s rfl) l13 (by decide) u6 (by decide) rfl (fun w42 e42 => ?_)
                    rw [e42.trans e14.symm]
                    refine ev_laldT f_X12_isCode (nx := 74) rfl (hI.wf.s rfl) l16 (by decide) u16 (by decide) rfl (fun w43 e43 => ?_)
                    refine ev_loc f_X12_isCode (nx := 75) rfl rfl rfl rfl ?_
                    refine ev_getR f_X12_isCode (nx := 78) rfl (hI.wf.s rfl) rfl rfl (hI.wf.r rfl) rfl rfl ?_
                    refine ev_loc f_X12_isCode (nx := 79) rfl rfl rfl rfl ?_
                    refine ev_getR f_X12_isCode (nx := 82) rfl (hI.wf.s rfl) rfl rfl (hI.wf.r rfl) rfl rfl ?_
                    refine ev_loc f_X12_isCode (nx := 83) rfl rfl rfl rfl ?_
                    refine ev_ialdT f_X12_isCode (nx := 84) rfl (hI.wf.s rfl) l7_3 (by decide) u12 (by decide) rfl (fun w44 e44 => ?_)
                    rw [e44.trans e17.symm]
                    refine ev_laldT f_X12_isCode (nx := 85) rfl (hI.wf.s rfl) l19 (by decide) u19 (by decide) rfl (fun w45 e45 => ?_)
                    refine ev_anyLE f_X12_isCode (nx := 86) rfl rfl rfl rfl (fun z46 e46 => ?_)
                    refine ev_loc f_X12_isCode (nx := 87) rfl rfl rfl rfl ?_
                    refine ev_getR f_X12_isCode (nx := 90) rfl (hI.wf.s rfl) rfl rfl (hI.wf.r rfl) rfl rfl ?_
                    refine ev_loc f_X12_isCode (nx := 91) rfl rfl rfl rfl ?_
                    refine ev_getR f_X12_isCode (nx := 94) rfl (hI.wf.s rfl) rfl rfl (hI.wf.r rfl) rfl rfl ?_
                    refine ev_loc f_X12_isCode (nx := 96) rfl rfl rfl rfl ?_
                    refine ev_ialdT f_X12_isCode (nx := 97) rfl (hI.wf.s rfl) l25_4 (by decide) u31 (by decide) rfl (fun w47 e47 => ?_)
                    obtain ⟨l47, u47⟩ := hI.abi e47 (by decide +kernel : t_abr 88 0 3 (-1) 30 = true) l25_4 (by decide) u31 (by decide)
                    have l49 : (0:Int) ≤ w47.toInt := (by have hc := t_clamp (i := y25_4) (by omega); have hj := e_p0 y25_4.toNatClampNeg (by omega); rw [← e47] at hj; omega)
                    have u49 : w47.toInt ≤ (29:Int) := (by have hc := t_clamp (i := y25_4) (by omega); have hj := e_p0 y25_4.toNatClampNeg (by omega); rw [← e47] at hj; omega)
                    refine ev_laldT f_X12_isCode (nx := 98) rfl (hI.wf.s rfl) l49 (by decide) u49 (by decide) rfl (fun w48 e48 => ?_)
                    refine ev_anyIE f_X12_isCode (nx := 99) rfl rfl rfl rfl (fun z50 e50 => ?_)
                    refine ev_if f_X12_isCode (t1 := 102) (t2 := 104) rfl rfl rfl (fun h51 => ?_) (fun h51 => ?_)
                    · have u52 : z50.toInt ≤ 0 := t_equ h51 (by decide : (0:Int32).toInt ≤ (0:Int))
                      have l53 : 0 ≤ z50.toInt := t_eql h51 (by decide : (0:Int) ≤ (0:Int32).toInt)
                      refine ev_ic f_X12_isCode (nx := 103) (v := 0) rfl (by decide) rfl ?_
                      exact ev_ret f_X12_isCode rfl rfl rfl ⟨_, _, _, rfl, hI, hX, ⟨_, rfl, (by decide : (0:Int) ≤ (0:Int32).toInt), (Int.le_trans (by decide : (0:Int32).toInt ≤ (0:Int)) (by decide : (0:Int) ≤ 1)), (show (0 : Int) = 1 ↔ s_ix (s_rh (gl 84) (gi 88)) ar1.toNatClampNeg from (by
                                                            have k_ar1 := t_clamp (i := ar1) (by omega)
                                                            have k_y1_2 := t_clamp (i := y1_2) (by omega)
                                                            have k_y7_3 := t_clamp (i := y7_3) (by omega)
                                                            have k_y25_4 := t_clamp (i := y25_4) (by omega)
                                                            have hjw15 := e_p0 y1_2.toNatClampNeg (by have := t_clamp (i := y1_2) (by omega); omega)
                                                            rw [← e14] at hjw15
                                                            have cw15 : w15 = (s_rh (gl 84) (gi 88)) y1_2.toNatClampNeg := by
                                                              have ck := t_clamp (i := w14) (by omega)
                                                              show _ = gl 84 (gi 88 y1_2.toNatClampNeg).toInt.toNat
                                                              rw [e15, ← e14, show w14.toNatClampNeg = w14.toInt.toNat by omega]
                                                            have hjw18 := e_p0 y7_3.toNatClampNeg (by have := t_clamp (i := y7_3) (by omega); omega)
                                                            rw [← e17] at hjw18
                                                            have cw18 : w18 = (s_rh (gl 84) (gi 88)) y7_3.toNatClampNeg := by
                                                              have ck := t_clamp (i := w17) (by omega)
                                                              show _ = gl 84 (gi 88 y7_3.toNatClampNeg).toInt.toNat
                                                              rw [e18, ← e17, show w17.toNatClampNeg = w17.toInt.toNat by omega]
                                                            have hjw43 := e_p0 y1_2.toNatClampNeg (by have := t_clamp (i := y1_2) (by omega); omega)
                                                            rw [← e14] at hjw43
                                                            have cw43 : w43 = (s_rh (gl 84) (gi 88)) y1_2.toNatClampNeg := by
                                                              have ck := t_clamp (i := w14) (by omega)
                                                              show _ = gl 84 (gi 88 y1_2.toNatClampNeg).toInt.toNat
                                                              rw [e43, ← e14, show w14.toNatClampNeg = w14.toInt.toNat by omega]
                                                            have hjw45 := e_p0 y7_3.toNatClampNeg (by have := t_clamp (i := y7_3) (by omega); omega)
                                                            rw [← e17] at hjw45
                                                            have cw45 : w45 = (s_rh (gl 84) (gi 88)) y7_3.toNatClampNeg := by
                                                              have ck := t_clamp (i := w17) (by omega)
                                                              show _ = gl 84 (gi 88 y7_3.toNatClampNeg).toInt.toNat
                                                              rw [e45, ← e17, show w17.toNatClampNeg = w17.toInt.toNat by omega]
                                                            have hjw48 := e_p0 y25_4.toNatClampNeg (by have := t_clamp (i := y25_4) (by omega); omega)
                                                            rw [← e47] at hjw48
                                                            have cw48 : w48 = (s_rh (gl 84) (gi 88)) y25_4.toNatClampNeg := by
                                                              have ck := t_clamp (i := w47) (by omega)
                                                              show _ = gl 84 (gi 88 y25_4.toNatClampNeg).toInt.toNat
                                                              rw [e48, ← e47, show w47.toNatClampNeg = w47.toInt.toNat by omega]
                                                            have k0 : ¬ ((s_rh (gl 84) (gi 88)) y1_2.toNatClampNeg = (s_rh (gl 84) (gi 88)) y7_3.toNatClampNeg) := fun hh => (fun hh => h21 (e20.trans ((lg_cmp_eq _ _).mpr hh))) (by rw [cw15, cw18]; exact hh)
                                                            have k1 : ((s_rh (gl 84) (gi 88)) y1_2.toNatClampNeg ||| (s_rh (gl 84) (gi 88)) y7_3.toNatClampNeg) = (s_rh (gl 84) (gi 88)) y25_4.toNatClampNeg := by have hh := ((lg_cmp_eq _ _).mp (e50.symm.trans h51)); rw [e46, cw43, cw45, cw48] at hh; exact hh
                                                            exact ⟨fun hh => absurd hh (by decide), fun hh => absurd k1 ((hh y1_2.toNatClampNeg (by omega) y7_3.toNatClampNeg (by omega)).2 y25_4.toNatClampNeg (by omega) (by omega) (by omega))⟩))⟩⟩
                    · have r54 : z50.toInt ≠ 0 := fun e => h51 (Int32.toInt_inj.mp (e.trans (by decide : (0:Int) = (0 : Int32).toInt)))
                      refine ev_incR f_X12_isCode (nx := 107) (c := 1) (l := 1) (u := 4) rfl rfl (by decide) (by decide) l25_4 u31 rfl rfl (by decide) (by decide) rfl (fun z55 e55 l55 u55 => ?_)
                      refine ev_jmp f_X12_isCode (nx := 45) rfl rfl rfl ?_
                      refine ev_sub (lo := [(4, .int z55), (3, .int y7_3), (2, .int y1_2), (0, .ref 69), (1, .int ar1)]) rfl (t_sc rfl (t_sc rfl (t_sc rfl (t_sc rfl (t_sc rfl t_sn))))) ?_
                      exact ih25 _ (by omega) (z55) (Int.le_trans (by decide : (0:Int) ≤ 1) l55) u55 (by
                                                            have k_ar1 := t_clamp (i := ar1) (by omega)
                                                            have k_y1_2 := t_clamp (i := y1_2) (by omega)
                                                            have k_y7_3 := t_clamp (i := y7_3) (by omega)
                                                            have k_y25_4 := t_clamp (i := y25_4) (by omega)
                                                            have hjw15 := e_p0 y1_2.toNatClampNeg (by have := t_clamp (i := y1_2) (by omega); omega)
                                                            rw [← e14] at hjw15
                                                            have cw15 : w15 = (s_rh (gl 84) (gi 88)) y1_2.toNatClampNeg := by
                                                              have ck := t_clamp (i := w14) (by omega)
                                                              show _ = gl 84 (gi 88 y1_2.toNatClampNeg).toInt.toNat
                                                              rw [e15, ← e14, show w14.toNatClampNeg = w14.toInt.toNat by omega]
                                                            have hjw18 := e_p0 y7_3.toNatClampNeg (by have := t_clamp (i := y7_3) (by omega); omega)
                                                            rw [← e17] at hjw18
                                                            have cw18 : w18 = (s_rh (gl 84) (gi 88)) y7_3.toNatClampNeg := by
                                                              have ck := t_clamp (i := w17) (by omega)
                                                              show _ = gl 84 (gi 88 y7_3.toNatClampNeg).toInt.toNat
                                                              rw [e18, ← e17, show w17.toNatClampNeg = w17.toInt.toNat by omega]
                                                            have hjw43 := e_p0 y1_2.toNatClampNeg (by have := t_clamp (i := y1_2) (by omega); omega)
                                                            rw [← e14] at hjw43
                                                            have cw43 : w43 = (s_rh (gl 84) (gi 88)) y1_2.toNatClampNeg := by
                                                              have ck := t_clamp (i := w14) (by omega)
                                                              show _ = gl 84 (gi 88 y1_2.toNatClampNeg).toInt.toNat
                                                              rw [e43, ← e14, show w14.toNatClampNeg = w14.toInt.toNat by omega]
                                                            have hjw45 := e_p0 y7_3.toNatClampNeg (by have := t_clamp (i := y7_3) (by omega); omega)
                                                            rw [← e17] at hjw45
                                                            have cw45 : w45 = (s_rh (gl 84) (gi 88)) y7_3.toNatClampNeg := by
                                                              have ck := t_clamp (i := w17) (by omega)
                                                              show _ = gl 84 (gi 88 y7_3.toNatClampNeg).toInt.toNat
                                                              rw [e45, ← e17, show w17.toNatClampNeg = w17.toInt.toNat by omega]
                                                            have hjw48 := e_p0 y25_4.toNatClampNeg (by have := t_clamp (i := y25_4) (by omega); omega)
                                                            rw [← e47] at hjw48
                                                            have cw48 : w48 = (s_rh (gl 84) (gi 88)) y25_4.toNatClampNeg := by
                                                              have ck := t_clamp (i := w47) (by omega)
                                                              show _ = gl 84 (gi 88 y25_4.toNatClampNeg).toInt.toNat
                                                              rw [e48, ← e47, show w47.toNatClampNeg = w47.toInt.toNat by omega]
                                                            have k0 : ¬ ((s_rh (gl 84) (gi 88)) y1_2.toNatClampNeg = (s_rh (gl 84) (gi 88)) y7_3.toNatClampNeg) := fun hh => (fun hh => h21 (e20.trans ((lg_cmp_eq _ _).mpr hh))) (by rw [cw15, cw18]; exact hh)
                                                            have k1 : ¬ (((s_rh (gl 84) (gi 88)) y1_2.toNatClampNeg ||| (s_rh (gl 84) (gi 88)) y7_3.toNatClampNeg) = (s_rh (gl 84) (gi 88)) y25_4.toNatClampNeg) := fun hh => (fun hh => h51 (e50.trans ((lg_cmp_eq _ _).mpr hh))) (by rw [e46, cw43, cw45, cw48]; exact hh)
                                                            refine ⟨(j25_0).1, fun c hc h1 h2 => ?_⟩
                                                            by_cases hk : c = y25_4.toNatClampNeg
                                                            · subst hk
                                                              exact k1
                                                            · exact (j25_0).2 c (by omega) h1 h2) rfl
            refine ev_sub (lo := [(4, .int 0), (3, .int y7_3), (2, .int y1_2), (0, .ref 69), (1, .int ar1)]) rfl (t_sc rfl (t_sc rfl (t_sc rfl (t_sc rfl (t_sc rfl t_sn))))) ?_
            exact L25 _ (0) (by decide : (0:Int) ≤ (0:Int32).toInt) (Int.le_trans (by decide : (0:Int32).toInt ≤ (0:Int)) (by decide : (0:Int) ≤ 4)) (by
                                                            have k_ar1 := t_clamp (i := ar1) (by omega)
                                                            have k_y1_2 := t_clamp (i := y1_2) (by omega)
                                                            have k_y7_3 := t_clamp (i := y7_3) (by omega)
                                                            have hjw15 := e_p0 y1_2.toNatClampNeg (by have := t_clamp (i := y1_2) (by omega); omega)
                                                            rw [← e14] at hjw15
                                                            have cw15 : w15 = (s_rh (gl 84) (gi 88)) y1_2.toNatClampNeg := by
                                                              have ck := t_clamp (i := w14) (by omega)
                                                              show _ = gl 84 (gi 88 y1_2.toNatClampNeg).toInt.toNat
                                                              rw [e15, ← e14, show w14.toNatClampNeg = w14.toInt.toNat by omega]
                                                            have hjw18 := e_p0 y7_3.toNatClampNeg (by have := t_clamp (i := y7_3) (by omega); omega)
                                                            rw [← e17] at hjw18
                                                            have cw18 : w18 = (s_rh (gl 84) (gi 88)) y7_3.toNatClampNeg := by
                                                              have ck := t_clamp (i := w17) (by omega)
                                                              show _ = gl 84 (gi 88 y7_3.toNatClampNeg).toInt.toNat
                                                              rw [e18, ← e17, show w17.toNatClampNeg = w17.toInt.toNat by omega]
                                                            have k0 : ¬ ((s_rh (gl 84) (gi 88)) y1_2.toNatClampNeg = (s_rh (gl 84) (gi 88)) y7_3.toNatClampNeg) := fun hh => (fun hh => h21 (e20.trans ((lg_cmp_eq _ _).mpr hh))) (by rw [cw15, cw18]; exact hh)
                                                            exact ⟨k0, fun c hc => absurd hc (by have z0 : (0 : Int32).toInt = 0 := rfl; omega)⟩) rfl
      refine ev_sub (lo := [(3, .int 0), (2, .int y1_2), (0, .ref 69), (1, .int ar1)]) rfl (t_sc rfl (t_sc rfl (t_sc rfl (t_sc rfl t_sn)))) ?_
      exact L7 _ (0) (by decide : (0:Int) ≤ (0:Int32).toInt) (Int.le_trans (by decide : (0:Int32).toInt ≤ (0:Int)) (by decide : (0:Int) ≤ 3)) (fun b hb => absurd hb (by have z0 : (0 : Int32).toInt = 0 := rfl; omega)) rfl
  refine ev_sub (lo := [(2, .int 0), (0, .ref 69), (1, .int ar1)]) rfl (t_sc rfl (t_sc rfl (t_sc rfl t_sn))) ?_
  exact L1 _ (0) (by decide : (0:Int) ≤ (0:Int32).toInt) (Int.le_trans (by decide : (0:Int32).toInt ≤ (0:Int)) (by decide : (0:Int) ≤ 4)) (fun a ha => absurd ha (by have z0 : (0 : Int32).toInt = 0 := rfl; omega)) rfl
noncomputable def wl_e_code : List (Nat × Nat) := [(69, 2), (69, 39), (69, 40), (70, 175211755), (84, 9999), (85, 9999), (86, 9999), (87, 9999), (88, 10000), (88, 10003), (88, 110004)]
noncomputable def Q_e_code (gi : Nat → Nat → Int32) (gl : Nat → Nat → Int64) (gr : Nat → Nat → Value) (ar1 : Int32) (ar2 : Int32) (ar3 : Int32) : Int32 → (Nat → Nat → Int32) → (Nat → Nat → Int64) → (Nat → Nat → Value) → Prop := fun (v : Int32) (gi2 : Nat → Nat → Int32) (gl2 : Nat → Nat → Int64) (gr2 : Nat → Nat → Value) => ((1 ≤ ar1.toInt ∧ ar1.toInt ≤ 4 ∧ 1 ≤ ar2.toInt ∧ ar2.toInt ≤ 4 ∧ 0 ≤ ar3.toInt ∧ ar3.toInt ≤ 9) → (∃ L : List Nat, s_X (s_ch ar3.toInt) (s_cE ar2.toNatClampNeg) ar1.toNatClampNeg [] 0 = some L ∧ (L.length : Int) = ar1.toInt ∧ s_RW (gi2 88) L ∧ (gi2 69 40).toInt = ar1.toInt ∧ (∀ i : Nat, (i : Int) < ar1.toInt → gl2 86 i = s_cL (gi2 88 i).toInt.toNat) ∧ v = s_sI (fun i => gi2 87 (gi2 88 i).toInt.toNat) ar1.toNatClampNeg ∧ (∀ x, x ∈ L → x < s_cE ar2.toNatClampNeg) ∧ ∀ k : Nat, k < s_cE ar2.toNatClampNeg → (gi2 87 k).toInt = (s_cn k : Nat)) ∨ (s_X (s_ch ar3.toInt) (s_cE ar2.toNatClampNeg) ar1.toNatClampNeg [] 0 = none ∧ v.toInt = -1 ∧ gl2 86 = gl 86 ∧ gi2 69 40 = gi 69 40)) ∧ (¬ (1 ≤ ar1.toInt ∧ ar1.toInt ≤ 4 ∧ 1 ≤ ar2.toInt ∧ ar2.toInt ≤ 4 ∧ 0 ≤ ar3.toInt ∧ ar3.toInt ≤ 9) → v.toInt = -1 ∧ gl2 86 = gl 86 ∧ gi2 69 40 = gi 69 40)
theorem c_e_code {X : x_Ext} {d : Nat} {sh : List (Nat ⊕ (Nat × Nat))} {gi : Nat → Nat → Int32} {gl : Nat → Nat → Int64} {gr : Nat → Nat → Value} (hI : t_I sh gi gr) (ar1 : Int32) (ar2 : Int32) (ar3 : Int32) : x_Me X (d + 3) n_X12_code [.ref 69, .int ar1, .int ar2, .int ar3] (sh, gi, gl, gr) (t_PI wl_e_code sh gi gl gr (-2147483648) 2147483647 (Q_e_code gi gl gr ar1 ar2 ar3)) := by
  have hX : t_X wl_e_code sh gi gl gr gi gl gr := t_X.rf
  refine me_i f_X12_code (hI.wf.s rfl) rfl rfl rfl ?_
  obtain ⟨l1, u1⟩ := hI.b (hI.wf.s (k := 69) rfl) (t_bdK rfl : t_bd 11 39 = some (0, 30))
  obtain ⟨l2, u2⟩ := hI.b (hI.wf.s (k := 69) rfl) (t_bdK rfl : t_bd 11 40 = some (0, 4))
  refine ev_loc f_X12_code (nx := 1) rfl rfl rfl rfl ?_
  refine ev_anyLE f_X12_code (nx := 2) rfl rfl rfl rfl (fun z3 e3 => ?_)
  have i3 : z3.toInt = ar1.toInt := by rw [e3]; exact Int32.toInt_toInt64 _
  refine ev_lc f_X12_code (nx := 3) (v := 1) rfl (by decide) rfl ?_
  refine ev_ldL f_X12_code (nx := 6) (v := 4) rfl (by decide) rfl ?_
  refine ev_inS3 f_X12_code (nx := 9) (lo2 := [(0, .long z3), (2, .long 1), (4, .long 4)]) rfl rfl rfl rfl f_X12_isFrom rfl rfl rfl rfl ?_
  refine ev_loc f_X12_isFrom (nx := 1) rfl rfl rfl rfl ?_
  refine ev_loc f_X12_isFrom (nx := 2) rfl rfl rfl rfl ?_
  refine ev_anyIE f_X12_isFrom (nx := 3) rfl rfl rfl rfl (fun z4 e4 => ?_)
  refine ev_if f_X12_isFrom (t1 := 17) (t2 := 6) rfl rfl rfl (fun h5 => ?_) (fun h5 => ?_)
  · have u6 : ar1.toInt ≤ (0:Int) := Int.le_sub_one_of_lt ((lgc_lt (by decide : (1 : Int64).toInt = 1)).mp (by have hh := h5; rw [e4, e3] at hh; exact hh))
    have u7 : z4.toInt ≤ (-1) := t_ltu h5 (by decide : (0:Int32).toInt ≤ (0:Int)) rfl
    refine ev_ic f_X12_isFrom (nx := 18) (v := 0) rfl (by decide) rfl ?_
    refine ev_retK1 f_X12_isFrom rfl rfl rfl ?_
    refine ev_t f_X12_code (t1 := 36) (t2 := 12) rfl rfl rfl (by decide) ?_
    refine ev_loc f_X12_code (nx := 37) rfl rfl rfl rfl ?_
    refine ev_ic f_X12_code (nx := 38) (v := 1) rfl (by decide) rfl ?_
    refine ev_inV2 f_X12_code (nx := 41) (lo2 := [(0, .ref 69), (1, .int 1)]) rfl rfl rfl rfl f_X12_refuse (hI.wf.s rfl) rfl rfl rfl rfl rfl ?_
    refine ev_loc f_X12_refuse (nx := 1) rfl rfl rfl rfl ?_
    refine ev_loc f_X12_refuse (nx := 2) rfl rfl rfl rfl ?_
    refine ev_putIT f_X12_refuse (nx := 5) rfl (hI.wf.s rfl) rfl rfl rfl (hI.put0 (hI.wf.s rfl) rfl rfl) (hX.upI rfl) (fun g8 e8 hI hX => ?_)
    refine ev_ic f_X12_refuse (nx := 6) (v := -1) rfl (by decide) rfl ?_
    refine ev_retK1 f_X12_refuse rfl rfl rfl ?_
    exact ev_ret f_X12_code rfl rfl rfl ⟨_, _, _, rfl, hI, hX, ⟨_, rfl, (Int.le_trans (by decide : ((-2147483648):Int) ≤ (-1)) (by decide : ((-1):Int) ≤ ((-1):Int32).toInt)), (Int.le_trans (by decide : ((-1):Int32).toInt ≤ ((-1):Int)) (by decide : ((-1):Int) ≤ 2147483647)), (show ((1 ≤ ar1.toInt ∧ ar1.toInt ≤ 4 ∧ 1 ≤ ar2.toInt ∧ ar2.toInt ≤ 4 ∧ 0 ≤ ar3.toInt ∧ ar3.toInt ≤ 9) → (∃ L : List Nat, s_X (s_ch ar3.toInt) (s_cE ar2.toNatClampNeg) ar1.toNatClampNeg [] 0 = some L ∧ (L.length : Int) = ar1.toInt ∧ s_RW (g8 88) L ∧ (g8 69 40).toInt = ar1.toInt ∧ (∀ i : Nat, (i : Int) < ar1.toInt → gl 86 i = s_cL (g8 88 i).toInt.toNat) ∧ ((-1) : Int32) = s_sI (fun i => g8 87 (g8 88 i).toInt.toNat) ar1.toNatClampNeg ∧ (∀ x, x ∈ L → x < s_cE ar2.toNatClampNeg) ∧ ∀ k : Nat, k < s_cE ar2.toNatClampNeg → (g8 87 k).toInt = (s_cn k : Nat)) ∨ (s_X (s_ch ar3.toInt) (s_cE ar2.toNatClampNeg) ar1.toNatClampNeg [] 0 = none ∧ ((-1) : Int) = -1 ∧ gl 86 = gl 86 ∧ g8 69 40 = gi 69 40)) ∧ (¬ (1 ≤ ar1.toInt ∧ ar1.toInt ≤ 4 ∧ 1 ≤ ar2.toInt ∧ ar2.toInt ≤ 4 ∧ 0 ≤ ar3.toInt ∧ ar3.toInt ≤ 9) → ((-1) : Int) = -1 ∧ gl 86 = gl 86 ∧ g8 69 40 = gi 69 40) from ⟨fun h => absurd h (by omega), fun _ => ⟨rfl, rfl, by rw [e8]; exact x_up2_off (Or.inr (by decide))⟩⟩)⟩⟩
  · have l9 : (1:Int) ≤ ar1.toInt := (lgc_ge (by decide : (1 : Int64).toInt = 1)).mp (by have hh := (t_nlt h5); rw [e4, e3] at hh; exact hh)
    have l10 : 0 ≤ z4.toInt := t_lel (t_nlt h5) (by decide : (0:Int) ≤ (0:Int32).toInt)
    refine ev_loc f_X12_isFrom (nx := 7) rfl rfl rfl rfl ?_
    refine ev_loc f_X12_isFrom (nx := 9) rfl rfl rfl rfl ?_
    refine ev_anyIE f_X12_isFrom (nx := 10) rfl rfl rfl rfl (fun z11 e11 => ?_)
    refine ev_if f_X12_isFrom (t1 := 17) (t2 := 13) rfl rfl rfl (fun h12 => ?_) (fun h12 => ?_)
    · have l13 : (5:Int) ≤ ar1.toInt := Int.add_one_le_of_lt ((lgc_gt (by decide : (4 : Int64).toInt = 4)).mp (by have hh := h12; rw [e11, e3] at hh; exact hh))
      have l14 : 1 ≤ z11.toInt := t_ltl h12 (by decide : (0:Int) ≤ (0:Int32).toInt) rfl
      refine ev_ic f_X12_isFrom (nx := 18) (v := 0) rfl (by decide) rfl ?_
      refine ev_retK1 f_X12_isFrom rfl rfl rfl ?_
      refine ev_t f_X12_code (t1 := 36) (t2 := 12) rfl rfl rfl (by decide) ?_
      refine ev_loc f_X12_code (nx := 37) rfl rfl rfl rfl ?_
      refine ev_ic f_X12_code (nx := 38) (v := 1) rfl (by decide) rfl ?_
      refine ev_inV2 f_X12_code (nx := 41) (lo2 := [(0, .ref 69), (1, .int 1)]) rfl rfl rfl rfl f_X12_refuse (hI.wf.s rfl) rfl rfl rfl rfl rfl ?_
      refine ev_loc f_X12_refuse (nx := 1) rfl rfl rfl rfl ?_
      refine ev_loc f_X12_refuse (nx := 2) rfl rfl rfl rfl ?_
      refine ev_putIT f_X12_refuse (nx := 5) rfl (hI.wf.s rfl) rfl rfl rfl (hI.put0 (hI.wf.s rfl) rfl rfl) (hX.upI rfl) (fun g15 e15 hI hX => ?_)
      refine ev_ic f_X12_refuse (nx := 6) (v := -1) rfl (by decide) rfl ?_
      refine ev_retK1 f_X12_refuse rfl rfl rfl ?_
      exact ev_ret f_X12_code rfl rfl rfl ⟨_, _, _, rfl, hI, hX, ⟨_, rfl, (Int.le_trans (by decide : ((-2147483648):Int) ≤ (-1)) (by decide : ((-1):Int) ≤ ((-1):Int32).toInt)), (Int.le_trans (by decide : ((-1):Int32).toInt ≤ ((-1):Int)) (by decide : ((-1):Int) ≤ 2147483647)), (show ((1 ≤ ar1.toInt ∧ ar1.toInt ≤ 4 ∧ 1 ≤ ar2.toInt ∧ ar2.toInt ≤ 4 ∧ 0 ≤ ar3.toInt ∧ ar3.toInt ≤ 9) → (∃ L : List Nat, s_X (s_ch ar3.toInt) (s_cE ar2.toNatClampNeg) ar1.toNatClampNeg [] 0 = some L ∧ (L.length : Int) = ar1.toInt ∧ s_RW (g15 88) L ∧ (g15 69 40).toInt = ar1.toInt ∧ (∀ i : Nat, (i : Int) < ar1.toInt → gl 86 i = s_cL (g15 88 i).toInt.toNat) ∧ ((-1) : Int32) = s_sI (fun i => g15 87 (g15 88 i).toInt.toNat) ar1.toNatClampNeg ∧ (∀ x, x ∈ L → x < s_cE ar2.toNatClampNeg) ∧ ∀ k : Nat, k < s_cE ar2.toNatClampNeg → (g15 87 k).toInt = (s_cn k : Nat)) ∨ (s_X (s_ch ar3.toInt) (s_cE ar2.toNatClampNeg) ar1.toNatClampNeg [] 0 = none ∧ ((-1) : Int) = -1 ∧ gl 86 = gl 86 ∧ g15 69 40 = gi 69 40)) ∧ (¬ (1 ≤ ar1.toInt ∧ ar1.toInt ≤ 4 ∧ 1 ≤ ar2.toInt ∧ ar2.toInt ≤ 4 ∧ 0 ≤ ar3.toInt ∧ ar3.toInt ≤ 9) → ((-1) : Int) = -1 ∧ gl 86 = gl 86 ∧ g15 69 40 = gi 69 40) from ⟨fun h => absurd h (by omega), fun _ => ⟨rfl, rfl, by rw [e15]; exact x_up2_off (Or.inr (by decide))⟩⟩)⟩⟩
    · have u16 : ar1.toInt ≤ (4:Int) := (lgc_le (by decide : (4 : Int64).toInt = 4)).mp (by have hh := (t_nlt h12); rw [e11, e3] at hh; exact hh)
      have u17 : z11.toInt ≤ 0 := t_leu (t_nlt h12) (by decide : (0:Int32).toInt ≤ (0:Int))
      refine ev_ic f_X12_isFrom (nx := 14) (v := 1) rfl (by decide) rfl ?_
      refine ev_jmp f_X12_isFrom (nx := 18) rfl rfl rfl ?_
      refine ev_retK1 f_X12_isFrom rfl rfl rfl ?_
      refine ev_f f_X12_code (t1 := 36) (t2 := 12) rfl rfl rfl (by decide) ?_
      refine ev_loc f_X12_code (nx := 13) rfl rfl rfl rfl ?_
      refine ev_anyLE f_X12_code (nx := 14) rfl rfl rfl rfl (fun z18 e18 => ?_)
      have i18 : z18.toInt = ar2.toInt := by rw [e18]; exact Int32.toInt_toInt64 _
      refine ev_lc f_X12_code (nx := 15) (v := 1) rfl (by decide) rfl ?_
      refine ev_ldL f_X12_code (nx := 18) (v := 4) rfl (by decide) rfl ?_
      refine ev_inS3 f_X12_code (nx := 21) (lo2 := [(0, .long z18), (2, .long 1), (4, .long 4)]) rfl rfl rfl rfl f_X12_isFrom rfl rfl rfl rfl ?_
      refine ev_loc f_X12_isFrom (nx := 1) rfl rfl rfl rfl ?_
      refine ev_loc f_X12_isFrom (nx := 2) rfl rfl rfl rfl ?_
      refine ev_anyIE f_X12_isFrom (nx := 3) rfl rfl rfl rfl (fun z19 e19 => ?_)
      refine ev_if f_X12_isFrom (t1 := 17) (t2 := 6) rfl rfl rfl (fun h20 => ?_) (fun h20 => ?_)
      · have u21 : ar2.toInt ≤ (0:Int) := Int.le_sub_one_of_lt ((lgc_lt (by decide : (1 : Int64).toInt = 1)).mp (by have hh := h20; rw [e19, e18] at hh; exact hh))
        have u22 : z19.toInt ≤ (-1) := t_ltu h20 (by decide : (0:Int32).toInt ≤ (0:Int)) rfl
        refine ev_ic f_X12_isFrom (nx := 18) (v := 0) rfl (by decide) rfl ?_
        refine ev_retK1 f_X12_isFrom rfl rfl rfl ?_
        refine ev_t f_X12_code (t1 := 36) (t2 := 24) rfl rfl rfl (by decide) ?_
        refine ev_loc f_X12_code (nx := 37) rfl rfl rfl rfl ?_
        refine ev_ic f_X12_code (nx := 38) (v := 1) rfl (by decide) rfl ?_
        refine ev_inV2 f_X12_code (nx := 41) (lo2 := [(0, .ref 69), (1, .int 1)]) rfl rfl rfl rfl f_X12_refuse (hI.wf.s rfl) rfl rfl rfl rfl rfl ?_
        refine ev_loc f_X12_refuse (nx := 1) rfl rfl rfl rfl ?_
        refine ev_loc f_X12_refuse (nx := 2) rfl rfl rfl rfl ?_
        refine ev_putIT f_X12_refuse (nx := 5) rfl (hI.wf.s rfl) rfl rfl rfl (hI.put0 (hI.wf.s rfl) rfl rfl) (hX.upI rfl) (fun g23 e23 hI hX => ?_)
        refine ev_ic f_X12_refuse (nx := 6) (v := -1) rfl (by decide) rfl ?_
        refine ev_retK1 f_X12_refuse rfl rfl rfl ?_
        exact ev_ret f_X12_code rfl rfl rfl ⟨_, _, _, rfl, hI, hX, ⟨_, rfl, (Int.le_trans (by decide : ((-2147483648):Int) ≤ (-1)) (by decide : ((-1):Int) ≤ ((-1):Int32).toInt)), (Int.le_trans (by decide : ((-1):Int32).toInt ≤ ((-1):Int)) (by decide : ((-1):Int) ≤ 2147483647)), (show ((1 ≤ ar1.toInt ∧ ar1.toInt ≤ 4 ∧ 1 ≤ ar2.toInt ∧ ar2.toInt ≤ 4 ∧ 0 ≤ ar3.toInt ∧ ar3.toInt ≤ 9) → (∃ L : List Nat, s_X (s_ch ar3.toInt) (s_cE ar2.toNatClampNeg) ar1.toNatClampNeg [] 0 = some L ∧ (L.length : Int) = ar1.toInt ∧ s_RW (g23 88) L ∧ (g23 69 40).toInt = ar1.toInt ∧ (∀ i : Nat, (i : Int) < ar1.toInt → gl 86 i = s_cL (g23 88 i).toInt.toNat) ∧ ((-1) : Int32) = s_sI (fun i => g23 87 (g23 88 i).toInt.toNat) ar1.toNatClampNeg ∧ (∀ x, x ∈ L → x < s_cE ar2.toNatClampNeg) ∧ ∀ k : Nat, k < s_cE ar2.toNatClampNeg → (g23 87 k).toInt = (s_cn k : Nat)) ∨ (s_X (s_ch ar3.toInt) (s_cE ar2.toNatClampNeg) ar1.toNatClampNeg [] 0 = none ∧ ((-1) : Int) = -1 ∧ gl 86 = gl 86 ∧ g23 69 40 = gi 69 40)) ∧ (¬ (1 ≤ ar1.toInt ∧ ar1.toInt ≤ 4 ∧ 1 ≤ ar2.toInt ∧ ar2.toInt ≤ 4 ∧ 0 ≤ ar3.toInt ∧ ar3.toInt ≤ 9) → ((-1) : Int) = -1 ∧ gl 86 = gl 86 ∧ g23 69 40 = gi 69 40) from ⟨fun h => absurd h (by omega), fun _ => ⟨rfl, rfl, by rw [e23]; exact x_up2_off (Or.inr (by decide))⟩⟩)⟩⟩
      · have l24 : (1:Int) ≤ ar2.toInt := (lgc_ge (by decide : (1 : Int64).toInt = 1)).mp (by have hh := (t_nlt h20); rw [e19, e18] at hh; exact hh)
        have l25 : 0 ≤ z19.toInt := t_lel (t_nlt h20) (by decide : (0:Int) ≤ (0:Int32).toInt)
        refine ev_loc f_X12_isFrom (nx := 7) rfl rfl rfl rfl ?_
        refine ev_loc f_X12_isFrom (nx := 9) rfl rfl rfl rfl ?_
        refine ev_anyIE f_X12_isFrom (nx := 10) rfl rfl rfl rfl (fun z26 e26 => ?_)
        refine ev_if f_X12_isFrom (t1 := 17) (t2 := 13) rfl rfl rfl (fun h27 => ?_) (fun h27 => ?_)
        · have l28 : (5:Int) ≤ ar2.toInt := Int.add_one_le_of_lt ((lgc_gt (by decide : (4 : Int64).toInt = 4)).mp (by have hh := h27; rw [e26, e18] at hh; exact hh))
          have l29 : 1 ≤ z26.toInt := t_ltl h27 (by decide : (0:Int) ≤ (0:Int32).toInt) rfl
          refine ev_ic f_X12_isFrom (nx := 18) (v := 0) rfl (by decide) rfl ?_
          refine ev_retK1 f_X12_isFrom rfl rfl rfl ?_
          refine ev_t f_X12_code (t1 := 36) (t2 := 24) rfl rfl rfl (by decide) ?_
          refine ev_loc f_X12_code (nx := 37) rfl rfl rfl rfl ?_
          refine ev_ic f_X12_code (nx := 38) (v := 1) rfl (by decide) rfl ?_
          refine ev_inV2 f_X12_code (nx := 41) (lo2 := [(0, .ref 69), (1, .int 1)]) rfl rfl rfl rfl f_X12_refuse (hI.wf.s rfl) rfl rfl rfl rfl rfl ?_
          refine ev_loc f_X12_refuse (nx := 1) rfl rfl rfl rfl ?_
          refine ev_loc f_X12_refuse (nx := 2) rfl rfl rfl rfl ?_
          refine ev_putIT f_X12_refuse (nx := 5) rfl (hI.wf.s rfl) rfl rfl rfl (hI.put0 (hI.wf.s rfl) rfl rfl) (hX.upI rfl) (fun g30 e30 hI hX => ?_)
          refine ev_ic f_X12_refuse (nx := 6) (v := -1) rfl (by decide) rfl ?_
          refine ev_retK1 f_X12_refuse rfl rfl rfl ?_
          exact ev_ret f_X12_code rfl rfl rfl ⟨_, _, _, rfl, hI, hX, ⟨_, rfl, (Int.le_trans (by decide : ((-2147483648):Int) ≤ (-1)) (by decide : ((-1):Int) ≤ ((-1):Int32).toInt)), (Int.le_trans (by decide : ((-1):Int32).toInt ≤ ((-1):Int)) (by decide : ((-1):Int) ≤ 2147483647)), (show ((1 ≤ ar1.toInt ∧ ar1.toInt ≤ 4 ∧ 1 ≤ ar2.toInt ∧ ar2.toInt ≤ 4 ∧ 0 ≤ ar3.toInt ∧ ar3.toInt ≤ 9) → (∃ L : List Nat, s_X (s_ch ar3.toInt) (s_cE ar2.toNatClampNeg) ar1.toNatClampNeg [] 0 = some L ∧ (L.length : Int) = ar1.toInt ∧ s_RW (g30 88) L ∧ (g30 69 40).toInt = ar1.toInt ∧ (∀ i : Nat, (i : Int) < ar1.toInt → gl 86 i = s_cL (g30 88 i).toInt.toNat) ∧ ((-1) : Int32) = s_sI (fun i => g30 87 (g30 88 i).toInt.toNat) ar1.toNatClampNeg ∧ (∀ x, x ∈ L → x < s_cE ar2.toNatClampNeg) ∧ ∀ k : Nat, k < s_cE ar2.toNatClampNeg → (g30 87 k).toInt = (s_cn k : Nat)) ∨ (s_X (s_ch ar3.toInt) (s_cE ar2.toNatClampNeg) ar1.toNatClampNeg [] 0 = none ∧ ((-1) : Int) = -1 ∧ gl 86 = gl 86 ∧ g30 69 40 = gi 69 40)) ∧ (¬ (1 ≤ ar1.toInt ∧ ar1.toInt ≤ 4 ∧ 1 ≤ ar2.toInt ∧ ar2.toInt ≤ 4 ∧ 0 ≤ ar3.toInt ∧ ar3.toInt ≤ 9) → ((-1) : Int) = -1 ∧ gl 86 = gl 86 ∧ g30 69 40 = gi 69 40) from ⟨fun h => absurd h (by omega), fun _ => ⟨rfl, rfl, by rw [e30]; exact x_up2_off (Or.inr (by decide))⟩⟩)⟩⟩
        · have u31 : ar2.toInt ≤ (4:Int) := (lgc_le (by decide : (4 : Int64).toInt = 4)).mp (by have hh := (t_nlt h27); rw [e26, e18] at hh; exact hh)
          have u32 : z26.toInt ≤ 0 := t_leu (t_nlt h27) (by decide : (0:Int32).toInt ≤ (0:Int))
          refine ev_ic f_X12_isFrom (nx := 14) (v := 1) rfl (by decide) rfl ?_
          refine ev_jmp f_X12_isFrom (nx := 18) rfl rfl rfl ?_
          refine ev_retK1 f_X12_isFrom rfl rfl rfl ?_
          refine ev_f f_X12_code (t1 := 36) (t2 := 24) rfl rfl rfl (by decide) ?_
          refine ev_loc f_X12_code (nx := 25) rfl rfl rfl rfl ?_
          refine ev_anyLE f_X12_code (nx := 26) rfl rfl rfl rfl (fun z33 e33 => ?_)
          have i33 : z33.toInt = ar3.toInt := by rw [e33]; exact Int32.toInt_toInt64 _
          refine ev_lc f_X12_code (nx := 27) (v := 0) rfl (by decide) rfl ?_
          refine ev_ldL f_X12_code (nx := 30) (v := 9) rfl (by decide) rfl ?_
          refine ev_inS3 f_X12_code (nx := 33) (lo2 := [(0, .long z33), (2, .long 0), (4, .long 9)]) rfl rfl rfl rfl f_X12_isFrom rfl rfl rfl rfl ?_
          refine ev_loc f_X12_isFrom (nx := 1) rfl rfl rfl rfl ?_
          refine ev_loc f_X12_isFrom (nx := 2) rfl rfl rfl rfl ?_
          refine ev_anyIE f_X12_isFrom (nx := 3) rfl rfl rfl rfl (fun z34 e34 => ?_)
          refine ev_if f_X12_isFrom (t1 := 17) (t2 := 6) rfl rfl rfl (fun h35 => ?_) (fun h35 => ?_)
          · have u36 : ar3.toInt ≤ ((-1):Int) := Int.le_sub_one_of_lt ((lgc_lt (by decide : (0 : Int64).toInt = 0)).mp (by have hh := h35; rw [e34, e33] at hh; exact hh))
            have u37 : z34.toInt ≤ (-1) := t_ltu h35 (by decide : (0:Int32).toInt ≤ (0:Int)) rfl
            refine ev_ic f_X12_isFrom (nx := 18) (v := 0) rfl (by decide) rfl ?_
            refine ev_retK1 f_X12_isFrom rfl rfl rfl ?_
            refine ev_t f_X12_code (t1 := 36) (t2 := 42) rfl rfl rfl (by decide) ?_
            refine ev_loc f_X12_code (nx := 37) rfl rfl rfl rfl ?_
            refine ev_ic f_X12_code (nx := 38) (v := 1) rfl (by decide) rfl ?_
            refine ev_inV2 f_X12_code (nx := 41) (lo2 := [(0, .ref 69), (1, .int 1)]) rfl rfl rfl rfl f_X12_refuse (hI.wf.s rfl) rfl rfl rfl rfl rfl ?_
            refine ev_loc f_X12_refuse (nx := 1) rfl rfl rfl rfl ?_
            refine ev_loc f_X12_refuse (nx := 2) rfl rfl rfl rfl ?_
            refine ev_putIT f_X12_refuse (nx := 5) rfl (hI.wf.s rfl) rfl rfl rfl (hI.put0 (hI.wf.s rfl) rfl rfl) (hX.upI rfl) (fun g38 e38 hI hX => ?_)
            refine ev_ic f_X12_refuse (nx := 6) (v := -1) rfl (by decide) rfl ?_
            refine ev_retK1 f_X12_refuse rfl rfl rfl ?_
            exact ev_ret f_X12_code rfl rfl rfl ⟨_, _, _, rfl, hI, hX, ⟨_, rfl, (Int.le_trans (by decide : ((-2147483648):Int) ≤ (-1)) (by decide : ((-1):Int) ≤ ((-1):Int32).toInt)), (Int.le_trans (by decide : ((-1):Int32).toInt ≤ ((-1):Int)) (by decide : ((-1):Int) ≤ 2147483647)), (show ((1 ≤ ar1.toInt ∧ ar1.toInt ≤ 4 ∧ 1 ≤ ar2.toInt ∧ ar2.toInt ≤ 4 ∧ 0 ≤ ar3.toInt ∧ ar3.toInt ≤ 9) → (∃ L : List Nat, s_X (s_ch ar3.toInt) (s_cE ar2.toNatClampNeg) ar1.toNatClampNeg [] 0 = some L ∧ (L.length : Int) = ar1.toInt ∧ s_RW (g38 88) L ∧ (g38 69 40).toInt = ar1.toInt ∧ (∀ i : Nat, (i : Int) < ar1.toInt → gl 86 i = s_cL (g38 88 i).toInt.toNat) ∧ ((-1) : Int32) = s_sI (fun i => g38 87 (g38 88 i).toInt.toNat) ar1.toNatClampNeg ∧ (∀ x, x ∈ L → x < s_cE ar2.toNatClampNeg) ∧ ∀ k : Nat, k < s_cE ar2.toNatClampNeg → (g38 87 k).toInt = (s_cn k : Nat)) ∨ (s_X (s_ch ar3.toInt) (s_cE ar2.toNatClampNeg) ar1.toNatClampNeg [] 0 = none ∧ ((-1) : Int) = -1 ∧ gl 86 = gl 86 ∧ g38 69 40 = gi 69 40)) ∧ (¬ (1 ≤ ar1.toInt ∧ ar1.toInt ≤ 4 ∧ 1 ≤ ar2.toInt ∧ ar2.toInt ≤ 4 ∧ 0 ≤ ar3.toInt ∧ ar3.toInt ≤ 9) → ((-1) : Int) = -1 ∧ gl 86 = gl 86 ∧ g38 69 40 = gi 69 40) from ⟨fun h => absurd h (by omega), fun _ => ⟨rfl, rfl, by rw [e38]; exact x_up2_off (Or.inr (by decide))⟩⟩)⟩⟩
          · have l39 : (0:Int) ≤ ar3.toInt := (lgc_ge (by decide : (0 : Int64).toInt = 0)).mp (by have hh := (t_nlt h35); rw [e34, e33] at hh; exact hh)
            have l40 : 0 ≤ z34.toInt := t_lel (t_nlt h35) (by decide : (0:Int) ≤ (0:Int32).toInt)
            refine ev_loc f_X12_isFrom (nx := 7) rfl rfl rfl rfl ?_
            refine ev_loc f_X12_isFrom (nx := 9) rfl rfl rfl rfl ?_
            refine ev_anyIE f_X12_isFrom (nx := 10) rfl rfl rfl rfl (fun z41 e41 => ?_)
            refine ev_if f_X12_isFrom (t1 := 17) (t2 := 13) rfl rfl rfl (fun h42 => ?_) (fun h42 => ?_)
            · have l43 : (10:Int) ≤ ar3.toInt := Int.add_one_le_of_lt ((lgc_gt (by decide : (9 : Int64).toInt = 9)).mp (by have hh := h42; rw [e41, e33] at hh; exact hh))
              have l44 : 1 ≤ z41.toInt := t_ltl h42 (by decide : (0:Int) ≤ (0:Int32).toInt) rfl
              refine ev_ic f_X12_isFrom (nx := 18) (v := 0) rfl (by decide) rfl ?_
              refine ev_retK1 f_X12_isFrom rfl rfl rfl ?_
              refine ev_t f_X12_code (t1 := 36) (t2 := 42) rfl rfl rfl (by decide) ?_
              refine ev_loc f_X12_code (nx := 37) rfl rfl rfl rfl ?_
              refine ev_ic f_X12_code (nx := 38) (v := 1) rfl (by decide) rfl ?_
              refine ev_inV2 f_X12_code (nx := 41) (lo2 := [(0, .ref 69), (1, .int 1)]) rfl rfl rfl rfl f_X12_refuse (hI.wf.s rfl) rfl rfl rfl rfl rfl ?_
              refine ev_loc f_X12_refuse (nx := 1) rfl rfl rfl rfl ?_
              refine ev_loc f_X12_refuse (nx := 2) rfl rfl rfl rfl ?_
              refine ev_putIT f_X12_refuse (nx := 5) rfl (hI.wf.s rfl) rfl rfl rfl (hI.put0 (hI.wf.s rfl) rfl rfl) (hX.upI rfl) (fun g45 e45 hI hX => ?_)
              refine ev_ic f_X12_refuse (nx := 6) (v := -1) rfl (by decide) rfl ?_
              refine ev_retK1 f_X12_refuse rfl rfl rfl ?_
              exact ev_ret f_X12_code rfl rfl rfl ⟨_, _, _, rfl, hI, hX, ⟨_, rfl, (Int.le_trans (by decide : ((-2147483648):Int) ≤ (-1)) (by decide : ((-1):Int) ≤ ((-1):Int32).toInt)), (Int.le_trans (by decide : ((-1):Int32).toInt ≤ ((-1):Int)) (by decide : ((-1):Int) ≤ 2147483647)), (show ((1 ≤ ar1.toInt ∧ ar1.toInt ≤ 4 ∧ 1 ≤ ar2.toInt ∧ ar2.toInt ≤ 4 ∧ 0 ≤ ar3.toInt ∧ ar3.toInt ≤ 9) → (∃ L : List Nat, s_X (s_ch ar3.toInt) (s_cE ar2.toNatClampNeg) ar1.toNatClampNeg [] 0 = some L ∧ (L.length : Int) = ar1.toInt ∧ s_RW (g45 88) L ∧ (g45 69 40).toInt = ar1.toInt ∧ (∀ i : Nat, (i : Int) < ar1.toInt → gl 86 i = s_cL (g45 88 i).toInt.toNat) ∧ ((-1) : Int32) = s_sI (fun i => g45 87 (g45 88 i).toInt.toNat) ar1.toNatClampNeg ∧ (∀ x, x ∈ L → x < s_cE ar2.toNatClampNeg) ∧ ∀ k : Nat, k < s_cE ar2.toNatClampNeg → (g45 87 k).toInt = (s_cn k : Nat)) ∨ (s_X (s_ch ar3.toInt) (s_cE ar2.toNatClampNeg) ar1.toNatClampNeg [] 0 = none ∧ ((-1) : Int) = -1 ∧ gl 86 = gl 86 ∧ g45 69 40 = gi 69 40)) ∧ (¬ (1 ≤ ar1.toInt ∧ ar1.toInt ≤ 4 ∧ 1 ≤ ar2.toInt ∧ ar2.toInt ≤ 4 ∧ 0 ≤ ar3.toInt ∧ ar3.toInt ≤ 9) → ((-1) : Int) = -1 ∧ gl 86 = gl 86 ∧ g45 69 40 = gi 69 40) from ⟨fun h => absurd h (by omega), fun _ => ⟨rfl, rfl, by rw [e45]; exact x_up2_off (Or.inr (by decide))⟩⟩)⟩⟩
            · have u46 : ar3.toInt ≤ (9:Int) := (lgc_le (by decide : (9 : Int64).toInt = 9)).mp (by have hh := (t_nlt h42); rw [e41, e33] at hh; exact hh)
              have u47 : z41.toInt ≤ 0 := t_leu (t_nlt h42) (by decide : (0:Int32).toInt ≤ (0:Int))
              refine ev_ic f_X12_isFrom (nx := 14) (v := 1) rfl (by decide) rfl ?_
              refine ev_jmp f_X12_isFrom (nx := 18) rfl rfl rfl ?_
              refine ev_retK1 f_X12_isFrom rfl rfl rfl ?_
              refine ev_f f_X12_code (t1 := 36) (t2 := 42) rfl rfl rfl (by decide) ?_
              refine ev_loc f_X12_code (nx := 43) rfl rfl rfl rfl ?_
              refine ev_loc f_X12_code (nx := 44) rfl rfl rfl rfl ?_
              refine ev_loc f_X12_code (nx := 45) rfl rfl rfl rfl ?_
              refine ev_qN f_X12_code (nx := 48) (r := []) rfl rfl rfl rfl rfl rfl rfl (c_e_lays hI (ar2) l24 u31 (ar3) l39 u46) rfl hX rfl (fun gi48 gl48 gr48 hI hX hC48 q48 => ?_)
              have q48 : (gi48 69 39).toInt = (s_cE ar2.toNatClampNeg : Nat) ∧ (∀ k : Nat, (k : Int) < (gi48 69 39).toInt → gl48 84 k = s_ch ar3.toInt k ∧ gl48 85 k = s_cL k ∧ (gi48 87 k).toInt = (s_cn k : Nat)) := q48
              obtain ⟨l49, u49⟩ := hI.b (hI.wf.s (k := 69) rfl) (t_bdK rfl : t_bd 11 39 = some (0, 30))
              refine ev_ic f_X12_code (nx := 49) (v := 0) rfl (by decide) rfl ?_
              refine ev_loc f_X12_code (nx := 51) (lo' := [(4, .int 0), (0, .ref 69), (1, .int ar1), (2, .int ar2), (3, .int ar3)]) rfl rfl rfl rfl ?_
              refine ev_loc f_X12_code (nx := 52) rfl rfl rfl rfl ?_
              refine ev_getR f_X12_code (nx := 55) rfl (hI.wf.s rfl) rfl rfl (hI.wf.r rfl) rfl rfl ?_
              refine ev_ic f_X12_code (nx := 56) (v := 0) rfl (by decide) rfl ?_
              refine ev_ic f_X12_code (nx := 57) (v := -1) rfl (by decide) rfl ?_
              refine ev_iastT f_X12_code (nx := 58) rfl (hI.wf.s rfl) (by decide : (0:Int) ≤ (0:Int32).toInt) (by decide) (by decide : (0:Int32).toInt ≤ (0:Int)) (by decide) rfl (hI.astL (hI.wf.s rfl) (by decide +kernel : t_abw 88 0 0 (-1) (-1) = true) (t_cl1 (by decide : (0:Int) ≤ (0:Int32).toInt) (by decide)) (t_cl2 (by decide : (0:Int) ≤ (0:Int32).toInt) (by decide : (0:Int32).toInt ≤ (0:Int)) (by decide) (by decide)) (by decide : ((-1):Int) ≤ ((-1):Int32).toInt) (by decide : ((-1):Int32).toInt ≤ ((-1):Int)) rfl) (hX.upI (t_inR (p := 0) (m := 0) rfl (by decide : (0:Int) ≤ (0:Int32).toInt) (by decide) (by decide : (0:Int32).toInt ≤ (0:Int)) (by decide) (by decide))) (fun g50 e50 hI hX => ?_)
              have L51 : ∀ (m51 : Nat) (gi51 : Nat → Nat → Int32) (gl51 : Nat → Nat → Int64) (gr51 : Nat → Nat → Value) (y51_4 : Int32), t_I sh gi51 gr51 → t_X wl_e_code sh gi gl gr gi51 gl51 gr51 → (-1) ≤ y51_4.toInt → y51_4.toInt ≤ 4 → gi51 69 39 = (gi48 69 39) → gi51 69 40 = (gi 69 40) → t_rw y51_4.toInt (gi51 88) → y51_4.toInt ≤ ar1.toInt → ((gi51 69 39).toInt = (s_cE ar2.toNatClampNeg : Nat) ∧ ∀ k : Nat, k < s_cE ar2.toNatClampNeg → gl51 84 k = s_ch ar3.toInt k ∧ gl51 85 k = s_cL k ∧ (gi51 87 k).toInt = (s_cn k : Nat)) → s_MI (s_ch ar3.toInt) (s_cE ar2.toNatClampNeg) ar1.toNatClampNeg (gi51 88) y51_4.toInt ar1.toInt → (gl51 86 = gl 86 ∧ gi51 69 40 = gi 69 40) → t_cm y51_4.toInt (gi51 88) = m51 → x_Ev X (d + 3) n_X12_code 58 [(4, .int y51_4), (0, .ref 69), (1, .int ar1), (2, .int ar2), (3, .int ar3)] [] (sh, gi51, gl51, gr51) (t_PI wl_e_code sh gi gl gr (-2147483648) 2147483647 (Q_e_code gi gl gr ar1 ar2 ar3)) := by
                intro m51
                induction m51 using Nat.strongRecOn with
                | _ m51 ih51 =>
                intro gi51 gl51 gr51 y51_4 hI hX l51_4 u51_4 c51_0 c51_1 j51_0 j51_1 j51_2 j51_3 j51_4 hm51
                refine ev_loc f_X12_code (nx := 60) rfl rfl rfl rfl ?_
                refine ev_if f_X12_code (t1 := 133) (t2 := 63) rfl rfl rfl (fun h52 => ?_) (fun h52 => ?_)
                · have u53 : y51_4.toInt ≤ (-1) := t_ltu h52 (by decide : (0:Int32).toInt ≤ (0:Int)) rfl
                  refine ev_loc f_X12_code (nx := 135) rfl rfl rfl rfl ?_
                  refine ev_f f_X12_code (t1 := 145) (t2 := 138) rfl rfl rfl (t_leF u53 (by decide : (0:Int) ≤ (0:Int32).toInt) (by decide)) ?_
                  refine ev_loc f_X12_code (nx := 139) rfl rfl rfl rfl ?_
                  refine ev_bp f_X12_code (nx := 141) (v := 6) rfl (by decide) rfl ?_
                  refine ev_inV2 f_X12_code (nx := 144) (lo2 := [(0, .ref 69), (1, .int 6)]) rfl rfl rfl rfl f_X12_refuse (hI.wf.s rfl) rfl rfl rfl rfl rfl ?_
                  refine ev_loc f_X12_refuse (nx := 1) rfl rfl rfl rfl ?_
                  refine ev_loc f_X12_refuse (nx := 2) rfl rfl rfl rfl ?_
                  refine ev_putIT f_X12_refuse (nx := 5) rfl (hI.wf.s rfl) rfl rfl rfl (hI.put0 (hI.wf.s rfl) rfl rfl) (hX.upI rfl) (fun g54 e54 hI hX => ?_)
                  refine ev_ic f_X12_refuse (nx := 6) (v := -1) rfl (by decide) rfl ?_
                  refine ev_retK1 f_X12_refuse rfl rfl rfl ?_
                  exact ev_ret f_X12_code rfl rfl rfl ⟨_, _, _, rfl, hI, hX, ⟨_, rfl, (Int.le_trans (by decide : ((-2147483648):Int) ≤ (-1)) (by decide : ((-1):Int) ≤ ((-1):Int32).toInt)), (Int.le_trans (by decide : ((-1):Int32).toInt ≤ ((-1):Int)) (by decide : ((-1):Int) ≤ 2147483647)), (show ((1 ≤ ar1.toInt ∧ ar1.toInt ≤ 4 ∧ 1 ≤ ar2.toInt ∧ ar2.toInt ≤ 4 ∧ 0 ≤ ar3.toInt ∧ ar3.toInt ≤ 9) → (∃ L : List Nat, s_X (s_ch ar3.toInt) (s_cE ar2.toNatClampNeg) ar1.toNatClampNeg [] 0 = some L ∧ (L.length : Int) = ar1.toInt ∧ s_RW (g54 88) L ∧ (g54 69 40).toInt = ar1.toInt ∧ (∀ i : Nat, (i : Int) < ar1.toInt → gl51 86 i = s_cL (g54 88 i).toInt.toNat) ∧ ((-1) : Int32) = s_sI (fun i => g54 87 (g54 88 i).toInt.toNat) ar1.toNatClampNeg ∧ (∀ x, x ∈ L → x < s_cE ar2.toNatClampNeg) ∧ ∀ k : Nat, k < s_cE ar2.toNatClampNeg → (g54 87 k).toInt = (s_cn k : Nat)) ∨ (s_X (s_ch ar3.toInt) (s_cE ar2.toNatClampNeg) ar1.toNatClampNeg [] 0 = none ∧ ((-1) : Int) = -1 ∧ gl51 86 = gl 86 ∧ g54 69 40 = gi 69 40)) ∧ (¬ (1 ≤ ar1.toInt ∧ ar1.toInt ≤ 4 ∧ 1 ≤ ar2.toInt ∧ ar2.toInt ≤ 4 ∧ 0 ≤ ar3.toInt ∧ ar3.toInt ≤ 9) → ((-1) : Int) = -1 ∧ gl51 86 = gl 86 ∧ g54 69 40 = gi 69 40) from ⟨fun _ => Or.inr ⟨j51_3.1 (by omega), rfl, j51_4.1, by rw [e54, x_up2_off (Or.inr (by decide))]; exact j51_4.2⟩, fun h => absurd (show _ from ⟨by omega, by omega, by omega, by omega, by omega, by omega⟩) h⟩)⟩⟩
                · have l55 : 0 ≤ y51_4.toInt := t_lel (t_nlt h52) (by decide : (0:Int) ≤ (0:Int32).toInt)
                  refine ev_loc f_X12_code (nx := 65) rfl rfl rfl rfl ?_
                  refine ev_loc f_X12_code (nx := 66) rfl rfl rfl rfl ?_
                  refine ev_if f_X12_code (t1 := 133) (t2 := 69) rfl rfl rfl (fun h56 => ?_) (fun h56 => ?_)
                  · have r57 : ar1.toInt ≤ y51_4.toInt := Int32.le_iff_toInt_le.mp h56
                    have l58 : 1 ≤ y51_4.toInt := t_lel h56 l9
                    refine ev_loc f_X12_code (nx := 135) rfl rfl rfl rfl ?_
                    refine ev_t f_X12_code (t1 := 145) (t2 := 138) rfl rfl rfl (t_leT (by decide : (0:Int32).toInt ≤ (0:Int)) l58 (by decide)) ?_
                    refine ev_ic f_X12_code (nx := 146) (v := 0) rfl (by decide) rfl ?_
                    refine ev_loc f_X12_code (nx := 148) (lo' := [(5, .int 0), (4, .int y51_4), (0, .ref 69), (1, .int ar1), (2, .int ar2), (3, .int ar3)]) rfl rfl rfl rfl ?_
                    refine ev_ic f_X12_code (nx := 149) (v := 0) rfl (by decide) rfl ?_
                    refine ev_loc f_X12_code (nx := 151) (lo' := [(6, .int 0), (5, .int 0), (4, .int y51_4), (0, .ref 69), (1, .int ar1), (2, .int ar2), (3, .int ar3)]) rfl rfl rfl rfl ?_
                    have L59 : ∀ (m59 : Nat) (gi59 : Nat → Nat → Int32) (gl59 : Nat → Nat → Int64) (gr59 : Nat → Nat → Value) (y59_6 : Int32) (y59_5 : Int32), t_I sh gi59 gr59 → t_X wl_e_code sh gi gl gr gi59 gl59 gr59 → 0 ≤ y59_6.toInt → y59_6.toInt ≤ 4 → gi59 69 39 = (gi48 69 39) → gi59 69 40 = (gi 69 40) → t_rw ar1.toInt (gi59 88) → ((gi59 69 39).toInt = (s_cE ar2.toNatClampNeg : Nat) ∧ ∀ k : Nat, k < s_cE ar2.toNatClampNeg → gl59 84 k = s_ch ar3.toInt k ∧ gl59 85 k = s_cL k ∧ (gi59 87 k).toInt = (s_cn k : Nat)) → (∃ l : List Nat, s_X (s_ch ar3.toInt) (s_cE ar2.toNatClampNeg) ar1.toNatClampNeg [] 0 = some l ∧ (l.length : Int) = ar1.toInt ∧ s_RW (gi59 88) l ∧ ∀ x, x ∈ l → x < s_cE ar2.toNatClampNeg) → (y59_5 = s_sI (fun i => gi59 87 (gi59 88 i).toInt.toNat) y59_6.toNatClampNeg ∧ (∀ i : Nat, (i : Int) < y59_6.toInt → gl59 86 i = s_cL (gi59 88 i).toInt.toNat) ∧ y59_6.toInt ≤ ar1.toInt) → (4 - y59_6.toInt).toNat = m59 → x_Ev X (d + 3) n_X12_code 151 [(6, .int y59_6), (5, .int y59_5), (4, .int y51_4), (0, .ref 69), (1, .int ar1), (2, .int ar2), (3, .int ar3)] [] (sh, gi59, gl59, gr59) (t_PI wl_e_code sh gi gl gr (-2147483648) 2147483647 (Q_e_code gi gl gr ar1 ar2 ar3)) := by
                      intro m59
                      induction m59 using Nat.strongRecOn with
                      | _ m59 ih59 =>
                      intro gi59 gl59 gr59 y59_6 y59_5 hI hX l59_6 u59_6 c59_0 c59_1 j59_0 j59_1 j59_2 j59_3 hm59
                      refine ev_loc f_X12_code (nx := 153) rfl rfl rfl rfl ?_
                      refine ev_loc f_X12_code (nx := 154) rfl rfl rfl rfl ?_
                      refine ev_if f_X12_code (t1 := 199) (t2 := 157) rfl rfl rfl (fun h60 => ?_) (fun h60 => ?_)
                      · have r61 : ar1.toInt ≤ y59_6.toInt := Int32.le_iff_toInt_le.mp h60
                        have l62 : 1 ≤ y59_6.toInt := t_lel h60 l9
                        refine ev_loc f_X12_code (nx := 200) rfl rfl rfl rfl ?_
                        refine ev_loc f_X12_code (nx := 201) rfl rfl rfl rfl ?_
                        refine ev_putIT f_X12_code (nx := 204) rfl (hI.wf.s rfl) rfl rfl rfl (hI.putB (hI.wf.s rfl) rfl rfl l9 (by decide) u16 (by decide)) (hX.upI rfl) (fun g63 e63 hI hX => ?_)
                        refine ev_loc f_X12_code (nx := 205) rfl rfl rfl rfl ?_
                        refine ev_loc f_X12_code (nx := 207) rfl rfl rfl rfl ?_
                        refine ev_inV2 f_X12_code (nx := 210) (lo2 := [(0, .ref 69), (1, .int y59_5)]) rfl rfl rfl rfl f_X12_gives (hI.wf.s rfl) rfl rfl rfl rfl rfl ?_
                        refine ev_loc f_X12_gives (nx := 1) rfl rfl rfl rfl ?_
                        refine ev_ic f_X12_gives (nx := 2) (v := 0) rfl (by decide) rfl ?_
                        refine ev_putIT f_X12_gives (nx := 5) rfl (hI.wf.s rfl) rfl rfl rfl (hI.put0 (hI.wf.s rfl) rfl rfl) (hX.upI rfl) (fun g64 e64 hI hX => ?_)
                        refine ev_loc f_X12_gives (nx := 6) rfl rfl rfl rfl ?_
                        refine ev_retK1 f_X12_gives rfl rfl rfl ?_
                        exact ev_ret f_X12_code rfl rfl rfl ⟨_, _, _, rfl, hI, hX, ⟨_, rfl, (t_lo y59_5), (t_hi y59_5), (show ((1 ≤ ar1.toInt ∧ ar1.toInt ≤ 4 ∧ 1 ≤ ar2.toInt ∧ ar2.toInt ≤ 4 ∧ 0 ≤ ar3.toInt ∧ ar3.toInt ≤ 9) → (∃ L : List Nat, s_X (s_ch ar3.toInt) (s_cE ar2.toNatClampNeg) ar1.toNatClampNeg [] 0 = some L ∧ (L.length : Int) = ar1.toInt ∧ s_RW (g64 88) L ∧ (g64 69 40).toInt = ar1.toInt ∧ (∀ i : Nat, (i : Int) < ar1.toInt → gl59 86 i = s_cL (g64 88 i).toInt.toNat) ∧ y59_5 = s_sI (fun i => g64 87 (g64 88 i).toInt.toNat) ar1.toNatClampNeg ∧ (∀ x, x ∈ L → x < s_cE ar2.toNatClampNeg) ∧ ∀ k : Nat, k < s_cE ar2.toNatClampNeg → (g64 87 k).toInt = (s_cn k : Nat)) ∨ (s_X (s_ch ar3.toInt) (s_cE ar2.toNatClampNeg) ar1.toNatClampNeg [] 0 = none ∧ y59_5.toInt = -1 ∧ gl59 86 = gl 86 ∧ g64 69 40 = gi 69 40)) ∧ (¬ (1 ≤ ar1.toInt ∧ ar1.toInt ≤ 4 ∧ 1 ≤ ar2.toInt ∧ ar2.toInt ≤ 4 ∧ 0 ≤ ar3.toInt ∧ ar3.toInt ≤ 9) → y59_5.toInt = -1 ∧ gl59 86 = gl 86 ∧ g64 69 40 = gi 69 40) from (by
                                                            have k_ar1 := t_clamp (i := ar1) (by omega)
                                                            have k_ar2 := t_clamp (i := ar2) (by omega)
                                                            have k_y59_6 := t_clamp (i := y59_6) (by omega)
                                                            obtain ⟨l, f1, f2, f3, f4⟩ := j59_2
                                                            obtain ⟨g1, g2, g3⟩ := j59_3
                                                            have hy : y59_6.toNatClampNeg = ar1.toNatClampNeg := by omega
                                                            refine ⟨fun _ => Or.inl ⟨l, f1, f2, by rw [e64, x_up2_ne (by decide), e63, x_up2_ne (by decide)]; exact f3, by rw [e64, x_up2_off (Or.inr (by decide)), e63, x_up2_at], fun i hi => ?_, ?_, f4, fun k hk => by rw [e64, x_up2_ne (by decide), e63, x_up2_ne (by decide)]; exact (j59_1.2 k hk).2.2⟩, fun h => absurd (show _ from ⟨by omega, by omega, by omega, by omega, by omega, by omega⟩) h⟩
                                                            · rw [e64, x_up2_ne (by decide), e63, x_up2_ne (by decide)]; exact g2 i (by omega)
                                                            · rw [hy] at g1
                                                              rw [e64, e63]; exact g1.trans (s_sI_cg _ (fun i _ => by rw [x_up2_ne (by decide), x_up2_ne (by decide), x_up2_ne (by decide), x_up2_ne (by decide)])).symm))⟩⟩
                      · have r65 : y59_6.toInt < ar1.toInt := Int32.lt_iff_toInt_lt.mp (t_nle h60)
                        have u66 : y59_6.toInt ≤ 3 := t_ltu (t_nle h60) u16 rfl
                        refine ev_loc f_X12_code (nx := 158) rfl rfl rfl rfl ?_
                        refine ev_getR f_X12_code (nx := 161) rfl (hI.wf.s rfl) rfl rfl (hI.wf.r rfl) rfl rfl ?_
                        refine ev_loc f_X12_code (nx := 163) rfl rfl rfl rfl ?_
                        refine ev_loc f_X12_code (nx := 164) rfl rfl rfl rfl ?_
                        refine ev_getR f_X12_code (nx := 167) rfl (hI.wf.s rfl) rfl rfl (hI.wf.r rfl) rfl rfl ?_
                        refine ev_loc f_X12_code (nx := 168) rfl rfl rfl rfl ?_
                        refine ev_getR f_X12_code (nx := 171) rfl (hI.wf.s rfl) rfl rfl (hI.wf.r rfl) rfl rfl ?_
                        refine ev_loc f_X12_code (nx := 173) rfl rfl rfl rfl ?_
                        refine ev_ialdT f_X12_code (nx := 174) rfl (hI.wf.s rfl) l59_6 (by decide) u66 (by decide) rfl (fun w67 e67 => ?_)
                        obtain ⟨l67, u67⟩ := hI.abi e67 (by decide +kernel : t_abr 88 0 3 (-1) 30 = true) l59_6 (by decide) u66 (by decide)
                        have l69 : (0:Int) ≤ w67.toInt := (by have hc := t_clamp (i := y59_6) (by omega); have hj := (j59_0 y59_6.toNatClampNeg).1 (by omega); rw [← e67] at hj; omega)
                        have u69 : w67.toInt ≤ (29:Int) := (by have hc := t_clamp (i := y59_6) (by omega); have hj := (j59_0 y59_6.toNatClampNeg).1 (by omega); rw [← e67] at hj; omega)
                        refine ev_laldT f_X12_code (nx := 175) rfl (hI.wf.s rfl) l69 (by decide) u69 (by decide) rfl (fun w68 e68 => ?_)
                        refine ev_lastT f_X12_code (nx := 176) rfl (hI.wf.s rfl) l59_6 (by decide) u66 (by decide) rfl (hX.upL (t_inA_ok rfl)) (fun g70 e70 hX => ?_)
                        refine ev_loc f_X12_code (nx := 178) rfl rfl rfl rfl ?_
                        refine ev_loc f_X12_code (nx := 179) rfl rfl rfl rfl ?_
                        refine ev_getR f_X12_code (nx := 182) rfl (hI.wf.s rfl) rfl rfl (hI.wf.r rfl) rfl rfl ?_
                        refine ev_loc f_X12_code (nx := 183) rfl rfl rfl rfl ?_
                        refine ev_getR f_X12_code (nx := 186) rfl (hI.wf.s rfl) rfl rfl (hI.wf.r rfl) rfl rfl ?_
                        refine ev_loc f_X12_code (nx := 188) rfl rfl rfl rfl ?_
                        refine ev_ialdT f_X12_code (nx := 189) rfl (hI.wf.s rfl) l59_6 (by decide) u66 (by decide) rfl (fun w71 e71 => ?_)
                        rw [e71.trans e67.symm]
                        refine ev_ialdT f_X12_code (nx := 190) rfl (hI.wf.s rfl) l69 (by decide) u69 (by decide) rfl (fun w72 e72 => ?_)
                        refine ev_anyIE f_X12_code (nx := 191) rfl rfl rfl rfl (fun z73 e73 => ?_)
                        refine ev_loc f_X12_code (nx := 193) (lo' := [(5, .int z73), (6, .int y59_6), (4, .int y51_4), (0, .ref 69), (1, .int ar1), (2, .int ar2), (3, .int ar3)]) rfl rfl rfl rfl ?_
                        refine ev_incR f_X12_code (nx := 196) (c := 1) (l := 1) (u := 4) rfl rfl (by decide) (by decide) l59_6 u66 rfl rfl (by decide) (by decide) rfl (fun z74 e74 l74 u74 => ?_)
                        refine ev_jmp f_X12_code (nx := 151) rfl rfl rfl ?_
                        refine ev_sub (lo := [(6, .int z74), (5, .int z73), (4, .int y51_4), (0, .ref 69), (1, .int ar1), (2, .int ar2), (3, .int ar3)]) rfl (t_sc rfl (t_sc rfl (t_sc rfl (t_sc rfl (t_sc rfl (t_sc rfl (t_sc rfl t_sn))))))) ?_
                        exact ih59 _ (by omega) gi59 g70 gr59 (z74) (z73) hI hX  (Int.le_trans (by decide : (0:Int) ≤ 1) l74) u74 c59_0 c59_1 j59_0 ⟨j59_1.1, fun k hk => by rw [e70, x_up2_ne (by decide), x_up2_ne (by decide)]; exact j59_1.2 k hk⟩ j59_2 (by
                                                            have k_ar1 := t_clamp (i := ar1) (by omega)
                                                            have k_ar2 := t_clamp (i := ar2) (by omega)
                                                            have k_y59_6 := t_clamp (i := y59_6) (by omega)
                                                            have k_z74 := t_clamp (i := z74) (by omega)
                                                            obtain ⟨g1, g2, g3⟩ := j59_3
                                                            have hw1 := (j59_0 y59_6.toNatClampNeg).1 (by omega)
                                                            rw [← e67] at hw1
                                                            have hw2 := (j59_0 y59_6.toNatClampNeg).1 (by omega)
                                                            rw [← e67] at hw2
                                                            have k_w67 := t_clamp (i := w67) (by omega)
                                                            have k_w67 := t_clamp (i := w67) (by omega)
                                                            have hcm : (gi59 69 39).toInt = ((s_cE ar2.toNatClampNeg : Nat) : Int) := j59_1.1
                                                            obtain ⟨l, f1, f2, f3, f4⟩ := j59_2
                                                            obtain ⟨x, x1, x2⟩ := s_RW_ix f3 y59_6.toNatClampNeg (by omega)
                                                            have x3 := f4 x x1
                                                            rw [← e67] at x2
                                                            have hk9 := (j59_1.2 w67.toNatClampNeg (by omega)).2.1
                                                            have h8 : w68 = s_cL (gi59 88 y59_6.toNatClampNeg).toInt.toNat := by rw [e68, hk9, ← e67, show w67.toInt.toNat = w67.toNatClampNeg by omega]
                                                            have h9 : w72 = gi59 87 (gi59 88 y59_6.toNatClampNeg).toInt.toNat := by rw [e72, ← e67, show w67.toInt.toNat = w67.toNatClampNeg by omega]
                                                            refine ⟨?_, fun i hi => ?_, by omega⟩
                                                            · rw [show z74.toNatClampNeg = y59_6.toNatClampNeg + 1 by omega]
                                                              show z73 = s_sI (fun i => gi59 87 (gi59 88 i).toInt.toNat) y59_6.toNatClampNeg + gi59 87 (gi59 88 y59_6.toNatClampNeg).toInt.toNat
                                                              rw [e73, g1, h9]
                                                            · by_cases hk : i = y59_6.toNatClampNeg
                                                              · rw [hk, e70, x_up2_at]; exact h8
                                                              · rw [e70, x_up2_off (Or.inr hk)]; exact g2 i (by omega)) rfl
                    refine ev_sub (lo := [(6, .int 0), (5, .int 0), (4, .int y51_4), (0, .ref 69), (1, .int ar1), (2, .int ar2), (3, .int ar3)]) rfl (t_sc rfl (t_sc rfl (t_sc rfl (t_sc rfl (t_sc rfl (t_sc rfl (t_sc rfl t_sn))))))) ?_
                    exact L59 _ gi51 gl51 gr51 (0) (0) hI hX  (by decide : (0:Int) ≤ (0:Int32).toInt) (Int.le_trans (by decide : (0:Int32).toInt ≤ (0:Int)) (by decide : (0:Int) ≤ 4)) c51_0 c51_1 (by have he : ar1.toInt = y51_4.toInt := (by omega); rw [he]; exact j51_0) j51_2 (by
                                                            obtain ⟨l, h1, h2, h3, h4, h5, h6⟩ := j51_3.2 (by omega)
                                                            rcases h6 with ⟨h7, h8⟩ | ⟨h7, _⟩
                                                            · exact ⟨l, h8, by omega, h2, h5⟩
                                                            · omega) ⟨rfl, fun i hi => absurd hi (by have z0 : (0 : Int32).toInt = 0 := rfl; omega), by have z0 : (0 : Int32).toInt = 0 := rfl; omega⟩ rfl
                  · have r75 : y51_4.toInt < ar1.toInt := Int32.lt_iff_toInt_lt.mp (t_nle h56)
                    have u76 : y51_4.toInt ≤ 3 := t_ltu (t_nle h56) u16 rfl
                    refine ev_loc f_X12_code (nx := 70) rfl rfl rfl rfl ?_
                    refine ev_getR f_X12_code (nx := 73) rfl (hI.wf.s rfl) rfl rfl (hI.wf.r rfl) rfl rfl ?_
                    refine ev_loc f_X12_code (nx := 75) rfl rfl rfl rfl ?_
                    refine ev_alu f_X12_code (nx := 76) rfl rfl rfl rfl ?_
                    refine ev_ialdT f_X12_code (nx := 77) rfl (hI.wf.s rfl) l55 (by decide) u76 (by decide) rfl (fun w77 e77 => ?_)
                    obtain ⟨l77, u77⟩ := hI.abi e77 (by decide +kernel : t_abr 88 0 3 (-1) 30 = true) l55 (by decide) u76 (by decide)
                    refine ev_ic f_X12_code (nx := 78) (v := 1) rfl (by decide) rfl ?_
                    refine ev_addC f_X12_code (nx := 79) (c := 1) (l := 0) (u := 31) rfl (by decide) l77 u77 rfl rfl (by decide) (by decide) rfl (fun z78 e78 l78 u78 => ?_)
                    have u80 : z78.toInt ≤ (30:Int) := (by have hc := t_clamp (i := y51_4) (by omega); have hw := (j51_0 y51_4.toNatClampNeg).2 hc (by omega); rw [← e77] at hw; omega)
                    refine ev_iastT f_X12_code (nx := 80) rfl (hI.wf.s rfl) l55 (by decide) u76 (by decide) rfl (hI.astL (hI.wf.s rfl) (by decide +kernel : t_abw 88 0 3 0 30 = true) (t_cl1 l55 (by decide)) (t_cl2 l55 u76 (by decide) (by decide)) l78 u80 rfl) (hX.upI (t_inR (p := 0) (m := 3) rfl l55 (by decide) u76 (by decide) (by decide))) (fun g79 e79 hI hX => ?_)
                    refine ev_loc f_X12_code (nx := 81) rfl rfl rfl rfl ?_
                    refine ev_getR f_X12_code (nx := 84) rfl (hI.wf.s rfl) rfl rfl (hI.wf.r rfl) rfl rfl ?_
                    refine ev_loc f_X12_code (nx := 86) rfl rfl rfl rfl ?_
                    refine ev_ialdT f_X12_code (nx := 87) rfl (hI.wf.s rfl) l55 (by decide) u76 (by decide) rfl (fun w81 e81 => ?_)
                    rw [e81.trans (by rw [e79]; exact x_up2_at _ _ _ _ : g79 88 y51_4.toNatClampNeg = z78)]
                    refine ev_loc f_X12_code (nx := 88) rfl rfl rfl rfl ?_
                    refine ev_gvI f_X12_code (nx := 91) (w := (gi48 69 39)) rfl (hI.wf.s rfl) rfl rfl ((by rw [e79]; exact x_up2_off (Or.inl (by decide)) : g79 69 39 = gi51 69 39).trans c51_0) rfl ?_
                    refine ev_if f_X12_code (t1 := 100) (t2 := 94) rfl rfl rfl (fun h82 => ?_) (fun h82 => ?_)
                    · have r83 : z78.toInt < (gi48 69 39).toInt := Int32.lt_iff_toInt_lt.mp h82
                      have u84 : z78.toInt ≤ 29 := t_ltu h82 u49 rfl
                      have l85 : 1 ≤ (gi48 69 39).toInt := t_ltl h82 l78 rfl
                      refine ev_loc f_X12_code (nx := 101) rfl rfl rfl rfl ?_
                      refine ev_loc f_X12_code (nx := 103) rfl rfl rfl rfl ?_
                      refine ev_ic f_X12_code (nx := 104) (v := 1) rfl (by decide) rfl ?_
                      refine ev_addC f_X12_code (nx := 105) (c := 1) (l := 1) (u := 4) rfl (by decide) l55 u76 rfl rfl (by decide) (by decide) rfl (fun z86 e86 l86 u86 => ?_)
                      refine ev_qI0 f_X12_code (nx := 108) (r := []) rfl rfl rfl rfl rfl rfl rfl (c_e_isc hI (z86) l86 u86 (fun j hj => ((t_cmB j51_0 (by omega) (by omega) e77 e78 e79)).2.2.2.2.2.2 j (by omega) (by omega))) rfl (fun w87 l87 u87 q87 => ?_)
                      have q87 : w87.toInt = 1 ↔ s_ix (s_rh (gl51 84) (g79 88)) z86.toNatClampNeg := q87
                      refine ev_if f_X12_code (t1 := 58) (t2 := 111) rfl rfl rfl (fun h88 => ?_) (fun h88 => ?_)
                      · have u89 : w87.toInt ≤ 0 := t_equ h88 (by decide : (0:Int32).toInt ≤ (0:Int))
                        refine ev_sub (lo := [(4, .int y51_4), (0, .ref 69), (1, .int ar1), (2, .int ar2), (3, .int ar3)]) rfl (t_sc rfl (t_sc rfl (t_sc rfl (t_sc rfl (t_sc rfl t_sn))))) ?_
                        exact ih51 _ (by have hf : g79 88 = g79 88 := rfl; have hh := (t_cmB j51_0 (by omega) (by omega) e77 e78 e79); rw [hf]; omega) g79 gl51 gr51 (y51_4) hI hX  (Int.le_trans (by decide : ((-1):Int) ≤ 0) l55) (Int.le_trans u76 (by decide : (3:Int) ≤ 4)) ((by rw [e79]; exact x_up2_off (Or.inl (by decide)) : g79 69 39 = gi51 69 39).trans c51_0) ((by rw [e79]; exact x_up2_off (Or.inl (by decide)) : g79 69 40 = gi51 69 40).trans c51_1) (by have hf : g79 88 = g79 88 := rfl; have hh := (t_cmB j51_0 (by omega) (by omega) e77 e78 e79); rw [hf]; exact hh.2.2.2.2.1 (by omega)) (by omega) ⟨by rw [e79, x_up2_ne (by decide)]; exact j51_2.1, fun k hk => by rw [e79, x_up2_ne (by decide)]; exact j51_2.2 k hk⟩ (by
                                                            have k_ar1 := t_clamp (i := ar1) (by omega)
                                                            have k_ar2 := t_clamp (i := ar2) (by omega)
                                                            have k_y51_4 := t_clamp (i := y51_4) (by omega)
                                                            have hw0 := (j51_0 y51_4.toNatClampNeg).2 (by omega) (by omega)
                                                            rw [← e77] at hw0
                                                            have hty : y51_4.toInt.toNat = y51_4.toNatClampNeg := by omega
                                                            have hz : z78.toInt = (gi51 88 y51_4.toInt.toNat).toInt + 1 := by rw [hty, ← e77]; omega
                                                            have hT := j51_2
                                                            have hcm : (gi51 69 39).toInt = ((s_cE ar2.toNatClampNeg : Nat) : Int) := hT.1
                                                            have h1 : (g79 88 y51_4.toInt.toNat).toInt = z78.toInt := by rw [hty, e79, x_up2_at]
                                                            have hg : ∀ j, j ≠ y51_4.toInt.toNat → g79 88 j = gi51 88 j := fun j hj => by rw [e79, x_up2_off (Or.inr (by rw [← hty]; exact hj))]
                                                            have ha : z86.toNatClampNeg = y51_4.toInt.toNat + 1 := by have := t_clamp (i := z86) (by omega); omega
                                                            have hq := q87
                                                            rw [ha] at hq
                                                            exact s_MI_B j51_3 (by omega) (by omega) hz (by omega) (by omega) h1 hg (fun x hx => (hT.2 x hx).1) (fun hh => absurd (hq.mpr hh) (by omega))) ⟨j51_4.1, (by rw [e79, x_up2_ne (by decide)]; exact j51_4.2)⟩ rfl
                      · have r90 : w87.toInt ≠ 0 := fun e => h88 (Int32.toInt_inj.mp (e.trans (by decide : (0:Int) = (0 : Int32).toInt)))
                        have l91 : 1 ≤ w87.toInt := t_nel h88 l87 rfl rfl
                        refine ev_loc f_X12_code (nx := 112) rfl rfl rfl rfl ?_
                        refine ev_getR f_X12_code (nx := 115) rfl (hI.wf.s rfl) rfl rfl (hI.wf.r rfl) rfl rfl ?_
                        refine ev_loc f_X12_code (nx := 117) rfl rfl rfl rfl ?_
                        refine ev_ic f_X12_code (nx := 118) (v := 1) rfl (by decide) rfl ?_
                        refine ev_addC f_X12_code (nx := 119) (c := 1) (l := 1) (u := 4) rfl (by decide) l55 u76 rfl rfl (by decide) (by decide) rfl (fun z92 e92 l92 u92 => ?_)
                        refine ev_loc f_X12_code (nx := 120) rfl rfl rfl rfl ?_
                        refine ev_getR f_X12_code (nx := 123) rfl (hI.wf.s rfl) rfl rfl (hI.wf.r rfl) rfl rfl ?_
                        refine ev_loc f_X12_code (nx := 125) rfl rfl rfl rfl ?_
                        refine ev_ialdT f_X12_code (nx := 126) rfl (hI.wf.s rfl) l55 (by decide) u76 (by decide) rfl (fun w93 e93 => ?_)
                        rw [e93.trans (by rw [e79]; exact x_up2_at _ _ _ _ : g79 88 y51_4.toNatClampNeg = z78)]
                        refine ev_iastT f_X12_code (nx := 127) rfl (hI.wf.s rfl) l92 (by decide) u92 (by decide) rfl (hI.astL (hI.wf.s rfl) (by decide +kernel : t_abw 88 1 4 0 29 = true) (t_cl1 l92 (by decide)) (t_cl2 l92 u92 (by decide) (by decide)) l78 u84 rfl) (hX.upI (t_inR (p := 1) (m := 4) rfl l92 (by decide) u92 (by decide) (by decide))) (fun g94 e94 hI hX => ?_)
                        refine ev_incR f_X12_code (nx := 130) (c := 1) (l := 1) (u := 4) rfl rfl (by decide) (by decide) l55 u76 rfl rfl (by decide) (by decide) rfl (fun z95 e95 l95 u95 => ?_)
                        refine ev_jmp f_X12_code (nx := 58) rfl rfl rfl ?_
                        refine ev_sub (lo := [(4, .int z95), (0, .ref 69), (1, .int ar1), (2, .int ar2), (3, .int ar3)]) rfl (t_sc rfl (t_sc rfl (t_sc rfl (t_sc rfl (t_sc rfl t_sn))))) ?_
                        exact ih51 _ (by have hf : g79 88 = g79 88 := rfl; have hh := t_cmC (m := z95) j51_0 (by omega) (by omega) e77 e78 e79 (by omega) (by omega) (by omega) hf e94; omega) g94 gl51 gr51 (z95) hI hX  (Int.le_trans (by decide : ((-1):Int) ≤ 1) l95) u95 ((by rw [e94]; exact x_up2_off (Or.inl (by decide)) : g94 69 39 = g79 69 39).trans ((by rw [e79]; exact x_up2_off (Or.inl (by decide)) : g79 69 39 = gi51 69 39).trans c51_0)) ((by rw [e94]; exact x_up2_off (Or.inl (by decide)) : g94 69 40 = g79 69 40).trans ((by rw [e79]; exact x_up2_off (Or.inl (by decide)) : g79 69 40 = gi51 69 40).trans c51_1)) (by have hf : g79 88 = g79 88 := rfl; have hh := t_cmC (m := z95) j51_0 (by omega) (by omega) e77 e78 e79 (by omega) (by omega) (by omega) hf e94; exact hh.2) (by omega) ⟨by rw [e94, x_up2_ne (by decide), e79, x_up2_ne (by decide)]; exact j51_2.1, fun k hk => by rw [e94, x_up2_ne (by decide), e79, x_up2_ne (by decide)]; exact j51_2.2 k hk⟩ (by
                                                            have k_ar1 := t_clamp (i := ar1) (by omega)
                                                            have k_ar2 := t_clamp (i := ar2) (by omega)
                                                            have k_y51_4 := t_clamp (i := y51_4) (by omega)
                                                            have hw0 := (j51_0 y51_4.toNatClampNeg).2 (by omega) (by omega)
                                                            rw [← e77] at hw0
                                                            have hty : y51_4.toInt.toNat = y51_4.toNatClampNeg := by omega
                                                            have hz : z78.toInt = (gi51 88 y51_4.toInt.toNat).toInt + 1 := by rw [hty, ← e77]; omega
                                                            have hT := j51_2
                                                            have hcm : (gi51 69 39).toInt = ((s_cE ar2.toNatClampNeg : Nat) : Int) := hT.1
                                                            have h1 : (g79 88 y51_4.toInt.toNat).toInt = z78.toInt := by rw [hty, e79, x_up2_at]
                                                            have hg : ∀ j, j ≠ y51_4.toInt.toNat → g79 88 j = gi51 88 j := fun j hj => by rw [e79, x_up2_off (Or.inr (by rw [← hty]; exact hj))]
                                                            have ha : z86.toNatClampNeg = y51_4.toInt.toNat + 1 := by have := t_clamp (i := z86) (by omega); omega
                                                            have hq := q87
                                                            rw [ha] at hq
                                                            have hi2 : z92.toNatClampNeg = y51_4.toInt.toNat + 1 := by have := t_clamp (i := z92) (by omega); omega
                                                            have hr : z95.toInt = y51_4.toInt + 1 := by omega
                                                            rw [hr]
                                                            exact s_MI_C j51_3 (by omega) (by omega) hz (by omega) (by omega) h1 hg (fun x hx => (hT.2 x hx).1) (hq.mp (by omega)) (by omega) (by rw [← hi2, e94, x_up2_at]) (fun j hj => by rw [e94, x_up2_off (Or.inr (by rw [hi2]; exact hj))])) ⟨j51_4.1, (by rw [e94, x_up2_ne (by decide), e79, x_up2_ne (by decide)]; exact j51_4.2)⟩ rfl
                    · have r96 : (gi48 69 39).toInt ≤ z78.toInt := Int32.le_iff_toInt_le.mp (t_nlt h82)
                      refine ev_incR f_X12_code (nx := 97) (c := (-1)) (l := (-1)) (u := 2) rfl rfl (by decide) (by decide) l55 u76 rfl rfl (by decide) (by decide) rfl (fun z97 e97 l97 u97 => ?_)
                      refine ev_jmp f_X12_code (nx := 58) rfl rfl rfl ?_
                      refine ev_sub (lo := [(4, .int z97), (0, .ref 69), (1, .int ar1), (2, .int ar2), (3, .int ar3)]) rfl (t_sc rfl (t_sc rfl (t_sc rfl (t_sc rfl (t_sc rfl t_sn))))) ?_
                      exact ih51 _ (by have hh := (t_cmB j51_0 (by omega) (by omega) e77 e78 e79); have he : z97.toInt = y51_4.toInt - 1 := (by omega); rw [he]; omega) g79 gl51 gr51 (z97) hI hX  l97 (Int.le_trans u97 (by decide : (2:Int) ≤ 4)) ((by rw [e79]; exact x_up2_off (Or.inl (by decide)) : g79 69 39 = gi51 69 39).trans c51_0) ((by rw [e79]; exact x_up2_off (Or.inl (by decide)) : g79 69 40 = gi51 69 40).trans c51_1) (by have hh := (t_cmB j51_0 (by omega) (by omega) e77 e78 e79); have he : z97.toInt = y51_4.toInt - 1 := (by omega); rw [he]; exact hh.2.2.2.2.2.1) (by omega) ⟨by rw [e79, x_up2_ne (by decide)]; exact j51_2.1, fun k hk => by rw [e79, x_up2_ne (by decide)]; exact j51_2.2 k hk⟩ (by
                                                            have k_ar1 := t_clamp (i := ar1) (by omega)
                                                            have k_ar2 := t_clamp (i := ar2) (by omega)
                                                            have k_y51_4 := t_clamp (i := y51_4) (by omega)
                                                            have hw0 := (j51_0 y51_4.toNatClampNeg).2 (by omega) (by omega)
                                                            rw [← e77] at hw0
                                                            have hty : y51_4.toInt.toNat = y51_4.toNatClampNeg := by omega
                                                            have hz : z78.toInt = (gi51 88 y51_4.toInt.toNat).toInt + 1 := by rw [hty, ← e77]; omega
                                                            have hT := j51_2
                                                            have hcm : (gi51 69 39).toInt = ((s_cE ar2.toNatClampNeg : Nat) : Int) := hT.1
                                                            have h1 : (g79 88 y51_4.toInt.toNat).toInt = z78.toInt := by rw [hty, e79, x_up2_at]
                                                            have hg : ∀ j, j ≠ y51_4.toInt.toNat → g79 88 j = gi51 88 j := fun j hj => by rw [e79, x_up2_off (Or.inr (by rw [← hty]; exact hj))]
                                                            have hr : z97.toInt = y51_4.toInt - 1 := by omega
                                                            rw [hr]
                                                            exact s_MI_A j51_3 (by omega) (by omega) hz (by omega) hg) ⟨j51_4.1, (by rw [e79, x_up2_ne (by decide)]; exact j51_4.2)⟩ rfl
              refine ev_sub (lo := [(4, .int 0), (0, .ref 69), (1, .int ar1), (2, .int ar2), (3, .int ar3)]) rfl (t_sc rfl (t_sc rfl (t_sc rfl (t_sc rfl (t_sc rfl t_sn))))) ?_
              exact L51 _ g50 gl48 gr48 (0) hI hX  (Int.le_trans (by decide : ((-1):Int) ≤ 0) (by decide : (0:Int) ≤ (0:Int32).toInt)) (Int.le_trans (by decide : (0:Int32).toInt ≤ (0:Int)) (by decide : (0:Int) ≤ 4)) ((by rw [e50]; exact x_up2_off (Or.inl (by decide)) : g50 69 39 = gi48 69 39).trans rfl) ((by rw [e50]; exact x_up2_off (Or.inl (by decide)) : g50 69 40 = gi48 69 40).trans ((hC48.1 69 40 rfl).1.trans rfl)) (t_rw0 e50) (by have kf98 : (0 : Int32).toInt = 0 := (by decide); omega) (by rw [e50]; refine ⟨by rw [x_up2_ne (by decide)]; exact q48.1, fun k hk => ?_⟩; rw [x_up2_ne (by decide)]; exact q48.2 k (by have := q48.1; omega)) (s_MI_0 (by omega) (by rw [e50]; exact (congrArg Int32.toInt (x_up2_at _ _ _ _)).trans rfl)) ⟨funext (fun j => (hC48.1 86 j rfl).2.1), (by rw [e50, x_up2_ne (by decide)]; exact (hC48.1 69 40 rfl).1)⟩ rfl
noncomputable def wl_e_codeAt : List (Nat × Nat) := [(69, 2)]
noncomputable def Q_e_codeAt (gi : Nat → Nat → Int32) (gl : Nat → Nat → Int64) (gr : Nat → Nat → Value) (ar1 : Int32) : Int64 → (Nat → Nat → Int32) → (Nat → Nat → Int64) → (Nat → Nat → Value) → Prop := fun (v : Int64) (gi2 : Nat → Nat → Int32) (gl2 : Nat → Nat → Int64) (gr2 : Nat → Nat → Value) => ((0 ≤ ar1.toInt ∧ ar1.toInt < (gi 69 40).toInt) → v = gl 86 ar1.toNatClampNeg) ∧ (¬ (0 ≤ ar1.toInt ∧ ar1.toInt < (gi 69 40).toInt) → v.toInt = -1)
theorem c_e_codeAt {X : x_Ext} {d : Nat} {sh : List (Nat ⊕ (Nat × Nat))} {gi : Nat → Nat → Int32} {gl : Nat → Nat → Int64} {gr : Nat → Nat → Value} (hI : t_I sh gi gr) (ar1 : Int32) : x_Me X (d + 2) n_X12_codeAt [.ref 69, .int ar1] (sh, gi, gl, gr) (t_PL wl_e_codeAt sh gi gl gr (Q_e_codeAt gi gl gr ar1)) := by
  have hX : t_X wl_e_codeAt sh gi gl gr gi gl gr := t_X.rf
  refine me_i f_X12_codeAt (hI.wf.s rfl) rfl rfl rfl ?_
  obtain ⟨l1, u1⟩ := hI.b (hI.wf.s (k := 69) rfl) (t_bdK rfl : t_bd 11 40 = some (0, 4))
  refine ev_loc f_X12_codeAt (nx := 1) rfl rfl rfl rfl ?_
  refine ev_if f_X12_codeAt (t1 := 12) (t2 := 4) rfl rfl rfl (fun h2 => ?_) (fun h2 => ?_)
  · have u3 : ar1.toInt ≤ (-1) := t_ltu h2 (by decide : (0:Int32).toInt ≤ (0:Int)) rfl
    refine ev_loc f_X12_codeAt (nx := 13) rfl rfl rfl rfl ?_
    refine ev_bp f_X12_codeAt (nx := 15) (v := 6) rfl (by decide) rfl ?_
    refine ev_inV2 f_X12_codeAt (nx := 18) (lo2 := [(0, .ref 69), (1, .int 6)]) rfl rfl rfl rfl f_X12_refuse (hI.wf.s rfl) rfl rfl rfl rfl rfl ?_
    refine ev_loc f_X12_refuse (nx := 1) rfl rfl rfl rfl ?_
    refine ev_loc f_X12_refuse (nx := 2) rfl rfl rfl rfl ?_
    refine ev_putIT f_X12_refuse (nx := 5) rfl (hI.wf.s rfl) rfl rfl rfl (hI.put0 (hI.wf.s rfl) rfl rfl) (hX.upI rfl) (fun g4 e4 hI hX => ?_)
    refine ev_ic f_X12_refuse (nx := 6) (v := -1) rfl (by decide) rfl ?_
    refine ev_retK1 f_X12_refuse rfl rfl rfl ?_
    refine ev_aluvL f_X12_codeAt (nx := 19) (w := -1) rfl rfl rfl (by decide) rfl ?_
    refine ev_jmp f_X12_codeAt (nx := 32) rfl rfl rfl ?_
    exact ev_ret f_X12_codeAt rfl rfl rfl ⟨_, _, _, rfl, hI, hX, ⟨_, rfl, (show ((0 ≤ ar1.toInt ∧ ar1.toInt < (gi 69 40).toInt) → ((-1) : Int64) = gl 86 ar1.toNatClampNeg) ∧ (¬ (0 ≤ ar1.toInt ∧ ar1.toInt < (gi 69 40).toInt) → ((-1) : Int64).toInt = -1) from ⟨fun h => absurd h (by omega), fun _ => (by decide)⟩)⟩⟩
  · have l5 : 0 ≤ ar1.toInt := t_lel (t_nlt h2) (by decide : (0:Int) ≤ (0:Int32).toInt)
    refine ev_loc f_X12_codeAt (nx := 5) rfl rfl rfl rfl ?_
    refine ev_loc f_X12_codeAt (nx := 6) rfl rfl rfl rfl ?_
    refine ev_gvI f_X12_codeAt (nx := 9) (w := (gi 69 40)) rfl (hI.wf.s rfl) rfl rfl rfl rfl ?_
    refine ev_if f_X12_codeAt (t1 := 22) (t2 := 12) rfl rfl rfl (fun h6 => ?_) (fun h6 => ?_)
    · have r7 : ar1.toInt < (gi 69 40).toInt := Int32.lt_iff_toInt_lt.mp h6
      have u8 : ar1.toInt ≤ 3 := t_ltu h6 u1 rfl
      have l9 : 1 ≤ (gi 69 40).toInt := t_ltl h6 l5 rfl
      refine ev_loc f_X12_codeAt (nx := 23) rfl rfl rfl rfl ?_
      refine ev_loc f_X12_codeAt (nx := 24) rfl rfl rfl rfl ?_
      refine ev_getR f_X12_codeAt (nx := 27) rfl (hI.wf.s rfl) rfl rfl (hI.wf.r rfl) rfl rfl ?_
      refine ev_loc f_X12_codeAt (nx := 28) rfl rfl rfl rfl ?_
      refine ev_laldT f_X12_codeAt (nx := 29) rfl (hI.wf.s rfl) l5 (by decide) u8 (by decide) rfl (fun w10 e10 => ?_)
      refine ev_inV2 f_X12_codeAt (nx := 32) (lo2 := [(0, .ref 69), (1, .long w10)]) rfl rfl rfl rfl f_X12_givesLong (hI.wf.s rfl) rfl rfl rfl rfl rfl ?_
      refine ev_loc f_X12_givesLong (nx := 1) rfl rfl rfl rfl ?_
      refine ev_ic f_X12_givesLong (nx := 2) (v := 0) rfl (by decide) rfl ?_
      refine ev_putIT f_X12_givesLong (nx := 5) rfl (hI.wf.s rfl) rfl rfl rfl (hI.put0 (hI.wf.s rfl) rfl rfl) (hX.upI rfl) (fun g11 e11 hI hX => ?_)
      refine ev_loc f_X12_givesLong (nx := 6) rfl rfl rfl rfl ?_
      refine ev_retK1 f_X12_givesLong rfl rfl rfl ?_
      exact ev_ret f_X12_codeAt rfl rfl rfl ⟨_, _, _, rfl, hI, hX, ⟨_, rfl, (show ((0 ≤ ar1.toInt ∧ ar1.toInt < (gi 69 40).toInt) → w10 = gl 86 ar1.toNatClampNeg) ∧ (¬ (0 ≤ ar1.toInt ∧ ar1.toInt < (gi 69 40).toInt) → w10.toInt = -1) from ⟨fun _ => e10, fun h => absurd (show _ from ⟨by omega, by omega⟩) h⟩)⟩⟩
    · have r12 : (gi 69 40).toInt ≤ ar1.toInt := Int32.le_iff_toInt_le.mp (t_nlt h6)
      refine ev_loc f_X12_codeAt (nx := 13) rfl rfl rfl rfl ?_
      refine ev_bp f_X12_codeAt (nx := 15) (v := 6) rfl (by decide) rfl ?_
      refine ev_inV2 f_X12_codeAt (nx := 18) (lo2 := [(0, .ref 69), (1, .int 6)]) rfl rfl rfl rfl f_X12_refuse (hI.wf.s rfl) rfl rfl rfl rfl rfl ?_
      refine ev_loc f_X12_refuse (nx := 1) rfl rfl rfl rfl ?_
      refine ev_loc f_X12_refuse (nx := 2) rfl rfl rfl rfl ?_
      refine ev_putIT f_X12_refuse (nx := 5) rfl (hI.wf.s rfl) rfl rfl rfl (hI.put0 (hI.wf.s rfl) rfl rfl) (hX.upI rfl) (fun g13 e13 hI hX => ?_)
      refine ev_ic f_X12_refuse (nx := 6) (v := -1) rfl (by decide) rfl ?_
      refine ev_retK1 f_X12_refuse rfl rfl rfl ?_
      refine ev_aluvL f_X12_codeAt (nx := 19) (w := -1) rfl rfl rfl (by decide) rfl ?_
      refine ev_jmp f_X12_codeAt (nx := 32) rfl rfl rfl ?_
      exact ev_ret f_X12_codeAt rfl rfl rfl ⟨_, _, _, rfl, hI, hX, ⟨_, rfl, (show ((0 ≤ ar1.toInt ∧ ar1.toInt < (gi 69 40).toInt) → ((-1) : Int64) = gl 86 ar1.toNatClampNeg) ∧ (¬ (0 ≤ ar1.toInt ∧ ar1.toInt < (gi 69 40).toInt) → ((-1) : Int64).toInt = -1) from ⟨fun h => absurd h (by omega), fun _ => (by decide)⟩)⟩⟩
/-! ===== CODES: the same on both sides, through the law's loop ===== -/
noncomputable def t_CC (gi : Nat → Nat → Int32) (gl : Nat → Nat → Int64) : Prop := t_CL gi gl ∧ gi 22 6 = gi 69 40 ∧ ∀ k : Nat, (k : Int) < (gi 22 6).toInt → gl 23 (gi 27 k).toInt.toNat = gl 86 k
noncomputable def t_LE (c : Nat) (sh : List (Nat ⊕ (Nat × Nat))) (gi : Nat → Nat → Int32) (gl : Nat → Nat → Int64) (gr : Nat → Nat → Value) : Prop := t_LD c sh gi gl gr ∧ t_CC gi gl
theorem w1_CL_all : ((List.range 30).all (fun k => decide (x_cL w1_c23 k = s_cL k) && decide ((x_cI w1_c24 k).toInt = ((s_cn k : Nat) : Int)))) = true := by decide +kernel
theorem W1_N {sh : List (Nat ⊕ (Nat × Nat))} {gi : Nat → Nat → Int32} {gl : Nat → Nat → Int64} {gr : Nat → Nat → Value} (hR : x_R W1 (sh, gi, gl, gr)) : t_CC gi gl := by
  have h3 : gi 22 3 = x_cI w1_c22 3 := ((x_gc_R hR (c := w1_c22) rfl).2.2.2 _ (by decide)).1
  have h6 : gi 22 6 = x_cI w1_c22 6 := ((x_gc_R hR (c := w1_c22) rfl).2.2.2 _ (by decide)).1
  have h40 : gi 69 40 = x_cI w1_c69 40 := ((x_gc_R hR (c := w1_c69) rfl).2.2.2 _ (by decide)).1
  refine ⟨⟨?_, fun k hk => ?_⟩, ?_, fun k hk => ?_⟩
  · rw [h3]; decide +kernel
  · have hk2 : k < 2 ^ 5 := by omega
    have hl : gl 23 k = x_cL w1_c23 k := ((x_gc_R hR (c := w1_c23) rfl).2.2.2 k hk2).2.1
    have hi : gi 24 k = x_cI w1_c24 k := ((x_gc_R hR (c := w1_c24) rfl).2.2.2 k hk2).1
    have h := List.all_eq_true.mp w1_CL_all k (List.mem_range.mpr hk)
    rw [Bool.and_eq_true] at h
    rw [hl, hi]
    exact ⟨of_decide_eq_true h.1, of_decide_eq_true h.2⟩
  · rw [h6, h40]; decide +kernel
  · rw [h6] at hk
    have h0 : (x_cI w1_c22 6).toInt = 0 := by decide +kernel
    omega
noncomputable def t_ccB (w : List (Nat × Nat)) : Bool := t_un w (22, 3) && (t_nc w 23 && t_nc w 24)
noncomputable def t_cdB (w : List (Nat × Nat)) : Bool := t_un w (22, 6) && t_nc w 27
noncomputable def t_ceB (w : List (Nat × Nat)) : Bool := t_un w (69, 40) && t_nc w 86
section CCS
variable {gi g1 g2 : Nat → Nat → Int32} {gl l1 l2 : Nat → Nat → Int64} {gr r1 r2 : Nat → Nat → Value} {w w1 w2 : List (Nat × Nat)} {A1 A2 A3 A x1 x2 : Int32} {y1 y2 : Int64}
theorem t_F_nL (f : t_F w gi gl gr g1 l1 r1) {c : Nat} (h : t_nc w c = true) (hc : c < 102) : l1 c = gl c := funext fun j => (f c j hc (t_nc_in h)).2.1
theorem t_CL_fr (h : t_CL gi gl) (f : t_F w gi gl gr g1 l1 r1) (hw : t_ccB w = true) : t_CL g1 l1 := by
  unfold t_ccB at hw
  simp only [Bool.and_eq_true] at hw
  refine ⟨by rw [(f 22 3 (by decide) (t_un_ok hw.1)).1]; exact h.1, fun k hk => ?_⟩
  rw [t_F_nL f hw.2.1 (by decide), t_F_nc f hw.2.2 (by decide)]
  exact h.2 k hk
theorem t_cd_fr (f : t_F w gi gl gr g1 l1 r1) (hw : t_cdB w = true) : g1 22 6 = gi 22 6 ∧ g1 27 = gi 27 := by
  unfold t_cdB at hw
  rw [Bool.and_eq_true] at hw
  exact ⟨(f 22 6 (by decide) (t_un_ok hw.1)).1, t_F_nc f hw.2 (by decide)⟩
theorem t_ce_fr (f : t_F w gi gl gr g1 l1 r1) (hw : t_ceB w = true) : g1 69 40 = gi 69 40 ∧ l1 86 = gl 86 := by
  unfold t_ceB at hw
  rw [Bool.and_eq_true] at hw
  exact ⟨(f 69 40 (by decide) (t_un_ok hw.1)).1, t_F_nL f hw.2 (by decide)⟩
theorem t_c23_fr (f : t_F w gi gl gr g1 l1 r1) (hw : t_ccB w = true) : l1 23 = gl 23 := by
  unfold t_ccB at hw
  simp only [Bool.and_eq_true] at hw
  exact t_F_nL f hw.2.1 (by decide)
theorem t_CC_k (h : t_CC gi gl) (f1 : t_F w1 gi gl gr g1 l1 r1) (f2 : t_F w2 g1 l1 r1 g2 l2 r2) (h1 : t_ccB w1 = true) (h2 : t_ccB w2 = true) (d : g2 22 6 = gi 22 6 ∧ g2 27 = gi 27) (e : g2 69 40 = gi 69 40 ∧ l2 86 = gl 86) : t_CC g2 l2 := by
  refine ⟨t_CL_fr (t_CL_fr h.1 f1 h1) f2 h2, by rw [d.1, e.1]; exact h.2.1, fun k hk => ?_⟩
  rw [d.1] at hk
  rw [d.2, e.2, t_c23_fr f2 h2, t_c23_fr f1 h1]
  exact h.2.2 k hk
theorem t_CC_same (h : t_CC gi gl) (f1 : t_F w1 gi gl gr g1 l1 r1) (f2 : t_F w2 g1 l1 r1 g2 l2 r2) (hw : ((t_ccB w1 && (t_cdB w1 && t_ceB w1)) && (t_ccB w2 && (t_cdB w2 && t_ceB w2))) = true) : t_CC g2 l2 := by
  simp only [Bool.and_eq_true] at hw
  obtain ⟨⟨a1, a2, a3⟩, b1, b2, b3⟩ := hw
  have d1 := t_cd_fr f1 a2
  have d2 := t_cd_fr f2 b2
  have e1 := t_ce_fr f1 a3
  have e2 := t_ce_fr f2 b3
  exact t_CC_k h f1 f2 a1 b1 ⟨d2.1.trans d1.1, d2.2.trans d1.2⟩ ⟨e2.1.trans e1.1, e2.2.trans e1.2⟩
/-- what both have found -/
theorem t_CC_two (h : t_CC gi gl) (q1 : Q_d_code gi gl gr A1 A2 A3 x1 g1 l1 r1) (q2 : Q_e_code g1 l1 r1 A1 A2 A3 x2 g2 l2 r2) : (∃ L : List Nat, ((L.length : Int) = A1.toInt ∧ (∀ x, x ∈ L → x < 30)) ∧ (s_RW (g1 27) L ∧ (g1 22 6).toInt = A1.toInt ∧ x1 = s_sI (fun i => g1 24 (g1 27 i).toInt.toNat) A1.toNatClampNeg) ∧ s_RW (g2 88) L ∧ (g2 69 40).toInt = A1.toInt ∧ (∀ i : Nat, (i : Int) < A1.toInt → l2 86 i = s_cL (g2 88 i).toInt.toNat) ∧ x2 = s_sI (fun i => g2 87 (g2 88 i).toInt.toNat) A1.toNatClampNeg ∧ ∀ x, x ∈ L → (g2 87 x).toInt = ((s_cn x : Nat) : Int)) ∨ ((x1.toInt = -1 ∧ x2.toInt = -1) ∧ (g1 27 = gi 27 ∧ g1 22 6 = gi 22 6) ∧ l2 86 = l1 86 ∧ g2 69 40 = g1 69 40) := by
  have d := q1 h.1
  by_cases hin : 1 ≤ A1.toInt ∧ A1.toInt ≤ 4 ∧ 1 ≤ A2.toInt ∧ A2.toInt ≤ 4 ∧ 0 ≤ A3.toInt ∧ A3.toInt ≤ 9
  · have hE := s_cE_b (n := A2.toNatClampNeg) (by have := t_clamp (i := A2) (by omega); omega) (by have := t_clamp (i := A2) (by omega); omega)
    rcases d.1 hin with ⟨L, a1, a2, a3, a4, a5⟩ | ⟨a1, a2, a3⟩
    · rcases q2.1 hin with ⟨L', b1, b2, b3, b4, b5, b6, b7, b8⟩ | ⟨b1, -⟩
      · have hL : L = L' := Option.some.inj (a1.symm.trans b1)
        subst hL
        exact Or.inl ⟨L, ⟨a2, fun x hx => by have := b7 x hx; omega⟩, ⟨a3, a4, a5⟩, b3, b4, b5, b6, fun x hx => b8 x (b7 x hx)⟩
      · exact absurd (a1.symm.trans b1) (by intro hh; cases hh)
    · rcases q2.1 hin with ⟨L', b1, -⟩ | ⟨b1, b2, b3⟩
      · exact absurd (a1.symm.trans b1) (by intro hh; cases hh)
      · exact Or.inr ⟨⟨a2, b2⟩, a3, b3⟩
  · have a := d.2 hin
    have b := q2.2 hin
    exact Or.inr ⟨⟨a.1, b.1⟩, a.2, b.2⟩
theorem t_CC_code (h : t_CC gi gl) (f1 : t_F w1 gi gl gr g1 l1 r1) (f2 : t_F w2 g1 l1 r1 g2 l2 r2) (hw : ((t_ccB w1 && t_ceB w1) && (t_ccB w2 && t_cdB w2)) = true) (q1 : Q_d_code gi gl gr A1 A2 A3 x1 g1 l1 r1) (q2 : Q_e_code g1 l1 r1 A1 A2 A3 x2 g2 l2 r2) : t_CC g2 l2 := by
  simp only [Bool.and_eq_true] at hw
  obtain ⟨⟨a1, a3⟩, b1, b2⟩ := hw
  have d2 := t_cd_fr f2 b2
  have e1 := t_ce_fr f1 a3
  rcases t_CC_two h q1 q2 with ⟨L, ⟨c1, c2⟩, ⟨c3, c4, _⟩, c5, c6, c7, _, _⟩ | ⟨_, c1, c2⟩
  · refine ⟨t_CL_fr (t_CL_fr h.1 f1 a1) f2 b1, ?_, fun k hk => ?_⟩
    · rw [d2.1]; exact Int32.toInt_inj.mp (c4.trans c6.symm)
    · rw [d2.1, c4] at hk
      obtain ⟨x, hx, hv⟩ := s_RW_ix c3 k (by omega)
      have hv2 := s_RW_two c3 c5 k (by omega)
      have hC := (t_CL_fr (t_CL_fr h.1 f1 a1) f2 b1).2 x (c2 x hx)
      rw [d2.2, c7 k hk, ← hv2, hv, Int.toNat_natCast]
      exact hC.1
  · exact t_CC_k h f1 f2 a1 b1 ⟨d2.1.trans c1.2, d2.2.trans c1.1⟩ ⟨c2.2.trans e1.1, c2.1.trans e1.2⟩
theorem t_L_code (h : t_CC gi gl) (f1 : t_F w1 gi gl gr g1 l1 r1) (hw : t_ccB w1 = true) (q1 : Q_d_code gi gl gr A1 A2 A3 x1 g1 l1 r1) (q2 : Q_e_code g1 l1 r1 A1 A2 A3 x2 g2 l2 r2) : x1 = x2 := by
  rcases t_CC_two h q1 q2 with ⟨L, ⟨c1, c2⟩, ⟨c3, _, c4⟩, c5, _, _, c6, c7⟩ | ⟨c, _⟩
  · rw [c4, c6]
    refine s_sI_cg _ (fun i hi => ?_)
    have hA : ((A1.toNatClampNeg : Nat) : Int) = A1.toInt := t_clamp (by omega)
    obtain ⟨x, hx, hv⟩ := s_RW_ix c3 i (by omega)
    have hv2 := s_RW_two c3 c5 i (by omega)
    have hC := (t_CL_fr h.1 f1 hw).2 x (c2 x hx)
    apply Int32.toInt_inj.mp
    show (g1 24 (g1 27 i).toInt.toNat).toInt = (g2 87 (g2 88 i).toInt.toNat).toInt
    rw [← hv2, hv, Int.toNat_natCast, hC.2, c7 x hx]
  · exact Int32.toInt_inj.mp (c.1.trans c.2.symm)
theorem t_L_codeAt (h : t_CC gi gl) (f1 : t_F w1 gi gl gr g1 l1 r1) (hw : t_ceB w1 = true) (q1 : Q_d_codeAt gi gl gr A y1 g1 l1 r1) (q2 : Q_e_codeAt g1 l1 r1 A y2 g2 l2 r2) : y1 = y2 := by
  have e1 := t_ce_fr f1 hw
  obtain ⟨a1, a2⟩ := q1
  obtain ⟨b1, b2⟩ := q2
  rw [e1.1, ← h.2.1] at b1 b2
  by_cases hin : 0 ≤ A.toInt ∧ A.toInt < (gi 22 6).toInt
  · have hA : ((A.toNatClampNeg : Nat) : Int) = A.toInt := t_clamp hin.1
    rw [a1 hin, b1 hin, e1.2]
    exact h.2.2 _ (by omega)
  · exact Int64.toInt_inj.mp ((a2 hin).trans (b2 hin).symm)
end CCS
