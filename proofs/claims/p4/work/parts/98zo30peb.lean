/-! ===== printed by riv.py: what RULES come to, on the other side ===== -/
noncomputable def wl_e_asked : List (Nat × Nat) := []
noncomputable def Q_e_asked (gi : Nat → Nat → Int32) (gl : Nat → Nat → Int64) (gr : Nat → Nat → Value) (ar1 : Int32) : Int32 → (Nat → Nat → Int32) → (Nat → Nat → Int64) → (Nat → Nat → Value) → Prop := fun (v : Int32) (gi2 : Nat → Nat → Int32) (gl2 : Nat → Nat → Int64) (gr2 : Nat → Nat → Value) => (∀ F : Nat → Int, t_MA F gi → (ar1.toInt = 15 ∨ ar1.toInt = 16 ∨ (2200000 ≤ ar1.toInt ∧ ar1.toInt < 2700000)) → v.toInt = s_cs F ar1.toInt)
theorem c_e_asked {X : x_Ext} {d : Nat} {sh : List (Nat ⊕ (Nat × Nat))} {gi : Nat → Nat → Int32} {gl : Nat → Nat → Int64} {gr : Nat → Nat → Value} (hI : t_I sh gi gr) (ar1 : Int32) : x_Me X (d + 2) n_X12_asked [.ref 69, .int ar1] (sh, gi, gl, gr) (t_PI wl_e_asked sh gi gl gr 0 1 (Q_e_asked gi gl gr ar1)) := by
  have hX : t_X wl_e_asked sh gi gl gr gi gl gr := t_X.rf
  refine me_i f_X12_asked (hI.wf.s rfl) rfl rfl rfl ?_
  refine ev_loc f_X12_asked (nx := 1) rfl rfl rfl rfl ?_
  refine ev_bp f_X12_asked (nx := 3) (v := 15) rfl (by decide) rfl ?_
  refine ev_if f_X12_asked (t1 := 12) (t2 := 6) rfl rfl rfl (fun h1 => ?_) (fun h1 => ?_)
  · have u2 : ar1.toInt ≤ 15 := t_equ h1 (by decide : (15:Int32).toInt ≤ (15:Int))
    have l3 : 15 ≤ ar1.toInt := t_eql h1 (by decide : (15:Int) ≤ (15:Int32).toInt)
    refine ev_loc f_X12_asked (nx := 13) rfl rfl rfl rfl ?_
    refine ev_getI f_X12_asked (nx := 16) rfl (hI.wf.s rfl) rfl rfl rfl ?_
    refine ev_ic f_X12_asked (nx := 17) (v := 1) rfl (by decide) rfl ?_
    refine ev_if f_X12_asked (t1 := 20) (t2 := 24) rfl rfl rfl (fun h4 => ?_) (fun h4 => ?_)
    · have u5 : (gi 69 60).toInt ≤ 1 := t_equ h4 (by decide : (1:Int32).toInt ≤ (1:Int))
      have l6 : 1 ≤ (gi 69 60).toInt := t_eql h4 (by decide : (1:Int) ≤ (1:Int32).toInt)
      refine ev_ic f_X12_asked (nx := 21) (v := 1) rfl (by decide) rfl ?_
      refine ev_jmp f_X12_asked (nx := 25) rfl rfl rfl ?_
      refine ev_loc f_X12_asked (nx := 26) rfl rfl rfl rfl ?_
      refine ev_bp f_X12_asked (nx := 28) (v := 15) rfl (by decide) rfl ?_
      refine ev_t f_X12_asked (t1 := 31) (t2 := 35) rfl rfl rfl (t_eqT u2 l3 (by decide : (15:Int32).toInt ≤ (15:Int)) (by decide : (15:Int) ≤ (15:Int32).toInt)) ?_
      refine ev_ic f_X12_asked (nx := 32) (v := 1) rfl (by decide) rfl ?_
      refine ev_jmp f_X12_asked (nx := 36) rfl rfl rfl ?_
      refine ev_t f_X12_asked (t1 := 39) (t2 := 43) rfl rfl rfl (by decide) ?_
      refine ev_ic f_X12_asked (nx := 40) (v := 1) rfl (by decide) rfl ?_
      refine ev_jmp f_X12_asked (nx := 44) rfl rfl rfl ?_
      exact ev_ret f_X12_asked rfl rfl rfl ⟨_, _, _, rfl, hI, hX, ⟨_, rfl, (Int.le_trans (by decide : (0:Int) ≤ 1) (by decide : (1:Int) ≤ (1:Int32).toInt)), (by decide : (1:Int32).toInt ≤ (1:Int)), (show (∀ F : Nat → Int, t_MA F gi → (ar1.toInt = 15 ∨ ar1.toInt = 16 ∨ (2200000 ≤ ar1.toInt ∧ ar1.toInt < 2700000)) → (1 : Int) = s_cs F ar1.toInt) from (fun F hM hr => (by
                                                            obtain ⟨⟨m1, m2, m3, m4⟩, f0, f1, f2, f3, f4, f5⟩ := hM
                                                            have z0 : (0 : Int32).toInt = 0 := rfl
                                                            have z1 : (1 : Int32).toInt = 1 := rfl
                                                            unfold s_cs
                                                            rw [f0]
                                                            repeat' split
                                                            all_goals omega)))⟩⟩
    · have r7 : (gi 69 60).toInt ≠ 1 := fun e => h4 (Int32.toInt_inj.mp (e.trans (by decide : (1:Int) = (1 : Int32).toInt)))
      refine ev_ic f_X12_asked (nx := 25) (v := 0) rfl (by decide) rfl ?_
      refine ev_loc f_X12_asked (nx := 26) rfl rfl rfl rfl ?_
      refine ev_bp f_X12_asked (nx := 28) (v := 15) rfl (by decide) rfl ?_
      refine ev_t f_X12_asked (t1 := 31) (t2 := 35) rfl rfl rfl (t_eqT u2 l3 (by decide : (15:Int32).toInt ≤ (15:Int)) (by decide : (15:Int) ≤ (15:Int32).toInt)) ?_
      refine ev_ic f_X12_asked (nx := 32) (v := 1) rfl (by decide) rfl ?_
      refine ev_jmp f_X12_asked (nx := 36) rfl rfl rfl ?_
      refine ev_f f_X12_asked (t1 := 39) (t2 := 43) rfl rfl rfl (by decide) ?_
      refine ev_ic f_X12_asked (nx := 44) (v := 0) rfl (by decide) rfl ?_
      exact ev_ret f_X12_asked rfl rfl rfl ⟨_, _, _, rfl, hI, hX, ⟨_, rfl, (by decide : (0:Int) ≤ (0:Int32).toInt), (Int.le_trans (by decide : (0:Int32).toInt ≤ (0:Int)) (by decide : (0:Int) ≤ 1)), (show (∀ F : Nat → Int, t_MA F gi → (ar1.toInt = 15 ∨ ar1.toInt = 16 ∨ (2200000 ≤ ar1.toInt ∧ ar1.toInt < 2700000)) → (0 : Int) = s_cs F ar1.toInt) from (fun F hM hr => (by
                                                            obtain ⟨⟨m1, m2, m3, m4⟩, f0, f1, f2, f3, f4, f5⟩ := hM
                                                            have z0 : (0 : Int32).toInt = 0 := rfl
                                                            have z1 : (1 : Int32).toInt = 1 := rfl
                                                            unfold s_cs
                                                            rw [f0]
                                                            repeat' split
                                                            all_goals omega)))⟩⟩
  · have r8 : ar1.toInt ≠ 15 := fun e => h1 (Int32.toInt_inj.mp (e.trans (by decide : (15:Int) = (15 : Int32).toInt)))
    refine ev_loc f_X12_asked (nx := 7) rfl rfl rfl rfl ?_
    refine ev_bp f_X12_asked (nx := 9) (v := 16) rfl (by decide) rfl ?_
    refine ev_if f_X12_asked (t1 := 12) (t2 := 45) rfl rfl rfl (fun h9 => ?_) (fun h9 => ?_)
    · have u10 : ar1.toInt ≤ 16 := t_equ h9 (by decide : (16:Int32).toInt ≤ (16:Int))
      have l11 : 16 ≤ ar1.toInt := t_eql h9 (by decide : (16:Int) ≤ (16:Int32).toInt)
      refine ev_loc f_X12_asked (nx := 13) rfl rfl rfl rfl ?_
      refine ev_getI f_X12_asked (nx := 16) rfl (hI.wf.s rfl) rfl rfl rfl ?_
      refine ev_ic f_X12_asked (nx := 17) (v := 1) rfl (by decide) rfl ?_
      refine ev_if f_X12_asked (t1 := 20) (t2 := 24) rfl rfl rfl (fun h12 => ?_) (fun h12 => ?_)
      · have u13 : (gi 69 60).toInt ≤ 1 := t_equ h12 (by decide : (1:Int32).toInt ≤ (1:Int))
        have l14 : 1 ≤ (gi 69 60).toInt := t_eql h12 (by decide : (1:Int) ≤ (1:Int32).toInt)
        refine ev_ic f_X12_asked (nx := 21) (v := 1) rfl (by decide) rfl ?_
        refine ev_jmp f_X12_asked (nx := 25) rfl rfl rfl ?_
        refine ev_loc f_X12_asked (nx := 26) rfl rfl rfl rfl ?_
        refine ev_bp f_X12_asked (nx := 28) (v := 15) rfl (by decide) rfl ?_
        refine ev_f f_X12_asked (t1 := 31) (t2 := 35) rfl rfl rfl (t_neT' (by decide : (15:Int32).toInt ≤ (15:Int)) l11 (by decide)) ?_
        refine ev_ic f_X12_asked (nx := 36) (v := 0) rfl (by decide) rfl ?_
        refine ev_f f_X12_asked (t1 := 39) (t2 := 43) rfl rfl rfl (by decide) ?_
        refine ev_ic f_X12_asked (nx := 44) (v := 0) rfl (by decide) rfl ?_
        exact ev_ret f_X12_asked rfl rfl rfl ⟨_, _, _, rfl, hI, hX, ⟨_, rfl, (by decide : (0:Int) ≤ (0:Int32).toInt), (Int.le_trans (by decide : (0:Int32).toInt ≤ (0:Int)) (by decide : (0:Int) ≤ 1)), (show (∀ F : Nat → Int, t_MA F gi → (ar1.toInt = 15 ∨ ar1.toInt = 16 ∨ (2200000 ≤ ar1.toInt ∧ ar1.toInt < 2700000)) → (0 : Int) = s_cs F ar1.toInt) from (fun F hM hr => (by
                                                            obtain ⟨⟨m1, m2, m3, m4⟩, f0, f1, f2, f3, f4, f5⟩ := hM
                                                            have z0 : (0 : Int32).toInt = 0 := rfl
                                                            have z1 : (1 : Int32).toInt = 1 := rfl
                                                            unfold s_cs
                                                            rw [f0]
                                                            repeat' split
                                                            all_goals omega)))⟩⟩
      · have r15 : (gi 69 60).toInt ≠ 1 := fun e => h12 (Int32.toInt_inj.mp (e.trans (by decide : (1:Int) = (1 : Int32).toInt)))
        refine ev_ic f_X12_asked (nx := 25) (v := 0) rfl (by decide) rfl ?_
        refine ev_loc f_X12_asked (nx := 26) rfl rfl rfl rfl ?_
        refine ev_bp f_X12_asked (nx := 28) (v := 15) rfl (by decide) rfl ?_
        refine ev_f f_X12_asked (t1 := 31) (t2 := 35) rfl rfl rfl (t_neT' (by decide : (15:Int32).toInt ≤ (15:Int)) l11 (by decide)) ?_
        refine ev_ic f_X12_asked (nx := 36) (v := 0) rfl (by decide) rfl ?_
        refine ev_t f_X12_asked (t1 := 39) (t2 := 43) rfl rfl rfl (by decide) ?_
        refine ev_ic f_X12_asked (nx := 40) (v := 1) rfl (by decide) rfl ?_
        refine ev_jmp f_X12_asked (nx := 44) rfl rfl rfl ?_
        exact ev_ret f_X12_asked rfl rfl rfl ⟨_, _, _, rfl, hI, hX, ⟨_, rfl, (Int.le_trans (by decide : (0:Int) ≤ 1) (by decide : (1:Int) ≤ (1:Int32).toInt)), (by decide : (1:Int32).toInt ≤ (1:Int)), (show (∀ F : Nat → Int, t_MA F gi → (ar1.toInt = 15 ∨ ar1.toInt = 16 ∨ (2200000 ≤ ar1.toInt ∧ ar1.toInt < 2700000)) → (1 : Int) = s_cs F ar1.toInt) from (fun F hM hr => (by
                                                            obtain ⟨⟨m1, m2, m3, m4⟩, f0, f1, f2, f3, f4, f5⟩ := hM
                                                            have z0 : (0 : Int32).toInt = 0 := rfl
                                                            have z1 : (1 : Int32).toInt = 1 := rfl
                                                            unfold s_cs
                                                            rw [f0]
                                                            repeat' split
                                                            all_goals omega)))⟩⟩
    · have r16 : ar1.toInt ≠ 16 := fun e => h9 (Int32.toInt_inj.mp (e.trans (by decide : (16:Int) = (16 : Int32).toInt)))
      refine ev_loc f_X12_asked (nx := 46) rfl rfl rfl rfl ?_
      refine ev_ldI f_X12_asked (nx := 48) (v := 100000) rfl (by decide) rfl ?_
      refine ev_divN f_X12_asked (nx := 49) rfl (by decide) rfl (fun z17 e17 => ?_)
      refine ev_loc f_X12_asked (nx := 50) (lo' := [(2, .int z17), (0, .ref 69), (1, .int ar1)]) rfl rfl rfl rfl ?_
      refine ev_loc f_X12_asked (nx := 51) rfl rfl rfl rfl ?_
      refine ev_bp f_X12_asked (nx := 53) (v := 22) rfl (by decide) rfl ?_
      refine ev_if f_X12_asked (t1 := 56) (t2 := 63) rfl rfl rfl (fun h18 => ?_) (fun h18 => ?_)
      · have u19 : z17.toInt ≤ 22 := t_equ h18 (by decide : (22:Int32).toInt ≤ (22:Int))
        have l20 : 22 ≤ z17.toInt := t_eql h18 (by decide : (22:Int) ≤ (22:Int32).toInt)
        refine ev_loc f_X12_asked (nx := 57) rfl rfl rfl rfl ?_
        refine ev_qI0 f_X12_asked (nx := 60) (r := []) rfl rfl rfl rfl rfl rfl rfl (c_e_waitingShips hI ) rfl (fun w21 l21 u21 q21 => ?_)
        have q21 : ((gi 69 64).toInt ≤ (gi 69 44).toInt → w21.toInt = s_mw gi) := q21
        refine ev_jmp f_X12_asked (nx := 111) rfl rfl rfl ?_
        refine ev_loc f_X12_asked (nx := 112) (lo' := [(3, .int w21), (2, .int z17), (0, .ref 69), (1, .int ar1)]) rfl rfl rfl rfl ?_
        refine ev_loc f_X12_asked (nx := 113) rfl rfl rfl rfl ?_
        refine ev_sp f_X12_asked (nx := 116) (v := 1000) rfl (by decide) rfl ?_
        refine ev_divN f_X12_asked (nx := 117) rfl (by decide) rfl (fun z22 e22 => ?_)
        refine ev_bp f_X12_asked (nx := 119) (v := 100) rfl (by decide) rfl ?_
        refine ev_remN f_X12_asked (nx := 120) rfl (by decide) rfl (fun z23 e23 => ?_)
        refine ev_loc f_X12_asked (nx := 122) (lo' := [(4, .int z23), (3, .int w21), (2, .int z17), (0, .ref 69), (1, .int ar1)]) rfl rfl rfl rfl ?_
        refine ev_loc f_X12_asked (nx := 123) rfl rfl rfl rfl ?_
        refine ev_sp f_X12_asked (nx := 126) (v := 1000) rfl (by decide) rfl ?_
        refine ev_remN f_X12_asked (nx := 127) rfl (by decide) rfl (fun z24 e24 => ?_)
        refine ev_loc f_X12_asked (nx := 129) (lo' := [(5, .int z24), (4, .int z23), (3, .int w21), (2, .int z17), (0, .ref 69), (1, .int ar1)]) rfl rfl rfl rfl ?_
        refine ev_loc f_X12_asked (nx := 131) rfl rfl rfl rfl ?_
        refine ev_if f_X12_asked (t1 := 134) (t2 := 148) rfl rfl rfl (fun h25 => ?_) (fun h25 => ?_)
        · have u26 : z23.toInt ≤ 0 := t_equ h25 (by decide : (0:Int32).toInt ≤ (0:Int))
          have l27 : 0 ≤ z23.toInt := t_eql h25 (by decide : (0:Int) ≤ (0:Int32).toInt)
          refine ev_loc f_X12_asked (nx := 135) rfl rfl rfl rfl ?_
          refine ev_loc f_X12_asked (nx := 137) rfl rfl rfl rfl ?_
          refine ev_if f_X12_asked (t1 := 144) (t2 := 140) rfl rfl rfl (fun h28 => ?_) (fun h28 => ?_)
          · have r29 : z24.toInt ≤ w21.toInt := Int32.le_iff_toInt_le.mp h28
            have u30 : z24.toInt ≤ 6 := t_leu h28 u21
            refine ev_ic f_X12_asked (nx := 145) (v := 0) rfl (by decide) rfl ?_
            refine ev_jmp f_X12_asked (nx := 179) rfl rfl rfl ?_
            exact ev_ret f_X12_asked rfl rfl rfl ⟨_, _, _, rfl, hI, hX, ⟨_, rfl, (by decide : (0:Int) ≤ (0:Int32).toInt), (Int.le_trans (by decide : (0:Int32).toInt ≤ (0:Int)) (by decide : (0:Int) ≤ 1)), (show (∀ F : Nat → Int, t_MA F gi → (ar1.toInt = 15 ∨ ar1.toInt = 16 ∨ (2200000 ≤ ar1.toInt ∧ ar1.toInt < 2700000)) → (0 : Int) = s_cs F ar1.toInt) from (fun F hM hr => (by
                                                            obtain ⟨⟨m1, m2, m3, m4⟩, f0, f1, f2, f3, f4, f5⟩ := hM
                                                            have z0 : (0 : Int32).toInt = 0 := rfl
                                                            have z1 : (1 : Int32).toInt = 1 := rfl
                                                            have kd := t_dvE e17 (c := 100000) rfl (by decide) (by omega)
                                                            have kq := t_dvE e22 (c := 1000) rfl (by decide) (by omega)
                                                            have kr := t_rmE e23 (c := 100) rfl (by decide) (by omega)
                                                            have kt := t_rmE e24 (c := 1000) rfl (by decide) (by omega)
                                                            have hv := q21 m1
                                                            have hf : F 1 = w21.toInt := f1.trans hv.symm
                                                            have hk : ar1.toInt / 100000 = 22 := by omega
                                                            unfold s_cs
                                                            rw [if_neg (show ¬ ar1.toInt = 15 by omega), if_neg (show ¬ ar1.toInt = 16 by omega), hk, show ((22 : Int) - 21).toNat = 1 from rfl, hf]
                                                            repeat' split
                                                            all_goals omega)))⟩⟩
          · have r31 : w21.toInt < z24.toInt := Int32.lt_iff_toInt_lt.mp (t_nle h28)
            have l32 : 1 ≤ z24.toInt := t_ltl (t_nle h28) l21 rfl
            refine ev_ic f_X12_asked (nx := 141) (v := 1) rfl (by decide) rfl ?_
            refine ev_jmp f_X12_asked (nx := 179) rfl rfl rfl ?_
            exact ev_ret f_X12_asked rfl rfl rfl ⟨_, _, _, rfl, hI, hX, ⟨_, rfl, (Int.le_trans (by decide : (0:Int) ≤ 1) (by decide : (1:Int) ≤ (1:Int32).toInt)), (by decide : (1:Int32).toInt ≤ (1:Int)), (show (∀ F : Nat → Int, t_MA F gi → (ar1.toInt = 15 ∨ ar1.toInt = 16 ∨ (2200000 ≤ ar1.toInt ∧ ar1.toInt < 2700000)) → (1 : Int) = s_cs F ar1.toInt) from (fun F hM hr => (by
                                                            obtain ⟨⟨m1, m2, m3, m4⟩, f0, f1, f2, f3, f4, f5⟩ := hM
                                                            have z0 : (0 : Int32).toInt = 0 := rfl
                                                            have z1 : (1 : Int32).toInt = 1 := rfl
                                                            have kd := t_dvE e17 (c := 100000) rfl (by decide) (by omega)
                                                            have kq := t_dvE e22 (c := 1000) rfl (by decide) (by omega)
                                                            have kr := t_rmE e23 (c := 100) rfl (by decide) (by omega)
                                                            have kt := t_rmE e24 (c := 1000) rfl (by decide) (by omega)
                                                            have hv := q21 m1
                                                            have hf : F 1 = w21.toInt := f1.trans hv.symm
                                                            have hk : ar1.toInt / 100000 = 22 := by omega
                                                            unfold s_cs
                                                            rw [if_neg (show ¬ ar1.toInt = 15 by omega), if_neg (show ¬ ar1.toInt = 16 by omega), hk, show ((22 : Int) - 21).toNat = 1 from rfl, hf]
                                                            repeat' split
                                                            all_goals omega)))⟩⟩
        · have r33 : z23.toInt ≠ 0 := fun e => h25 (Int32.toInt_inj.mp (e.trans (by decide : (0:Int) = (0 : Int32).toInt)))
          refine ev_loc f_X12_asked (nx := 150) rfl rfl rfl rfl ?_
          refine ev_ic f_X12_asked (nx := 151) (v := 1) rfl (by decide) rfl ?_
          refine ev_if f_X12_asked (t1 := 154) (t2 := 168) rfl rfl rfl (fun h34 => ?_) (fun h34 => ?_)
          · have u35 : z23.toInt ≤ 1 := t_equ h34 (by decide : (1:Int32).toInt ≤ (1:Int))
            have l36 : 1 ≤ z23.toInt := t_eql h34 (by decide : (1:Int) ≤ (1:Int32).toInt)
            refine ev_loc f_X12_asked (nx := 155) rfl rfl rfl rfl ?_
            refine ev_loc f_X12_asked (nx := 157) rfl rfl rfl rfl ?_
            refine ev_if f_X12_asked (t1 := 164) (t2 := 160) rfl rfl rfl (fun h37 => ?_) (fun h37 => ?_)
            · have r38 : w21.toInt ≤ z24.toInt := Int32.le_iff_toInt_le.mp h37
              have l39 : 0 ≤ z24.toInt := t_lel h37 l21
              refine ev_ic f_X12_asked (nx := 165) (v := 0) rfl (by decide) rfl ?_
              refine ev_jmp f_X12_asked (nx := 179) rfl rfl rfl ?_
              exact ev_ret f_X12_asked rfl rfl rfl ⟨_, _, _, rfl, hI, hX, ⟨_, rfl, (by decide : (0:Int) ≤ (0:Int32).toInt), (Int.le_trans (by decide : (0:Int32).toInt ≤ (0:Int)) (by decide : (0:Int) ≤ 1)), (show (∀ F : Nat → Int, t_MA F gi → (ar1.toInt = 15 ∨ ar1.toInt = 16 ∨ (2200000 ≤ ar1.toInt ∧ ar1.toInt < 2700000)) → (0 : Int) = s_cs F ar1.toInt) from (fun F hM hr => (by
                                                            obtain ⟨⟨m1, m2, m3, m4⟩, f0, f1, f2, f3, f4, f5⟩ := hM
                                                            have z0 : (0 : Int32).toInt = 0 := rfl
                                                            have z1 : (1 : Int32).toInt = 1 := rfl
                                                            have kd := t_dvE e17 (c := 100000) rfl (by decide) (by omega)
                                                            have kq := t_dvE e22 (c := 1000) rfl (by decide) (by omega)
                                                            have kr := t_rmE e23 (c := 100) rfl (by decide) (by omega)
                                                            have kt := t_rmE e24 (c := 1000) rfl (by decide) (by omega)
                                                            have hv := q21 m1
                                                            have hf : F 1 = w21.toInt := f1.trans hv.symm
                                                            have hk : ar1.toInt / 100000 = 22 := by omega
                                                            unfold s_cs
                                                            rw [if_neg (show ¬ ar1.toInt = 15 by omega), if_neg (show ¬ ar1.toInt = 16 by omega), hk, show ((22 : Int) - 21).toNat = 1 from rfl, hf]
                                                            repeat' split
                                                            all_goals omega)))⟩⟩
            · have r40 : z24.toInt < w21.toInt := Int32.lt_iff_toInt_lt.mp (t_nle h37)
              have u41 : z24.toInt ≤ 5 := t_ltu (t_nle h37) u21 rfl
              refine ev_ic f_X12_asked (nx := 161) (v := 1) rfl (by decide) rfl ?_
              refine ev_jmp f_X12_asked (nx := 179) rfl rfl rfl ?_
              exact ev_ret f_X12_asked rfl rfl rfl ⟨_, _, _, rfl, hI, hX, ⟨_, rfl, (Int.le_trans (by decide : (0:Int) ≤ 1) (by decide : (1:Int) ≤ (1:Int32).toInt)), (by decide : (1:Int32).toInt ≤ (1:Int)), (show (∀ F : Nat → Int, t_MA F gi → (ar1.toInt = 15 ∨ ar1.toInt = 16 ∨ (2200000 ≤ ar1.toInt ∧ ar1.toInt < 2700000)) → (1 : Int) = s_cs F ar1.toInt) from (fun F hM hr => (by
                                                            obtain ⟨⟨m1, m2, m3, m4⟩, f0, f1, f2, f3, f4, f5⟩ := hM
                                                            have z0 : (0 : Int32).toInt = 0 := rfl
                                                            have z1 : (1 : Int32).toInt = 1 := rfl
                                                            have kd := t_dvE e17 (c := 100000) rfl (by decide) (by omega)
                                                            have kq := t_dvE e22 (c := 1000) rfl (by decide) (by omega)
                                                            have kr := t_rmE e23 (c := 100) rfl (by decide) (by omega)
                                                            have kt := t_rmE e24 (c := 1000) rfl (by decide) (by omega)
                                                            have hv := q21 m1
                                                            have hf : F 1 = w21.toInt := f1.trans hv.symm
                                                            have hk : ar1.toInt / 100000 = 22 := by omega
                                                            unfold s_cs
                                                            rw [if_neg (show ¬ ar1.toInt = 15 by omega), if_neg (show ¬ ar1.toInt = 16 by omega), hk, show ((22 : Int) - 21).toNat = 1 from rfl, hf]
                                                            repeat' split
                                                            all_goals omega)))⟩⟩
          · have r42 : z23.toInt ≠ 1 := fun e => h34 (Int32.toInt_inj.mp (e.trans (by decide : (1:Int) = (1 : Int32).toInt)))
            refine ev_loc f_X12_asked (nx := 169) rfl rfl rfl rfl ?_
            refine ev_loc f_X12_asked (nx := 171) rfl rfl rfl rfl ?_
            refine ev_if f_X12_asked (t1 := 174) (t2 := 178) rfl rfl rfl (fun h43 => ?_) (fun h43 => ?_)
            · have r44 : w21.toInt = z24.toInt := t_eqi h43
              have u45 : z24.toInt ≤ 6 := t_equ (Eq.symm h43) u21
              have l46 : 0 ≤ z24.toInt := t_eql (Eq.symm h43) l21
              refine ev_ic f_X12_asked (nx := 175) (v := 1) rfl (by decide) rfl ?_
              refine ev_jmp f_X12_asked (nx := 179) rfl rfl rfl ?_
              exact ev_ret f_X12_asked rfl rfl rfl ⟨_, _, _, rfl, hI, hX, ⟨_, rfl, (Int.le_trans (by decide : (0:Int) ≤ 1) (by decide : (1:Int) ≤ (1:Int32).toInt)), (by decide : (1:Int32).toInt ≤ (1:Int)), (show (∀ F : Nat → Int, t_MA F gi → (ar1.toInt = 15 ∨ ar1.toInt = 16 ∨ (2200000 ≤ ar1.toInt ∧ ar1.toInt < 2700000)) → (1 : Int) = s_cs F ar1.toInt) from (fun F hM hr => (by
                                                            obtain ⟨⟨m1, m2, m3, m4⟩, f0, f1, f2, f3, f4, f5⟩ := hM
                                                            have z0 : (0 : Int32).toInt = 0 := rfl
                                                            have z1 : (1 : Int32).toInt = 1 := rfl
                                                            have kd := t_dvE e17 (c := 100000) rfl (by decide) (by omega)
                                                            have kq := t_dvE e22 (c := 1000) rfl (by decide) (by omega)
                                                            have kr := t_rmE e23 (c := 100) rfl (by decide) (by omega)
                                                            have kt := t_rmE e24 (c := 1000) rfl (by decide) (by omega)
                                                            have hv := q21 m1
                                                            have hf : F 1 = w21.toInt := f1.trans hv.symm
                                                            have hk : ar1.toInt / 100000 = 22 := by omega
                                                            unfold s_cs
                                                            rw [if_neg (show ¬ ar1.toInt = 15 by omega), if_neg (show ¬ ar1.toInt = 16 by omega), hk, show ((22 : Int) - 21).toNat = 1 from rfl, hf]
                                                            repeat' split
                                                            all_goals omega)))⟩⟩
            · have r47 : w21.toInt ≠ z24.toInt := t_nei h43
              refine ev_ic f_X12_asked (nx := 179) (v := 0) rfl (by decide) rfl ?_
              exact ev_ret f_X12_asked rfl rfl rfl ⟨_, _, _, rfl, hI, hX, ⟨_, rfl, (by decide : (0:Int) ≤ (0:Int32).toInt), (Int.le_trans (by decide : (0:Int32).toInt ≤ (0:Int)) (by decide : (0:Int) ≤ 1)), (show (∀ F : Nat → Int, t_MA F gi → (ar1.toInt = 15 ∨ ar1.toInt = 16 ∨ (2200000 ≤ ar1.toInt ∧ ar1.toInt < 2700000)) → (0 : Int) = s_cs F ar1.toInt) from (fun F hM hr => (by
                                                            obtain ⟨⟨m1, m2, m3, m4⟩, f0, f1, f2, f3, f4, f5⟩ := hM
                                                            have z0 : (0 : Int32).toInt = 0 := rfl
                                                            have z1 : (1 : Int32).toInt = 1 := rfl
                                                            have kd := t_dvE e17 (c := 100000) rfl (by decide) (by omega)
                                                            have kq := t_dvE e22 (c := 1000) rfl (by decide) (by omega)
                                                            have kr := t_rmE e23 (c := 100) rfl (by decide) (by omega)
                                                            have kt := t_rmE e24 (c := 1000) rfl (by decide) (by omega)
                                                            have hv := q21 m1
                                                            have hf : F 1 = w21.toInt := f1.trans hv.symm
                                                            have hk : ar1.toInt / 100000 = 22 := by omega
                                                            unfold s_cs
                                                            rw [if_neg (show ¬ ar1.toInt = 15 by omega), if_neg (show ¬ ar1.toInt = 16 by omega), hk, show ((22 : Int) - 21).toNat = 1 from rfl, hf]
                                                            repeat' split
                                                            all_goals omega)))⟩⟩
      · have r48 : z17.toInt ≠ 22 := fun e => h18 (Int32.toInt_inj.mp (e.trans (by decide : (22:Int) = (22 : Int32).toInt)))
        refine ev_loc f_X12_asked (nx := 64) rfl rfl rfl rfl ?_
        refine ev_bp f_X12_asked (nx := 66) (v := 23) rfl (by decide) rfl ?_
        refine ev_if f_X12_asked (t1 := 69) (t2 := 76) rfl rfl rfl (fun h49 => ?_) (fun h49 => ?_)
        · have u50 : z17.toInt ≤ 23 := t_equ h49 (by decide : (23:Int32).toInt ≤ (23:Int))
          have l51 : 23 ≤ z17.toInt := t_eql h49 (by decide : (23:Int) ≤ (23:Int32).toInt)
          refine ev_loc f_X12_asked (nx := 70) rfl rfl rfl rfl ?_
          refine ev_qI0 f_X12_asked (nx := 73) (r := []) rfl rfl rfl rfl rfl rfl rfl (c_e_waitingCarts hI ) rfl (fun w52 l52 u52 q52 => ?_)
          have q52 : ((gi 69 65).toInt ≤ (gi 69 45).toInt → w52.toInt = s_mc gi) := q52
          refine ev_jmp f_X12_asked (nx := 111) rfl rfl rfl ?_
          refine ev_loc f_X12_asked (nx := 112) (lo' := [(3, .int w52), (2, .int z17), (0, .ref 69), (1, .int ar1)]) rfl rfl rfl rfl ?_
          refine ev_loc f_X12_asked (nx := 113) rfl rfl rfl rfl ?_
          refine ev_sp f_X12_asked (nx := 116) (v := 1000) rfl (by decide) rfl ?_
          refine ev_divN f_X12_asked (nx := 117) rfl (by decide) rfl (fun z53 e53 => ?_)
          refine ev_bp f_X12_asked (nx := 119) (v := 100) rfl (by decide) rfl ?_
          refine ev_remN f_X12_asked (nx := 120) rfl (by decide) rfl (fun z54 e54 => ?_)
          refine ev_loc f_X12_asked (nx := 122) (lo' := [(4, .int z54), (3, .int w52), (2, .int z17), (0, .ref 69), (1, .int ar1)]) rfl rfl rfl rfl ?_
          refine ev_loc f_X12_asked (nx := 123) rfl rfl rfl rfl ?_
          refine ev_sp f_X12_asked (nx := 126) (v := 1000) rfl (by decide) rfl ?_
          refine ev_remN f_X12_asked (nx := 127) rfl (by decide) rfl (fun z55 e55 => ?_)
          refine ev_loc f_X12_asked (nx := 129) (lo' := [(5, .int z55), (4, .int z54), (3, .int w52), (2, .int z17), (0, .ref 69), (1, .int ar1)]) rfl rfl rfl rfl ?_
          refine ev_loc f_X12_asked (nx := 131) rfl rfl rfl rfl ?_
          refine ev_if f_X12_asked (t1 := 134) (t2 := 148) rfl rfl rfl (fun h56 => ?_) (fun h56 => ?_)
          · have u57 : z54.toInt ≤ 0 := t_equ h56 (by decide : (0:Int32).toInt ≤ (0:Int))
            have l58 : 0 ≤ z54.toInt := t_eql h56 (by decide : (0:Int) ≤ (0:Int32).toInt)
            refine ev_loc f_X12_asked (nx := 135) rfl rfl rfl rfl ?_
            refine ev_loc f_X12_asked (nx := 137) rfl rfl rfl rfl ?_
            refine ev_if f_X12_asked (t1 := 144) (t2 := 140) rfl rfl rfl (fun h59 => ?_) (fun h59 => ?_)
            · have r60 : z55.toInt ≤ w52.toInt := Int32.le_iff_toInt_le.mp h59
              have u61 : z55.toInt ≤ 6 := t_leu h59 u52
              refine ev_ic f_X12_asked (nx := 145) (v := 0) rfl (by decide) rfl ?_
              refine ev_jmp f_X12_asked (nx := 179) rfl rfl rfl ?_
              exact ev_ret f_X12_asked rfl rfl rfl ⟨_, _, _, rfl, hI, hX, ⟨_, rfl, (by decide : (0:Int) ≤ (0:Int32).toInt), (Int.le_trans (by decide : (0:Int32).toInt ≤ (0:Int)) (by decide : (0:Int) ≤ 1)), (show (∀ F : Nat → Int, t_MA F gi → (ar1.toInt = 15 ∨ ar1.toInt = 16 ∨ (2200000 ≤ ar1.toInt ∧ ar1.toInt < 2700000)) → (0 : Int) = s_cs F ar1.toInt) from (fun F hM hr => (by
                                                            obtain ⟨⟨m1, m2, m3, m4⟩, f0, f1, f2, f3, f4, f5⟩ := hM
                                                            have z0 : (0 : Int32).toInt = 0 := rfl
                                                            have z1 : (1 : Int32).toInt = 1 := rfl
                                                            have kd := t_dvE e17 (c := 100000) rfl (by decide) (by omega)
                                                            have kq := t_dvE e53 (c := 1000) rfl (by decide) (by omega)
                                                            have kr := t_rmE e54 (c := 100) rfl (by decide) (by omega)
                                                            have kt := t_rmE e55 (c := 1000) rfl (by decide) (by omega)
                                                            have hv := q52 m2
                                                            have hf : F 2 = w52.toInt := f2.trans hv.symm
                                                            have hk : ar1.toInt / 100000 = 23 := by omega
                                                            unfold s_cs
                                                            rw [if_neg (show ¬ ar1.toInt = 15 by omega), if_neg (show ¬ ar1.toInt = 16 by omega), hk, show ((23 : Int) - 21).toNat = 2 from rfl, hf]
                                                            repeat' split
                                                            all_goals omega)))⟩⟩
            · have r62 : w52.toInt < z55.toInt := Int32.lt_iff_toInt_lt.mp (t_nle h59)
              have l63 : 1 ≤ z55.toInt := t_ltl (t_nle h59) l52 rfl
              refine ev_ic f_X12_asked (nx := 141) (v := 1) rfl (by decide) rfl ?_
              refine ev_jmp f_X12_asked (nx := 179) rfl rfl rfl ?_
              exact ev_ret f_X12_asked rfl rfl rfl ⟨_, _, _, rfl, hI, hX, ⟨_, rfl, (Int.le_trans (by decide : (0:Int) ≤ 1) (by decide : (1:Int) ≤ (1:Int32).toInt)), (by decide : (1:Int32).toInt ≤ (1:Int)), (show (∀ F : Nat → Int, t_MA F gi → (ar1.toInt = 15 ∨ ar1.toInt = 16 ∨ (2200000 ≤ ar1.toInt ∧ ar1.toInt < 2700000)) → (1 : Int) = s_cs F ar1.toInt) from (fun F hM hr => (by
                                                            obtain ⟨⟨m1, m2, m3, m4⟩, f0, f1, f2, f3, f4, f5⟩ := hM
                                                            have z0 : (0 : Int32).toInt = 0 := rfl
                                                            have z1 : (1 : Int32).toInt = 1 := rfl
                                                            have kd := t_dvE e17 (c := 100000) rfl (by decide) (by omega)
                                                            have kq := t_dvE e53 (c := 1000) rfl (by decide) (by omega)
                                                            have kr := t_rmE e54 (c := 100) rfl (by decide) (by omega)
                                                            have kt := t_rmE e55 (c := 1000) rfl (by decide) (by omega)
                                                            have hv := q52 m2
                                                            have hf : F 2 = w52.toInt := f2.trans hv.symm
                                                            have hk : ar1.toInt / 100000 = 23 := by omega
                                                            unfold s_cs
                                                            rw [if_neg (show ¬ ar1.toInt = 15 by omega), if_neg (show ¬ ar1.toInt = 16 by omega), hk, show ((23 : Int) - 21).toNat = 2 from rfl, hf]
                                                            repeat' split
                                                            all_goals omega)))⟩⟩
          · have r64 : z54.toInt ≠ 0 := fun e => h56 (Int32.toInt_inj.mp (e.trans (by decide : (0:Int) = (0 : Int32).toInt)))
            refine ev_loc f_X12_asked (nx := 150) rfl rfl rfl rfl ?_
            refine ev_ic f_X12_asked (nx := 151) (v := 1) rfl (by decide) rfl ?_
            refine ev_if f_X12_asked (t1 := 154) (t2 := 168) rfl rfl rfl (fun h65 => ?_) (fun h65 => ?_)
            · have u66 : z54.toInt ≤ 1 := t_equ h65 (by decide : (1:Int32).toInt ≤ (1:Int))
              have l67 : 1 ≤ z54.toInt := t_eql h65 (by decide : (1:Int) ≤ (1:Int32).toInt)
              refine ev_loc f_X12_asked (nx := 155) rfl rfl rfl rfl ?_
              refine ev_loc f_X12_asked (nx := 157) rfl rfl rfl rfl ?_
              refine ev_if f_X12_asked (t1 := 164) (t2 := 160) rfl rfl rfl (fun h68 => ?_) (fun h68 => ?_)
              · have r69 : w52.toInt ≤ z55.toInt := Int32.le_iff_toInt_le.mp h68
                have l70 : 0 ≤ z55.toInt := t_lel h68 l52
                refine ev_ic f_X12_asked (nx := 165) (v := 0) rfl (by decide) rfl ?_
                refine ev_jmp f_X12_asked (nx := 179) rfl rfl rfl ?_
                exact ev_ret f_X12_asked rfl rfl rfl ⟨_, _, _, rfl, hI, hX, ⟨_, rfl, (by decide : (0:Int) ≤ (0:Int32).toInt), (Int.le_trans (by decide : (0:Int32).toInt ≤ (0:Int)) (by decide : (0:Int) ≤ 1)), (show (∀ F : Nat → Int, t_MA F gi → (ar1.toInt = 15 ∨ ar1.toInt = 16 ∨ (2200000 ≤ ar1.toInt ∧ ar1.toInt < 2700000)) → (0 : Int) = s_cs F ar1.toInt) from (fun F hM hr => (by
                                                            obtain ⟨⟨m1, m2, m3, m4⟩, f0, f1, f2, f3, f4, f5⟩ := hM
                                                            have z0 : (0 : Int32).toInt = 0 := rfl
                                                            have z1 : (1 : Int32).toInt = 1 := rfl
                                                            have kd := t_dvE e17 (c := 100000) rfl (by decide) (by omega)
                                                            have kq := t_dvE e53 (c := 1000) rfl (by decide) (by omega)
                                                            have kr := t_rmE e54 (c := 100) rfl (by decide) (by omega)
                                                            have kt := t_rmE e55 (c := 1000) rfl (by decide) (by omega)
                                                            have hv := q52 m2
                                                            have hf : F 2 = w52.toInt := f2.trans hv.symm
                                                            have hk : ar1.toInt / 100000 = 23 := by omega
                                                            unfold s_cs
                                                            rw [if_neg (show ¬ ar1.toInt = 15 by omega), if_neg (show ¬ ar1.toInt = 16 by omega), hk, show ((23 : Int) - 21).toNat = 2 from rfl, hf]
                                                            repeat' split
                                                            all_goals omega)))⟩⟩
              · have r71 : z55.toInt < w52.toInt := Int32.lt_iff_toInt_lt.mp (t_nle h68)
                have u72 : z55.toInt ≤ 5 := t_ltu (t_nle h68) u52 rfl
                refine ev_ic f_X12_asked (nx := 161) (v := 1) rfl (by decide) rfl ?_
                refine ev_jmp f_X12_asked (nx := 179) rfl rfl rfl ?_
                exact ev_ret f_X12_asked rfl rfl rfl ⟨_, _, _, rfl, hI, hX, ⟨_, rfl, (Int.le_trans (by decide : (0:Int) ≤ 1) (by decide : (1:Int) ≤ (1:Int32).toInt)), (by decide : (1:Int32).toInt ≤ (1:Int)), (show (∀ F : Nat → Int, t_MA F gi → (ar1.toInt = 15 ∨ ar1.toInt = 16 ∨ (2200000 ≤ ar1.toInt ∧ ar1.toInt < 2700000)) → (1 : Int) = s_cs F ar1.toInt) from (fun F hM hr => (by
                                                            obtain ⟨⟨m1, m2, m3, m4⟩, f0, f1, f2, f3, f4, f5⟩ := hM
                                                            have z0 : (0 : Int32).toInt = 0 := rfl
                                                            have z1 : (1 : Int32).toInt = 1 := rfl
                                                            have kd := t_dvE e17 (c := 100000) rfl (by decide) (by omega)
                                                            have kq := t_dvE e53 (c := 1000) rfl (by decide) (by omega)
                                                            have kr := t_rmE e54 (c := 100) rfl (by decide) (by omega)
                                                            have kt := t_rmE e55 (c := 1000) rfl (by decide) (by omega)
                                                            have hv := q52 m2
                                                            have hf : F 2 = w52.toInt := f2.trans hv.symm
                                                            have hk : ar1.toInt / 100000 = 23 := by omega
                                                            unfold s_cs
                                                            rw [if_neg (show ¬ ar1.toInt = 15 by omega), if_neg (show ¬ ar1.toInt = 16 by omega), hk, show ((23 : Int) - 21).toNat = 2 from rfl, hf]
                                                            repeat' split
                                                            all_goals omega)))⟩⟩
            · have r73 : z54.toInt ≠ 1 := fun e => h65 (Int32.toInt_inj.mp (e.trans (by decide : (1:Int) = (1 : Int32).toInt)))
              refine ev_loc f_X12_asked (nx := 169) rfl rfl rfl rfl ?_
              refine ev_loc f_X12_asked (nx := 171) rfl rfl rfl rfl ?_
              refine ev_if f_X12_asked (t1 := 174) (t2 := 178) rfl rfl rfl (fun h74 => ?_) (fun h74 => ?_)
              · have r75 : w52.toInt = z55.toInt := t_eqi h74
                have u76 : z55.toInt ≤ 6 := t_equ (Eq.symm h74) u52
                have l77 : 0 ≤ z55.toInt := t_eql (Eq.symm h74) l52
                refine ev_ic f_X12_asked (nx := 175) (v := 1) rfl (by decide) rfl ?_
                refine ev_jmp f_X12_asked (nx := 179) rfl rfl rfl ?_
                exact ev_ret f_X12_asked rfl rfl rfl ⟨_, _, _, rfl, hI, hX, ⟨_, rfl, (Int.le_trans (by decide : (0:Int) ≤ 1) (by decide : (1:Int) ≤ (1:Int32).toInt)), (by decide : (1:Int32).toInt ≤ (1:Int)), (show (∀ F : Nat → Int, t_MA F gi → (ar1.toInt = 15 ∨ ar1.toInt = 16 ∨ (2200000 ≤ ar1.toInt ∧ ar1.toInt < 2700000)) → (1 : Int) = s_cs F ar1.toInt) from (fun F hM hr => (by
                                                            obtain ⟨⟨m1, m2, m3, m4⟩, f0, f1, f2, f3, f4, f5⟩ := hM
                                                            have z0 : (0 : Int32).toInt = 0 := rfl
                                                            have z1 : (1 : Int32).toInt = 1 := rfl
                                                            have kd := t_dvE e17 (c := 100000) rfl (by decide) (by omega)
                                                            have kq := t_dvE e53 (c := 1000) rfl (by decide) (by omega)
                                                            have kr := t_rmE e54 (c := 100) rfl (by decide) (by omega)
                                                            have kt := t_rmE e55 (c := 1000) rfl (by decide) (by omega)
                                                            have hv := q52 m2
                                                            have hf : F 2 = w52.toInt := f2.trans hv.symm
                                                            have hk : ar1.toInt / 100000 = 23 := by omega
                                                            unfold s_cs
                                                            rw [if_neg (show ¬ ar1.toInt = 15 by omega), if_neg (show ¬ ar1.toInt = 16 by omega), hk, show ((23 : Int) - 21).toNat = 2 from rfl, hf]
                                                            repeat' split
                                                            all_goals omega)))⟩⟩
              · have r78 : w52.toInt ≠ z55.toInt := t_nei h74
                refine ev_ic f_X12_asked (nx := 179) (v := 0) rfl (by decide) rfl ?_
                exact ev_ret f_X12_asked rfl rfl rfl ⟨_, _, _, rfl, hI, hX, ⟨_, rfl, (by decide : (0:Int) ≤ (0:Int32).toInt), (Int.le_trans (by decide : (0:Int32).toInt ≤ (0:Int)) (by decide : (0:Int) ≤ 1)), (show (∀ F : Nat → Int, t_MA F gi → (ar1.toInt = 15 ∨ ar1.toInt = 16 ∨ (2200000 ≤ ar1.toInt ∧ ar1.toInt < 2700000)) → (0 : Int) = s_cs F ar1.toInt) from (fun F hM hr => (by
                                                            obtain ⟨⟨m1, m2, m3, m4⟩, f0, f1, f2, f3, f4, f5⟩ := hM
                                                            have z0 : (0 : Int32).toInt = 0 := rfl
                                                            have z1 : (1 : Int32).toInt = 1 := rfl
                                                            have kd := t_dvE e17 (c := 100000) rfl (by decide) (by omega)
                                                            have kq := t_dvE e53 (c := 1000) rfl (by decide) (by omega)
                                                            have kr := t_rmE e54 (c := 100) rfl (by decide) (by omega)
                                                            have kt := t_rmE e55 (c := 1000) rfl (by decide) (by omega)
                                                            have hv := q52 m2
                                                            have hf : F 2 = w52.toInt := f2.trans hv.symm
                                                            have hk : ar1.toInt / 100000 = 23 := by omega
                                                            unfold s_cs
                                                            rw [if_neg (show ¬ ar1.toInt = 15 by omega), if_neg (show ¬ ar1.toInt = 16 by omega), hk, show ((23 : Int) - 21).toNat = 2 from rfl, hf]
                                                            repeat' split
                                                            all_goals omega)))⟩⟩
        · have r79 : z17.toInt ≠ 23 := fun e => h49 (Int32.toInt_inj.mp (e.trans (by decide : (23:Int) = (23 : Int32).toInt)))
          refine ev_loc f_X12_asked (nx := 77) rfl rfl rfl rfl ?_
          refine ev_bp f_X12_asked (nx := 79) (v := 24) rfl (by decide) rfl ?_
          refine ev_if f_X12_asked (t1 := 82) (t2 := 89) rfl rfl rfl (fun h80 => ?_) (fun h80 => ?_)
          · have u81 : z17.toInt ≤ 24 := t_equ h80 (by decide : (24:Int32).toInt ≤ (24:Int))
            have l82 : 24 ≤ z17.toInt := t_eql h80 (by decide : (24:Int) ≤ (24:Int32).toInt)
            refine ev_loc f_X12_asked (nx := 83) rfl rfl rfl rfl ?_
            refine ev_qI0 f_X12_asked (nx := 86) (r := []) rfl rfl rfl rfl rfl rfl rfl (c_e_nextIn hI ) rfl (fun w83 l83 u83 q83 => ?_)
            have q83 : w83.toInt = s_mx gi := q83
            refine ev_jmp f_X12_asked (nx := 111) rfl rfl rfl ?_
            refine ev_loc f_X12_asked (nx := 112) (lo' := [(3, .int w83), (2, .int z17), (0, .ref 69), (1, .int ar1)]) rfl rfl rfl rfl ?_
            refine ev_loc f_X12_asked (nx := 113) rfl rfl rfl rfl ?_
            refine ev_sp f_X12_asked (nx := 116) (v := 1000) rfl (by decide) rfl ?_
            refine ev_divN f_X12_asked (nx := 117) rfl (by decide) rfl (fun z84 e84 => ?_)
            refine ev_bp f_X12_asked (nx := 119) (v := 100) rfl (by decide) rfl ?_
            refine ev_remN f_X12_asked (nx := 120) rfl (by decide) rfl (fun z85 e85 => ?_)
            refine ev_loc f_X12_asked (nx := 122) (lo' := [(4, .int z85), (3, .int w83), (2, .int z17), (0, .ref 69), (1, .int ar1)]) rfl rfl rfl rfl ?_
            refine ev_loc f_X12_asked (nx := 123) rfl rfl rfl rfl ?_
            refine ev_sp f_X12_asked (nx := 126) (v := 1000) rfl (by decide) rfl ?_
            refine ev_remN f_X12_asked (nx := 127) rfl (by decide) rfl (fun z86 e86 => ?_)
            refine ev_loc f_X12_asked (nx := 129) (lo' := [(5, .int z86), (4, .int z85), (3, .int w83), (2, .int z17), (0, .ref 69), (1, .int ar1)]) rfl rfl rfl rfl ?_
            refine ev_loc f_X12_asked (nx := 131) rfl rfl rfl rfl ?_
            refine ev_if f_X12_asked (t1 := 134) (t2 := 148) rfl rfl rfl (fun h87 => ?_) (fun h87 => ?_)
            · have u88 : z85.toInt ≤ 0 := t_equ h87 (by decide : (0:Int32).toInt ≤ (0:Int))
              have l89 : 0 ≤ z85.toInt := t_eql h87 (by decide : (0:Int) ≤ (0:Int32).toInt)
              refine ev_loc f_X12_asked (nx := 135) rfl rfl rfl rfl ?_
              refine ev_loc f_X12_asked (nx := 137) rfl rfl rfl rfl ?_
              refine ev_if f_X12_asked (t1 := 144) (t2 := 140) rfl rfl rfl (fun h90 => ?_) (fun h90 => ?_)
              · have r91 : z86.toInt ≤ w83.toInt := Int32.le_iff_toInt_le.mp h90
                refine ev_ic f_X12_asked (nx := 145) (v := 0) rfl (by decide) rfl ?_
                refine ev_jmp f_X12_asked (nx := 179) rfl rfl rfl ?_
                exact ev_ret f_X12_asked rfl rfl rfl ⟨_, _, _, rfl, hI, hX, ⟨_, rfl, (by decide : (0:Int) ≤ (0:Int32).toInt), (Int.le_trans (by decide : (0:Int32).toInt ≤ (0:Int)) (by decide : (0:Int) ≤ 1)), (show (∀ F : Nat → Int, t_MA F gi → (ar1.toInt = 15 ∨ ar1.toInt = 16 ∨ (2200000 ≤ ar1.toInt ∧ ar1.toInt < 2700000)) → (0 : Int) = s_cs F ar1.toInt) from (fun F hM hr => (by
                                                            obtain ⟨⟨m1, m2, m3, m4⟩, f0, f1, f2, f3, f4, f5⟩ := hM
                                                            have z0 : (0 : Int32).toInt = 0 := rfl
                                                            have z1 : (1 : Int32).toInt = 1 := rfl
                                                            have kd := t_dvE e17 (c := 100000) rfl (by decide) (by omega)
                                                            have kq := t_dvE e84 (c := 1000) rfl (by decide) (by omega)
                                                            have kr := t_rmE e85 (c := 100) rfl (by decide) (by omega)
                                                            have kt := t_rmE e86 (c := 1000) rfl (by decide) (by omega)
                                                            have hv := q83
                                                            have hf : F 3 = w83.toInt := f3.trans hv.symm
                                                            have hk : ar1.toInt / 100000 = 24 := by omega
                                                            unfold s_cs
                                                            rw [if_neg (show ¬ ar1.toInt = 15 by omega), if_neg (show ¬ ar1.toInt = 16 by omega), hk, show ((24 : Int) - 21).toNat = 3 from rfl, hf]
                                                            repeat' split
                                                            all_goals omega)))⟩⟩
              · have r92 : w83.toInt < z86.toInt := Int32.lt_iff_toInt_lt.mp (t_nle h90)
                have u93 : w83.toInt ≤ 2147483646 := t_ltu (t_nle h90) (t_hi z86) rfl
                have l94 : (-299) ≤ z86.toInt := t_ltl (t_nle h90) l83 rfl
                refine ev_ic f_X12_asked (nx := 141) (v := 1) rfl (by decide) rfl ?_
                refine ev_jmp f_X12_asked (nx := 179) rfl rfl rfl ?_
                exact ev_ret f_X12_asked rfl rfl rfl ⟨_, _, _, rfl, hI, hX, ⟨_, rfl, (Int.le_trans (by decide : (0:Int) ≤ 1) (by decide : (1:Int) ≤ (1:Int32).toInt)), (by decide : (1:Int32).toInt ≤ (1:Int)), (show (∀ F : Nat → Int, t_MA F gi → (ar1.toInt = 15 ∨ ar1.toInt = 16 ∨ (2200000 ≤ ar1.toInt ∧ ar1.toInt < 2700000)) → (1 : Int) = s_cs F ar1.toInt) from (fun F hM hr => (by
                                                            obtain ⟨⟨m1, m2, m3, m4⟩, f0, f1, f2, f3, f4, f5⟩ := hM
                                                            have z0 : (0 : Int32).toInt = 0 := rfl
                                                            have z1 : (1 : Int32).toInt = 1 := rfl
                                                            have kd := t_dvE e17 (c := 100000) rfl (by decide) (by omega)
                                                            have kq := t_dvE e84 (c := 1000) rfl (by decide) (by omega)
                                                            have kr := t_rmE e85 (c := 100) rfl (by decide) (by omega)
                                                            have kt := t_rmE e86 (c := 1000) rfl (by decide) (by omega)
                                                            have hv := q83
                                                            have hf : F 3 = w83.toInt := f3.trans hv.symm
                                                            have hk : ar1.toInt / 100000 = 24 := by omega
                                                            unfold s_cs
                                                            rw [if_neg (show ¬ ar1.toInt = 15 by omega), if_neg (show ¬ ar1.toInt = 16 by omega), hk, show ((24 : Int) - 21).toNat = 3 from rfl, hf]
                                                            repeat' split
                                                            all_goals omega)))⟩⟩
            · have r95 : z85.toInt ≠ 0 := fun e => h87 (Int32.toInt_inj.mp (e.trans (by decide : (0:Int) = (0 : Int32).toInt)))
              refine ev_loc f_X12_asked (nx := 150) rfl rfl rfl rfl ?_
              refine ev_ic f_X12_asked (nx := 151) (v := 1) rfl (by decide) rfl ?_
              refine ev_if f_X12_asked (t1 := 154) (t2 := 168) rfl rfl rfl (fun h96 => ?_) (fun h96 => ?_)
              · have u97 : z85.toInt ≤ 1 := t_equ h96 (by decide : (1:Int32).toInt ≤ (1:Int))
                have l98 : 1 ≤ z85.toInt := t_eql h96 (by decide : (1:Int) ≤ (1:Int32).toInt)
                refine ev_loc f_X12_asked (nx := 155) rfl rfl rfl rfl ?_
                refine ev_loc f_X12_asked (nx := 157) rfl rfl rfl rfl ?_
                refine ev_if f_X12_asked (t1 := 164) (t2 := 160) rfl rfl rfl (fun h99 => ?_) (fun h99 => ?_)
                · have r100 : w83.toInt ≤ z86.toInt := Int32.le_iff_toInt_le.mp h99
                  have l101 : (-300) ≤ z86.toInt := t_lel h99 l83
                  refine ev_ic f_X12_asked (nx := 165) (v := 0) rfl (by decide) rfl ?_
                  refine ev_jmp f_X12_asked (nx := 179) rfl rfl rfl ?_
                  exact ev_ret f_X12_asked rfl rfl rfl ⟨_, _, _, rfl, hI, hX, ⟨_, rfl, (by decide : (0:Int) ≤ (0:Int32).toInt), (Int.le_trans (by decide : (0:Int32).toInt ≤ (0:Int)) (by decide : (0:Int) ≤ 1)), (show (∀ F : Nat → Int, t_MA F gi → (ar1.toInt = 15 ∨ ar1.toInt = 16 ∨ (2200000 ≤ ar1.toInt ∧ ar1.toInt < 2700000)) → (0 : Int) = s_cs F ar1.toInt) from (fun F hM hr => (by
                                                            obtain ⟨⟨m1, m2, m3, m4⟩, f0, f1, f2, f3, f4, f5⟩ := hM
                                                            have z0 : (0 : Int32).toInt = 0 := rfl
                                                            have z1 : (1 : Int32).toInt = 1 := rfl
                                                            have kd := t_dvE e17 (c := 100000) rfl (by decide) (by omega)
                                                            have kq := t_dvE e84 (c := 1000) rfl (by decide) (by omega)
                                                            have kr := t_rmE e85 (c := 100) rfl (by decide) (by omega)
                                                            have kt := t_rmE e86 (c := 1000) rfl (by decide) (by omega)
                                                            have hv := q83
                                                            have hf : F 3 = w83.toInt := f3.trans hv.symm
                                                            have hk : ar1.toInt / 100000 = 24 := by omega
                                                            unfold s_cs
                                                            rw [if_neg (show ¬ ar1.toInt = 15 by omega), if_neg (show ¬ ar1.toInt = 16 by omega), hk, show ((24 : Int) - 21).toNat = 3 from rfl, hf]
                                                            repeat' split
                                                            all_goals omega)))⟩⟩
                · have r102 : z86.toInt < w83.toInt := Int32.lt_iff_toInt_lt.mp (t_nle h99)
                  have u103 : z86.toInt ≤ 2147483646 := t_ltu (t_nle h99) u83 rfl
                  refine ev_ic f_X12_asked (nx := 161) (v := 1) rfl (by decide) rfl ?_
                  refine ev_jmp f_X12_asked (nx := 179) rfl rfl rfl ?_
                  exact ev_ret f_X12_asked rfl rfl rfl ⟨_, _, _, rfl, hI, hX, ⟨_, rfl, (Int.le_trans (by decide : (0:Int) ≤ 1) (by decide : (1:Int) ≤ (1:Int32).toInt)), (by decide : (1:Int32).toInt ≤ (1:Int)), (show (∀ F : Nat → Int, t_MA F gi → (ar1.toInt = 15 ∨ ar1.toInt = 16 ∨ (2200000 ≤ ar1.toInt ∧ ar1.toInt < 2700000)) → (1 : Int) = s_cs F ar1.toInt) from (fun F hM hr => (by
                                                            obtain ⟨⟨m1, m2, m3, m4⟩, f0, f1, f2, f3, f4, f5⟩ := hM
                                                            have z0 : (0 : Int32).toInt = 0 := rfl
                                                            have z1 : (1 : Int32).toInt = 1 := rfl
                                                            have kd := t_dvE e17 (c := 100000) rfl (by decide) (by omega)
                                                            have kq := t_dvE e84 (c := 1000) rfl (by decide) (by omega)
                                                            have kr := t_rmE e85 (c := 100) rfl (by decide) (by omega)
                                                            have kt := t_rmE e86 (c := 1000) rfl (by decide) (by omega)
                                                            have hv := q83
                                                            have hf : F 3 = w83.toInt := f3.trans hv.symm
                                                            have hk : ar1.toInt / 100000 = 24 := by omega
                                                            unfold s_cs
                                                            rw [if_neg (show ¬ ar1.toInt = 15 by omega), if_neg (show ¬ ar1.toInt = 16 by omega), hk, show ((24 : Int) - 21).toNat = 3 from rfl, hf]
                                                            repeat' split
                                                            all_goals omega)))⟩⟩
              · have r104 : z85.toInt ≠ 1 := fun e => h96 (Int32.toInt_inj.mp (e.trans (by decide : (1:Int) = (1 : Int32).toInt)))
                refine ev_loc f_X12_asked (nx := 169) rfl rfl rfl rfl ?_
                refine ev_loc f_X12_asked (nx := 171) rfl rfl rfl rfl ?_
                refine ev_if f_X12_asked (t1 := 174) (t2 := 178) rfl rfl rfl (fun h105 => ?_) (fun h105 => ?_)
                · have r106 : w83.toInt = z86.toInt := t_eqi h105
                  have l107 : (-300) ≤ z86.toInt := t_eql (Eq.symm h105) l83
                  refine ev_ic f_X12_asked (nx := 175) (v := 1) rfl (by decide) rfl ?_
                  refine ev_jmp f_X12_asked (nx := 179) rfl rfl rfl ?_
                  exact ev_ret f_X12_asked rfl rfl rfl ⟨_, _, _, rfl, hI, hX, ⟨_, rfl, (Int.le_trans (by decide : (0:Int) ≤ 1) (by decide : (1:Int) ≤ (1:Int32).toInt)), (by decide : (1:Int32).toInt ≤ (1:Int)), (show (∀ F : Nat → Int, t_MA F gi → (ar1.toInt = 15 ∨ ar1.toInt = 16 ∨ (2200000 ≤ ar1.toInt ∧ ar1.toInt < 2700000)) → (1 : Int) = s_cs F ar1.toInt) from (fun F hM hr => (by
                                                            obtain ⟨⟨m1, m2, m3, m4⟩, f0, f1, f2, f3, f4, f5⟩ := hM
                                                            have z0 : (0 : Int32).toInt = 0 := rfl
                                                            have z1 : (1 : Int32).toInt = 1 := rfl
                                                            have kd := t_dvE e17 (c := 100000) rfl (by decide) (by omega)
                                                            have kq := t_dvE e84 (c := 1000) rfl (by decide) (by omega)
                                                            have kr := t_rmE e85 (c := 100) rfl (by decide) (by omega)
                                                            have kt := t_rmE e86 (c := 1000) rfl (by decide) (by omega)
                                                            have hv := q83
                                                            have hf : F 3 = w83.toInt := f3.trans hv.symm
                                                            have hk : ar1.toInt / 100000 = 24 := by omega
                                                            unfold s_cs
                                                            rw [if_neg (show ¬ ar1.toInt = 15 by omega), if_neg (show ¬ ar1.toInt = 16 by omega), hk, show ((24 : Int) - 21).toNat = 3 from rfl, hf]
                                                            repeat' split
                                                            all_goals omega)))⟩⟩
                · have r108 : w83.toInt ≠ z86.toInt := t_nei h105
                  refine ev_ic f_X12_asked (nx := 179) (v := 0) rfl (by decide) rfl ?_
                  exact ev_ret f_X12_asked rfl rfl rfl ⟨_, _, _, rfl, hI, hX, ⟨_, rfl, (by decide : (0:Int) ≤ (0:Int32).toInt), (Int.le_trans (by decide : (0:Int32).toInt ≤ (0:Int)) (by decide : (0:Int) ≤ 1)), (show (∀ F : Nat → Int, t_MA F gi → (ar1.toInt = 15 ∨ ar1.toInt = 16 ∨ (2200000 ≤ ar1.toInt ∧ ar1.toInt < 2700000)) → (0 : Int) = s_cs F ar1.toInt) from (fun F hM hr => (by
                                                            obtain ⟨⟨m1, m2, m3, m4⟩, f0, f1, f2, f3, f4, f5⟩ := hM
                                                            have z0 : (0 : Int32).toInt = 0 := rfl
                                                            have z1 : (1 : Int32).toInt = 1 := rfl
                                                            have kd := t_dvE e17 (c := 100000) rfl (by decide) (by omega)
                                                            have kq := t_dvE e84 (c := 1000) rfl (by decide) (by omega)
                                                            have kr := t_rmE e85 (c := 100) rfl (by decide) (by omega)
                                                            have kt := t_rmE e86 (c := 1000) rfl (by decide) (by omega)
                                                            have hv := q83
                                                            have hf : F 3 = w83.toInt := f3.trans hv.symm
                                                            have hk : ar1.toInt / 100000 = 24 := by omega
                                                            unfold s_cs
                                                            rw [if_neg (show ¬ ar1.toInt = 15 by omega), if_neg (show ¬ ar1.toInt = 16 by omega), hk, show ((24 : Int) - 21).toNat = 3 from rfl, hf]
                                                            repeat' split
                                                            all_goals omega)))⟩⟩
          · have r109 : z17.toInt ≠ 24 := fun e => h80 (Int32.toInt_inj.mp (e.trans (by decide : (24:Int) = (24 : Int32).toInt)))
            refine ev_loc f_X12_asked (nx := 90) rfl rfl rfl rfl ?_
            refine ev_bp f_X12_asked (nx := 92) (v := 25) rfl (by decide) rfl ?_
            refine ev_if f_X12_asked (t1 := 95) (t2 := 102) rfl rfl rfl (fun h110 => ?_) (fun h110 => ?_)
            · have u111 : z17.toInt ≤ 25 := t_equ h110 (by decide : (25:Int32).toInt ≤ (25:Int))
              have l112 : 25 ≤ z17.toInt := t_eql h110 (by decide : (25:Int) ≤ (25:Int32).toInt)
              refine ev_loc f_X12_asked (nx := 96) rfl rfl rfl rfl ?_
              refine ev_getI f_X12_asked (nx := 99) rfl (hI.wf.s rfl) rfl rfl rfl ?_
              obtain ⟨l113, u113⟩ := hI.b (hI.wf.s (k := 69) rfl) (t_bdK rfl : t_bd 11 59 = some (0, 301))
              refine ev_jmp f_X12_asked (nx := 111) rfl rfl rfl ?_
              refine ev_loc f_X12_asked (nx := 112) (lo' := [(3, .int (gi 69 59)), (2, .int z17), (0, .ref 69), (1, .int ar1)]) rfl rfl rfl rfl ?_
              refine ev_loc f_X12_asked (nx := 113) rfl rfl rfl rfl ?_
              refine ev_sp f_X12_asked (nx := 116) (v := 1000) rfl (by decide) rfl ?_
              refine ev_divN f_X12_asked (nx := 117) rfl (by decide) rfl (fun z114 e114 => ?_)
              refine ev_bp f_X12_asked (nx := 119) (v := 100) rfl (by decide) rfl ?_
              refine ev_remN f_X12_asked (nx := 120) rfl (by decide) rfl (fun z115 e115 => ?_)
              refine ev_loc f_X12_asked (nx := 122) (lo' := [(4, .int z115), (3, .int (gi 69 59)), (2, .int z17), (0, .ref 69), (1, .int ar1)]) rfl rfl rfl rfl ?_
              refine ev_loc f_X12_asked (nx := 123) rfl rfl rfl rfl ?_
              refine ev_sp f_X12_asked (nx := 126) (v := 1000) rfl (by decide) rfl ?_
              refine ev_remN f_X12_asked (nx := 127) rfl (by decide) rfl (fun z116 e116 => ?_)
              refine ev_loc f_X12_asked (nx := 129) (lo' := [(5, .int z116), (4, .int z115), (3, .int (gi 69 59)), (2, .int z17), (0, .ref 69), (1, .int ar1)]) rfl rfl rfl rfl ?_
              refine ev_loc f_X12_asked (nx := 131) rfl rfl rfl rfl ?_
              refine ev_if f_X12_asked (t1 := 134) (t2 := 148) rfl rfl rfl (fun h117 => ?_) (fun h117 => ?_)
              · have u118 : z115.toInt ≤ 0 := t_equ h117 (by decide : (0:Int32).toInt ≤ (0:Int))
                have l119 : 0 ≤ z115.toInt := t_eql h117 (by decide : (0:Int) ≤ (0:Int32).toInt)
                refine ev_loc f_X12_asked (nx := 135) rfl rfl rfl rfl ?_
                refine ev_loc f_X12_asked (nx := 137) rfl rfl rfl rfl ?_
                refine ev_if f_X12_asked (t1 := 144) (t2 := 140) rfl rfl rfl (fun h120 => ?_) (fun h120 => ?_)
                · have r121 : z116.toInt ≤ (gi 69 59).toInt := Int32.le_iff_toInt_le.mp h120
                  have u122 : z116.toInt ≤ 301 := t_leu h120 u113
                  refine ev_ic f_X12_asked (nx := 145) (v := 0) rfl (by decide) rfl ?_
                  refine ev_jmp f_X12_asked (nx := 179) rfl rfl rfl ?_
                  exact ev_ret f_X12_asked rfl rfl rfl ⟨_, _, _, rfl, hI, hX, ⟨_, rfl, (by decide : (0:Int) ≤ (0:Int32).toInt), (Int.le_trans (by decide : (0:Int32).toInt ≤ (0:Int)) (by decide : (0:Int) ≤ 1)), (show (∀ F : Nat → Int, t_MA F gi → (ar1.toInt = 15 ∨ ar1.toInt = 16 ∨ (2200000 ≤ ar1.toInt ∧ ar1.toInt < 2700000)) → (0 : Int) = s_cs F ar1.toInt) from (fun F hM hr => (by
                                                            obtain ⟨⟨m1, m2, m3, m4⟩, f0, f1, f2, f3, f4, f5⟩ := hM
                                                            have z0 : (0 : Int32).toInt = 0 := rfl
                                                            have z1 : (1 : Int32).toInt = 1 := rfl
                                                            have kd := t_dvE e17 (c := 100000) rfl (by decide) (by omega)
                                                            have kq := t_dvE e114 (c := 1000) rfl (by decide) (by omega)
                                                            have kr := t_rmE e115 (c := 100) rfl (by decide) (by omega)
                                                            have kt := t_rmE e116 (c := 1000) rfl (by decide) (by omega)
                                                            skip
                                                            have hf : F 4 = (gi 69 59).toInt := f4
                                                            have hk : ar1.toInt / 100000 = 25 := by omega
                                                            unfold s_cs
                                                            rw [if_neg (show ¬ ar1.toInt = 15 by omega), if_neg (show ¬ ar1.toInt = 16 by omega), hk, show ((25 : Int) - 21).toNat = 4 from rfl, hf]
                                                            repeat' split
                                                            all_goals omega)))⟩⟩
                · have r123 : (gi 69 59).toInt < z116.toInt := Int32.lt_iff_toInt_lt.mp (t_nle h120)
                  have l124 : 1 ≤ z116.toInt := t_ltl (t_nle h120) l113 rfl
                  refine ev_ic f_X12_asked (nx := 141) (v := 1) rfl (by decide) rfl ?_
                  refine ev_jmp f_X12_asked (nx := 179) rfl rfl rfl ?_
                  exact ev_ret f_X12_asked rfl rfl rfl ⟨_, _, _, rfl, hI, hX, ⟨_, rfl, (Int.le_trans (by decide : (0:Int) ≤ 1) (by decide : (1:Int) ≤ (1:Int32).toInt)), (by decide : (1:Int32).toInt ≤ (1:Int)), (show (∀ F : Nat → Int, t_MA F gi → (ar1.toInt = 15 ∨ ar1.toInt = 16 ∨ (2200000 ≤ ar1.toInt ∧ ar1.toInt < 2700000)) → (1 : Int) = s_cs F ar1.toInt) from (fun F hM hr => (by
                                                            obtain ⟨⟨m1, m2, m3, m4⟩, f0, f1, f2, f3, f4, f5⟩ := hM
                                                            have z0 : (0 : Int32).toInt = 0 := rfl
                                                            have z1 : (1 : Int32).toInt = 1 := rfl
                                                            have kd := t_dvE e17 (c := 100000) rfl (by decide) (by omega)
                                                            have kq := t_dvE e114 (c := 1000) rfl (by decide) (by omega)
                                                            have kr := t_rmE e115 (c := 100) rfl (by decide) (by omega)
                                                            have kt := t_rmE e116 (c := 1000) rfl (by decide) (by omega)
                                                            skip
                                                            have hf : F 4 = (gi 69 59).toInt := f4
                                                            have hk : ar1.toInt / 100000 = 25 := by omega
                                                            unfold s_cs
                                                            rw [if_neg (show ¬ ar1.toInt = 15 by omega), if_neg (show ¬ ar1.toInt = 16 by omega), hk, show ((25 : Int) - 21).toNat = 4 from rfl, hf]
                                                            repeat' split
                                                            all_goals omega)))⟩⟩
              · have r125 : z115.toInt ≠ 0 := fun e => h117 (Int32.toInt_inj.mp (e.trans (by decide : (0:Int) = (0 : Int32).toInt)))
                refine ev_loc f_X12_asked (nx := 150) rfl rfl rfl rfl ?_
                refine ev_ic f_X12_asked (nx := 151) (v := 1) rfl (by decide) rfl ?_
                refine ev_if f_X12_asked (t1 := 154) (t2 := 168) rfl rfl rfl (fun h126 => ?_) (fun h126 => ?_)
                · have u127 : z115.toInt ≤ 1 := t_equ h126 (by decide : (1:Int32).toInt ≤ (1:Int))
                  have l128 : 1 ≤ z115.toInt := t_eql h126 (by decide : (1:Int) ≤ (1:Int32).toInt)
                  refine ev_loc f_X12_asked (nx := 155) rfl rfl rfl rfl ?_
                  refine ev_loc f_X12_asked (nx := 157) rfl rfl rfl rfl ?_
                  refine ev_if f_X12_asked (t1 := 164) (t2 := 160) rfl rfl rfl (fun h129 => ?_) (fun h129 => ?_)
                  · have r130 : (gi 69 59).toInt ≤ z116.toInt := Int32.le_iff_toInt_le.mp h129
                    have l131 : 0 ≤ z116.toInt := t_lel h129 l113
                    refine ev_ic f_X12_asked (nx := 165) (v := 0) rfl (by decide) rfl ?_
                    refine ev_jmp f_X12_asked (nx := 179) rfl rfl rfl ?_
                    exact ev_ret f_X12_asked rfl rfl rfl ⟨_, _, _, rfl, hI, hX, ⟨_, rfl, (by decide : (0:Int) ≤ (0:Int32).toInt), (Int.le_trans (by decide : (0:Int32).toInt ≤ (0:Int)) (by decide : (0:Int) ≤ 1)), (show (∀ F : Nat → Int, t_MA F gi → (ar1.toInt = 15 ∨ ar1.toInt = 16 ∨ (2200000 ≤ ar1.toInt ∧ ar1.toInt < 2700000)) → (0 : Int) = s_cs F ar1.toInt) from (fun F hM hr => (by
                                                            obtain ⟨⟨m1, m2, m3, m4⟩, f0, f1, f2, f3, f4, f5⟩ := hM
                                                            have z0 : (0 : Int32).toInt = 0 := rfl
                                                            have z1 : (1 : Int32).toInt = 1 := rfl
                                                            have kd := t_dvE e17 (c := 100000) rfl (by decide) (by omega)
                                                            have kq := t_dvE e114 (c := 1000) rfl (by decide) (by omega)
                                                            have kr := t_rmE e115 (c := 100) rfl (by decide) (by omega)
                                                            have kt := t_rmE e116 (c := 1000) rfl (by decide) (by omega)
                                                            skip
                                                            have hf : F 4 = (gi 69 59).toInt := f4
                                                            have hk : ar1.toInt / 100000 = 25 := by omega
                                                            unfold s_cs
                                                            rw [if_neg (show ¬ ar1.toInt = 15 by omega), if_neg (show ¬ ar1.toInt = 16 by omega), hk, show ((25 : Int) - 21).toNat = 4 from rfl, hf]
                                                            repeat' split
                                                            all_goals omega)))⟩⟩
                  · have r132 : z116.toInt < (gi 69 59).toInt := Int32.lt_iff_toInt_lt.mp (t_nle h129)
                    have u133 : z116.toInt ≤ 300 := t_ltu (t_nle h129) u113 rfl
                    refine ev_ic f_X12_asked (nx := 161) (v := 1) rfl (by decide) rfl ?_
                    refine ev_jmp f_X12_asked (nx := 179) rfl rfl rfl ?_
                    exact ev_ret f_X12_asked rfl rfl rfl ⟨_, _, _, rfl, hI, hX, ⟨_, rfl, (Int.le_trans (by decide : (0:Int) ≤ 1) (by decide : (1:Int) ≤ (1:Int32).toInt)), (by decide : (1:Int32).toInt ≤ (1:Int)), (show (∀ F : Nat → Int, t_MA F gi → (ar1.toInt = 15 ∨ ar1.toInt = 16 ∨ (2200000 ≤ ar1.toInt ∧ ar1.toInt < 2700000)) → (1 : Int) = s_cs F ar1.toInt) from (fun F hM hr => (by
                                                            obtain ⟨⟨m1, m2, m3, m4⟩, f0, f1, f2, f3, f4, f5⟩ := hM
                                                            have z0 : (0 : Int32).toInt = 0 := rfl
                                                            have z1 : (1 : Int32).toInt = 1 := rfl
                                                            have kd := t_dvE e17 (c := 100000) rfl (by decide) (by omega)
                                                            have kq := t_dvE e114 (c := 1000) rfl (by decide) (by omega)
                                                            have kr := t_rmE e115 (c := 100) rfl (by decide) (by omega)
                                                            have kt := t_rmE e116 (c := 1000) rfl (by decide) (by omega)
                                                            skip
                                                            have hf : F 4 = (gi 69 59).toInt := f4
                                                            have hk : ar1.toInt / 100000 = 25 := by omega
                                                            unfold s_cs
                                                            rw [if_neg (show ¬ ar1.toInt = 15 by omega), if_neg (show ¬ ar1.toInt = 16 by omega), hk, show ((25 : Int) - 21).toNat = 4 from rfl, hf]
                                                            repeat' split
                                                            all_goals omega)))⟩⟩
                · have r134 : z115.toInt ≠ 1 := fun e => h126 (Int32.toInt_inj.mp (e.trans (by decide : (1:Int) = (1 : Int32).toInt)))
                  refine ev_loc f_X12_asked (nx := 169) rfl rfl rfl rfl ?_
                  refine ev_loc f_X12_asked (nx := 171) rfl rfl rfl rfl ?_
                  refine ev_if f_X12_asked (t1 := 174) (t2 := 178) rfl rfl rfl (fun h135 => ?_) (fun h135 => ?_)
                  · have r136 : (gi 69 59).toInt = z116.toInt := t_eqi h135
                    have u137 : z116.toInt ≤ 301 := t_equ (Eq.symm h135) u113
                    have l138 : 0 ≤ z116.toInt := t_eql (Eq.symm h135) l113
                    refine ev_ic f_X12_asked (nx := 175) (v := 1) rfl (by decide) rfl ?_
                    refine ev_jmp f_X12_asked (nx := 179) rfl rfl rfl ?_
                    exact ev_ret f_X12_asked rfl rfl rfl ⟨_, _, _, rfl, hI, hX, ⟨_, rfl, (Int.le_trans (by decide : (0:Int) ≤ 1) (by decide : (1:Int) ≤ (1:Int32).toInt)), (by decide : (1:Int32).toInt ≤ (1:Int)), (show (∀ F : Nat → Int, t_MA F gi → (ar1.toInt = 15 ∨ ar1.toInt = 16 ∨ (2200000 ≤ ar1.toInt ∧ ar1.toInt < 2700000)) → (1 : Int) = s_cs F ar1.toInt) from (fun F hM hr => (by
                                                            obtain ⟨⟨m1, m2, m3, m4⟩, f0, f1, f2, f3, f4, f5⟩ := hM
                                                            have z0 : (0 : Int32).toInt = 0 := rfl
                                                            have z1 : (1 : Int32).toInt = 1 := rfl
                                                            have kd := t_dvE e17 (c := 100000) rfl (by decide) (by omega)
                                                            have kq := t_dvE e114 (c := 1000) rfl (by decide) (by omega)
                                                            have kr := t_rmE e115 (c := 100) rfl (by decide) (by omega)
                                                            have kt := t_rmE e116 (c := 1000) rfl (by decide) (by omega)
                                                            skip
                                                            have hf : F 4 = (gi 69 59).toInt := f4
                                                            have hk : ar1.toInt / 100000 = 25 := by omega
                                                            unfold s_cs
                                                            rw [if_neg (show ¬ ar1.toInt = 15 by omega), if_neg (show ¬ ar1.toInt = 16 by omega), hk, show ((25 : Int) - 21).toNat = 4 from rfl, hf]
                                                            repeat' split
                                                            all_goals omega)))⟩⟩
                  · have r139 : (gi 69 59).toInt ≠ z116.toInt := t_nei h135
                    refine ev_ic f_X12_asked (nx := 179) (v := 0) rfl (by decide) rfl ?_
                    exact ev_ret f_X12_asked rfl rfl rfl ⟨_, _, _, rfl, hI, hX, ⟨_, rfl, (by decide : (0:Int) ≤ (0:Int32).toInt), (Int.le_trans (by decide : (0:Int32).toInt ≤ (0:Int)) (by decide : (0:Int) ≤ 1)), (show (∀ F : Nat → Int, t_MA F gi → (ar1.toInt = 15 ∨ ar1.toInt = 16 ∨ (2200000 ≤ ar1.toInt ∧ ar1.toInt < 2700000)) → (0 : Int) = s_cs F ar1.toInt) from (fun F hM hr => (by
                                                            obtain ⟨⟨m1, m2, m3, m4⟩, f0, f1, f2, f3, f4, f5⟩ := hM
                                                            have z0 : (0 : Int32).toInt = 0 := rfl
                                                            have z1 : (1 : Int32).toInt = 1 := rfl
                                                            have kd := t_dvE e17 (c := 100000) rfl (by decide) (by omega)
                                                            have kq := t_dvE e114 (c := 1000) rfl (by decide) (by omega)
                                                            have kr := t_rmE e115 (c := 100) rfl (by decide) (by omega)
                                                            have kt := t_rmE e116 (c := 1000) rfl (by decide) (by omega)
                                                            skip
                                                            have hf : F 4 = (gi 69 59).toInt := f4
                                                            have hk : ar1.toInt / 100000 = 25 := by omega
                                                            unfold s_cs
                                                            rw [if_neg (show ¬ ar1.toInt = 15 by omega), if_neg (show ¬ ar1.toInt = 16 by omega), hk, show ((25 : Int) - 21).toNat = 4 from rfl, hf]
                                                            repeat' split
                                                            all_goals omega)))⟩⟩
            · have r140 : z17.toInt ≠ 25 := fun e => h110 (Int32.toInt_inj.mp (e.trans (by decide : (25:Int) = (25 : Int32).toInt)))
              refine ev_loc f_X12_asked (nx := 103) rfl rfl rfl rfl ?_
              refine ev_getI f_X12_asked (nx := 106) rfl (hI.wf.s rfl) rfl rfl rfl ?_
              obtain ⟨l141, u141⟩ := hI.b (hI.wf.s (k := 69) rfl) (t_bdK rfl : t_bd 11 59 = some (0, 301))
              refine ev_loc f_X12_asked (nx := 107) rfl rfl rfl rfl ?_
              refine ev_getI f_X12_asked (nx := 110) rfl (hI.wf.s rfl) rfl rfl rfl ?_
              refine ev_anyIE f_X12_asked (nx := 111) rfl rfl rfl rfl (fun z142 e142 => ?_)
              refine ev_loc f_X12_asked (nx := 112) (lo' := [(3, .int z142), (2, .int z17), (0, .ref 69), (1, .int ar1)]) rfl rfl rfl rfl ?_
              refine ev_loc f_X12_asked (nx := 113) rfl rfl rfl rfl ?_
              refine ev_sp f_X12_asked (nx := 116) (v := 1000) rfl (by decide) rfl ?_
              refine ev_divN f_X12_asked (nx := 117) rfl (by decide) rfl (fun z143 e143 => ?_)
              refine ev_bp f_X12_asked (nx := 119) (v := 100) rfl (by decide) rfl ?_
              refine ev_remN f_X12_asked (nx := 120) rfl (by decide) rfl (fun z144 e144 => ?_)
              refine ev_loc f_X12_asked (nx := 122) (lo' := [(4, .int z144), (3, .int z142), (2, .int z17), (0, .ref 69), (1, .int ar1)]) rfl rfl rfl rfl ?_
              refine ev_loc f_X12_asked (nx := 123) rfl rfl rfl rfl ?_
              refine ev_sp f_X12_asked (nx := 126) (v := 1000) rfl (by decide) rfl ?_
              refine ev_remN f_X12_asked (nx := 127) rfl (by decide) rfl (fun z145 e145 => ?_)
              refine ev_loc f_X12_asked (nx := 129) (lo' := [(5, .int z145), (4, .int z144), (3, .int z142), (2, .int z17), (0, .ref 69), (1, .int ar1)]) rfl rfl rfl rfl ?_
              refine ev_loc f_X12_asked (nx := 131) rfl rfl rfl rfl ?_
              refine ev_if f_X12_asked (t1 := 134) (t2 := 148) rfl rfl rfl (fun h146 => ?_) (fun h146 => ?_)
              · have u147 : z144.toInt ≤ 0 := t_equ h146 (by decide : (0:Int32).toInt ≤ (0:Int))
                have l148 : 0 ≤ z144.toInt := t_eql h146 (by decide : (0:Int) ≤ (0:Int32).toInt)
                refine ev_loc f_X12_asked (nx := 135) rfl rfl rfl rfl ?_
                refine ev_loc f_X12_asked (nx := 137) rfl rfl rfl rfl ?_
                refine ev_if f_X12_asked (t1 := 144) (t2 := 140) rfl rfl rfl (fun h149 => ?_) (fun h149 => ?_)
                · have r150 : z145.toInt ≤ z142.toInt := Int32.le_iff_toInt_le.mp h149
                  refine ev_ic f_X12_asked (nx := 145) (v := 0) rfl (by decide) rfl ?_
                  refine ev_jmp f_X12_asked (nx := 179) rfl rfl rfl ?_
                  exact ev_ret f_X12_asked rfl rfl rfl ⟨_, _, _, rfl, hI, hX, ⟨_, rfl, (by decide : (0:Int) ≤ (0:Int32).toInt), (Int.le_trans (by decide : (0:Int32).toInt ≤ (0:Int)) (by decide : (0:Int) ≤ 1)), (show (∀ F : Nat → Int, t_MA F gi → (ar1.toInt = 15 ∨ ar1.toInt = 16 ∨ (2200000 ≤ ar1.toInt ∧ ar1.toInt < 2700000)) → (0 : Int) = s_cs F ar1.toInt) from (fun F hM hr => (by
                                                            obtain ⟨⟨m1, m2, m3, m4⟩, f0, f1, f2, f3, f4, f5⟩ := hM
                                                            have z0 : (0 : Int32).toInt = 0 := rfl
                                                            have z1 : (1 : Int32).toInt = 1 := rfl
                                                            have kd := t_dvE e17 (c := 100000) rfl (by decide) (by omega)
                                                            have kq := t_dvE e143 (c := 1000) rfl (by decide) (by omega)
                                                            have kr := t_rmE e144 (c := 100) rfl (by decide) (by omega)
                                                            have kt := t_rmE e145 (c := 1000) rfl (by decide) (by omega)
                                                            have lm := l141
                                                            have um := u141
                                                            have hv := s_sub e142 rfl rfl (by omega)
                                                            have hf : F 5 = z142.toInt := f5.trans hv.symm
                                                            have hk : ar1.toInt / 100000 = 26 := by omega
                                                            unfold s_cs
                                                            rw [if_neg (show ¬ ar1.toInt = 15 by omega), if_neg (show ¬ ar1.toInt = 16 by omega), hk, show ((26 : Int) - 21).toNat = 5 from rfl, hf]
                                                            repeat' split
                                                            all_goals omega)))⟩⟩
                · have r151 : z142.toInt < z145.toInt := Int32.lt_iff_toInt_lt.mp (t_nle h149)
                  have u152 : z142.toInt ≤ 2147483646 := t_ltu (t_nle h149) (t_hi z145) rfl
                  have l153 : (-2147483647) ≤ z145.toInt := t_ltl (t_nle h149) (t_lo z142) rfl
                  refine ev_ic f_X12_asked (nx := 141) (v := 1) rfl (by decide) rfl ?_
                  refine ev_jmp f_X12_asked (nx := 179) rfl rfl rfl ?_
                  exact ev_ret f_X12_asked rfl rfl rfl ⟨_, _, _, rfl, hI, hX, ⟨_, rfl, (Int.le_trans (by decide : (0:Int) ≤ 1) (by decide : (1:Int) ≤ (1:Int32).toInt)), (by decide : (1:Int32).toInt ≤ (1:Int)), (show (∀ F : Nat → Int, t_MA F gi → (ar1.toInt = 15 ∨ ar1.toInt = 16 ∨ (2200000 ≤ ar1.toInt ∧ ar1.toInt < 2700000)) → (1 : Int) = s_cs F ar1.toInt) from (fun F hM hr => (by
                                                            obtain ⟨⟨m1, m2, m3, m4⟩, f0, f1, f2, f3, f4, f5⟩ := hM
                                                            have z0 : (0 : Int32).toInt = 0 := rfl
                                                            have z1 : (1 : Int32).toInt = 1 := rfl
                                                            have kd := t_dvE e17 (c := 100000) rfl (by decide) (by omega)
                                                            have kq := t_dvE e143 (c := 1000) rfl (by decide) (by omega)
                                                            have kr := t_rmE e144 (c := 100) rfl (by decide) (by omega)
                                                            have kt := t_rmE e145 (c := 1000) rfl (by decide) (by omega)
                                                            have lm := l141
                                                            have um := u141
                                                            have hv := s_sub e142 rfl rfl (by omega)
                                                            have hf : F 5 = z142.toInt := f5.trans hv.symm
                                                            have hk : ar1.toInt / 100000 = 26 := by omega
                                                            unfold s_cs
                                                            rw [if_neg (show ¬ ar1.toInt = 15 by omega), if_neg (show ¬ ar1.toInt = 16 by omega), hk, show ((26 : Int) - 21).toNat = 5 from rfl, hf]
                                                            repeat' split
                                                            all_goals omega)))⟩⟩
              · have r154 : z144.toInt ≠ 0 := fun e => h146 (Int32.toInt_inj.mp (e.trans (by decide : (0:Int) = (0 : Int32).toInt)))
                refine ev_loc f_X12_asked (nx := 150) rfl rfl rfl rfl ?_
                refine ev_ic f_X12_asked (nx := 151) (v := 1) rfl (by decide) rfl ?_
                refine ev_if f_X12_asked (t1 := 154) (t2 := 168) rfl rfl rfl (fun h155 => ?_) (fun h155 => ?_)
                · have u156 : z144.toInt ≤ 1 := t_equ h155 (by decide : (1:Int32).toInt ≤ (1:Int))
                  have l157 : 1 ≤ z144.toInt := t_eql h155 (by decide : (1:Int) ≤ (1:Int32).toInt)
                  refine ev_loc f_X12_asked (nx := 155) rfl rfl rfl rfl ?_
                  refine ev_loc f_X12_asked (nx := 157) rfl rfl rfl rfl ?_
                  refine ev_if f_X12_asked (t1 := 164) (t2 := 160) rfl rfl rfl (fun h158 => ?_) (fun h158 => ?_)
                  · have r159 : z142.toInt ≤ z145.toInt := Int32.le_iff_toInt_le.mp h158
                    refine ev_ic f_X12_asked (nx := 165) (v := 0) rfl (by decide) rfl ?_
                    refine ev_jmp f_X12_asked (nx := 179) rfl rfl rfl ?_
                    exact ev_ret f_X12_asked rfl rfl rfl ⟨_, _, _, rfl, hI, hX, ⟨_, rfl, (by decide : (0:Int) ≤ (0:Int32).toInt), (Int.le_trans (by decide : (0:Int32).toInt ≤ (0:Int)) (by decide : (0:Int) ≤ 1)), (show (∀ F : Nat → Int, t_MA F gi → (ar1.toInt = 15 ∨ ar1.toInt = 16 ∨ (2200000 ≤ ar1.toInt ∧ ar1.toInt < 2700000)) → (0 : Int) = s_cs F ar1.toInt) from (fun F hM hr => (by
                                                            obtain ⟨⟨m1, m2, m3, m4⟩, f0, f1, f2, f3, f4, f5⟩ := hM
                                                            have z0 : (0 : Int32).toInt = 0 := rfl
                                                            have z1 : (1 : Int32).toInt = 1 := rfl
                                                            have kd := t_dvE e17 (c := 100000) rfl (by decide) (by omega)
                                                            have kq := t_dvE e143 (c := 1000) rfl (by decide) (by omega)
                                                            have kr := t_rmE e144 (c := 100) rfl (by decide) (by omega)
                                                            have kt := t_rmE e145 (c := 1000) rfl (by decide) (by omega)
                                                            have lm := l141
                                                            have um := u141
                                                            have hv := s_sub e142 rfl rfl (by omega)
                                                            have hf : F 5 = z142.toInt := f5.trans hv.symm
                                                            have hk : ar1.toInt / 100000 = 26 := by omega
                                                            unfold s_cs
                                                            rw [if_neg (show ¬ ar1.toInt = 15 by omega), if_neg (show ¬ ar1.toInt = 16 by omega), hk, show ((26 : Int) - 21).toNat = 5 from rfl, hf]
                                                            repeat' split
                                                            all_goals omega)))⟩⟩
                  · have r160 : z145.toInt < z142.toInt := Int32.lt_iff_toInt_lt.mp (t_nle h158)
                    have u161 : z145.toInt ≤ 2147483646 := t_ltu (t_nle h158) (t_hi z142) rfl
                    have l162 : (-2147483647) ≤ z142.toInt := t_ltl (t_nle h158) (t_lo z145) rfl
                    refine ev_ic f_X12_asked (nx := 161) (v := 1) rfl (by decide) rfl ?_
                    refine ev_jmp f_X12_asked (nx := 179) rfl rfl rfl ?_
                    exact ev_ret f_X12_asked rfl rfl rfl ⟨_, _, _, rfl, hI, hX, ⟨_, rfl, (Int.le_trans (by decide : (0:Int) ≤ 1) (by decide : (1:Int) ≤ (1:Int32).toInt)), (by decide : (1:Int32).toInt ≤ (1:Int)), (show (∀ F : Nat → Int, t_MA F gi → (ar1.toInt = 15 ∨ ar1.toInt = 16 ∨ (2200000 ≤ ar1.toInt ∧ ar1.toInt < 2700000)) → (1 : Int) = s_cs F ar1.toInt) from (fun F hM hr => (by
                                                            obtain ⟨⟨m1, m2, m3, m4⟩, f0, f1, f2, f3, f4, f5⟩ := hM
                                                            have z0 : (0 : Int32).toInt = 0 := rfl
                                                            have z1 : (1 : Int32).toInt = 1 := rfl
                                                            have kd := t_dvE e17 (c := 100000) rfl (by decide) (by omega)
                                                            have kq := t_dvE e143 (c := 1000) rfl (by decide) (by omega)
                                                            have kr := t_rmE e144 (c := 100) rfl (by decide) (by omega)
                                                            have kt := t_rmE e145 (c := 1000) rfl (by decide) (by omega)
                                                            have lm := l141
                                                            have um := u141
                                                            have hv := s_sub e142 rfl rfl (by omega)
                                                            have hf : F 5 = z142.toInt := f5.trans hv.symm
                                                            have hk : ar1.toInt / 100000 = 26 := by omega
                                                            unfold s_cs
                                                            rw [if_neg (show ¬ ar1.toInt = 15 by omega), if_neg (show ¬ ar1.toInt = 16 by omega), hk, show ((26 : Int) - 21).toNat = 5 from rfl, hf]
                                                            repeat' split
                                                            all_goals omega)))⟩⟩
                · have r163 : z144.toInt ≠ 1 := fun e => h155 (Int32.toInt_inj.mp (e.trans (by decide : (1:Int) = (1 : Int32).toInt)))
                  refine ev_loc f_X12_asked (nx := 169) rfl rfl rfl rfl ?_
                  refine ev_loc f_X12_asked (nx := 171) rfl rfl rfl rfl ?_
                  refine ev_if f_X12_asked (t1 := 174) (t2 := 178) rfl rfl rfl (fun h164 => ?_) (fun h164 => ?_)
                  · have r165 : z142.toInt = z145.toInt := t_eqi h164
                    refine ev_ic f_X12_asked (nx := 175) (v := 1) rfl (by decide) rfl ?_
                    refine ev_jmp f_X12_asked (nx := 179) rfl rfl rfl ?_
                    exact ev_ret f_X12_asked rfl rfl rfl ⟨_, _, _, rfl, hI, hX, ⟨_, rfl, (Int.le_trans (by decide : (0:Int) ≤ 1) (by decide : (1:Int) ≤ (1:Int32).toInt)), (by decide : (1:Int32).toInt ≤ (1:Int)), (show (∀ F : Nat → Int, t_MA F gi → (ar1.toInt = 15 ∨ ar1.toInt = 16 ∨ (2200000 ≤ ar1.toInt ∧ ar1.toInt < 2700000)) → (1 : Int) = s_cs F ar1.toInt) from (fun F hM hr => (by
                                                            obtain ⟨⟨m1, m2, m3, m4⟩, f0, f1, f2, f3, f4, f5⟩ := hM
                                                            have z0 : (0 : Int32).toInt = 0 := rfl
                                                            have z1 : (1 : Int32).toInt = 1 := rfl
                                                            have kd := t_dvE e17 (c := 100000) rfl (by decide) (by omega)
                                                            have kq := t_dvE e143 (c := 1000) rfl (by decide) (by omega)
                                                            have kr := t_rmE e144 (c := 100) rfl (by decide) (by omega)
                                                            have kt := t_rmE e145 (c := 1000) rfl (by decide) (by omega)
                                                            have lm := l141
                                                            have um := u141
                                                            have hv := s_sub e142 rfl rfl (by omega)
                                                            have hf : F 5 = z142.toInt := f5.trans hv.symm
                                                            have hk : ar1.toInt / 100000 = 26 := by omega
                                                            unfold s_cs
                                                            rw [if_neg (show ¬ ar1.toInt = 15 by omega), if_neg (show ¬ ar1.toInt = 16 by omega), hk, show ((26 : Int) - 21).toNat = 5 from rfl, hf]
                                                            repeat' split
                                                            all_goals omega)))⟩⟩
                  · have r166 : z142.toInt ≠ z145.toInt := t_nei h164
                    refine ev_ic f_X12_asked (nx := 179) (v := 0) rfl (by decide) rfl ?_
                    exact ev_ret f_X12_asked rfl rfl rfl ⟨_, _, _, rfl, hI, hX, ⟨_, rfl, (by decide : (0:Int) ≤ (0:Int32).toInt), (Int.le_trans (by decide : (0:Int32).toInt ≤ (0:Int)) (by decide : (0:Int) ≤ 1)), (show (∀ F : Nat → Int, t_MA F gi → (ar1.toInt = 15 ∨ ar1.toInt = 16 ∨ (2200000 ≤ ar1.toInt ∧ ar1.toInt < 2700000)) → (0 : Int) = s_cs F ar1.toInt) from (fun F hM hr => (by
                                                            obtain ⟨⟨m1, m2, m3, m4⟩, f0, f1, f2, f3, f4, f5⟩ := hM
                                                            have z0 : (0 : Int32).toInt = 0 := rfl
                                                            have z1 : (1 : Int32).toInt = 1 := rfl
                                                            have kd := t_dvE e17 (c := 100000) rfl (by decide) (by omega)
                                                            have kq := t_dvE e143 (c := 1000) rfl (by decide) (by omega)
                                                            have kr := t_rmE e144 (c := 100) rfl (by decide) (by omega)
                                                            have kt := t_rmE e145 (c := 1000) rfl (by decide) (by omega)
                                                            have lm := l141
                                                            have um := u141
                                                            have hv := s_sub e142 rfl rfl (by omega)
                                                            have hf : F 5 = z142.toInt := f5.trans hv.symm
                                                            have hk : ar1.toInt / 100000 = 26 := by omega
                                                            unfold s_cs
                                                            rw [if_neg (show ¬ ar1.toInt = 15 by omega), if_neg (show ¬ ar1.toInt = 16 by omega), hk, show ((26 : Int) - 21).toNat = 5 from rfl, hf]
                                                            repeat' split
                                                            all_goals omega)))⟩⟩
