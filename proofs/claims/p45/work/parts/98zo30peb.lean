/-! ===== printed by riv.py: what RULES come to, on the other side ===== -/
noncomputable def wl_e_asked : List (Nat × Nat) := []
noncomputable def Q_e_asked (gi : Nat → Nat → Int32) (gl : Nat → Nat → Int64) (gr : Nat → Nat → Value) (ar1 : Int32) : Int32 → (Nat → Nat → Int32) → (Nat → Nat → Int64) → (Nat → Nat → Value) → Prop := fun (v : Int32) (gi2 : Nat → Nat → Int32) (gl2 : Nat → Nat → Int64) (gr2 : Nat → Nat → Value) => (∀ F : Nat → Int, t_MA F gi → (ar1.toInt = 15 ∨ ar1.toInt = 16 ∨ (2200000 ≤ ar1.toInt ∧ ar1.toInt < 2700000)) → v.toInt = s_cs F ar1.toInt)
theorem c_e_asked {X : x_Ext} {d : Nat} {sh : List (Nat ⊕ (Nat × Nat))} {gi : Nat → Nat → Int32} {gl : Nat → Nat → Int64} {gr : Nat → Nat → Value} (hI : t_I sh gi gr) (ar1 : Int32) : x_Me X (d + 2) n_X12_asked [.ref 69, .int ar1] (sh, gi, gl, gr) (t_PI wl_e_asked sh gi gl gr 0 1 (Q_e_asked gi gl gr ar1)) := by
  have hX : t_X wl_e_asked sh gi gl gr gi gl gr := t_X.rf
  refine me_i f_X12_asked (hI.wf.s rfl) rfl rfl rfl ?_
  refine ev_loc f_X12_asked (nx := 1) rfl rfl rfl rfl ?_
  refine ev_bp f_X12_asked (nx := 3) (v := 15) rfl (by decide) rfl ?_
  refine ev_if f_X12_asked (t1 := 12) (t2 := 6) rfl rfl rfl (fun h1 => ?_) (fun h1 => ?_)
  · have u2 : ar1.toInt ≤ 15 := t_equ h1 (by decide : (15:Int32).toInt ≤ (15:Int))
    have l3 : 15 ≤ ar1.toInt := t_eql h1 (by decide : (15:Int) ≤ (15:Int32).toInt)
    refine ev_loc f_X12_asked (nx := 13) rfl rfl rfl rfl ?_
    refine ev_getI f_X12_asked (nx := 16) rfl (hI.wf.s rfl) rfl rfl rfl ?_
    refine ev_ic f_X12_asked (nx := 17) (v := 1) rfl (by decide) rfl ?_
    refine ev_if f_X12_asked (t1 := 20) (t2 := 24) rfl rfl rfl (fun h4 => ?_) (fun h4 => ?_)
    · have u5 : (gi 69 60).toInt ≤ 1 := t_equ h4 (by decide : (1:Int32).toInt ≤ (1:Int))
      have l6 : 1 ≤ (gi 69 60).toInt := t_eql h4 (by decide : (1:Int) ≤ (1:Int32).toInt)
      refine ev_ic f_X12_asked (nx := 21) (v := 1) rfl (by decide) rfl ?_
      refine ev_jmp f_X12_asked (nx := 25) rfl rfl rfl ?_
      refine ev_loc f_X12_asked (nx := 26) rfl rfl rfl rfl ?_
      refine ev_bp f_X12_asked (nx := 28) (v := 15) rfl (by decide) rfl ?_
      refine ev_t f_X12_asked (t1 := 31) (t2 := 35) rfl rfl rfl (t_eqT u2 l3 (by decide : (15:Int32).toInt ≤ (15:Int)) (by decide : (15:Int) ≤ (15:Int32).toInt)) ?_
      refine ev_ic f_X12_asked (nx := 32) (v := 1) rfl (by decide) rfl ?_
      refine ev_jmp f_X12_asked (nx := 36) rfl rfl rfl ?_
      refine ev_t f_X12_asked (t1 := 39) (t2 := 43) rfl rfl rfl (by decide) ?_
      refine ev_ic f_X12_asked (nx := 40) (v := 1) rfl (by decide) rfl ?_
      refine ev_jmp f_X12_asked (nx := 44) rfl rfl rfl ?_
      exact ev_ret f_X12_asked rfl rfl rfl ⟨_, _, _, rfl, hI, hX, ⟨_, rfl, (Int.le_trans (by decide : (0:Int) ≤ 1) (by decide : (1:Int) ≤ (1:Int32).toInt)), (by decide : (1:Int32).toInt ≤ (1:Int)), (show (∀ F : Nat → Int, t_MA F gi → (ar1.toInt = 15 ∨ ar1.toInt = 16 ∨ (2200000 ≤ ar1.toInt ∧ ar1.toInt < 2700000)) → (1 : Int) = s_cs F ar1.toInt) from (fun F hM hr => (by
                                                            obtain ⟨⟨m1, m2, m3, m4⟩, f0, f1, f2, f3, f4, f5⟩ := hM
                                                            have z0 : (0 : Int32).toInt = 0 := rfl
                                                            have z1 : (1 : Int32).toInt = 1 := rfl
                                                            unfold s_cs
                                                            rw [f0]
                                                            repeat' split
                                                            all_goals omega)))⟩⟩
    · have r7 : (gi 69 60).toInt ≠ 1 := fun e => h4 (Int32.toInt_inj.mp (e.trans (by decide : (1:Int) = (1 : Int32).toInt)))
      refine ev_ic f_X12_asked (nx := 25) (v := 0) rfl (by decide) rfl ?_
      refine ev_loc f_X12_asked (nx := 26) rfl rfl rfl rfl ?_
      refine ev_bp f_X12_asked (nx := 28) (v := 15) rfl (by decide) rfl ?_
      refine ev_t f_X12_asked (t1 := 31) (t2 := 35) rfl rfl rfl (t_eqT u2 l3 (by decide : (15:Int32).toInt ≤ (15:Int)) (by decide : (15:Int) ≤ (15:Int32).toInt)) ?_
      refine ev_ic f_X12_asked (nx := 32) (v := 1) rfl (by decide) rfl ?_
      refine ev_jmp f_X12_asked (nx := 36) rfl rfl rfl ?_
      refine ev_f f_X12_asked (t1 := 39) (t2 := 43) rfl rfl rfl (by decide) ?_
      refine ev_ic f_X12_asked (nx := 44) (v := 0) rfl (by decide) rfl ?_
      exact ev_ret f_X12_asked rfl rfl rfl ⟨_, _, _, rfl, hI, hX, ⟨_, rfl, (by decide : (0:Int) ≤ (0:Int32).toInt), (Int.le_trans (by decide : (0:Int32).toInt ≤ (0:Int)) (by decide : (0:Int) ≤ 1)), (show (∀ F : Nat → Int, t_MA F gi → (ar1.toInt = 15 ∨ ar1.toInt = 16 ∨ (2200000 ≤ ar1.toInt ∧ ar1.toInt < 2700000)) → (0 : Int) = s_cs F ar1.toInt) from (fun F hM hr => (by
                                                            obtain ⟨⟨m1, m2, m3, m4⟩, f0, f1, f2, f3, f4, f5⟩ := hM
                                                            have z0 : (0 : Int32).toInt = 0 := rfl
                                                            have z1 : (1 : Int32).toInt = 1 := rfl
                                                            unfold s_cs
                                                            rw [f0]
                                                            repeat' split
                                                            all_goals omega)))⟩⟩
  · have r8 : ar1.toInt ≠ 15 := fun e => h1 (Int32.toInt_inj.mp (e.trans (by decide : (15:Int) = (15 : Int32).toInt)))
    refine ev_loc f_X12_asked (nx := 7) rfl rfl rfl rfl ?_
    refine ev_bp f_X12_asked (nx := 9) (v := 16) rfl (by decide) rfl ?_
    refine ev_if f_X12_asked (t1 := 12) (t2 := 45) rfl rfl rfl (fun h9 => ?_) (fun h9 => ?_)
    · have u10 : ar1.toInt ≤ 16 := t_equ h9 (by decide : (16:Int32).toInt ≤ (16:Int))
      have l11 : 16 ≤ ar1.toInt := t_eql h9 (by decide : (16:Int) ≤ (16:Int32).toInt)
      refine ev_loc f_X12_asked (nx := 13) rfl rfl rfl rfl ?_
      refine ev_getI f_X12_asked (nx := 16) rfl (hI.wf.s rfl) rfl rfl rfl ?_
      refine ev_ic f_X12_asked (nx := 17) (v := 1) rfl (by decide) rfl ?_
      refine ev_if f_X12_asked (t1 := 20) (t2 := 24) rfl rfl rfl (fun h12 => ?_) (fun h12 => ?_)
      · have u13 : (gi 69 60).toInt ≤ 1 := t_equ h12 (by decide : (1:Int32).toInt ≤ (1:Int))
        have l14 : 1 ≤ (gi 69 60).toInt := t_eql h12 (by decide : (1:Int) ≤ (1:Int32).toInt)
        refine ev_ic f_X12_asked (nx := 21) (v := 1) rfl (by decide) rfl ?_
        refine ev_jmp f_X12_asked (nx := 25) rfl rfl rfl ?_
        refine ev_loc f_X12_asked (nx := 26) rfl rfl rfl rfl ?_
        refine ev_bp f_X12_asked (nx := 28) (v := 15) rfl (by decide) rfl ?_
        refine ev_f f_X12_asked (t1 := 31) (t2 := 35) rfl rfl rfl (t_neT' (by decide : (15:Int32).toInt ≤ (15:Int)) l11 (by decide)) ?_
        refine ev_ic f_X12_asked (nx := 36) (v := 0) rfl (by decide) rfl ?_
        refine ev_f f_X12_asked (t1 := 39) (t2 := 43) rfl rfl rfl (by decide) ?_
        refine ev_ic f_X12_asked (nx := 44) (v := 0) rfl (by decide) rfl ?_
        exact ev_ret f_X12_asked rfl rfl rfl ⟨_, _, _, rfl, hI, hX, ⟨_, rfl, (by decide : (0:Int) ≤ (0:Int32).toInt), (Int.le_trans (by decide : (0:Int32).toInt ≤ (0:Int)) (by decide : (0:Int) ≤ 1)), (show (∀ F : Nat → Int, t_MA F gi → (ar1.toInt = 15 ∨ ar1.toInt = 16 ∨ (2200000 ≤ ar1.toInt ∧ ar1.toInt < 2700000)) → (0 : Int) = s_cs F ar1.toInt) from (fun F hM hr => (by
                                                            obtain ⟨⟨m1, m2, m3, m4⟩, f0, f1, f2, f3, f4, f5⟩ := hM
                                                            have z0 : (0 : Int32).toInt = 0 := rfl
                                                            have z1 : (1 : Int32).toInt = 1 := rfl
                                                            unfold s_cs
                                                            rw [f0]
                                                            repeat' split
                                                            all_goals omega)))⟩⟩
      · have r15 : (gi 69 60).toInt ≠ 1 := fun e => h12 (Int32.toInt_inj.mp (e.trans (by decide : (1:Int) = (1 : Int32).toInt)))
        refine ev_ic f_X12_asked (nx := 25) (v := 0) rfl (by decide) rfl ?_
        refine ev_loc f_X12_asked (nx := 26) rfl rfl rfl rfl ?_
        refine ev_bp f_X12_asked (nx := 28) (v := 15) rfl (by decide) rfl ?_
        refine ev_f f_X12_asked (t1 := 31) (t2 := 35) rfl rfl rfl (t_neT' (by decide : (15:Int32).toInt ≤ (15:Int)) l11 (by decide)) ?_
        refine ev_ic f_X12_asked (nx := 36) (v := 0) rfl (by decide) rfl ?_
        refine ev_t f_X12_asked (t1 := 39) (t2 := 43) rfl rfl rfl (by decide) ?_
        refine ev_ic f_X12_asked (nx := 40) (v := 1) rfl (by decide) rfl ?_
        refine ev_jmp f_X12_asked (nx := 44) rfl rfl rfl ?_
        exact ev_ret f_X12_asked rfl rfl rfl ⟨_, _, _, rfl, hI, hX, ⟨_, rfl, (Int.le_trans (by decide : (0:Int) ≤ 1) (by decide : (1:Int) ≤ (1:Int32).toInt)), (by decide : (1:Int32).toInt ≤ (1:Int)), (show (∀ F : Nat → Int, t_MA F gi → (ar1.toInt = 15 ∨ ar1.toInt = 16 ∨ (2200000 ≤ ar1.toInt ∧ ar1.toInt < 2700000)) → (1 : Int) = s_cs F ar1.toInt) from (fun F hM hr => (by
                                                            obtain ⟨⟨m1, m2, m3, m4⟩, f0, f1, f2, f3, f4, f5⟩ := hM
                                                            have z0 : (0 : Int32).toInt = 0 := rfl
                                                            have z1 : (1 : Int32).toInt = 1 := rfl
                                                            unfold s_cs
                                                            rw [f0]
                                                            repeat' split
                                                            all_goals omega)))⟩⟩
    · have r16 : ar1.toInt ≠ 16 := fun e => h9 (Int32.toInt_inj.mp (e.trans (by decide : (16:Int) = (16 : Int32).toInt)))
      refine ev_loc f_X12_asked (nx := 46) rfl rfl rfl rfl ?_
      refine ev_ldI f_X12_asked (nx := 48) (v := 100000) rfl (by decide) rfl ?_
      refine ev_divN f_X12_asked (nx := 49) rfl (by decide) rfl (fun z17 e17 => ?_)
      refine ev_loc f_X12_asked (nx := 50) (lo' := [(2, .int z17), (0, .ref 69), (1, .int ar1)]) rfl rfl rfl rfl ?_
      refine ev_loc f_X12_asked (nx := 51) rfl rfl rfl rfl ?_
      refine ev_bp f_X12_asked (nx := 53) (v := 22) rfl (by decide) rfl ?_
      refine ev_if f_X12_asked (t1 := 56) (t2 := 63) rfl rfl rfl (fun h18 => ?_) (fun h18 => ?_)
      · have u19 : z17.toInt ≤ 22 := t_equ h18 (by decide : (22:Int32).toInt ≤ (22:Int))
        have l20 : 22 ≤ z17.toInt := t_eql h18 (by decide : (22:Int) ≤ (22:Int32).toInt)
        refine ev_loc f_X12_asked (nx := 57) rfl rfl rfl rfl ?_
        refine ev_qI0 f_X12_asked (nx := 60) (r := []) rfl rfl rfl rfl rfl rfl rfl (c_e_waitingShips hI ) rfl (fun w21 l21 u21 q21 => ?_)
        have q21 : ((gi 69 64).toInt ≤ (gi 69 44).toInt → w21.toInt = s_mw gi) := q21
        refine ev_jmp f_X12_asked (nx := 111) rfl rfl rfl ?_
        refine ev_loc f_X12_asked (nx := 112) (lo' := [(3, .int w21), (2, .int z17), (0, .ref 69), (1, .int ar1)]) rfl rfl rfl rfl ?_
        refine ev_loc f_X12_asked (nx := 113) rfl rfl rfl rfl ?_
        refine ev_sp f_X12_asked (nx := 116) (v := 1000) rfl (by decide) rfl ?_
        refine ev_divN f_X12_asked (nx := 117) rfl (by decide) rfl (fun z22 e22 => ?_)
        refine ev_bp f_X12_asked (nx := 119) (v := 100) rfl (by decide) rfl ?_
        refine ev_remN f_X12_asked (nx := 120) rfl (by decide) rfl (fun z23 e23 => ?_)
        refine ev_loc f_X12_asked (nx := 122) (lo' := [(4, .int z23), (3, .int w21), (2, .int z17), (0, .ref 69), (1, .int ar1)]) rfl rfl rfl rfl ?_
        refine ev_loc f_X12_asked (nx := 123) rfl rfl rfl rfl ?_
        refine ev_sp f_X12_asked (nx := 126) (v := 1000) rfl (by decide) rfl ?_
        refine ev_remN f_X12_asked (nx := 127) rfl (by decide) rfl (fun z24 e24 => ?_)
        refine ev_loc f_X12_asked (nx := 129) (lo' := [(5, .int z24), (4, .int z23), (3, .int w21), (2, .int z17), (0, .ref 69), (1, .int ar1)]) rfl rfl rfl rfl ?_
        refine ev_loc f_X12_asked (nx := 131) rfl rfl rfl rfl ?_
        refine ev_if f_X12_asked (t1 := 134) (t2 := 148) rfl rfl rfl (fun h25 => ?_) (fun h25 => ?_)
        · have u26 : z23.toInt ≤ 0 := t_equ h25 (by decide : (0:Int32).toInt ≤ (0:Int))
          have l27 : 0 ≤ z23.toInt := t_eql h25 (by decide : (0:Int) ≤ (0:Int32).toInt)
          refine ev_loc f_X12_asked (nx := 135) rfl rfl rfl rfl ?_
          refine ev_loc f_X12_asked (nx := 137) rfl rfl rfl rfl ?_
          refine ev_if f_X12_asked (t1 := 144) (t2 := 140) rfl rfl rfl (fun h28 => ?_) (fun h28 => ?_)
          · have r29 : z24.toInt ≤ w21.toInt := Int32.le_iff_toInt_le.mp h28
            refine ev_ic f_X12_asked (nx := 145) (v := 0) rfl (by decide) rfl ?_
            refine ev_jmp f_X12_asked (nx := 179) rfl rfl rfl ?_
            exact ev_ret f_X12_asked rfl rfl rfl ⟨_, _, _, rfl, hI, hX, ⟨_, rfl, (by decide : (0:Int) ≤ (0:Int32).toInt), (Int.le_trans (by decide : (0:Int32).toInt ≤ (0:Int)) (by decide : (0:Int) ≤ 1)), (show (∀ F : Nat → Int, t_MA F gi → (ar1.toInt = 15 ∨ ar1.toInt = 16 ∨ (2200000 ≤ ar1.toInt ∧ ar1.toInt < 2700000)) → (0 : Int) = s_cs F ar1.toInt) from (fun F hM hr => (by
                                                            obtain ⟨⟨m1, m2, m3, m4⟩, f0, f1, f2, f3, f4, f5⟩ := hM
                                                            have z0 : (0 : Int32).toInt = 0 := rfl
                                                            have z1 : (1 : Int32).toInt = 1 := rfl
                                                            have kd := t_dvE e17 (c := 100000) rfl (by decide) (by omega)
                                                            have kq := t_dvE e22 (c := 1000) rfl (by decide) (by omega)
                                                            have kr := t_rmE e23 (c := 100) rfl (by decide) (by omega)
                                                            have kt := t_rmE e24 (c := 1000) rfl (by decide) (by omega)
                                                            have hv := q21 m1
                                                            have hf : F 1 = w21.toInt := f1.trans hv.symm
                                                            have hk : ar1.toInt / 100000 = 22 := by omega
                                                            unfold s_cs
                                                            rw [if_neg (show ¬ ar1.toInt = 15 by omega), if_neg (show ¬ ar1.toInt = 16 by omega), hk, show ((22 : Int) - 21).toNat = 1 from rfl, hf]
                                                            repeat' split
                                                            all_goals omega)))⟩⟩
          · have r30 : w21.toInt < z24.toInt := Int32.lt_iff_toInt_lt.mp (t_nle h28)
            have u31 : w21.toInt ≤ 2147483646 := t_ltu (t_nle h28) (t_hi z24) rfl
            have l32 : (-2147483647) ≤ z24.toInt := t_ltl (t_nle h28) l21 rfl
            refine ev_ic f_X12_asked (nx := 141) (v := 1) rfl (by decide) rfl ?_
            refine ev_jmp f_X12_asked (nx := 179) rfl rfl rfl ?_
            exact ev_ret f_X12_asked rfl rfl rfl ⟨_, _, _, rfl, hI, hX, ⟨_, rfl, (Int.le_trans (by decide : (0:Int) ≤ 1) (by decide : (1:Int) ≤ (1:Int32).toInt)), (by decide : (1:Int32).toInt ≤ (1:Int)), (show (∀ F : Nat → Int, t_MA F gi → (ar1.toInt = 15 ∨ ar1.toInt = 16 ∨ (2200000 ≤ ar1.toInt ∧ ar1.toInt < 2700000)) → (1 : Int) = s_cs F ar1.toInt) from (fun F hM hr => (by
                                                            obtain ⟨⟨m1, m2, m3, m4⟩, f0, f1, f2, f3, f4, f5⟩ := hM
                                                            have z0 : (0 : Int32).toInt = 0 := rfl
                                                            have z1 : (1 : Int32).toInt = 1 := rfl
                                                            have kd := t_dvE e17 (c := 100000) rfl (by decide) (by omega)
                                                            have kq := t_dvE e22 (c := 1000) rfl (by decide) (by omega)
                                                            have kr := t_rmE e23 (c := 100) rfl (by decide) (by omega)
                                                            have kt := t_rmE e24 (c := 1000) rfl (by decide) (by omega)
                                                            have hv := q21 m1
                                                            have hf : F 1 = w21.toInt := f1.trans hv.symm
                                                            have hk : ar1.toInt / 100000 = 22 := by omega
                                                            unfold s_cs
                                                            rw [if_neg (show ¬ ar1.toInt = 15 by omega), if_neg (show ¬ ar1.toInt = 16 by omega), hk, show ((22 : Int) - 21).toNat = 1 from rfl, hf]
                                                            repeat' split
                                                            all_goals omega)))⟩⟩
        · have r33 : z23.toInt ≠ 0 := fun e => h25 (Int32.toInt_inj.mp (e.trans (by decide : (0:Int) = (0 : Int32).toInt)))
          refine ev_loc f_X12_asked (nx := 150) rfl rfl rfl rfl ?_
          refine ev_ic f_X12_asked (nx := 151) (v := 1) rfl (by decide) rfl ?_
          refine ev_if f_X12_asked (t1 := 154) (t2 := 168) rfl rfl rfl (fun h34 => ?_) (fun h34 => ?_)
          · have u35 : z23.toInt ≤ 1 := t_equ h34 (by decide : (1:Int32).toInt ≤ (1:Int))
            have l36 : 1 ≤ z23.toInt := t_eql h34 (by decide : (1:Int) ≤ (1:Int32).toInt)
            refine ev_loc f_X12_asked (nx := 155) rfl rfl rfl rfl ?_
            refine ev_loc f_X12_asked (nx := 157) rfl rfl rfl rfl ?_
            refine ev_if f_X12_asked (t1 := 164) (t2 := 160) rfl rfl rfl (fun h37 => ?_) (fun h37 => ?_)
            · have r38 : w21.toInt ≤ z24.toInt := Int32.le_iff_toInt_le.mp h37
              refine ev_ic f_X12_asked (nx := 165) (v := 0) rfl (by decide) rfl ?_
              refine ev_jmp f_X12_asked (nx := 179) rfl rfl rfl ?_
              exact ev_ret f_X12_asked rfl rfl rfl ⟨_, _, _, rfl, hI, hX, ⟨_, rfl, (by decide : (0:Int) ≤ (0:Int32).toInt), (Int.le_trans (by decide : (0:Int32).toInt ≤ (0:Int)) (by decide : (0:Int) ≤ 1)), (show (∀ F : Nat → Int, t_MA F gi → (ar1.toInt = 15 ∨ ar1.toInt = 16 ∨ (2200000 ≤ ar1.toInt ∧ ar1.toInt < 2700000)) → (0 : Int) = s_cs F ar1.toInt) from (fun F hM hr => (by
                                                            obtain ⟨⟨m1, m2, m3, m4⟩, f0, f1, f2, f3, f4, f5⟩ := hM
                                                            have z0 : (0 : Int32).toInt = 0 := rfl
                                                            have z1 : (1 : Int32).toInt = 1 := rfl
                                                            have kd := t_dvE e17 (c := 100000) rfl (by decide) (by omega)
                                                            have kq := t_dvE e22 (c := 1000) rfl (by decide) (by omega)
                                                            have kr := t_rmE e23 (c := 100) rfl (by decide) (by omega)
                                                            have kt := t_rmE e24 (c := 1000) rfl (by decide) (by omega)
                                                            have hv := q21 m1
                                                            have hf : F 1 = w21.toInt := f1.trans hv.symm
                                                            have hk : ar1.toInt / 100000 = 22 := by omega
                                                            unfold s_cs
                                                            rw [if_neg (show ¬ ar1.toInt = 15 by omega), if_neg (show ¬ ar1.toInt = 16 by omega), hk, show ((22 : Int) - 21).toNat = 1 from rfl, hf]
                                                            repeat' split
                                                            all_goals omega)))⟩⟩
            · have r39 : z24.toInt < w21.toInt := Int32.lt_iff_toInt_lt.mp (t_nle h37)
              have u40 : z24.toInt ≤ 2147483646 := t_ltu (t_nle h37) u21 rfl
              have l41 : (-2147483647) ≤ w21.toInt := t_ltl (t_nle h37) (t_lo z24) rfl
              refine ev_ic f_X12_asked (nx := 161) (v := 1) rfl (by decide) rfl ?_
              refine ev_jmp f_X12_asked (nx := 179) rfl rfl rfl ?_
              exact ev_ret f_X12_asked rfl rfl rfl ⟨_, _, _, rfl, hI, hX, ⟨_, rfl, (Int.le_trans (by decide : (0:Int) ≤ 1) (by decide : (1:Int) ≤ (1:Int32).toInt)), (by decide : (1:Int32).toInt ≤ (1:Int)), (show (∀ F : Nat → Int, t_MA F gi → (ar1.toInt = 15 ∨ ar1.toInt = 16 ∨ (2200000 ≤ ar1.toInt ∧ ar1.toInt < 2700000)) → (1 : Int) = s_cs F ar1.toInt) from (fun F hM hr => (by
                                                            obtain ⟨⟨m1, m2, m3, m4⟩, f0, f1, f2, f3, f4, f5⟩ := hM
                                                            have z0 : (0 : Int32).toInt = 0 := rfl
                                                            have z1 : (1 : Int32).toInt = 1 := rfl
                                                            have kd := t_dvE e17 (c := 100000) rfl (by decide) (by omega)
                                                            have kq := t_dvE e22 (c := 1000) rfl (by decide) (by omega)
                                                            have kr := t_rmE e23 (c := 100) rfl (by decide) (by omega)
                                                            have kt := t_rmE e24 (c := 1000) rfl (by decide) (by omega)
                                                            have hv := q21 m1
                                                            have hf : F 1 = w21.toInt := f1.trans hv.symm
                                                            have hk : ar1.toInt / 100000 = 22 := by omega
                                                            unfold s_cs
                                                            rw [if_neg (show ¬ ar1.toInt = 15 by omega), if_neg (show ¬ ar1.toInt = 16 by omega), hk, show ((22 : Int) - 21).toNat = 1 from rfl, hf]
                                                            repeat' split
                                                            all_goals omega)))⟩⟩
          · have r42 : z23.toInt ≠ 1 := fun e => h34 (Int32.toInt_inj.mp (e.trans (by decide : (1:Int) = (1 : Int32).toInt)))
            refine ev_loc f_X12_asked (nx := 169) rfl rfl rfl rfl ?_
            refine ev_loc f_X12_asked (nx := 171) rfl rfl rfl rfl ?_
            refine ev_if f_X12_asked (t1 := 174) (t2 := 178) rfl rfl rfl (fun h43 => ?_) (fun h43 => ?_)
            · have r44 : w21.toInt = z24.toInt := t_eqi h43
              refine ev_ic f_X12_asked (nx := 175) (v := 1) rfl (by decide) rfl ?_
              refine ev_jmp f_X12_asked (nx := 179) rfl rfl rfl ?_
              exact ev_ret f_X12_asked rfl rfl rfl ⟨_, _, _, rfl, hI, hX, ⟨_, rfl, (Int.le_trans (by decide : (0:Int) ≤ 1) (by decide : (1:Int) ≤ (1:Int32).toInt)), (by decide : (1:Int32).toInt ≤ (1:Int)), (show (∀ F : Nat → Int, t_MA F gi → (ar1.toInt = 15 ∨ ar1.toInt = 16 ∨ (2200000 ≤ ar1.toInt ∧ ar1.toInt < 2700000)) → (1 : Int) = s_cs F ar1.toInt) from (fun F hM hr => (by
                                                            obtain ⟨⟨m1, m2, m3, m4⟩, f0, f1, f2, f3, f4, f5⟩ := hM
                                                            have z0 : (0 : Int32).toInt = 0 := rfl
                                                            have z1 : (1 : Int32).toInt = 1 := rfl
                                                            have kd := t_dvE e17 (c := 100000) rfl (by decide) (by omega)
                                                            have kq := t_dvE e22 (c := 1000) rfl (by decide) (by omega)
                                                            have kr := t_rmE e23 (c := 100) rfl (by decide) (by omega)
                                                            have kt := t_rmE e24 (c := 1000) rfl (by decide) (by omega)
                                                            have hv := q21 m1
                                                            have hf : F 1 = w21.toInt := f1.trans hv.symm
                                                            have hk : ar1.toInt / 100000 = 22 := by omega
                                                            unfold s_cs
                                                            rw [if_neg (show ¬ ar1.toInt = 15 by omega), if_neg (show ¬ ar1.toInt = 16 by omega), hk, show ((22 : Int) - 21).toNat = 1 from rfl, hf]
                                                            repeat' split
                                                            all_goals omega)))⟩⟩
            · have r45 : w21.toInt ≠ z24.toInt := t_nei h43
              refine ev_ic f_X12_asked (nx := 179) (v := 0) rfl (by decide) rfl ?_
              exact ev_ret f_X12_asked rfl rfl rfl ⟨_, _, _, rfl, hI, hX, ⟨_, rfl, (by decide : (0:Int) ≤ (0:Int32).toInt), (Int.le_trans (by decide : (0:Int32).toInt ≤ (0:Int)) (by decide : (0:Int) ≤ 1)), (show (∀ F : Nat → Int, t_MA F gi → (ar1.toInt = 15 ∨ ar1.toInt = 16 ∨ (2200000 ≤ ar1.toInt ∧ ar1.toInt < 2700000)) → (0 : Int) = s_cs F ar1.toInt) from (fun F hM hr => (by
                                                            obtain ⟨⟨m1, m2, m3, m4⟩, f0, f1, f2, f3, f4, f5⟩ := hM
                                                            have z0 : (0 : Int32).toInt = 0 := rfl
                                                            have z1 : (1 : Int32).toInt = 1 := rfl
                                                            have kd := t_dvE e17 (c := 100000) rfl (by decide) (by omega)
                                                            have kq := t_dvE e22 (c := 1000) rfl (by decide) (by omega)
                                                            have kr := t_rmE e23 (c := 100) rfl (by decide) (by omega)
                                                            have kt := t_rmE e24 (c := 1000) rfl (by decide) (by omega)
                                                            have hv := q21 m1
                                                            have hf : F 1 = w21.toInt := f1.trans hv.symm
                                                            have hk : ar1.toInt / 100000 = 22 := by omega
                                                            unfold s_cs
                                                            rw [if_neg (show ¬ ar1.toInt = 15 by omega), if_neg (show ¬ ar1.toInt = 16 by omega), hk, show ((22 : Int) - 21).toNat = 1 from rfl, hf]
                                                            repeat' split
                                                            all_goals omega)))⟩⟩
      · have r46 : z17.toInt ≠ 22 := fun e => h18 (Int32.toInt_inj.mp (e.trans (by decide : (22:Int) = (22 : Int32).toInt)))
        refine ev_loc f_X12_asked (nx := 64) rfl rfl rfl rfl ?_
        refine ev_bp f_X12_asked (nx := 66) (v := 23) rfl (by decide) rfl ?_
        refine ev_if f_X12_asked (t1 := 69) (t2 := 76) rfl rfl rfl (fun h47 => ?_) (fun h47 => ?_)
        · have u48 : z17.toInt ≤ 23 := t_equ h47 (by decide : (23:Int32).toInt ≤ (23:Int))
          have l49 : 23 ≤ z17.toInt := t_eql h47 (by decide : (23:Int) ≤ (23:Int32).toInt)
          refine ev_loc f_X12_asked (nx := 70) rfl rfl rfl rfl ?_
          refine ev_qI0 f_X12_asked (nx := 73) (r := []) rfl rfl rfl rfl rfl rfl rfl (c_e_waitingCarts hI ) rfl (fun w50 l50 u50 q50 => ?_)
          have q50 : ((gi 69 65).toInt ≤ (gi 69 45).toInt → w50.toInt = s_mc gi) := q50
          refine ev_jmp f_X12_asked (nx := 111) rfl rfl rfl ?_
          refine ev_loc f_X12_asked (nx := 112) (lo' := [(3, .int w50), (2, .int z17), (0, .ref 69), (1, .int ar1)]) rfl rfl rfl rfl ?_
          refine ev_loc f_X12_asked (nx := 113) rfl rfl rfl rfl ?_
          refine ev_sp f_X12_asked (nx := 116) (v := 1000) rfl (by decide) rfl ?_
          refine ev_divN f_X12_asked (nx := 117) rfl (by decide) rfl (fun z51 e51 => ?_)
          refine ev_bp f_X12_asked (nx := 119) (v := 100) rfl (by decide) rfl ?_
          refine ev_remN f_X12_asked (nx := 120) rfl (by decide) rfl (fun z52 e52 => ?_)
          refine ev_loc f_X12_asked (nx := 122) (lo' := [(4, .int z52), (3, .int w50), (2, .int z17), (0, .ref 69), (1, .int ar1)]) rfl rfl rfl rfl ?_
          refine ev_loc f_X12_asked (nx := 123) rfl rfl rfl rfl ?_
          refine ev_sp f_X12_asked (nx := 126) (v := 1000) rfl (by decide) rfl ?_
          refine ev_remN f_X12_asked (nx := 127) rfl (by decide) rfl (fun z53 e53 => ?_)
          refine ev_loc f_X12_asked (nx := 129) (lo' := [(5, .int z53), (4, .int z52), (3, .int w50), (2, .int z17), (0, .ref 69), (1, .int ar1)]) rfl rfl rfl rfl ?_
          refine ev_loc f_X12_asked (nx := 131) rfl rfl rfl rfl ?_
          refine ev_if f_X12_asked (t1 := 134) (t2 := 148) rfl rfl rfl (fun h54 => ?_) (fun h54 => ?_)
          · have u55 : z52.toInt ≤ 0 := t_equ h54 (by decide : (0:Int32).toInt ≤ (0:Int))
            have l56 : 0 ≤ z52.toInt := t_eql h54 (by decide : (0:Int) ≤ (0:Int32).toInt)
            refine ev_loc f_X12_asked (nx := 135) rfl rfl rfl rfl ?_
            refine ev_loc f_X12_asked (nx := 137) rfl rfl rfl rfl ?_
            refine ev_if f_X12_asked (t1 := 144) (t2 := 140) rfl rfl rfl (fun h57 => ?_) (fun h57 => ?_)
            · have r58 : z53.toInt ≤ w50.toInt := Int32.le_iff_toInt_le.mp h57
              refine ev_ic f_X12_asked (nx := 145) (v := 0) rfl (by decide) rfl ?_
              refine ev_jmp f_X12_asked (nx := 179) rfl rfl rfl ?_
              exact ev_ret f_X12_asked rfl rfl rfl ⟨_, _, _, rfl, hI, hX, ⟨_, rfl, (by decide : (0:Int) ≤ (0:Int32).toInt), (Int.le_trans (by decide : (0:Int32).toInt ≤ (0:Int)) (by decide : (0:Int) ≤ 1)), (show (∀ F : Nat → Int, t_MA F gi → (ar1.toInt = 15 ∨ ar1.toInt = 16 ∨ (2200000 ≤ ar1.toInt ∧ ar1.toInt < 2700000)) → (0 : Int) = s_cs F ar1.toInt) from (fun F hM hr => (by
                                                            obtain ⟨⟨m1, m2, m3, m4⟩, f0, f1, f2, f3, f4, f5⟩ := hM
                                                            have z0 : (0 : Int32).toInt = 0 := rfl
                                                            have z1 : (1 : Int32).toInt = 1 := rfl
                                                            have kd := t_dvE e17 (c := 100000) rfl (by decide) (by omega)
                                                            have kq := t_dvE e51 (c := 1000) rfl (by decide) (by omega)
                                                            have kr := t_rmE e52 (c := 100) rfl (by decide) (by omega)
                                                            have kt := t_rmE e53 (c := 1000) rfl (by decide) (by omega)
                                                            have hv := q50 m2
                                                            have hf : F 2 = w50.toInt := f2.trans hv.symm
                                                            have hk : ar1.toInt / 100000 = 23 := by omega
                                                            unfold s_cs
                                                            rw [if_neg (show ¬ ar1.toInt = 15 by omega), if_neg (show ¬ ar1.toInt = 16 by omega), hk, show ((23 : Int) - 21).toNat = 2 from rfl, hf]
                                                            repeat' split
                                                            all_goals omega)))⟩⟩
            · have r59 : w50.toInt < z53.toInt := Int32.lt_iff_toInt_lt.mp (t_nle h57)
              have u60 : w50.toInt ≤ 2147483646 := t_ltu (t_nle h57) (t_hi z53) rfl
              have l61 : (-2147483647) ≤ z53.toInt := t_ltl (t_nle h57) l50 rfl
              refine ev_ic f_X12_asked (nx := 141) (v := 1) rfl (by decide) rfl ?_
              refine ev_jmp f_X12_asked (nx := 179) rfl rfl rfl ?_
              exact ev_ret f_X12_asked rfl rfl rfl ⟨_, _, _, rfl, hI, hX, ⟨_, rfl, (Int.le_trans (by decide : (0:Int) ≤ 1) (by decide : (1:Int) ≤ (1:Int32).toInt)), (by decide : (1:Int32).toInt ≤ (1:Int)), (show (∀ F : Nat → Int, t_MA F gi → (ar1.toInt = 15 ∨ ar1.toInt = 16 ∨ (2200000 ≤ ar1.toInt ∧ ar1.toInt < 2700000)) → (1 : Int) = s_cs F ar1.toInt) from (fun F hM hr => (by
                                                            obtain ⟨⟨m1, m2, m3, m4⟩, f0, f1, f2, f3, f4, f5⟩ := hM
                                                            have z0 : (0 : Int32).toInt = 0 := rfl
                                                            have z1 : (1 : Int32).toInt = 1 := rfl
                                                            have kd := t_dvE e17 (c := 100000) rfl (by decide) (by omega)
                                                            have kq := t_dvE e51 (c := 1000) rfl (by decide) (by omega)
                                                            have kr := t_rmE e52 (c := 100) rfl (by decide) (by omega)
                                                            have kt := t_rmE e53 (c := 1000) rfl (by decide) (by omega)
                                                            have hv := q50 m2
                                                            have hf : F 2 = w50.toInt := f2.trans hv.symm
                                                            have hk : ar1.toInt / 100000 = 23 := by omega
                                                            unfold s_cs
                                                            rw [if_neg (show ¬ ar1.toInt = 15 by omega), if_neg (show ¬ ar1.toInt = 16 by omega), hk, show ((23 : Int) - 21).toNat = 2 from rfl, hf]
                                                            repeat' split
                                                            all_goals omega)))⟩⟩
          · have r62 : z52.toInt ≠ 0 := fun e => h54 (Int32.toInt_inj.mp (e.trans (by decide : (0:Int) = (0 : Int32).toInt)))
            refine ev_loc f_X12_asked (nx := 150) rfl rfl rfl rfl ?_
            refine ev_ic f_X12_asked (nx := 151) (v := 1) rfl (by decide) rfl ?_
            refine ev_if f_X12_asked (t1 := 154) (t2 := 168) rfl rfl rfl (fun h63 => ?_) (fun h63 => ?_)
            · have u64 : z52.toInt ≤ 1 := t_equ h63 (by decide : (1:Int32).toInt ≤ (1:Int))
              have l65 : 1 ≤ z52.toInt := t_eql h63 (by decide : (1:Int) ≤ (1:Int32).toInt)
              refine ev_loc f_X12_asked (nx := 155) rfl rfl rfl rfl ?_
              refine ev_loc f_X12_asked (nx := 157) rfl rfl rfl rfl ?_
              refine ev_if f_X12_asked (t1 := 164) (t2 := 160) rfl rfl rfl (fun h66 => ?_) (fun h66 => ?_)
              · have r67 : w50.toInt ≤ z53.toInt := Int32.le_iff_toInt_le.mp h66
                refine ev_ic f_X12_asked (nx := 165) (v := 0) rfl (by decide) rfl ?_
                refine ev_jmp f_X12_asked (nx := 179) rfl rfl rfl ?_
                exact ev_ret f_X12_asked rfl rfl rfl ⟨_, _, _, rfl, hI, hX, ⟨_, rfl, (by decide : (0:Int) ≤ (0:Int32).toInt), (Int.le_trans (by decide : (0:Int32).toInt ≤ (0:Int)) (by decide : (0:Int) ≤ 1)), (show (∀ F : Nat → Int, t_MA F gi → (ar1.toInt = 15 ∨ ar1.toInt = 16 ∨ (2200000 ≤ ar1.toInt ∧ ar1.toInt < 2700000)) → (0 : Int) = s_cs F ar1.toInt) from (fun F hM hr => (by
                                                            obtain ⟨⟨m1, m2, m3, m4⟩, f0, f1, f2, f3, f4, f5⟩ := hM
                                                            have z0 : (0 : Int32).toInt = 0 := rfl
                                                            have z1 : (1 : Int32).toInt = 1 := rfl
                                                            have kd := t_dvE e17 (c := 100000) rfl (by decide) (by omega)
                                                            have kq := t_dvE e51 (c := 1000) rfl (by decide) (by omega)
                                                            have kr := t_rmE e52 (c := 100) rfl (by decide) (by omega)
                                                            have kt := t_rmE e53 (c := 1000) rfl (by decide) (by omega)
                                                            have hv := q50 m2
                                                            have hf : F 2 = w50.toInt := f2.trans hv.symm
                                                            have hk : ar1.toInt / 100000 = 23 := by omega
                                                            unfold s_cs
                                                            rw [if_neg (show ¬ ar1.toInt = 15 by omega), if_neg (show ¬ ar1.toInt = 16 by omega), hk, show ((23 : Int) - 21).toNat = 2 from rfl, hf]
                                                            repeat' split
                                                            all_goals omega)))⟩⟩
              · have r68 : z53.toInt < w50.toInt := Int32.lt_iff_toInt_lt.mp (t_nle h66)
                have u69 : z53.toInt ≤ 2147483646 := t_ltu (t_nle h66) u50 rfl
                have l70 : (-2147483647) ≤ w50.toInt := t_ltl (t_nle h66) (t_lo z53) rfl
                refine ev_ic f_X12_asked (nx := 161) (v := 1) rfl (by decide) rfl ?_
                refine ev_jmp f_X12_asked (nx := 179) rfl rfl rfl ?_
                exact ev_ret f_X12_asked rfl rfl rfl ⟨_, _, _, rfl, hI, hX, ⟨_, rfl, (Int.le_trans (by decide : (0:Int) ≤ 1) (by decide : (1:Int) ≤ (1:Int32).toInt)), (by decide : (1:Int32).toInt ≤ (1:Int)), (show (∀ F : Nat → Int, t_MA F gi → (ar1.toInt = 15 ∨ ar1.toInt = 16 ∨ (2200000 ≤ ar1.toInt ∧ ar1.toInt < 2700000)) → (1 : Int) = s_cs F ar1.toInt) from (fun F hM hr => (by
                                                            obtain ⟨⟨m1, m2, m3, m4⟩, f0, f1, f2, f3, f4, f5⟩ := hM
                                                            have z0 : (0 : Int32).toInt = 0 := rfl
                                                            have z1 : (1 : Int32).toInt = 1 := rfl
                                                            have kd := t_dvE e17 (c := 100000) rfl (by decide) (by omega)
                                                            have kq := t_dvE e51 (c := 1000) rfl (by decide) (by omega)
                                                            have kr := t_rmE e52 (c := 100) rfl (by decide) (by omega)
                                                            have kt := t_rmE e53 (c := 1000) rfl (by decide) (by omega)
                                                            have hv := q50 m2
                                                            have hf : F 2 = w50.toInt := f2.trans hv.symm
                                                            have hk : ar1.toInt / 100000 = 23 := by omega
                                                            unfold s_cs
                                                            rw [if_neg (show ¬ ar1.toInt = 15 by omega), if_neg (show ¬ ar1.toInt = 16 by omega), hk, show ((23 : Int) - 21).toNat = 2 from rfl, hf]
                                                            repeat' split
                                                            all_goals omega)))⟩⟩
            · have r71 : z52.toInt ≠ 1 := fun e => h63 (Int32.toInt_inj.mp (e.trans (by decide : (1:Int) = (1 : Int32).toInt)))
              refine ev_loc f_X12_asked (nx := 169) rfl rfl rfl rfl ?_
              refine ev_loc f_X12_asked (nx := 171) rfl rfl rfl rfl ?_
              refine ev_if f_X12_asked (t1 := 174) (t2 := 178) rfl rfl rfl (fun h72 => ?_) (fun h72 => ?_)
              · have r73 : w50.toInt = z53.toInt := t_eqi h72
                refine ev_ic f_X12_asked (nx := 175) (v := 1) rfl (by decide) rfl ?_
                refine ev_jmp f_X12_asked (nx := 179) rfl rfl rfl ?_
                exact ev_ret f_X12_asked rfl rfl rfl ⟨_, _, _, rfl, hI, hX, ⟨_, rfl, (Int.le_trans (by decide : (0:Int) ≤ 1) (by decide : (1:Int) ≤ (1:Int32).toInt)), (by decide : (1:Int32).toInt ≤ (1:Int)), (show (∀ F : Nat → Int, t_MA F gi → (ar1.toInt = 15 ∨ ar1.toInt = 16 ∨ (2200000 ≤ ar1.toInt ∧ ar1.toInt < 2700000)) → (1 : Int) = s_cs F ar1.toInt) from (fun F hM hr => (by
                                                            obtain ⟨⟨m1, m2, m3, m4⟩, f0, f1, f2, f3, f4, f5⟩ := hM
                                                            have z0 : (0 : Int32).toInt = 0 := rfl
                                                            have z1 : (1 : Int32).toInt = 1 := rfl
                                                            have kd := t_dvE e17 (c := 100000) rfl (by decide) (by omega)
                                                            have kq := t_dvE e51 (c := 1000) rfl (by decide) (by omega)
                                                            have kr := t_rmE e52 (c := 100) rfl (by decide) (by omega)
                                                            have kt := t_rmE e53 (c := 1000) rfl (by decide) (by omega)
                                                            have hv := q50 m2
                                                            have hf : F 2 = w50.toInt := f2.trans hv.symm
                                                            have hk : ar1.toInt / 100000 = 23 := by omega
                                                            unfold s_cs
                                                            rw [if_neg (show ¬ ar1.toInt = 15 by omega), if_neg (show ¬ ar1.toInt = 16 by omega), hk, show ((23 : Int) - 21).toNat = 2 from rfl, hf]
                                                            repeat' split
                                                            all_goals omega)))⟩⟩
              · have r74 : w50.toInt ≠ z53.toInt := t_nei h72
                refine ev_ic f_X12_asked (nx := 179) (v := 0) rfl (by decide) rfl ?_
                exact ev_ret f_X12_asked rfl rfl rfl ⟨_, _, _, rfl, hI, hX, ⟨_, rfl, (by decide : (0:Int) ≤ (0:Int32).toInt), (Int.le_trans (by decide : (0:Int32).toInt ≤ (0:Int)) (by decide : (0:Int) ≤ 1)), (show (∀ F : Nat → Int, t_MA F gi → (ar1.toInt = 15 ∨ ar1.toInt = 16 ∨ (2200000 ≤ ar1.toInt ∧ ar1.toInt < 2700000)) → (0 : Int) = s_cs F ar1.toInt) from (fun F hM hr => (by
                                                            obtain ⟨⟨m1, m2, m3, m4⟩, f0, f1, f2, f3, f4, f5⟩ := hM
                                                            have z0 : (0 : Int32).toInt = 0 := rfl
                                                            have z1 : (1 : Int32).toInt = 1 := rfl
                                                            have kd := t_dvE e17 (c := 100000) rfl (by decide) (by omega)
                                                            have kq := t_dvE e51 (c := 1000) rfl (by decide) (by omega)
                                                            have kr := t_rmE e52 (c := 100) rfl (by decide) (by omega)
                                                            have kt := t_rmE e53 (c := 1000) rfl (by decide) (by omega)
                                                            have hv := q50 m2
                                                            have hf : F 2 = w50.toInt := f2.trans hv.symm
                                                            have hk : ar1.toInt / 100000 = 23 := by omega
                                                            unfold s_cs
                                                            rw [if_neg (show ¬ ar1.toInt = 15 by omega), if_neg (show ¬ ar1.toInt = 16 by omega), hk, show ((23 : Int) - 21).toNat = 2 from rfl, hf]
                                                            repeat' split
                                                            all_goals omega)))⟩⟩
        · have r75 : z17.toInt ≠ 23 := fun e => h47 (Int32.toInt_inj.mp (e.trans (by decide : (23:Int) = (23 : Int32).toInt)))
          refine ev_loc f_X12_asked (nx := 77) rfl rfl rfl rfl ?_
          refine ev_bp f_X12_asked (nx := 79) (v := 24) rfl (by decide) rfl ?_
          refine ev_if f_X12_asked (t1 := 82) (t2 := 89) rfl rfl rfl (fun h76 => ?_) (fun h76 => ?_)
          · have u77 : z17.toInt ≤ 24 := t_equ h76 (by decide : (24:Int32).toInt ≤ (24:Int))
            have l78 : 24 ≤ z17.toInt := t_eql h76 (by decide : (24:Int) ≤ (24:Int32).toInt)
            refine ev_loc f_X12_asked (nx := 83) rfl rfl rfl rfl ?_
            refine ev_qI0 f_X12_asked (nx := 86) (r := []) rfl rfl rfl rfl rfl rfl rfl (c_e_nextIn hI ) rfl (fun w79 l79 u79 q79 => ?_)
            have q79 : w79.toInt = s_mx gi := q79
            refine ev_jmp f_X12_asked (nx := 111) rfl rfl rfl ?_
            refine ev_loc f_X12_asked (nx := 112) (lo' := [(3, .int w79), (2, .int z17), (0, .ref 69), (1, .int ar1)]) rfl rfl rfl rfl ?_
            refine ev_loc f_X12_asked (nx := 113) rfl rfl rfl rfl ?_
            refine ev_sp f_X12_asked (nx := 116) (v := 1000) rfl (by decide) rfl ?_
            refine ev_divN f_X12_asked (nx := 117) rfl (by decide) rfl (fun z80 e80 => ?_)
            refine ev_bp f_X12_asked (nx := 119) (v := 100) rfl (by decide) rfl ?_
            refine ev_remN f_X12_asked (nx := 120) rfl (by decide) rfl (fun z81 e81 => ?_)
            refine ev_loc f_X12_asked (nx := 122) (lo' := [(4, .int z81), (3, .int w79), (2, .int z17), (0, .ref 69), (1, .int ar1)]) rfl rfl rfl rfl ?_
            refine ev_loc f_X12_asked (nx := 123) rfl rfl rfl rfl ?_
            refine ev_sp f_X12_asked (nx := 126) (v := 1000) rfl (by decide) rfl ?_
            refine ev_remN f_X12_asked (nx := 127) rfl (by decide) rfl (fun z82 e82 => ?_)
            refine ev_loc f_X12_asked (nx := 129) (lo' := [(5, .int z82), (4, .int z81), (3, .int w79), (2, .int z17), (0, .ref 69), (1, .int ar1)]) rfl rfl rfl rfl ?_
            refine ev_loc f_X12_asked (nx := 131) rfl rfl rfl rfl ?_
            refine ev_if f_X12_asked (t1 := 134) (t2 := 148) rfl rfl rfl (fun h83 => ?_) (fun h83 => ?_)
            · have u84 : z81.toInt ≤ 0 := t_equ h83 (by decide : (0:Int32).toInt ≤ (0:Int))
              have l85 : 0 ≤ z81.toInt := t_eql h83 (by decide : (0:Int) ≤ (0:Int32).toInt)
              refine ev_loc f_X12_asked (nx := 135) rfl rfl rfl rfl ?_
              refine ev_loc f_X12_asked (nx := 137) rfl rfl rfl rfl ?_
              refine ev_if f_X12_asked (t1 := 144) (t2 := 140) rfl rfl rfl (fun h86 => ?_) (fun h86 => ?_)
              · have r87 : z82.toInt ≤ w79.toInt := Int32.le_iff_toInt_le.mp h86
                refine ev_ic f_X12_asked (nx := 145) (v := 0) rfl (by decide) rfl ?_
                refine ev_jmp f_X12_asked (nx := 179) rfl rfl rfl ?_
                exact ev_ret f_X12_asked rfl rfl rfl ⟨_, _, _, rfl, hI, hX, ⟨_, rfl, (by decide : (0:Int) ≤ (0:Int32).toInt), (Int.le_trans (by decide : (0:Int32).toInt ≤ (0:Int)) (by decide : (0:Int) ≤ 1)), (show (∀ F : Nat → Int, t_MA F gi → (ar1.toInt = 15 ∨ ar1.toInt = 16 ∨ (2200000 ≤ ar1.toInt ∧ ar1.toInt < 2700000)) → (0 : Int) = s_cs F ar1.toInt) from (fun F hM hr => (by
                                                            obtain ⟨⟨m1, m2, m3, m4⟩, f0, f1, f2, f3, f4, f5⟩ := hM
                                                            have z0 : (0 : Int32).toInt = 0 := rfl
                                                            have z1 : (1 : Int32).toInt = 1 := rfl
                                                            have kd := t_dvE e17 (c := 100000) rfl (by decide) (by omega)
                                                            have kq := t_dvE e80 (c := 1000) rfl (by decide) (by omega)
                                                            have kr := t_rmE e81 (c := 100) rfl (by decide) (by omega)
                                                            have kt := t_rmE e82 (c := 1000) rfl (by decide) (by omega)
                                                            have hv := q79
                                                            have hf : F 3 = w79.toInt := f3.trans hv.symm
                                                            have hk : ar1.toInt / 100000 = 24 := by omega
                                                            unfold s_cs
                                                            rw [if_neg (show ¬ ar1.toInt = 15 by omega), if_neg (show ¬ ar1.toInt = 16 by omega), hk, show ((24 : Int) - 21).toNat = 3 from rfl, hf]
                                                            repeat' split
                                                            all_goals omega)))⟩⟩
              · have r88 : w79.toInt < z82.toInt := Int32.lt_iff_toInt_lt.mp (t_nle h86)
                have u89 : w79.toInt ≤ 2147483646 := t_ltu (t_nle h86) (t_hi z82) rfl
                have l90 : (-299) ≤ z82.toInt := t_ltl (t_nle h86) l79 rfl
                refine ev_ic f_X12_asked (nx := 141) (v := 1) rfl (by decide) rfl ?_
                refine ev_jmp f_X12_asked (nx := 179) rfl rfl rfl ?_
                exact ev_ret f_X12_asked rfl rfl rfl ⟨_, _, _, rfl, hI, hX, ⟨_, rfl, (Int.le_trans (by decide : (0:Int) ≤ 1) (by decide : (1:Int) ≤ (1:Int32).toInt)), (by decide : (1:Int32).toInt ≤ (1:Int)), (show (∀ F : Nat → Int, t_MA F gi → (ar1.toInt = 15 ∨ ar1.toInt = 16 ∨ (2200000 ≤ ar1.toInt ∧ ar1.toInt < 2700000)) → (1 : Int) = s_cs F ar1.toInt) from (fun F hM hr => (by
                                                            obtain ⟨⟨m1, m2, m3, m4⟩, f0, f1, f2, f3, f4, f5⟩ := hM
                                                            have z0 : (0 : Int32).toInt = 0 := rfl
                                                            have z1 : (1 : Int32).toInt = 1 := rfl
                                                            have kd := t_dvE e17 (c := 100000) rfl (by decide) (by omega)
                                                            have kq := t_dvE e80 (c := 1000) rfl (by decide) (by omega)
                                                            have kr := t_rmE e81 (c := 100) rfl (by decide) (by omega)
                                                            have kt := t_rmE e82 (c := 1000) rfl (by decide) (by omega)
                                                            have hv := q79
                                                            have hf : F 3 = w79.toInt := f3.trans hv.symm
                                                            have hk : ar1.toInt / 100000 = 24 := by omega
                                                            unfold s_cs
                                                            rw [if_neg (show ¬ ar1.toInt = 15 by omega), if_neg (show ¬ ar1.toInt = 16 by omega), hk, show ((24 : Int) - 21).toNat = 3 from rfl, hf]
                                                            repeat' split
                                                            all_goals omega)))⟩⟩
            · have r91 : z81.toInt ≠ 0 := fun e => h83 (Int32.toInt_inj.mp (e.trans (by decide : (0:Int) = (0 : Int32).toInt)))
              refine ev_loc f_X12_asked (nx := 150) rfl rfl rfl rfl ?_
              refine ev_ic f_X12_asked (nx := 151) (v := 1) rfl (by decide) rfl ?_
              refine ev_if f_X12_asked (t1 := 154) (t2 := 168) rfl rfl rfl (fun h92 => ?_) (fun h92 => ?_)
              · have u93 : z81.toInt ≤ 1 := t_equ h92 (by decide : (1:Int32).toInt ≤ (1:Int))
                have l94 : 1 ≤ z81.toInt := t_eql h92 (by decide : (1:Int) ≤ (1:Int32).toInt)
                refine ev_loc f_X12_asked (nx := 155) rfl rfl rfl rfl ?_
                refine ev_loc f_X12_asked (nx := 157) rfl rfl rfl rfl ?_
                refine ev_if f_X12_asked (t1 := 164) (t2 := 160) rfl rfl rfl (fun h95 => ?_) (fun h95 => ?_)
                · have r96 : w79.toInt ≤ z82.toInt := Int32.le_iff_toInt_le.mp h95
                  have l97 : (-300) ≤ z82.toInt := t_lel h95 l79
                  refine ev_ic f_X12_asked (nx := 165) (v := 0) rfl (by decide) rfl ?_
                  refine ev_jmp f_X12_asked (nx := 179) rfl rfl rfl ?_
                  exact ev_ret f_X12_asked rfl rfl rfl ⟨_, _, _, rfl, hI, hX, ⟨_, rfl, (by decide : (0:Int) ≤ (0:Int32).toInt), (Int.le_trans (by decide : (0:Int32).toInt ≤ (0:Int)) (by decide : (0:Int) ≤ 1)), (show (∀ F : Nat → Int, t_MA F gi → (ar1.toInt = 15 ∨ ar1.toInt = 16 ∨ (2200000 ≤ ar1.toInt ∧ ar1.toInt < 2700000)) → (0 : Int) = s_cs F ar1.toInt) from (fun F hM hr => (by
                                                            obtain ⟨⟨m1, m2, m3, m4⟩, f0, f1, f2, f3, f4, f5⟩ := hM
                                                            have z0 : (0 : Int32).toInt = 0 := rfl
                                                            have z1 : (1 : Int32).toInt = 1 := rfl
                                                            have kd := t_dvE e17 (c := 100000) rfl (by decide) (by omega)
                                                            have kq := t_dvE e80 (c := 1000) rfl (by decide) (by omega)
                                                            have kr := t_rmE e81 (c := 100) rfl (by decide) (by omega)
                                                            have kt := t_rmE e82 (c := 1000) rfl (by decide) (by omega)
                                                            have hv := q79
                                                            have hf : F 3 = w79.toInt := f3.trans hv.symm
                                                            have hk : ar1.toInt / 100000 = 24 := by omega
                                                            unfold s_cs
                                                            rw [if_neg (show ¬ ar1.toInt = 15 by omega), if_neg (show ¬ ar1.toInt = 16 by omega), hk, show ((24 : Int) - 21).toNat = 3 from rfl, hf]
                                                            repeat' split
                                                            all_goals omega)))⟩⟩
                · have r98 : z82.toInt < w79.toInt := Int32.lt_iff_toInt_lt.mp (t_nle h95)
                  have u99 : z82.toInt ≤ 2147483646 := t_ltu (t_nle h95) u79 rfl
                  refine ev_ic f_X12_asked (nx := 161) (v := 1) rfl (by decide) rfl ?_
                  refine ev_jmp f_X12_asked (nx := 179) rfl rfl rfl ?_
                  exact ev_ret f_X12_asked rfl rfl rfl ⟨_, _, _, rfl, hI, hX, ⟨_, rfl, (Int.le_trans (by decide : (0:Int) ≤ 1) (by decide : (1:Int) ≤ (1:Int32).toInt)), (by decide : (1:Int32).toInt ≤ (1:Int)), (show (∀ F : Nat → Int, t_MA F gi → (ar1.toInt = 15 ∨ ar1.toInt = 16 ∨ (2200000 ≤ ar1.toInt ∧ ar1.toInt < 2700000)) → (1 : Int) = s_cs F ar1.toInt) from (fun F hM hr => (by
                                                            obtain ⟨⟨m1, m2, m3, m4⟩, f0, f1, f2, f3, f4, f5⟩ := hM
                                                            have z0 : (0 : Int32).toInt = 0 := rfl
                                                            have z1 : (1 : Int32).toInt = 1 := rfl
                                                            have kd := t_dvE e17 (c := 100000) rfl (by decide) (by omega)
                                                            have kq := t_dvE e80 (c := 1000) rfl (by decide) (by omega)
                                                            have kr := t_rmE e81 (c := 100) rfl (by decide) (by omega)
                                                            have kt := t_rmE e82 (c := 1000) rfl (by decide) (by omega)
                                                            have hv := q79
                                                            have hf : F 3 = w79.toInt := f3.trans hv.symm
                                                            have hk : ar1.toInt / 100000 = 24 := by omega
                                                            unfold s_cs
                                                            rw [if_neg (show ¬ ar1.toInt = 15 by omega), if_neg (show ¬ ar1.toInt = 16 by omega), hk, show ((24 : Int) - 21).toNat = 3 from rfl, hf]
                                                            repeat' split
                                                            all_goals omega)))⟩⟩
              · have r100 : z81.toInt ≠ 1 := fun e => h92 (Int32.toInt_inj.mp (e.trans (by decide : (1:Int) = (1 : Int32).toInt)))
                refine ev_loc f_X12_asked (nx := 169) rfl rfl rfl rfl ?_
                refine ev_loc f_X12_asked (nx := 171) rfl rfl rfl rfl ?_
                refine ev_if f_X12_asked (t1 := 174) (t2 := 178) rfl rfl rfl (fun h101 => ?_) (fun h101 => ?_)
                · have r102 : w79.toInt = z82.toInt := t_eqi h101
                  have l103 : (-300) ≤ z82.toInt := t_eql (Eq.symm h101) l79
                  refine ev_ic f_X12_asked (nx := 175) (v := 1) rfl (by decide) rfl ?_
                  refine ev_jmp f_X12_asked (nx := 179) rfl rfl rfl ?_
                  exact ev_ret f_X12_asked rfl rfl rfl ⟨_, _, _, rfl, hI, hX, ⟨_, rfl, (Int.le_trans (by decide : (0:Int) ≤ 1) (by decide : (1:Int) ≤ (1:Int32).toInt)), (by decide : (1:Int32).toInt ≤ (1:Int)), (show (∀ F : Nat → Int, t_MA F gi → (ar1.toInt = 15 ∨ ar1.toInt = 16 ∨ (2200000 ≤ ar1.toInt ∧ ar1.toInt < 2700000)) → (1 : Int) = s_cs F ar1.toInt) from (fun F hM hr => (by
                                                            obtain ⟨⟨m1, m2, m3, m4⟩, f0, f1, f2, f3, f4, f5⟩ := hM
                                                            have z0 : (0 : Int32).toInt = 0 := rfl
                                                            have z1 : (1 : Int32).toInt = 1 := rfl
                                                            have kd := t_dvE e17 (c := 100000) rfl (by decide) (by omega)
                                                            have kq := t_dvE e80 (c := 1000) rfl (by decide) (by omega)
                                                            have kr := t_rmE e81 (c := 100) rfl (by decide) (by omega)
                                                            have kt := t_rmE e82 (c := 1000) rfl (by decide) (by omega)
                                                            have hv := q79
                                                            have hf : F 3 = w79.toInt := f3.trans hv.symm
                                                            have hk : ar1.toInt / 100000 = 24 := by omega
                                                            unfold s_cs
                                                            rw [if_neg (show ¬ ar1.toInt = 15 by omega), if_neg (show ¬ ar1.toInt = 16 by omega), hk, show ((24 : Int) - 21).toNat = 3 from rfl, hf]
                                                            repeat' split
                                                            all_goals omega)))⟩⟩
                · have r104 : w79.toInt ≠ z82.toInt := t_nei h101
                  refine ev_ic f_X12_asked (nx := 179) (v := 0) rfl (by decide) rfl ?_
                  exact ev_ret f_X12_asked rfl rfl rfl ⟨_, _, _, rfl, hI, hX, ⟨_, rfl, (by decide : (0:Int) ≤ (0:Int32).toInt), (Int.le_trans (by decide : (0:Int32).toInt ≤ (0:Int)) (by decide : (0:Int) ≤ 1)), (show (∀ F : Nat → Int, t_MA F gi → (ar1.toInt = 15 ∨ ar1.toInt = 16 ∨ (2200000 ≤ ar1.toInt ∧ ar1.toInt < 2700000)) → (0 : Int) = s_cs F ar1.toInt) from (fun F hM hr => (by
                                                            obtain ⟨⟨m1, m2, m3, m4⟩, f0, f1, f2, f3, f4, f5⟩ := hM
                                                            have z0 : (0 : Int32).toInt = 0 := rfl
                                                            have z1 : (1 : Int32).toInt = 1 := rfl
                                                            have kd := t_dvE e17 (c := 100000) rfl (by decide) (by omega)
                                                            have kq := t_dvE e80 (c := 1000) rfl (by decide) (by omega)
                                                            have kr := t_rmE e81 (c := 100) rfl (by decide) (by omega)
                                                            have kt := t_rmE e82 (c := 1000) rfl (by decide) (by omega)
                                                            have hv := q79
                                                            have hf : F 3 = w79.toInt := f3.trans hv.symm
                                                            have hk : ar1.toInt / 100000 = 24 := by omega
                                                            unfold s_cs
                                                            rw [if_neg (show ¬ ar1.toInt = 15 by omega), if_neg (show ¬ ar1.toInt = 16 by omega), hk, show ((24 : Int) - 21).toNat = 3 from rfl, hf]
                                                            repeat' split
                                                            all_goals omega)))⟩⟩
          · have r105 : z17.toInt ≠ 24 := fun e => h76 (Int32.toInt_inj.mp (e.trans (by decide : (24:Int) = (24 : Int32).toInt)))
            refine ev_loc f_X12_asked (nx := 90) rfl rfl rfl rfl ?_
            refine ev_bp f_X12_asked (nx := 92) (v := 25) rfl (by decide) rfl ?_
            refine ev_if f_X12_asked (t1 := 95) (t2 := 102) rfl rfl rfl (fun h106 => ?_) (fun h106 => ?_)
            · have u107 : z17.toInt ≤ 25 := t_equ h106 (by decide : (25:Int32).toInt ≤ (25:Int))
              have l108 : 25 ≤ z17.toInt := t_eql h106 (by decide : (25:Int) ≤ (25:Int32).toInt)
              refine ev_loc f_X12_asked (nx := 96) rfl rfl rfl rfl ?_
              refine ev_getI f_X12_asked (nx := 99) rfl (hI.wf.s rfl) rfl rfl rfl ?_
              obtain ⟨l109, u109⟩ := hI.b (hI.wf.s (k := 69) rfl) (t_bdK rfl : t_bd 11 59 = some (0, 301))
              refine ev_jmp f_X12_asked (nx := 111) rfl rfl rfl ?_
              refine ev_loc f_X12_asked (nx := 112) (lo' := [(3, .int (gi 69 59)), (2, .int z17), (0, .ref 69), (1, .int ar1)]) rfl rfl rfl rfl ?_
              refine ev_loc f_X12_asked (nx := 113) rfl rfl rfl rfl ?_
              refine ev_sp f_X12_asked (nx := 116) (v := 1000) rfl (by decide) rfl ?_
              refine ev_divN f_X12_asked (nx := 117) rfl (by decide) rfl (fun z110 e110 => ?_)
              refine ev_bp f_X12_asked (nx := 119) (v := 100) rfl (by decide) rfl ?_
              refine ev_remN f_X12_asked (nx := 120) rfl (by decide) rfl (fun z111 e111 => ?_)
              refine ev_loc f_X12_asked (nx := 122) (lo' := [(4, .int z111), (3, .int (gi 69 59)), (2, .int z17), (0, .ref 69), (1, .int ar1)]) rfl rfl rfl rfl ?_
              refine ev_loc f_X12_asked (nx := 123) rfl rfl rfl rfl ?_
              refine ev_sp f_X12_asked (nx := 126) (v := 1000) rfl (by decide) rfl ?_
              refine ev_remN f_X12_asked (nx := 127) rfl (by decide) rfl (fun z112 e112 => ?_)
              refine ev_loc f_X12_asked (nx := 129) (lo' := [(5, .int z112), (4, .int z111), (3, .int (gi 69 59)), (2, .int z17), (0, .ref 69), (1, .int ar1)]) rfl rfl rfl rfl ?_
              refine ev_loc f_X12_asked (nx := 131) rfl rfl rfl rfl ?_
              refine ev_if f_X12_asked (t1 := 134) (t2 := 148) rfl rfl rfl (fun h113 => ?_) (fun h113 => ?_)
              · have u114 : z111.toInt ≤ 0 := t_equ h113 (by decide : (0:Int32).toInt ≤ (0:Int))
                have l115 : 0 ≤ z111.toInt := t_eql h113 (by decide : (0:Int) ≤ (0:Int32).toInt)
                refine ev_loc f_X12_asked (nx := 135) rfl rfl rfl rfl ?_
                refine ev_loc f_X12_asked (nx := 137) rfl rfl rfl rfl ?_
                refine ev_if f_X12_asked (t1 := 144) (t2 := 140) rfl rfl rfl (fun h116 => ?_) (fun h116 => ?_)
                · have r117 : z112.toInt ≤ (gi 69 59).toInt := Int32.le_iff_toInt_le.mp h116
                  have u118 : z112.toInt ≤ 301 := t_leu h116 u109
                  refine ev_ic f_X12_asked (nx := 145) (v := 0) rfl (by decide) rfl ?_
                  refine ev_jmp f_X12_asked (nx := 179) rfl rfl rfl ?_
                  exact ev_ret f_X12_asked rfl rfl rfl ⟨_, _, _, rfl, hI, hX, ⟨_, rfl, (by decide : (0:Int) ≤ (0:Int32).toInt), (Int.le_trans (by decide : (0:Int32).toInt ≤ (0:Int)) (by decide : (0:Int) ≤ 1)), (show (∀ F : Nat → Int, t_MA F gi → (ar1.toInt = 15 ∨ ar1.toInt = 16 ∨ (2200000 ≤ ar1.toInt ∧ ar1.toInt < 2700000)) → (0 : Int) = s_cs F ar1.toInt) from (fun F hM hr => (by
                                                            obtain ⟨⟨m1, m2, m3, m4⟩, f0, f1, f2, f3, f4, f5⟩ := hM
                                                            have z0 : (0 : Int32).toInt = 0 := rfl
                                                            have z1 : (1 : Int32).toInt = 1 := rfl
                                                            have kd := t_dvE e17 (c := 100000) rfl (by decide) (by omega)
                                                            have kq := t_dvE e110 (c := 1000) rfl (by decide) (by omega)
                                                            have kr := t_rmE e111 (c := 100) rfl (by decide) (by omega)
                                                            have kt := t_rmE e112 (c := 1000) rfl (by decide) (by omega)
                                                            skip
                                                            have hf : F 4 = (gi 69 59).toInt := f4
                                                            have hk : ar1.toInt / 100000 = 25 := by omega
                                                            unfold s_cs
                                                            rw [if_neg (show ¬ ar1.toInt = 15 by omega), if_neg (show ¬ ar1.toInt = 16 by omega), hk, show ((25 : Int) - 21).toNat = 4 from rfl, hf]
                                                            repeat' split
                                                            all_goals omega)))⟩⟩
                · have r119 : (gi 69 59).toInt < z112.toInt := Int32.lt_iff_toInt_lt.mp (t_nle h116)
                  have l120 : 1 ≤ z112.toInt := t_ltl (t_nle h116) l109 rfl
                  refine ev_ic f_X12_asked (nx := 141) (v := 1) rfl (by decide) rfl ?_
                  refine ev_jmp f_X12_asked (nx := 179) rfl rfl rfl ?_
                  exact ev_ret f_X12_asked rfl rfl rfl ⟨_, _, _, rfl, hI, hX, ⟨_, rfl, (Int.le_trans (by decide : (0:Int) ≤ 1) (by decide : (1:Int) ≤ (1:Int32).toInt)), (by decide : (1:Int32).toInt ≤ (1:Int)), (show (∀ F : Nat → Int, t_MA F gi → (ar1.toInt = 15 ∨ ar1.toInt = 16 ∨ (2200000 ≤ ar1.toInt ∧ ar1.toInt < 2700000)) → (1 : Int) = s_cs F ar1.toInt) from (fun F hM hr => (by
                                                            obtain ⟨⟨m1, m2, m3, m4⟩, f0, f1, f2, f3, f4, f5⟩ := hM
                                                            have z0 : (0 : Int32).toInt = 0 := rfl
                                                            have z1 : (1 : Int32).toInt = 1 := rfl
                                                            have kd := t_dvE e17 (c := 100000) rfl (by decide) (by omega)
                                                            have kq := t_dvE e110 (c := 1000) rfl (by decide) (by omega)
                                                            have kr := t_rmE e111 (c := 100) rfl (by decide) (by omega)
                                                            have kt := t_rmE e112 (c := 1000) rfl (by decide) (by omega)
                                                            skip
                                                            have hf : F 4 = (gi 69 59).toInt := f4
                                                            have hk : ar1.toInt / 100000 = 25 := by omega
                                                            unfold s_cs
                                                            rw [if_neg (show ¬ ar1.toInt = 15 by omega), if_neg (show ¬ ar1.toInt = 16 by omega), hk, show ((25 : Int) - 21).toNat = 4 from rfl, hf]
                                                            repeat' split
                                                            all_goals omega)))⟩⟩
              · have r121 : z111.toInt ≠ 0 := fun e => h113 (Int32.toInt_inj.mp (e.trans (by decide : (0:Int) = (0 : Int32).toInt)))
                refine ev_loc f_X12_asked (nx := 150) rfl rfl rfl rfl ?_
                refine ev_ic f_X12_asked (nx := 151) (v := 1) rfl (by decide) rfl ?_
                refine ev_if f_X12_asked (t1 := 154) (t2 := 168) rfl rfl rfl (fun h122 => ?_) (fun h122 => ?_)
                · have u123 : z111.toInt ≤ 1 := t_equ h122 (by decide : (1:Int32).toInt ≤ (1:Int))
                  have l124 : 1 ≤ z111.toInt := t_eql h122 (by decide : (1:Int) ≤ (1:Int32).toInt)
                  refine ev_loc f_X12_asked (nx := 155) rfl rfl rfl rfl ?_
                  refine ev_loc f_X12_asked (nx := 157) rfl rfl rfl rfl ?_
                  refine ev_if f_X12_asked (t1 := 164) (t2 := 160) rfl rfl rfl (fun h125 => ?_) (fun h125 => ?_)
                  · have r126 : (gi 69 59).toInt ≤ z112.toInt := Int32.le_iff_toInt_le.mp h125
                    have l127 : 0 ≤ z112.toInt := t_lel h125 l109
                    refine ev_ic f_X12_asked (nx := 165) (v := 0) rfl (by decide) rfl ?_
                    refine ev_jmp f_X12_asked (nx := 179) rfl rfl rfl ?_
                    exact ev_ret f_X12_asked rfl rfl rfl ⟨_, _, _, rfl, hI, hX, ⟨_, rfl, (by decide : (0:Int) ≤ (0:Int32).toInt), (Int.le_trans (by decide : (0:Int32).toInt ≤ (0:Int)) (by decide : (0:Int) ≤ 1)), (show (∀ F : Nat → Int, t_MA F gi → (ar1.toInt = 15 ∨ ar1.toInt = 16 ∨ (2200000 ≤ ar1.toInt ∧ ar1.toInt < 2700000)) → (0 : Int) = s_cs F ar1.toInt) from (fun F hM hr => (by
                                                            obtain ⟨⟨m1, m2, m3, m4⟩, f0, f1, f2, f3, f4, f5⟩ := hM
                                                            have z0 : (0 : Int32).toInt = 0 := rfl
                                                            have z1 : (1 : Int32).toInt = 1 := rfl
                                                            have kd := t_dvE e17 (c := 100000) rfl (by decide) (by omega)
                                                            have kq := t_dvE e110 (c := 1000) rfl (by decide) (by omega)
                                                            have kr := t_rmE e111 (c := 100) rfl (by decide) (by omega)
                                                            have kt := t_rmE e112 (c := 1000) rfl (by decide) (by omega)
                                                            skip
                                                            have hf : F 4 = (gi 69 59).toInt := f4
                                                            have hk : ar1.toInt / 100000 = 25 := by omega
                                                            unfold s_cs
                                                            rw [if_neg (show ¬ ar1.toInt = 15 by omega), if_neg (show ¬ ar1.toInt = 16 by omega), hk, show ((25 : Int) - 21).toNat = 4 from rfl, hf]
                                                            repeat' split
                                                            all_goals omega)))⟩⟩
                  · have r128 : z112.toInt < (gi 69 59).toInt := Int32.lt_iff_toInt_lt.mp (t_nle h125)
                    have u129 : z112.toInt ≤ 300 := t_ltu (t_nle h125) u109 rfl
                    refine ev_ic f_X12_asked (nx := 161) (v := 1) rfl (by decide) rfl ?_
                    refine ev_jmp f_X12_asked (nx := 179) rfl rfl rfl ?_
                    exact ev_ret f_X12_asked rfl rfl rfl ⟨_, _, _, rfl, hI, hX, ⟨_, rfl, (Int.le_trans (by decide : (0:Int) ≤ 1) (by decide : (1:Int) ≤ (1:Int32).toInt)), (by decide : (1:Int32).toInt ≤ (1:Int)), (show (∀ F : Nat → Int, t_MA F gi → (ar1.toInt = 15 ∨ ar1.toInt = 16 ∨ (2200000 ≤ ar1.toInt ∧ ar1.toInt < 2700000)) → (1 : Int) = s_cs F ar1.toInt) from (fun F hM hr => (by
                                                            obtain ⟨⟨m1, m2, m3, m4⟩, f0, f1, f2, f3, f4, f5⟩ := hM
                                                            have z0 : (0 : Int32).toInt = 0 := rfl
                                                            have z1 : (1 : Int32).toInt = 1 := rfl
                                                            have kd := t_dvE e17 (c := 100000) rfl (by decide) (by omega)
                                                            have kq := t_dvE e110 (c := 1000) rfl (by decide) (by omega)
                                                            have kr := t_rmE e111 (c := 100) rfl (by decide) (by omega)
                                                            have kt := t_rmE e112 (c := 1000) rfl (by decide) (by omega)
                                                            skip
                                                            have hf : F 4 = (gi 69 59).toInt := f4
                                                            have hk : ar1.toInt / 100000 = 25 := by omega
                                                            unfold s_cs
                                                            rw [if_neg (show ¬ ar1.toInt = 15 by omega), if_neg (show ¬ ar1.toInt = 16 by omega), hk, show ((25 : Int) - 21).toNat = 4 from rfl, hf]
                                                            repeat' split
                                                            all_goals omega)))⟩⟩
                · have r130 : z111.toInt ≠ 1 := fun e => h122 (Int32.toInt_inj.mp (e.trans (by decide : (1:Int) = (1 : Int32).toInt)))
                  refine ev_loc f_X12_asked (nx := 169) rfl rfl rfl rfl ?_
                  refine ev_loc f_X12_asked (nx := 171) rfl rfl rfl rfl ?_
                  refine ev_if f_X12_asked (t1 := 174) (t2 := 178) rfl rfl rfl (fun h131 => ?_) (fun h131 => ?_)
                  · have r132 : (gi 69 59).toInt = z112.toInt := t_eqi h131
                    have u133 : z112.toInt ≤ 301 := t_equ (Eq.symm h131) u109
                    have l134 : 0 ≤ z112.toInt := t_eql (Eq.symm h131) l109
                    refine ev_ic f_X12_asked (nx := 175) (v := 1) rfl (by decide) rfl ?_
                    refine ev_jmp f_X12_asked (nx := 179) rfl rfl rfl ?_
                    exact ev_ret f_X12_asked rfl rfl rfl ⟨_, _, _, rfl, hI, hX, ⟨_, rfl, (Int.le_trans (by decide : (0:Int) ≤ 1) (by decide : (1:Int) ≤ (1:Int32).toInt)), (by decide : (1:Int32).toInt ≤ (1:Int)), (show (∀ F : Nat → Int, t_MA F gi → (ar1.toInt = 15 ∨ ar1.toInt = 16 ∨ (2200000 ≤ ar1.toInt ∧ ar1.toInt < 2700000)) → (1 : Int) = s_cs F ar1.toInt) from (fun F hM hr => (by
                                                            obtain ⟨⟨m1, m2, m3, m4⟩, f0, f1, f2, f3, f4, f5⟩ := hM
                                                            have z0 : (0 : Int32).toInt = 0 := rfl
                                                            have z1 : (1 : Int32).toInt = 1 := rfl
                                                            have kd := t_dvE e17 (c := 100000) rfl (by decide) (by omega)
                                                            have kq := t_dvE e110 (c := 1000) rfl (by decide) (by omega)
                                                            have kr := t_rmE e111 (c := 100) rfl (by decide) (by omega)
                                                            have kt := t_rmE e112 (c := 1000) rfl (by decide) (by omega)
                                                            skip
                                                            have hf : F 4 = (gi 69 59).toInt := f4
                                                            have hk : ar1.toInt / 100000 = 25 := by omega
                                                            unfold s_cs
                                                            rw [if_neg (show ¬ ar1.toInt = 15 by omega), if_neg (show ¬ ar1.toInt = 16 by omega), hk, show ((25 : Int) - 21).toNat = 4 from rfl, hf]
                                                            repeat' split
                                                            all_goals omega)))⟩⟩
                  · have r135 : (gi 69 59).toInt ≠ z112.toInt := t_nei h131
                    refine ev_ic f_X12_asked (nx := 179) (v := 0) rfl (by decide) rfl ?_
                    exact ev_ret f_X12_asked rfl rfl rfl ⟨_, _, _, rfl, hI, hX, ⟨_, rfl, (by decide : (0:Int) ≤ (0:Int32).toInt), (Int.le_trans (by decide : (0:Int32).toInt ≤ (0:Int)) (by decide : (0:Int) ≤ 1)), (show (∀ F : Nat → Int, t_MA F gi → (ar1.toInt = 15 ∨ ar1.toInt = 16 ∨ (2200000 ≤ ar1.toInt ∧ ar1.toInt < 2700000)) → (0 : Int) = s_cs F ar1.toInt) from (fun F hM hr => (by
                                                            obtain ⟨⟨m1, m2, m3, m4⟩, f0, f1, f2, f3, f4, f5⟩ := hM
                                                            have z0 : (0 : Int32).toInt = 0 := rfl
                                                            have z1 : (1 : Int32).toInt = 1 := rfl
                                                            have kd := t_dvE e17 (c := 100000) rfl (by decide) (by omega)
                                                            have kq := t_dvE e110 (c := 1000) rfl (by decide) (by omega)
                                                            have kr := t_rmE e111 (c := 100) rfl (by decide) (by omega)
                                                            have kt := t_rmE e112 (c := 1000) rfl (by decide) (by omega)
                                                            skip
                                                            have hf : F 4 = (gi 69 59).toInt := f4
                                                            have hk : ar1.toInt / 100000 = 25 := by omega
                                                            unfold s_cs
                                                            rw [if_neg (show ¬ ar1.toInt = 15 by omega), if_neg (show ¬ ar1.toInt = 16 by omega), hk, show ((25 : Int) - 21).toNat = 4 from rfl, hf]
                                                            repeat' split
                                                            all_goals omega)))⟩⟩
            · have r136 : z17.toInt ≠ 25 := fun e => h106 (Int32.toInt_inj.mp (e.trans (by decide : (25:Int) = (25 : Int32).toInt)))
              refine ev_loc f_X12_asked (nx := 103) rfl rfl rfl rfl ?_
              refine ev_getI f_X12_asked (nx := 106) rfl (hI.wf.s rfl) rfl rfl rfl ?_
              obtain ⟨l137, u137⟩ := hI.b (hI.wf.s (k := 69) rfl) (t_bdK rfl : t_bd 11 59 = some (0, 301))
              refine ev_loc f_X12_asked (nx := 107) rfl rfl rfl rfl ?_
              refine ev_getI f_X12_asked (nx := 110) rfl (hI.wf.s rfl) rfl rfl rfl ?_
              refine ev_anyIE f_X12_asked (nx := 111) rfl rfl rfl rfl (fun z138 e138 => ?_)
              refine ev_loc f_X12_asked (nx := 112) (lo' := [(3, .int z138), (2, .int z17), (0, .ref 69), (1, .int ar1)]) rfl rfl rfl rfl ?_
              refine ev_loc f_X12_asked (nx := 113) rfl rfl rfl rfl ?_
              refine ev_sp f_X12_asked (nx := 116) (v := 1000) rfl (by decide) rfl ?_
              refine ev_divN f_X12_asked (nx := 117) rfl (by decide) rfl (fun z139 e139 => ?_)
              refine ev_bp f_X12_asked (nx := 119) (v := 100) rfl (by decide) rfl ?_
              refine ev_remN f_X12_asked (nx := 120) rfl (by decide) rfl (fun z140 e140 => ?_)
              refine ev_loc f_X12_asked (nx := 122) (lo' := [(4, .int z140), (3, .int z138), (2, .int z17), (0, .ref 69), (1, .int ar1)]) rfl rfl rfl rfl ?_
              refine ev_loc f_X12_asked (nx := 123) rfl rfl rfl rfl ?_
              refine ev_sp f_X12_asked (nx := 126) (v := 1000) rfl (by decide) rfl ?_
              refine ev_remN f_X12_asked (nx := 127) rfl (by decide) rfl (fun z141 e141 => ?_)
              refine ev_loc f_X12_asked (nx := 129) (lo' := [(5, .int z141), (4, .int z140), (3, .int z138), (2, .int z17), (0, .ref 69), (1, .int ar1)]) rfl rfl rfl rfl ?_
              refine ev_loc f_X12_asked (nx := 131) rfl rfl rfl rfl ?_
              refine ev_if f_X12_asked (t1 := 134) (t2 := 148) rfl rfl rfl (fun h142 => ?_) (fun h142 => ?_)
              · have u143 : z140.toInt ≤ 0 := t_equ h142 (by decide : (0:Int32).toInt ≤ (0:Int))
                have l144 : 0 ≤ z140.toInt := t_eql h142 (by decide : (0:Int) ≤ (0:Int32).toInt)
                refine ev_loc f_X12_asked (nx := 135) rfl rfl rfl rfl ?_
                refine ev_loc f_X12_asked (nx := 137) rfl rfl rfl rfl ?_
                refine ev_if f_X12_asked (t1 := 144) (t2 := 140) rfl rfl rfl (fun h145 => ?_) (fun h145 => ?_)
                · have r146 : z141.toInt ≤ z138.toInt := Int32.le_iff_toInt_le.mp h145
                  refine ev_ic f_X12_asked (nx := 145) (v := 0) rfl (by decide) rfl ?_
                  refine ev_jmp f_X12_asked (nx := 179) rfl rfl rfl ?_
                  exact ev_ret f_X12_asked rfl rfl rfl ⟨_, _, _, rfl, hI, hX, ⟨_, rfl, (by decide : (0:Int) ≤ (0:Int32).toInt), (Int.le_trans (by decide : (0:Int32).toInt ≤ (0:Int)) (by decide : (0:Int) ≤ 1)), (show (∀ F : Nat → Int, t_MA F gi → (ar1.toInt = 15 ∨ ar1.toInt = 16 ∨ (2200000 ≤ ar1.toInt ∧ ar1.toInt < 2700000)) → (0 : Int) = s_cs F ar1.toInt) from (fun F hM hr => (by
                                                            obtain ⟨⟨m1, m2, m3, m4⟩, f0, f1, f2, f3, f4, f5⟩ := hM
                                                            have z0 : (0 : Int32).toInt = 0 := rfl
                                                            have z1 : (1 : Int32).toInt = 1 := rfl
                                                            have kd := t_dvE e17 (c := 100000) rfl (by decide) (by omega)
                                                            have kq := t_dvE e139 (c := 1000) rfl (by decide) (by omega)
                                                            have kr := t_rmE e140 (c := 100) rfl (by decide) (by omega)
                                                            have kt := t_rmE e141 (c := 1000) rfl (by decide) (by omega)
                                                            have lm := l137
                                                            have um := u137
                                                            have hv := s_sub e138 rfl rfl (by omega)
                                                            have hf : F 5 = z138.toInt := f5.trans hv.symm
                                                            have hk : ar1.toInt / 100000 = 26 := by omega
                                                            unfold s_cs
                                                            rw [if_neg (show ¬ ar1.toInt = 15 by omega), if_neg (show ¬ ar1.toInt = 16 by omega), hk, show ((26 : Int) - 21).toNat = 5 from rfl, hf]
                                                            repeat' split
                                                            all_goals omega)))⟩⟩
                · have r147 : z138.toInt < z141.toInt := Int32.lt_iff_toInt_lt.mp (t_nle h145)
                  have u148 : z138.toInt ≤ 2147483646 := t_ltu (t_nle h145) (t_hi z141) rfl
                  have l149 : (-2147483647) ≤ z141.toInt := t_ltl (t_nle h145) (t_lo z138) rfl
                  refine ev_ic f_X12_asked (nx := 141) (v := 1) rfl (by decide) rfl ?_
                  refine ev_jmp f_X12_asked (nx := 179) rfl rfl rfl ?_
                  exact ev_ret f_X12_asked rfl rfl rfl ⟨_, _, _, rfl, hI, hX, ⟨_, rfl, (Int.le_trans (by decide : (0:Int) ≤ 1) (by decide : (1:Int) ≤ (1:Int32).toInt)), (by decide : (1:Int32).toInt ≤ (1:Int)), (show (∀ F : Nat → Int, t_MA F gi → (ar1.toInt = 15 ∨ ar1.toInt = 16 ∨ (2200000 ≤ ar1.toInt ∧ ar1.toInt < 2700000)) → (1 : Int) = s_cs F ar1.toInt) from (fun F hM hr => (by
                                                            obtain ⟨⟨m1, m2, m3, m4⟩, f0, f1, f2, f3, f4, f5⟩ := hM
                                                            have z0 : (0 : Int32).toInt = 0 := rfl
                                                            have z1 : (1 : Int32).toInt = 1 := rfl
                                                            have kd := t_dvE e17 (c := 100000) rfl (by decide) (by omega)
                                                            have kq := t_dvE e139 (c := 1000) rfl (by decide) (by omega)
                                                            have kr := t_rmE e140 (c := 100) rfl (by decide) (by omega)
                                                            have kt := t_rmE e141 (c := 1000) rfl (by decide) (by omega)
                                                            have lm := l137
                                                            have um := u137
                                                            have hv := s_sub e138 rfl rfl (by omega)
                                                            have hf : F 5 = z138.toInt := f5.trans hv.symm
                                                            have hk : ar1.toInt / 100000 = 26 := by omega
                                                            unfold s_cs
                                                            rw [if_neg (show ¬ ar1.toInt = 15 by omega), if_neg (show ¬ ar1.toInt = 16 by omega), hk, show ((26 : Int) - 21).toNat = 5 from rfl, hf]
                                                            repeat' split
                                                            all_goals omega)))⟩⟩
              · have r150 : z140.toInt ≠ 0 := fun e => h142 (Int32.toInt_inj.mp (e.trans (by decide : (0:Int) = (0 : Int32).toInt)))
                refine ev_loc f_X12_asked (nx := 150) rfl rfl rfl rfl ?_
                refine ev_ic f_X12_asked (nx := 151) (v := 1) rfl (by decide) rfl ?_
                refine ev_if f_X12_asked (t1 := 154) (t2 := 168) rfl rfl rfl (fun h151 => ?_) (fun h151 => ?_)
                · have u152 : z140.toInt ≤ 1 := t_equ h151 (by decide : (1:Int32).toInt ≤ (1:Int))
                  have l153 : 1 ≤ z140.toInt := t_eql h151 (by decide : (1:Int) ≤ (1:Int32).toInt)
                  refine ev_loc f_X12_asked (nx := 155) rfl rfl rfl rfl ?_
                  refine ev_loc f_X12_asked (nx := 157) rfl rfl rfl rfl ?_
                  refine ev_if f_X12_asked (t1 := 164) (t2 := 160) rfl rfl rfl (fun h154 => ?_) (fun h154 => ?_)
                  · have r155 : z138.toInt ≤ z141.toInt := Int32.le_iff_toInt_le.mp h154
                    refine ev_ic f_X12_asked (nx := 165) (v := 0) rfl (by decide) rfl ?_
                    refine ev_jmp f_X12_asked (nx := 179) rfl rfl rfl ?_
                    exact ev_ret f_X12_asked rfl rfl rfl ⟨_, _, _, rfl, hI, hX, ⟨_, rfl, (by decide : (0:Int) ≤ (0:Int32).toInt), (Int.le_trans (by decide : (0:Int32).toInt ≤ (0:Int)) (by decide : (0:Int) ≤ 1)), (show (∀ F : Nat → Int, t_MA F gi → (ar1.toInt = 15 ∨ ar1.toInt = 16 ∨ (2200000 ≤ ar1.toInt ∧ ar1.toInt < 2700000)) → (0 : Int) = s_cs F ar1.toInt) from (fun F hM hr => (by
                                                            obtain ⟨⟨m1, m2, m3, m4⟩, f0, f1, f2, f3, f4, f5⟩ := hM
                                                            have z0 : (0 : Int32).toInt = 0 := rfl
                                                            have z1 : (1 : Int32).toInt = 1 := rfl
                                                            have kd := t_dvE e17 (c := 100000) rfl (by decide) (by omega)
                                                            have kq := t_dvE e139 (c := 1000) rfl (by decide) (by omega)
                                                            have kr := t_rmE e140 (c := 100) rfl (by decide) (by omega)
                                                            have kt := t_rmE e141 (c := 1000) rfl (by decide) (by omega)
                                                            have lm := l137
                                                            have um := u137
                                                            have hv := s_sub e138 rfl rfl (by omega)
                                                            have hf : F 5 = z138.toInt := f5.trans hv.symm
                                                            have hk : ar1.toInt / 100000 = 26 := by omega
                                                            unfold s_cs
                                                            rw [if_neg (show ¬ ar1.toInt = 15 by omega), if_neg (show ¬ ar1.toInt = 16 by omega), hk, show ((26 : Int) - 21).toNat = 5 from rfl, hf]
                                                            repeat' split
                                                            all_goals omega)))⟩⟩
                  · have r156 : z141.toInt < z138.toInt := Int32.lt_iff_toInt_lt.mp (t_nle h154)
                    have u157 : z141.toInt ≤ 2147483646 := t_ltu (t_nle h154) (t_hi z138) rfl
                    have l158 : (-2147483647) ≤ z138.toInt := t_ltl (t_nle h154) (t_lo z141) rfl
                    refine ev_ic f_X12_asked (nx := 161) (v := 1) rfl (by decide) rfl ?_
                    refine ev_jmp f_X12_asked (nx := 179) rfl rfl rfl ?_
                    exact ev_ret f_X12_asked rfl rfl rfl ⟨_, _, _, rfl, hI, hX, ⟨_, rfl, (Int.le_trans (by decide : (0:Int) ≤ 1) (by decide : (1:Int) ≤ (1:Int32).toInt)), (by decide : (1:Int32).toInt ≤ (1:Int)), (show (∀ F : Nat → Int, t_MA F gi → (ar1.toInt = 15 ∨ ar1.toInt = 16 ∨ (2200000 ≤ ar1.toInt ∧ ar1.toInt < 2700000)) → (1 : Int) = s_cs F ar1.toInt) from (fun F hM hr => (by
                                                            obtain ⟨⟨m1, m2, m3, m4⟩, f0, f1, f2, f3, f4, f5⟩ := hM
                                                            have z0 : (0 : Int32).toInt = 0 := rfl
                                                            have z1 : (1 : Int32).toInt = 1 := rfl
                                                            have kd := t_dvE e17 (c := 100000) rfl (by decide) (by omega)
                                                            have kq := t_dvE e139 (c := 1000) rfl (by decide) (by omega)
                                                            have kr := t_rmE e140 (c := 100) rfl (by decide) (by omega)
                                                            have kt := t_rmE e141 (c := 1000) rfl (by decide) (by omega)
                                                            have lm := l137
                                                            have um := u137
                                                            have hv := s_sub e138 rfl rfl (by omega)
                                                            have hf : F 5 = z138.toInt := f5.trans hv.symm
                                                            have hk : ar1.toInt / 100000 = 26 := by omega
                                                            unfold s_cs
                                                            rw [if_neg (show ¬ ar1.toInt = 15 by omega), if_neg (show ¬ ar1.toInt = 16 by omega), hk, show ((26 : Int) - 21).toNat = 5 from rfl, hf]
                                                            repeat' split
                                                            all_goals omega)))⟩⟩
                · have r159 : z140.toInt ≠ 1 := fun e => h151 (Int32.toInt_inj.mp (e.trans (by decide : (1:Int) = (1 : Int32).toInt)))
                  refine ev_loc f_X12_asked (nx := 169) rfl rfl rfl rfl ?_
                  refine ev_loc f_X12_asked (nx := 171) rfl rfl rfl rfl ?_
                  refine ev_if f_X12_asked (t1 := 174) (t2 := 178) rfl rfl rfl (fun h160 => ?_) (fun h160 => ?_)
                  · have r161 : z138.toInt = z141.toInt := t_eqi h160
                    refine ev_ic f_X12_asked (nx := 175) (v := 1) rfl (by decide) rfl ?_
                    refine ev_jmp f_X12_asked (nx := 179) rfl rfl rfl ?_
                    exact ev_ret f_X12_asked rfl rfl rfl ⟨_, _, _, rfl, hI, hX, ⟨_, rfl, (Int.le_trans (by decide : (0:Int) ≤ 1) (by decide : (1:Int) ≤ (1:Int32).toInt)), (by decide : (1:Int32).toInt ≤ (1:Int)), (show (∀ F : Nat → Int, t_MA F gi → (ar1.toInt = 15 ∨ ar1.toInt = 16 ∨ (2200000 ≤ ar1.toInt ∧ ar1.toInt < 2700000)) → (1 : Int) = s_cs F ar1.toInt) from (fun F hM hr => (by
                                                            obtain ⟨⟨m1, m2, m3, m4⟩, f0, f1, f2, f3, f4, f5⟩ := hM
                                                            have z0 : (0 : Int32).toInt = 0 := rfl
                                                            have z1 : (1 : Int32).toInt = 1 := rfl
                                                            have kd := t_dvE e17 (c := 100000) rfl (by decide) (by omega)
                                                            have kq := t_dvE e139 (c := 1000) rfl (by decide) (by omega)
                                                            have kr := t_rmE e140 (c := 100) rfl (by decide) (by omega)
                                                            have kt := t_rmE e141 (c := 1000) rfl (by decide) (by omega)
                                                            have lm := l137
                                                            have um := u137
                                                            have hv := s_sub e138 rfl rfl (by omega)
                                                            have hf : F 5 = z138.toInt := f5.trans hv.symm
                                                            have hk : ar1.toInt / 100000 = 26 := by omega
                                                            unfold s_cs
                                                            rw [if_neg (show ¬ ar1.toInt = 15 by omega), if_neg (show ¬ ar1.toInt = 16 by omega), hk, show ((26 : Int) - 21).toNat = 5 from rfl, hf]
                                                            repeat' split
                                                            all_goals omega)))⟩⟩
                  · have r162 : z138.toInt ≠ z141.toInt := t_nei h160
                    refine ev_ic f_X12_asked (nx := 179) (v := 0) rfl (by decide) rfl ?_
                    exact ev_ret f_X12_asked rfl rfl rfl ⟨_, _, _, rfl, hI, hX, ⟨_, rfl, (by decide : (0:Int) ≤ (0:Int32).toInt), (Int.le_trans (by decide : (0:Int32).toInt ≤ (0:Int)) (by decide : (0:Int) ≤ 1)), (show (∀ F : Nat → Int, t_MA F gi → (ar1.toInt = 15 ∨ ar1.toInt = 16 ∨ (2200000 ≤ ar1.toInt ∧ ar1.toInt < 2700000)) → (0 : Int) = s_cs F ar1.toInt) from (fun F hM hr => (by
                                                            obtain ⟨⟨m1, m2, m3, m4⟩, f0, f1, f2, f3, f4, f5⟩ := hM
                                                            have z0 : (0 : Int32).toInt = 0 := rfl
                                                            have z1 : (1 : Int32).toInt = 1 := rfl
                                                            have kd := t_dvE e17 (c := 100000) rfl (by decide) (by omega)
                                                            have kq := t_dvE e139 (c := 1000) rfl (by decide) (by omega)
                                                            have kr := t_rmE e140 (c := 100) rfl (by decide) (by omega)
                                                            have kt := t_rmE e141 (c := 1000) rfl (by decide) (by omega)
                                                            have lm := l137
                                                            have um := u137
                                                            have hv := s_sub e138 rfl rfl (by omega)
                                                            have hf : F 5 = z138.toInt := f5.trans hv.symm
                                                            have hk : ar1.toInt / 100000 = 26 := by omega
                                                            unfold s_cs
                                                            rw [if_neg (show ¬ ar1.toInt = 15 by omega), if_neg (show ¬ ar1.toInt = 16 by omega), hk, show ((26 : Int) - 21).toNat = 5 from rfl, hf]
                                                            repeat' split
                                                            all_goals omega)))⟩⟩
