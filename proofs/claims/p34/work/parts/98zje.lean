/-! ===== printed by riv.py: the PLAN: the class ===== -/
noncomputable def wl_d_canBegin2_29 : List (Nat × Nat) := []
noncomputable def Q_d_canBegin2_29 (gi : Nat → Nat → Int32) (gl : Nat → Nat → Int64) (gr : Nat → Nat → Value) (ar1 : Int32) (ar2 : Int32) : Int32 → (Nat → Nat → Int32) → (Nat → Nat → Int64) → (Nat → Nat → Value) → Prop := fun (v : Int32) (gi2 : Nat → Nat → Int32) (gl2 : Nat → Nat → Int64) (gr2 : Nat → Nat → Value) => s_may2 ar1.toInt (gi 29 0).toInt ar2.toInt (gi 31 ar1.toNatClampNeg).toInt (gi 34 ar1.toNatClampNeg).toInt v.toInt
theorem c_d_canBegin2_29 {X : x_Ext} {d : Nat} {sh : List (Nat ⊕ (Nat × Nat))} {gi : Nat → Nat → Int32} {gl : Nat → Nat → Int64} {gr : Nat → Nat → Value} (hI : t_I sh gi gr) (ar1 : Int32) (ar2 : Int32) : x_Me X (d + 1) n_X1_canBegin [.ref 29, .int ar1, .int ar2] (sh, gi, gl, gr) (t_PI wl_d_canBegin2_29 sh gi gl gr 0 1 (Q_d_canBegin2_29 gi gl gr ar1 ar2)) := by
  have hX : t_X wl_d_canBegin2_29 sh gi gl gr gi gl gr := t_X.rf
  refine me_s f_X1_canBegin rfl rfl ?_
  obtain ⟨l1, u1⟩ := hI.b (hI.wf.s (k := 29) rfl) (t_bdK rfl : t_bd 3 0 = some (0, 6))
  refine ev_loc f_X1_canBegin (nx := 1) rfl rfl rfl rfl ?_
  refine ev_if f_X1_canBegin (t1 := 29) (t2 := 4) rfl rfl rfl (fun h2 => ?_) (fun h2 => ?_)
  · have u3 : ar1.toInt ≤ (-1) := t_ltu h2 (by decide : (0:Int32).toInt ≤ (0:Int)) rfl
    refine ev_ic f_X1_canBegin (nx := 30) (v := 0) rfl (by decide) rfl ?_
    exact ev_ret f_X1_canBegin rfl rfl rfl ⟨_, _, _, rfl, hI, hX, ⟨_, rfl, (by decide : (0:Int) ≤ (0:Int32).toInt), (Int.le_trans (by decide : (0:Int32).toInt ≤ (0:Int)) (by decide : (0:Int) ≤ 1)), (show s_may2 ar1.toInt (gi 29 0).toInt ar2.toInt (gi 31 ar1.toNatClampNeg).toInt (gi 34 ar1.toNatClampNeg).toInt (0 : Int) from (by
                                                            unfold s_may2
                                                            have z0 : (0 : Int32).toInt = 0 := rfl
                                                            have z1 : (1 : Int32).toInt = 1 := rfl
                                                            omega))⟩⟩
  · have l4 : 0 ≤ ar1.toInt := t_lel (t_nlt h2) (by decide : (0:Int) ≤ (0:Int32).toInt)
    refine ev_loc f_X1_canBegin (nx := 5) rfl rfl rfl rfl ?_
    refine ev_loc f_X1_canBegin (nx := 6) rfl rfl rfl rfl ?_
    refine ev_gvI f_X1_canBegin (nx := 9) (w := (gi 29 0)) rfl (hI.wf.s rfl) rfl rfl rfl rfl ?_
    refine ev_if f_X1_canBegin (t1 := 29) (t2 := 12) rfl rfl rfl (fun h5 => ?_) (fun h5 => ?_)
    · have r6 : (gi 29 0).toInt ≤ ar1.toInt := Int32.le_iff_toInt_le.mp h5
      refine ev_ic f_X1_canBegin (nx := 30) (v := 0) rfl (by decide) rfl ?_
      exact ev_ret f_X1_canBegin rfl rfl rfl ⟨_, _, _, rfl, hI, hX, ⟨_, rfl, (by decide : (0:Int) ≤ (0:Int32).toInt), (Int.le_trans (by decide : (0:Int32).toInt ≤ (0:Int)) (by decide : (0:Int) ≤ 1)), (show s_may2 ar1.toInt (gi 29 0).toInt ar2.toInt (gi 31 ar1.toNatClampNeg).toInt (gi 34 ar1.toNatClampNeg).toInt (0 : Int) from (by
                                                            unfold s_may2
                                                            have z0 : (0 : Int32).toInt = 0 := rfl
                                                            have z1 : (1 : Int32).toInt = 1 := rfl
                                                            omega))⟩⟩
    · have r7 : ar1.toInt < (gi 29 0).toInt := Int32.lt_iff_toInt_lt.mp (t_nle h5)
      have u8 : ar1.toInt ≤ 5 := t_ltu (t_nle h5) u1 rfl
      have l9 : 1 ≤ (gi 29 0).toInt := t_ltl (t_nle h5) l4 rfl
      refine ev_loc f_X1_canBegin (nx := 13) rfl rfl rfl rfl ?_
      refine ev_sp f_X1_canBegin (nx := 16) (v := 240) rfl (by decide) rfl ?_
      refine ev_if f_X1_canBegin (t1 := 29) (t2 := 19) rfl rfl rfl (fun h10 => ?_) (fun h10 => ?_)
      · have l11 : 241 ≤ ar2.toInt := t_ltl h10 (by decide : (240:Int) ≤ (240:Int32).toInt) rfl
        refine ev_ic f_X1_canBegin (nx := 30) (v := 0) rfl (by decide) rfl ?_
        exact ev_ret f_X1_canBegin rfl rfl rfl ⟨_, _, _, rfl, hI, hX, ⟨_, rfl, (by decide : (0:Int) ≤ (0:Int32).toInt), (Int.le_trans (by decide : (0:Int32).toInt ≤ (0:Int)) (by decide : (0:Int) ≤ 1)), (show s_may2 ar1.toInt (gi 29 0).toInt ar2.toInt (gi 31 ar1.toNatClampNeg).toInt (gi 34 ar1.toNatClampNeg).toInt (0 : Int) from (by
                                                            unfold s_may2
                                                            have z0 : (0 : Int32).toInt = 0 := rfl
                                                            have z1 : (1 : Int32).toInt = 1 := rfl
                                                            omega))⟩⟩
      · have u12 : ar2.toInt ≤ 240 := t_leu (t_nlt h10) (by decide : (240:Int32).toInt ≤ (240:Int))
        refine ev_loc f_X1_canBegin (nx := 20) rfl rfl rfl rfl ?_
        refine ev_loc f_X1_canBegin (nx := 21) rfl rfl rfl rfl ?_
        refine ev_getR f_X1_canBegin (nx := 24) rfl (hI.wf.s rfl) rfl rfl (hI.wf.r rfl) rfl rfl ?_
        refine ev_loc f_X1_canBegin (nx := 25) rfl rfl rfl rfl ?_
        refine ev_ialdT f_X1_canBegin (nx := 26) rfl (hI.wf.s rfl) l4 (by decide) u8 (by decide) rfl (fun w13 e13 => ?_)
        refine ev_if f_X1_canBegin (t1 := 31) (t2 := 29) rfl rfl rfl (fun h14 => ?_) (fun h14 => ?_)
        · have r15 : w13.toInt ≤ ar2.toInt := Int32.le_iff_toInt_le.mp h14
          have u16 : w13.toInt ≤ 240 := t_leu h14 u12
          refine ev_loc f_X1_canBegin (nx := 32) rfl rfl rfl rfl ?_
          refine ev_getR f_X1_canBegin (nx := 35) rfl (hI.wf.s rfl) rfl rfl (hI.wf.r rfl) rfl rfl ?_
          refine ev_loc f_X1_canBegin (nx := 36) rfl rfl rfl rfl ?_
          refine ev_baldT f_X1_canBegin (nx := 37) rfl (hI.wf.s rfl) rfl l4 (by decide) u8 (by decide) rfl (fun w17 e17 => ?_)
          refine ev_if f_X1_canBegin (t1 := 50) (t2 := 40) rfl rfl rfl (fun h18 => ?_) (fun h18 => ?_)
          · have u19 : w17.toInt ≤ 0 := t_equ h18 (by decide : (0:Int32).toInt ≤ (0:Int))
            have l20 : 0 ≤ w17.toInt := t_eql h18 (by decide : (0:Int) ≤ (0:Int32).toInt)
            refine ev_ic f_X1_canBegin (nx := 51) (v := 1) rfl (by decide) rfl ?_
            refine ev_jmp f_X1_canBegin (nx := 55) rfl rfl rfl ?_
            exact ev_ret f_X1_canBegin rfl rfl rfl ⟨_, _, _, rfl, hI, hX, ⟨_, rfl, (Int.le_trans (by decide : (0:Int) ≤ 1) (by decide : (1:Int) ≤ (1:Int32).toInt)), (by decide : (1:Int32).toInt ≤ (1:Int)), (show s_may2 ar1.toInt (gi 29 0).toInt ar2.toInt (gi 31 ar1.toNatClampNeg).toInt (gi 34 ar1.toNatClampNeg).toInt (1 : Int) from (by
                                                            unfold s_may2
                                                            have z0 : (0 : Int32).toInt = 0 := rfl
                                                            have z1 : (1 : Int32).toInt = 1 := rfl
                                                            rw [← e13]
                                                            rw [← e17]
                                                            omega))⟩⟩
          · have r21 : w17.toInt ≠ 0 := fun e => h18 (Int32.toInt_inj.mp (e.trans (by decide : (0:Int) = (0 : Int32).toInt)))
            refine ev_loc f_X1_canBegin (nx := 41) rfl rfl rfl rfl ?_
            refine ev_loc f_X1_canBegin (nx := 42) rfl rfl rfl rfl ?_
            refine ev_getR f_X1_canBegin (nx := 45) rfl (hI.wf.s rfl) rfl rfl (hI.wf.r rfl) rfl rfl ?_
            refine ev_loc f_X1_canBegin (nx := 46) rfl rfl rfl rfl ?_
            refine ev_ialdT f_X1_canBegin (nx := 47) rfl (hI.wf.s rfl) l4 (by decide) u8 (by decide) rfl (fun w22 e22 => ?_)
            rw [e22.trans e13.symm]
            refine ev_if f_X1_canBegin (t1 := 50) (t2 := 54) rfl rfl rfl (fun h23 => ?_) (fun h23 => ?_)
            · have r24 : ar2.toInt = w13.toInt := t_eqi h23
              refine ev_ic f_X1_canBegin (nx := 51) (v := 1) rfl (by decide) rfl ?_
              refine ev_jmp f_X1_canBegin (nx := 55) rfl rfl rfl ?_
              exact ev_ret f_X1_canBegin rfl rfl rfl ⟨_, _, _, rfl, hI, hX, ⟨_, rfl, (Int.le_trans (by decide : (0:Int) ≤ 1) (by decide : (1:Int) ≤ (1:Int32).toInt)), (by decide : (1:Int32).toInt ≤ (1:Int)), (show s_may2 ar1.toInt (gi 29 0).toInt ar2.toInt (gi 31 ar1.toNatClampNeg).toInt (gi 34 ar1.toNatClampNeg).toInt (1 : Int) from (by
                                                            unfold s_may2
                                                            have z0 : (0 : Int32).toInt = 0 := rfl
                                                            have z1 : (1 : Int32).toInt = 1 := rfl
                                                            rw [← e13]
                                                            rw [← e17]
                                                            omega))⟩⟩
            · have r25 : ar2.toInt ≠ w13.toInt := t_nei h23
              refine ev_ic f_X1_canBegin (nx := 55) (v := 0) rfl (by decide) rfl ?_
              exact ev_ret f_X1_canBegin rfl rfl rfl ⟨_, _, _, rfl, hI, hX, ⟨_, rfl, (by decide : (0:Int) ≤ (0:Int32).toInt), (Int.le_trans (by decide : (0:Int32).toInt ≤ (0:Int)) (by decide : (0:Int) ≤ 1)), (show s_may2 ar1.toInt (gi 29 0).toInt ar2.toInt (gi 31 ar1.toNatClampNeg).toInt (gi 34 ar1.toNatClampNeg).toInt (0 : Int) from (by
                                                            unfold s_may2
                                                            have z0 : (0 : Int32).toInt = 0 := rfl
                                                            have z1 : (1 : Int32).toInt = 1 := rfl
                                                            rw [← e13]
                                                            rw [← e17]
                                                            omega))⟩⟩
        · have r26 : ar2.toInt < w13.toInt := Int32.lt_iff_toInt_lt.mp (t_nle h14)
          have l27 : (-2147483647) ≤ w13.toInt := t_ltl (t_nle h14) (t_lo ar2) rfl
          refine ev_ic f_X1_canBegin (nx := 30) (v := 0) rfl (by decide) rfl ?_
          exact ev_ret f_X1_canBegin rfl rfl rfl ⟨_, _, _, rfl, hI, hX, ⟨_, rfl, (by decide : (0:Int) ≤ (0:Int32).toInt), (Int.le_trans (by decide : (0:Int32).toInt ≤ (0:Int)) (by decide : (0:Int) ≤ 1)), (show s_may2 ar1.toInt (gi 29 0).toInt ar2.toInt (gi 31 ar1.toNatClampNeg).toInt (gi 34 ar1.toNatClampNeg).toInt (0 : Int) from (by
                                                            unfold s_may2
                                                            have z0 : (0 : Int32).toInt = 0 := rfl
                                                            have z1 : (1 : Int32).toInt = 1 := rfl
                                                            rw [← e13]
                                                            omega))⟩⟩
noncomputable def wl_d_canBegin2_35 : List (Nat × Nat) := []
noncomputable def Q_d_canBegin2_35 (gi : Nat → Nat → Int32) (gl : Nat → Nat → Int64) (gr : Nat → Nat → Value) (ar1 : Int32) (ar2 : Int32) : Int32 → (Nat → Nat → Int32) → (Nat → Nat → Int64) → (Nat → Nat → Value) → Prop := fun (v : Int32) (gi2 : Nat → Nat → Int32) (gl2 : Nat → Nat → Int64) (gr2 : Nat → Nat → Value) => s_may2 ar1.toInt (gi 35 0).toInt ar2.toInt (gi 37 ar1.toNatClampNeg).toInt (gi 40 ar1.toNatClampNeg).toInt v.toInt
theorem c_d_canBegin2_35 {X : x_Ext} {d : Nat} {sh : List (Nat ⊕ (Nat × Nat))} {gi : Nat → Nat → Int32} {gl : Nat → Nat → Int64} {gr : Nat → Nat → Value} (hI : t_I sh gi gr) (ar1 : Int32) (ar2 : Int32) : x_Me X (d + 1) n_X1_canBegin [.ref 35, .int ar1, .int ar2] (sh, gi, gl, gr) (t_PI wl_d_canBegin2_35 sh gi gl gr 0 1 (Q_d_canBegin2_35 gi gl gr ar1 ar2)) := by
  have hX : t_X wl_d_canBegin2_35 sh gi gl gr gi gl gr := t_X.rf
  refine me_s f_X1_canBegin rfl rfl ?_
  obtain ⟨l1, u1⟩ := hI.b (hI.wf.s (k := 35) rfl) (t_bdK rfl : t_bd 3 0 = some (0, 6))
  refine ev_loc f_X1_canBegin (nx := 1) rfl rfl rfl rfl ?_
  refine ev_if f_X1_canBegin (t1 := 29) (t2 := 4) rfl rfl rfl (fun h2 => ?_) (fun h2 => ?_)
  · have u3 : ar1.toInt ≤ (-1) := t_ltu h2 (by decide : (0:Int32).toInt ≤ (0:Int)) rfl
    refine ev_ic f_X1_canBegin (nx := 30) (v := 0) rfl (by decide) rfl ?_
    exact ev_ret f_X1_canBegin rfl rfl rfl ⟨_, _, _, rfl, hI, hX, ⟨_, rfl, (by decide : (0:Int) ≤ (0:Int32).toInt), (Int.le_trans (by decide : (0:Int32).toInt ≤ (0:Int)) (by decide : (0:Int) ≤ 1)), (show s_may2 ar1.toInt (gi 35 0).toInt ar2.toInt (gi 37 ar1.toNatClampNeg).toInt (gi 40 ar1.toNatClampNeg).toInt (0 : Int) from (by
                                                            unfold s_may2
                                                            have z0 : (0 : Int32).toInt = 0 := rfl
                                                            have z1 : (1 : Int32).toInt = 1 := rfl
                                                            omega))⟩⟩
  · have l4 : 0 ≤ ar1.toInt := t_lel (t_nlt h2) (by decide : (0:Int) ≤ (0:Int32).toInt)
    refine ev_loc f_X1_canBegin (nx := 5) rfl rfl rfl rfl ?_
    refine ev_loc f_X1_canBegin (nx := 6) rfl rfl rfl rfl ?_
    refine ev_gvI f_X1_canBegin (nx := 9) (w := (gi 35 0)) rfl (hI.wf.s rfl) rfl rfl rfl rfl ?_
    refine ev_if f_X1_canBegin (t1 := 29) (t2 := 12) rfl rfl rfl (fun h5 => ?_) (fun h5 => ?_)
    · have r6 : (gi 35 0).toInt ≤ ar1.toInt := Int32.le_iff_toInt_le.mp h5
      refine ev_ic f_X1_canBegin (nx := 30) (v := 0) rfl (by decide) rfl ?_
      exact ev_ret f_X1_canBegin rfl rfl rfl ⟨_, _, _, rfl, hI, hX, ⟨_, rfl, (by decide : (0:Int) ≤ (0:Int32).toInt), (Int.le_trans (by decide : (0:Int32).toInt ≤ (0:Int)) (by decide : (0:Int) ≤ 1)), (show s_may2 ar1.toInt (gi 35 0).toInt ar2.toInt (gi 37 ar1.toNatClampNeg).toInt (gi 40 ar1.toNatClampNeg).toInt (0 : Int) from (by
                                                            unfold s_may2
                                                            have z0 : (0 : Int32).toInt = 0 := rfl
                                                            have z1 : (1 : Int32).toInt = 1 := rfl
                                                            omega))⟩⟩
    · have r7 : ar1.toInt < (gi 35 0).toInt := Int32.lt_iff_toInt_lt.mp (t_nle h5)
      have u8 : ar1.toInt ≤ 5 := t_ltu (t_nle h5) u1 rfl
      have l9 : 1 ≤ (gi 35 0).toInt := t_ltl (t_nle h5) l4 rfl
      refine ev_loc f_X1_canBegin (nx := 13) rfl rfl rfl rfl ?_
      refine ev_sp f_X1_canBegin (nx := 16) (v := 240) rfl (by decide) rfl ?_
      refine ev_if f_X1_canBegin (t1 := 29) (t2 := 19) rfl rfl rfl (fun h10 => ?_) (fun h10 => ?_)
      · have l11 : 241 ≤ ar2.toInt := t_ltl h10 (by decide : (240:Int) ≤ (240:Int32).toInt) rfl
        refine ev_ic f_X1_canBegin (nx := 30) (v := 0) rfl (by decide) rfl ?_
        exact ev_ret f_X1_canBegin rfl rfl rfl ⟨_, _, _, rfl, hI, hX, ⟨_, rfl, (by decide : (0:Int) ≤ (0:Int32).toInt), (Int.le_trans (by decide : (0:Int32).toInt ≤ (0:Int)) (by decide : (0:Int) ≤ 1)), (show s_may2 ar1.toInt (gi 35 0).toInt ar2.toInt (gi 37 ar1.toNatClampNeg).toInt (gi 40 ar1.toNatClampNeg).toInt (0 : Int) from (by
                                                            unfold s_may2
                                                            have z0 : (0 : Int32).toInt = 0 := rfl
                                                            have z1 : (1 : Int32).toInt = 1 := rfl
                                                            omega))⟩⟩
      · have u12 : ar2.toInt ≤ 240 := t_leu (t_nlt h10) (by decide : (240:Int32).toInt ≤ (240:Int))
        refine ev_loc f_X1_canBegin (nx := 20) rfl rfl rfl rfl ?_
        refine ev_loc f_X1_canBegin (nx := 21) rfl rfl rfl rfl ?_
        refine ev_getR f_X1_canBegin (nx := 24) rfl (hI.wf.s rfl) rfl rfl (hI.wf.r rfl) rfl rfl ?_
        refine ev_loc f_X1_canBegin (nx := 25) rfl rfl rfl rfl ?_
        refine ev_ialdT f_X1_canBegin (nx := 26) rfl (hI.wf.s rfl) l4 (by decide) u8 (by decide) rfl (fun w13 e13 => ?_)
        refine ev_if f_X1_canBegin (t1 := 31) (t2 := 29) rfl rfl rfl (fun h14 => ?_) (fun h14 => ?_)
        · have r15 : w13.toInt ≤ ar2.toInt := Int32.le_iff_toInt_le.mp h14
          have u16 : w13.toInt ≤ 240 := t_leu h14 u12
          refine ev_loc f_X1_canBegin (nx := 32) rfl rfl rfl rfl ?_
          refine ev_getR f_X1_canBegin (nx := 35) rfl (hI.wf.s rfl) rfl rfl (hI.wf.r rfl) rfl rfl ?_
          refine ev_loc f_X1_canBegin (nx := 36) rfl rfl rfl rfl ?_
          refine ev_baldT f_X1_canBegin (nx := 37) rfl (hI.wf.s rfl) rfl l4 (by decide) u8 (by decide) rfl (fun w17 e17 => ?_)
          refine ev_if f_X1_canBegin (t1 := 50) (t2 := 40) rfl rfl rfl (fun h18 => ?_) (fun h18 => ?_)
          · have u19 : w17.toInt ≤ 0 := t_equ h18 (by decide : (0:Int32).toInt ≤ (0:Int))
            have l20 : 0 ≤ w17.toInt := t_eql h18 (by decide : (0:Int) ≤ (0:Int32).toInt)
            refine ev_ic f_X1_canBegin (nx := 51) (v := 1) rfl (by decide) rfl ?_
            refine ev_jmp f_X1_canBegin (nx := 55) rfl rfl rfl ?_
            exact ev_ret f_X1_canBegin rfl rfl rfl ⟨_, _, _, rfl, hI, hX, ⟨_, rfl, (Int.le_trans (by decide : (0:Int) ≤ 1) (by decide : (1:Int) ≤ (1:Int32).toInt)), (by decide : (1:Int32).toInt ≤ (1:Int)), (show s_may2 ar1.toInt (gi 35 0).toInt ar2.toInt (gi 37 ar1.toNatClampNeg).toInt (gi 40 ar1.toNatClampNeg).toInt (1 : Int) from (by
                                                            unfold s_may2
                                                            have z0 : (0 : Int32).toInt = 0 := rfl
                                                            have z1 : (1 : Int32).toInt = 1 := rfl
                                                            rw [← e13]
                                                            rw [← e17]
                                                            omega))⟩⟩
          · have r21 : w17.toInt ≠ 0 := fun e => h18 (Int32.toInt_inj.mp (e.trans (by decide : (0:Int) = (0 : Int32).toInt)))
            refine ev_loc f_X1_canBegin (nx := 41) rfl rfl rfl rfl ?_
            refine ev_loc f_X1_canBegin (nx := 42) rfl rfl rfl rfl ?_
            refine ev_getR f_X1_canBegin (nx := 45) rfl (hI.wf.s rfl) rfl rfl (hI.wf.r rfl) rfl rfl ?_
            refine ev_loc f_X1_canBegin (nx := 46) rfl rfl rfl rfl ?_
            refine ev_ialdT f_X1_canBegin (nx := 47) rfl (hI.wf.s rfl) l4 (by decide) u8 (by decide) rfl (fun w22 e22 => ?_)
            rw [e22.trans e13.symm]
            refine ev_if f_X1_canBegin (t1 := 50) (t2 := 54) rfl rfl rfl (fun h23 => ?_) (fun h23 => ?_)
            · have r24 : ar2.toInt = w13.toInt := t_eqi h23
              refine ev_ic f_X1_canBegin (nx := 51) (v := 1) rfl (by decide) rfl ?_
              refine ev_jmp f_X1_canBegin (nx := 55) rfl rfl rfl ?_
              exact ev_ret f_X1_canBegin rfl rfl rfl ⟨_, _, _, rfl, hI, hX, ⟨_, rfl, (Int.le_trans (by decide : (0:Int) ≤ 1) (by decide : (1:Int) ≤ (1:Int32).toInt)), (by decide : (1:Int32).toInt ≤ (1:Int)), (show s_may2 ar1.toInt (gi 35 0).toInt ar2.toInt (gi 37 ar1.toNatClampNeg).toInt (gi 40 ar1.toNatClampNeg).toInt (1 : Int) from (by
                                                            unfold s_may2
                                                            have z0 : (0 : Int32).toInt = 0 := rfl
                                                            have z1 : (1 : Int32).toInt = 1 := rfl
                                                            rw [← e13]
                                                            rw [← e17]
                                                            omega))⟩⟩
            · have r25 : ar2.toInt ≠ w13.toInt := t_nei h23
              refine ev_ic f_X1_canBegin (nx := 55) (v := 0) rfl (by decide) rfl ?_
              exact ev_ret f_X1_canBegin rfl rfl rfl ⟨_, _, _, rfl, hI, hX, ⟨_, rfl, (by decide : (0:Int) ≤ (0:Int32).toInt), (Int.le_trans (by decide : (0:Int32).toInt ≤ (0:Int)) (by decide : (0:Int) ≤ 1)), (show s_may2 ar1.toInt (gi 35 0).toInt ar2.toInt (gi 37 ar1.toNatClampNeg).toInt (gi 40 ar1.toNatClampNeg).toInt (0 : Int) from (by
                                                            unfold s_may2
                                                            have z0 : (0 : Int32).toInt = 0 := rfl
                                                            have z1 : (1 : Int32).toInt = 1 := rfl
                                                            rw [← e13]
                                                            rw [← e17]
                                                            omega))⟩⟩
        · have r26 : ar2.toInt < w13.toInt := Int32.lt_iff_toInt_lt.mp (t_nle h14)
          have l27 : (-2147483647) ≤ w13.toInt := t_ltl (t_nle h14) (t_lo ar2) rfl
          refine ev_ic f_X1_canBegin (nx := 30) (v := 0) rfl (by decide) rfl ?_
          exact ev_ret f_X1_canBegin rfl rfl rfl ⟨_, _, _, rfl, hI, hX, ⟨_, rfl, (by decide : (0:Int) ≤ (0:Int32).toInt), (Int.le_trans (by decide : (0:Int32).toInt ≤ (0:Int)) (by decide : (0:Int) ≤ 1)), (show s_may2 ar1.toInt (gi 35 0).toInt ar2.toInt (gi 37 ar1.toNatClampNeg).toInt (gi 40 ar1.toNatClampNeg).toInt (0 : Int) from (by
                                                            unfold s_may2
                                                            have z0 : (0 : Int32).toInt = 0 := rfl
                                                            have z1 : (1 : Int32).toInt = 1 := rfl
                                                            rw [← e13]
                                                            omega))⟩⟩
noncomputable def wl_d_canEndWithin2 : List (Nat × Nat) := [(28, 4), (28, 5)]
noncomputable def Q_d_canEndWithin2 (gi : Nat → Nat → Int32) (gl : Nat → Nat → Int64) (gr : Nat → Nat → Value) (ar1 : Int32) (ar2 : Int32) (ar3 : Int32) (ar4 : Int32) (ar5 : Int32) : Int32 → (Nat → Nat → Int32) → (Nat → Nat → Int64) → (Nat → Nat → Value) → Prop := fun (v : Int32) (gi2 : Nat → Nat → Int32) (gl2 : Nat → Nat → Int64) (gr2 : Nat → Nat → Value) => ∀ P : Nat → Nat → Int, s_CP P gi gr → s_PB P → s_PO P → 0 ≤ ar1.toInt → ar1.toInt ≤ 2000 → ar3.toInt ≤ P 0 0 → ar4.toInt ≤ P 0 1 → -1000000000 ≤ ar5.toInt → ar5.toInt ≤ 999999999 → (v.toInt = 1 ↔ s_LS P ar1.toInt ar2.toNatClampNeg ar3.toNatClampNeg ar4.toNatClampNeg ≤ ar5.toInt)
theorem c_d_canEndWithin2 {X : x_Ext} {d : Nat} {sh : List (Nat ⊕ (Nat × Nat))} {gi : Nat → Nat → Int32} {gl : Nat → Nat → Int64} {gr : Nat → Nat → Value} (hI : t_I sh gi gr) (ar1 : Int32) (ar2 : Int32) (l_a2 : 0 ≤ ar2.toInt) (u_a2 : ar2.toInt ≤ 1) (ar3 : Int32) (l_a3 : 0 ≤ ar3.toInt) (u_a3 : ar3.toInt ≤ 6) (ar4 : Int32) (l_a4 : 0 ≤ ar4.toInt) (u_a4 : ar4.toInt ≤ 6) (ar5 : Int32) : x_Me X (d + 17) n_X1_canEndWithin [.ref 28, .int ar1, .int ar2, .int ar3, .int ar4, .int ar5] (sh, gi, gl, gr) (t_PI wl_d_canEndWithin2 sh gi gl gr 0 1 (Q_d_canEndWithin2 gi gl gr ar1 ar2 ar3 ar4 ar5)) := by
  have hX : t_X wl_d_canEndWithin2 sh gi gl gr gi gl gr := t_X.rf
  refine me_i f_X1_canEndWithin (hI.wf.s rfl) rfl rfl rfl ?_
  refine ev_loc f_X1_canEndWithin (nx := 1) rfl rfl rfl rfl ?_
  refine ev_loc f_X1_canEndWithin (nx := 3) rfl rfl rfl rfl ?_
  refine ev_ic f_X1_canEndWithin (nx := 4) (v := 1) rfl (by decide) rfl ?_
  refine ev_anyIE f_X1_canEndWithin (nx := 5) rfl rfl rfl rfl (fun z1 e1 => ?_)
  refine ev_putIT f_X1_canEndWithin (nx := 8) rfl (hI.wf.s rfl) rfl rfl rfl (hI.put0 (hI.wf.s rfl) rfl rfl) (hX.upI rfl) (fun g2 e2 hI hX => ?_)
  refine ev_loc f_X1_canEndWithin (nx := 9) rfl rfl rfl rfl ?_
  refine ev_loc f_X1_canEndWithin (nx := 11) rfl rfl rfl rfl ?_
  refine ev_putIT f_X1_canEndWithin (nx := 14) rfl (hI.wf.s rfl) rfl rfl rfl (hI.put0 (hI.wf.s rfl) rfl rfl) (hX.upI rfl) (fun g3 e3 hI hX => ?_)
  refine ev_loc f_X1_canEndWithin (nx := 15) rfl rfl rfl rfl ?_
  have hXh := hX
  refine ev_loc f_X1_canEndWithin (nx := 16) rfl rfl rfl rfl ?_
  refine ev_loc f_X1_canEndWithin (nx := 17) rfl rfl rfl rfl ?_
  refine ev_loc f_X1_canEndWithin (nx := 18) rfl rfl rfl rfl ?_
  refine ev_loc f_X1_canEndWithin (nx := 20) rfl rfl rfl rfl ?_
  refine ev_ic f_X1_canEndWithin (nx := 21) (v := 0) rfl (by decide) rfl ?_
  refine ev_qN f_X1_canEndWithin (nx := 24) (r := []) rfl rfl rfl rfl rfl rfl rfl (c_d_search hI (ar1) (ar2) l_a2 u_a2 (ar3) l_a3 u_a3 (ar4) l_a4 u_a4 (0)) rfl hX rfl (fun gi4 gl4 gr4 hI hX hC4 q4 => ?_)
  have ff5 : (g3 28 4).toInt = z1.toInt := congrArg Int32.toInt ((by rw [e3]; exact x_up2_off (Or.inr (by decide)) : g3 28 4 = g2 28 4).trans (by rw [e2]; exact x_up2_at _ _ _ _ : g2 28 4 = z1))
  have ff6 : (g3 28 5).toInt = ar5.toInt := congrArg Int32.toInt (by rw [e3]; exact x_up2_at _ _ _ _ : g3 28 5 = ar5)
  have q4 : ∀ P : Nat → Nat → Int, s_CP P g3 gr → s_PB P → s_PO P → 0 ≤ ar1.toInt → ar1.toInt ≤ 2000 → ar3.toInt ≤ P 0 0 → ar4.toInt ≤ P 0 1 → 0 ≤ (0 : Int) → (0 : Int) ≤ 240000 * (ar3.toInt + ar4.toInt) → (g3 28 4).toInt ≤ 1000000000 → s_BB (g3 28 4).toInt (g3 28 5).toInt ((0 : Int) + s_LS P ar1.toInt ar2.toNatClampNeg ar3.toNatClampNeg ar4.toNatClampNeg) (gi4 28 4).toInt := q4
  refine ev_loc f_X1_canEndWithin (nx := 25) rfl rfl rfl rfl ?_
  refine ev_getI f_X1_canEndWithin (nx := 28) rfl (hI.wf.s rfl) rfl rfl rfl ?_
  refine ev_loc f_X1_canEndWithin (nx := 30) rfl rfl rfl rfl ?_
  refine ev_if f_X1_canEndWithin (t1 := 37) (t2 := 33) rfl rfl rfl (fun h7 => ?_) (fun h7 => ?_)
  · have r8 : ar5.toInt < (gi4 28 4).toInt := Int32.lt_iff_toInt_lt.mp h7
    have u9 : ar5.toInt ≤ 2147483646 := t_ltu h7 (t_hi (gi4 28 4)) rfl
    have l10 : (-2147483647) ≤ (gi4 28 4).toInt := t_ltl h7 (t_lo ar5) rfl
    refine ev_ic f_X1_canEndWithin (nx := 38) (v := 0) rfl (by decide) rfl ?_
    exact ev_ret f_X1_canEndWithin rfl rfl rfl ⟨_, _, _, rfl, hI, hX, ⟨_, rfl, (by decide : (0:Int) ≤ (0:Int32).toInt), (Int.le_trans (by decide : (0:Int32).toInt ≤ (0:Int)) (by decide : (0:Int) ≤ 1)), (show ∀ P : Nat → Nat → Int, s_CP P gi gr → s_PB P → s_PO P → 0 ≤ ar1.toInt → ar1.toInt ≤ 2000 → ar3.toInt ≤ P 0 0 → ar4.toInt ≤ P 0 1 → -1000000000 ≤ ar5.toInt → ar5.toInt ≤ 999999999 → ((0 : Int) = 1 ↔ s_LS P ar1.toInt ar2.toNatClampNeg ar3.toNatClampNeg ar4.toNatClampNeg ≤ ar5.toInt) from (by
                                                            intro P hc hb hp h1 h2 h3 h4 h5 h6
                                                            have hc2 := hc.fr hXh rfl rfl
                                                            have k1 : (1 : Int32).toInt = 1 := rfl
                                                            have hz : z1.toInt = ar5.toInt + 1 := s_add e1 rfl rfl (by omega)
                                                            have h7 : (g3 28 4).toInt = ar5.toInt + 1 := by rw [e3, x_up2_off (Or.inr (by decide)), e2, x_up2_at]; exact hz
                                                            have h8 : (g3 28 5).toInt = ar5.toInt := by rw [e3, x_up2_at]
                                                            have hq := q4 P hc2 hb hp h1 h2 h3 h4 (by decide) (by omega) (by rw [h7]; omega)
                                                            rw [h7, h8, Int.zero_add] at hq
                                                            have hle := s_BB_le hq
                                                            constructor
                                                            · intro h; exact hle.mp (by omega)
                                                            · intro h; have h9 := hle.mpr h; omega))⟩⟩
  · have r11 : (gi4 28 4).toInt ≤ ar5.toInt := Int32.le_iff_toInt_le.mp (t_nlt h7)
    refine ev_ic f_X1_canEndWithin (nx := 34) (v := 1) rfl (by decide) rfl ?_
    refine ev_jmp f_X1_canEndWithin (nx := 38) rfl rfl rfl ?_
    exact ev_ret f_X1_canEndWithin rfl rfl rfl ⟨_, _, _, rfl, hI, hX, ⟨_, rfl, (Int.le_trans (by decide : (0:Int) ≤ 1) (by decide : (1:Int) ≤ (1:Int32).toInt)), (by decide : (1:Int32).toInt ≤ (1:Int)), (show ∀ P : Nat → Nat → Int, s_CP P gi gr → s_PB P → s_PO P → 0 ≤ ar1.toInt → ar1.toInt ≤ 2000 → ar3.toInt ≤ P 0 0 → ar4.toInt ≤ P 0 1 → -1000000000 ≤ ar5.toInt → ar5.toInt ≤ 999999999 → ((1 : Int) = 1 ↔ s_LS P ar1.toInt ar2.toNatClampNeg ar3.toNatClampNeg ar4.toNatClampNeg ≤ ar5.toInt) from (by
                                                            intro P hc hb hp h1 h2 h3 h4 h5 h6
                                                            have hc2 := hc.fr hXh rfl rfl
                                                            have k1 : (1 : Int32).toInt = 1 := rfl
                                                            have hz : z1.toInt = ar5.toInt + 1 := s_add e1 rfl rfl (by omega)
                                                            have h7 : (g3 28 4).toInt = ar5.toInt + 1 := by rw [e3, x_up2_off (Or.inr (by decide)), e2, x_up2_at]; exact hz
                                                            have h8 : (g3 28 5).toInt = ar5.toInt := by rw [e3, x_up2_at]
                                                            have hq := q4 P hc2 hb hp h1 h2 h3 h4 (by decide) (by omega) (by rw [h7]; omega)
                                                            rw [h7, h8, Int.zero_add] at hq
                                                            have hle := s_BB_le hq
                                                            constructor
                                                            · intro h; exact hle.mp (by omega)
                                                            · intro h; have h9 := hle.mpr h; omega))⟩⟩
noncomputable def wl_d_addAct : List (Nat × Nat) := [(28, 6), (41, 9999)]
noncomputable def Q_d_addAct (gi : Nat → Nat → Int32) (gl : Nat → Nat → Int64) (gr : Nat → Nat → Value) (ar1 : Int32) (ar2 : Int32) (ar3 : Int32) : (Nat → Nat → Int32) → (Nat → Nat → Int64) → (Nat → Nat → Value) → Prop := fun (gi2 : Nat → Nat → Int32) (gl2 : Nat → Nat → Int64) (gr2 : Nat → Nat → Value) => ∀ (L : s_RL) (t : Int × Int × Int), s_P1 gi L → L.length < 24 → ar1.toInt = t.1 → ar2.toInt = t.2.1 → ar3.toInt = t.2.2 → s_P1 gi2 (L ++ [t])
theorem c_d_addAct {X : x_Ext} {d : Nat} {sh : List (Nat ⊕ (Nat × Nat))} {gi : Nat → Nat → Int32} {gl : Nat → Nat → Int64} {gr : Nat → Nat → Value} (hI : t_I sh gi gr) (ar1 : Int32) (ar2 : Int32) (ar3 : Int32) : x_Me X (d + 1) n_X1_addAct [.ref 28, .int ar1, .int ar2, .int ar3] (sh, gi, gl, gr) (t_PN wl_d_addAct sh gi gl gr (Q_d_addAct gi gl gr ar1 ar2 ar3)) := by
  have hX : t_X wl_d_addAct sh gi gl gr gi gl gr := t_X.rf
  refine me_i f_X1_addAct (hI.wf.s rfl) rfl rfl rfl ?_
  refine ev_loc f_X1_addAct (nx := 1) rfl rfl rfl rfl ?_
  refine ev_getI f_X1_addAct (nx := 4) rfl (hI.wf.s rfl) rfl rfl rfl ?_
  obtain ⟨l1, u1⟩ := hI.b (hI.wf.s (k := 28) rfl) (t_bdK rfl : t_bd 1 6 = some (0, 24))
  refine ev_bp f_X1_addAct (nx := 6) (v := 24) rfl (by decide) rfl ?_
  refine ev_if f_X1_addAct (t1 := 59) (t2 := 9) rfl rfl rfl (fun h2 => ?_) (fun h2 => ?_)
  · have l3 : 24 ≤ (gi 28 6).toInt := t_lel h2 (by decide : (24:Int) ≤ (24:Int32).toInt)
    exact ev_ret f_X1_addAct rfl rfl rfl ⟨_, _, _, rfl, hI, hX, ⟨rfl, (show ∀ (L : s_RL) (t : Int × Int × Int), s_P1 gi L → L.length < 24 → ar1.toInt = t.1 → ar2.toInt = t.2.1 → ar3.toInt = t.2.2 → s_P1 gi (L ++ [t]) from (by
                                                            intro L t h hk h1 h2 h3
                                                            have hn := h.1
                                                            exact absurd hk (by omega)))⟩⟩
  · have u4 : (gi 28 6).toInt ≤ 23 := t_ltu (t_nle h2) (by decide : (24:Int32).toInt ≤ (24:Int)) rfl
    refine ev_loc f_X1_addAct (nx := 10) rfl rfl rfl rfl ?_
    refine ev_getR f_X1_addAct (nx := 13) rfl (hI.wf.s rfl) rfl rfl (hI.wf.r rfl) rfl rfl ?_
    refine ev_ic f_X1_addAct (nx := 14) (v := 3) rfl (by decide) rfl ?_
    refine ev_loc f_X1_addAct (nx := 15) rfl rfl rfl rfl ?_
    refine ev_gvI f_X1_addAct (nx := 18) (w := (gi 28 6)) rfl (hI.wf.s rfl) rfl rfl rfl rfl ?_
    refine ev_mulL f_X1_addAct (nx := 19) (c := 3) (l := 0) (u := 69) rfl (by decide) (by decide) l1 u4 rfl rfl (by decide) (by decide) rfl (fun z5 e5 l5 u5 => ?_)
    refine ev_loc f_X1_addAct (nx := 20) rfl rfl rfl rfl ?_
    refine ev_iastT f_X1_addAct (nx := 21) rfl (hI.wf.s rfl) l5 (by decide) u5 (by decide) rfl (hI.astO (hI.wf.s rfl) (Or.inl (by decide)) (by decide +kernel)) (hX.upI (t_inA_ok rfl)) (fun g6 e6 hI hX => ?_)
    refine ev_loc f_X1_addAct (nx := 22) rfl rfl rfl rfl ?_
    refine ev_getR f_X1_addAct (nx := 25) rfl (hI.wf.s rfl) rfl rfl (hI.wf.r rfl) rfl rfl ?_
    refine ev_ic f_X1_addAct (nx := 26) (v := 3) rfl (by decide) rfl ?_
    refine ev_loc f_X1_addAct (nx := 27) rfl rfl rfl rfl ?_
    refine ev_gvI f_X1_addAct (nx := 30) (w := (gi 28 6)) rfl (hI.wf.s rfl) rfl rfl ((by rw [e6]; exact x_up2_off (Or.inl (by decide)) : g6 28 6 = gi 28 6).trans rfl) rfl ?_
    refine ev_mulL f_X1_addAct (nx := 31) (c := 3) (l := 0) (u := 69) rfl (by decide) (by decide) l1 u4 rfl rfl (by decide) (by decide) rfl (fun z7 e7 l7 u7 => ?_)
    refine ev_ic f_X1_addAct (nx := 32) (v := 1) rfl (by decide) rfl ?_
    refine ev_addC f_X1_addAct (nx := 33) (c := 1) (l := 1) (u := 70) rfl (by decide) l7 u7 rfl rfl (by decide) (by decide) rfl (fun z8 e8 l8 u8 => ?_)
    refine ev_loc f_X1_addAct (nx := 34) rfl rfl rfl rfl ?_
    refine ev_iastT f_X1_addAct (nx := 35) rfl (hI.wf.s rfl) l8 (by decide) u8 (by decide) rfl (hI.astO (hI.wf.s rfl) (Or.inl (by decide)) (by decide +kernel)) (hX.upI (t_inA_ok rfl)) (fun g9 e9 hI hX => ?_)
    refine ev_loc f_X1_addAct (nx := 36) rfl rfl rfl rfl ?_
    refine ev_getR f_X1_addAct (nx := 39) rfl (hI.wf.s rfl) rfl rfl (hI.wf.r rfl) rfl rfl ?_
    refine ev_ic f_X1_addAct (nx := 40) (v := 3) rfl (by decide) rfl ?_
    refine ev_loc f_X1_addAct (nx := 41) rfl rfl rfl rfl ?_
    refine ev_gvI f_X1_addAct (nx := 44) (w := (gi 28 6)) rfl (hI.wf.s rfl) rfl rfl ((by rw [e9]; exact x_up2_off (Or.inl (by decide)) : g9 28 6 = g6 28 6).trans ((by rw [e6]; exact x_up2_off (Or.inl (by decide)) : g6 28 6 = gi 28 6).trans rfl)) rfl ?_
    refine ev_mulL f_X1_addAct (nx := 45) (c := 3) (l := 0) (u := 69) rfl (by decide) (by decide) l1 u4 rfl rfl (by decide) (by decide) rfl (fun z10 e10 l10 u10 => ?_)
    refine ev_ic f_X1_addAct (nx := 46) (v := 2) rfl (by decide) rfl ?_
    refine ev_addC f_X1_addAct (nx := 47) (c := 2) (l := 2) (u := 71) rfl (by decide) l10 u10 rfl rfl (by decide) (by decide) rfl (fun z11 e11 l11 u11 => ?_)
    refine ev_loc f_X1_addAct (nx := 48) rfl rfl rfl rfl ?_
    refine ev_iastT f_X1_addAct (nx := 49) rfl (hI.wf.s rfl) l11 (by decide) u11 (by decide) rfl (hI.astO (hI.wf.s rfl) (Or.inl (by decide)) (by decide +kernel)) (hX.upI (t_inA_ok rfl)) (fun g12 e12 hI hX => ?_)
    refine ev_loc f_X1_addAct (nx := 50) rfl rfl rfl rfl ?_
    refine ev_alu f_X1_addAct (nx := 51) rfl rfl rfl rfl ?_
    refine ev_gvI f_X1_addAct (nx := 54) (w := (gi 28 6)) rfl (hI.wf.s rfl) rfl rfl ((by rw [e12]; exact x_up2_off (Or.inl (by decide)) : g12 28 6 = g9 28 6).trans ((by rw [e9]; exact x_up2_off (Or.inl (by decide)) : g9 28 6 = g6 28 6).trans ((by rw [e6]; exact x_up2_off (Or.inl (by decide)) : g6 28 6 = gi 28 6).trans rfl))) rfl ?_
    refine ev_ic f_X1_addAct (nx := 55) (v := 1) rfl (by decide) rfl ?_
    refine ev_addC f_X1_addAct (nx := 56) (c := 1) (l := 1) (u := 24) rfl (by decide) l1 u4 rfl rfl (by decide) (by decide) rfl (fun z13 e13 l13 u13 => ?_)
    refine ev_putIT f_X1_addAct (nx := 59) rfl (hI.wf.s rfl) rfl rfl rfl (hI.putB (hI.wf.s rfl) rfl rfl l13 (by decide) u13 (by decide)) (hX.upI rfl) (fun g14 e14 hI hX => ?_)
    exact ev_ret f_X1_addAct rfl rfl rfl ⟨_, _, _, rfl, hI, hX, ⟨rfl, (show ∀ (L : s_RL) (t : Int × Int × Int), s_P1 gi L → L.length < 24 → ar1.toInt = t.1 → ar2.toInt = t.2.1 → ar3.toInt = t.2.2 → s_P1 g14 (L ++ [t]) from (by
                                                            intro L t h hk h1 h2 h3
                                                            exact s_P1_add h e6 e9 e12 e14 (by omega) (by omega) (by omega) (by omega) h1 h2 h3))⟩⟩
noncomputable def wl_d_layPlan : List (Nat × Nat) := [(28, 4), (28, 5), (28, 6), (41, 9999), (43, 9999), (44, 9999)]
noncomputable def Q_d_layPlan (gi : Nat → Nat → Int32) (gl : Nat → Nat → Int64) (gr : Nat → Nat → Value) : Int32 → (Nat → Nat → Int32) → (Nat → Nat → Int64) → (Nat → Nat → Value) → Prop := fun (v : Int32) (gi2 : Nat → Nat → Int32) (gl2 : Nat → Nat → Int64) (gr2 : Nat → Nat → Value) => ∀ (P W : Nat → Nat → Int), s_CP P gi gr → s_PB P → s_PO P → s_T1 P → s_W1 gi P W → (v.toInt = 1 ↔ s_LS P 0 0 0 0 < 1000000000) ∧ (v.toInt = 1 → s_C1 gi2 (P 0 0).toNat (P 0 1).toNat (s_pl P W 241 0 0 0 0))
theorem c_d_layPlan {X : x_Ext} {d : Nat} {sh : List (Nat ⊕ (Nat × Nat))} {gi : Nat → Nat → Int32} {gl : Nat → Nat → Int64} {gr : Nat → Nat → Value} (hI : t_I sh gi gr) : x_Me X (d + 19) n_X1_layPlan [.ref 28] (sh, gi, gl, gr) (t_PI wl_d_layPlan sh gi gl gr 0 1 (Q_d_layPlan gi gl gr)) := by
  have hX : t_X wl_d_layPlan sh gi gl gr gi gl gr := t_X.rf
  refine me_i f_X1_layPlan (hI.wf.s rfl) rfl rfl rfl ?_
  refine ev_loc f_X1_layPlan (nx := 1) rfl rfl rfl rfl ?_
  refine ev_ic f_X1_layPlan (nx := 2) (v := 0) rfl (by decide) rfl ?_
  refine ev_putIT f_X1_layPlan (nx := 5) rfl (hI.wf.s rfl) rfl rfl rfl (hI.putB (hI.wf.s rfl) rfl rfl (by decide : (0:Int) ≤ (0:Int32).toInt) (by decide) (by decide : (0:Int32).toInt ≤ (0:Int)) (by decide)) (hX.upI rfl) (fun g1 e1 hI hX => ?_)
  refine ev_loc f_X1_layPlan (nx := 6) rfl rfl rfl rfl ?_
  have hXa := hX
  refine ev_qI f_X1_layPlan (nx := 9) (r := []) rfl rfl rfl rfl rfl rfl rfl (c_d_leastWaits hI ) rfl hX rfl (fun w2 gi2 gl2 gr2 l2 u2 hI hX hC2 q2 => ?_)
  have q2 : ∀ P : Nat → Nat → Int, s_CP P g1 gr → s_PB P → s_PO P → w2.toInt = s_LS P 0 0 0 0 := q2
  refine ev_loc f_X1_layPlan (nx := 10) (lo' := [(1, .int w2), (0, .ref 28)]) rfl rfl rfl rfl ?_
  refine ev_loc f_X1_layPlan (nx := 11) rfl rfl rfl rfl ?_
  refine ev_ldI f_X1_layPlan (nx := 13) (v := 1000000000) rfl (by decide) rfl ?_
  refine ev_if f_X1_layPlan (t1 := 18) (t2 := 16) rfl rfl rfl (fun h3 => ?_) (fun h3 => ?_)
  · have u4 : w2.toInt ≤ 999999999 := t_ltu h3 (by decide : (1000000000:Int32).toInt ≤ (1000000000:Int)) rfl
    refine ev_ic f_X1_layPlan (nx := 19) (v := 0) rfl (by decide) rfl ?_
    refine ev_loc f_X1_layPlan (nx := 20) (lo' := [(2, .int 0), (1, .int w2), (0, .ref 28)]) rfl rfl rfl rfl ?_
    refine ev_ic f_X1_layPlan (nx := 21) (v := 0) rfl (by decide) rfl ?_
    refine ev_loc f_X1_layPlan (nx := 22) (lo' := [(3, .int 0), (2, .int 0), (1, .int w2), (0, .ref 28)]) rfl rfl rfl rfl ?_
    refine ev_ic f_X1_layPlan (nx := 23) (v := 0) rfl (by decide) rfl ?_
    refine ev_loc f_X1_layPlan (nx := 25) (lo' := [(4, .int 0), (3, .int 0), (2, .int 0), (1, .int w2), (0, .ref 28)]) rfl rfl rfl rfl ?_
    refine ev_ic f_X1_layPlan (nx := 26) (v := 0) rfl (by decide) rfl ?_
    refine ev_loc f_X1_layPlan (nx := 28) (lo' := [(5, .int 0), (4, .int 0), (3, .int 0), (2, .int 0), (1, .int w2), (0, .ref 28)]) rfl rfl rfl rfl ?_
    refine ev_ic f_X1_layPlan (nx := 29) (v := 0) rfl (by decide) rfl ?_
    refine ev_loc f_X1_layPlan (nx := 31) (lo' := [(6, .int 0), (5, .int 0), (4, .int 0), (3, .int 0), (2, .int 0), (1, .int w2), (0, .ref 28)]) rfl rfl rfl rfl ?_
    have L5 : ∀ (m5 : Nat) (gi5 : Nat → Nat → Int32) (gl5 : Nat → Nat → Int64) (gr5 : Nat → Nat → Value) (y5_6 : Int32) (y5_5 : Int32) (y5_4 : Int32) (y5_3 : Int32) (y5_2 : Int32) (y5_1 : Int32), t_I sh gi5 gr5 → t_X wl_d_layPlan sh gi gl gr gi5 gl5 gr5 → 0 ≤ y5_6.toInt → y5_6.toInt ≤ 241 → 0 ≤ y5_5.toInt → y5_5.toInt ≤ 6 → 0 ≤ y5_4.toInt → y5_4.toInt ≤ 6 → 0 ≤ y5_3.toInt → y5_3.toInt ≤ 1 → (∀ (P W : Nat → Nat → Int), s_CP P gi gr → s_PB P → s_PO P → s_T1 P → s_W1 gi P W → y5_1.toInt = s_LS P y5_2.toInt y5_3.toNatClampNeg y5_4.toNatClampNeg y5_5.toNatClampNeg ∧ s_PI P W (s_C1 gi5 y5_4.toNatClampNeg y5_5.toNatClampNeg) y5_6.toNatClampNeg y5_2.toInt y5_3.toNatClampNeg y5_4.toNatClampNeg y5_5.toNatClampNeg ∧ s_LS P 0 0 0 0 < 1000000000) → (241 - y5_6.toInt).toNat = m5 → x_Ev X (d + 19) n_X1_layPlan 31 [(6, .int y5_6), (5, .int y5_5), (4, .int y5_4), (3, .int y5_3), (2, .int y5_2), (1, .int y5_1), (0, .ref 28)] [] (sh, gi5, gl5, gr5) (t_PI wl_d_layPlan sh gi gl gr 0 1 (Q_d_layPlan gi gl gr)) := by
      intro m5
      induction m5 using Nat.strongRecOn with
      | _ m5 ih5 =>
      intro gi5 gl5 gr5 y5_6 y5_5 y5_4 y5_3 y5_2 y5_1 hI hX l5_6 u5_6 l5_5 u5_5 l5_4 u5_4 l5_3 u5_3 j5_0 hm5
      refine ev_loc f_X1_layPlan (nx := 33) rfl rfl rfl rfl ?_
      have hX31 := hX
      refine ev_sp f_X1_layPlan (nx := 36) (v := 240) rfl (by decide) rfl ?_
      refine ev_if f_X1_layPlan (t1 := 259) (t2 := 39) rfl rfl rfl (fun h6 => ?_) (fun h6 => ?_)
      · have l7 : 241 ≤ y5_6.toInt := t_ltl h6 (by decide : (240:Int) ≤ (240:Int32).toInt) rfl
        refine ev_ic f_X1_layPlan (nx := 260) (v := 1) rfl (by decide) rfl ?_
        exact ev_ret f_X1_layPlan rfl rfl rfl ⟨_, _, _, rfl, hI, hX, ⟨_, rfl, (Int.le_trans (by decide : (0:Int) ≤ 1) (by decide : (1:Int) ≤ (1:Int32).toInt)), (by decide : (1:Int32).toInt ≤ (1:Int)), (show ∀ (P W : Nat → Nat → Int), s_CP P gi gr → s_PB P → s_PO P → s_T1 P → s_W1 gi P W → ((1 : Int) = 1 ↔ s_LS P 0 0 0 0 < 1000000000) ∧ ((1 : Int) = 1 → s_C1 gi5 (P 0 0).toNat (P 0 1).toNat (s_pl P W 241 0 0 0 0)) from (by
                                                            intro P W hc hb hp ht hw
                                                            obtain ⟨g1, g2, g3⟩ := j5_0 P W hc hb hp ht hw
                                                            have hcH := hc.fr hX31 rfl rfl
                                                            have b1 := hb.1
                                                            have nn := hcH.1
                                                            have c3 := t_clamp (i := y5_3) (by omega)
                                                            have c4 := t_clamp (i := y5_4) (by omega)
                                                            have c5 := t_clamp (i := y5_5) (by omega)
                                                            have c6 := t_clamp (i := y5_6) (by omega)
                                                            obtain ⟨⟨h0, ho⟩, ⟨hsN, hcN⟩, hkm, hl⟩ := g2.1
                                                            have hd : s_gn P y5_4.toNatClampNeg y5_5.toNatClampNeg := by
                                                              rcases Classical.em (s_gn P y5_4.toNatClampNeg y5_5.toNatClampNeg) with h | h
                                                              · exact h
                                                              · have h9 := (s_PI_n g2 hp h).1
                                                                exfalso; omega
                                                            have hE := s_PI_E g2 hd
                                                            have hd1 := hd.1
                                                            have hd2 := hd.2
                                                            rw [show y5_4.toNatClampNeg = (P 0 0).toNat by omega, show y5_5.toNatClampNeg = (P 0 1).toNat by omega] at hE
                                                            exact ⟨⟨fun _ => g3, fun _ => rfl⟩, fun _ => hE⟩))⟩⟩
      · have u8 : y5_6.toInt ≤ 240 := t_leu (t_nlt h6) (by decide : (240:Int32).toInt ≤ (240:Int))
        refine ev_loc f_X1_layPlan (nx := 41) rfl rfl rfl rfl ?_
        refine ev_loc f_X1_layPlan (nx := 43) rfl rfl rfl rfl ?_
        refine ev_addR f_X1_layPlan (nx := 44) (l := 0) (u := 12) rfl l5_4 u5_4 l5_5 u5_5 rfl rfl (by decide) (by decide) rfl (fun z9 e9 l9 u9 => ?_)
        refine ev_loc f_X1_layPlan (nx := 45) rfl rfl rfl rfl ?_
        refine ev_getR f_X1_layPlan (nx := 48) rfl (hI.wf.s rfl) rfl rfl (hI.wf.r rfl) rfl rfl ?_
        refine ev_getI f_X1_layPlan (nx := 51) rfl (hI.wf.s rfl) rfl rfl rfl ?_
        obtain ⟨l10, u10⟩ := hI.b (hI.wf.s (k := 29) rfl) (t_bdK rfl : t_bd 3 0 = some (0, 6))
        refine ev_loc f_X1_layPlan (nx := 52) rfl rfl rfl rfl ?_
        refine ev_getR f_X1_layPlan (nx := 55) rfl (hI.wf.s rfl) rfl rfl (hI.wf.r rfl) rfl rfl ?_
        refine ev_getI f_X1_layPlan (nx := 58) rfl (hI.wf.s rfl) rfl rfl rfl ?_
        obtain ⟨l11, u11⟩ := hI.b (hI.wf.s (k := 35) rfl) (t_bdK rfl : t_bd 3 0 = some (0, 6))
        refine ev_addR f_X1_layPlan (nx := 59) (l := 0) (u := 12) rfl l10 u10 l11 u11 rfl rfl (by decide) (by decide) rfl (fun z12 e12 l12 u12 => ?_)
        refine ev_if f_X1_layPlan (t1 := 259) (t2 := 62) rfl rfl rfl (fun h13 => ?_) (fun h13 => ?_)
        · have r14 : z12.toInt ≤ z9.toInt := Int32.le_iff_toInt_le.mp h13
          refine ev_ic f_X1_layPlan (nx := 260) (v := 1) rfl (by decide) rfl ?_
          exact ev_ret f_X1_layPlan rfl rfl rfl ⟨_, _, _, rfl, hI, hX, ⟨_, rfl, (Int.le_trans (by decide : (0:Int) ≤ 1) (by decide : (1:Int) ≤ (1:Int32).toInt)), (by decide : (1:Int32).toInt ≤ (1:Int)), (show ∀ (P W : Nat → Nat → Int), s_CP P gi gr → s_PB P → s_PO P → s_T1 P → s_W1 gi P W → ((1 : Int) = 1 ↔ s_LS P 0 0 0 0 < 1000000000) ∧ ((1 : Int) = 1 → s_C1 gi5 (P 0 0).toNat (P 0 1).toNat (s_pl P W 241 0 0 0 0)) from (by
                                                            intro P W hc hb hp ht hw
                                                            obtain ⟨g1, g2, g3⟩ := j5_0 P W hc hb hp ht hw
                                                            have hcH := hc.fr hX31 rfl rfl
                                                            have b1 := hb.1
                                                            have nn := hcH.1
                                                            have c3 := t_clamp (i := y5_3) (by omega)
                                                            have c4 := t_clamp (i := y5_4) (by omega)
                                                            have c5 := t_clamp (i := y5_5) (by omega)
                                                            have c6 := t_clamp (i := y5_6) (by omega)
                                                            obtain ⟨⟨h0, ho⟩, ⟨hsN, hcN⟩, hkm, hl⟩ := g2.1
                                                            have hd : s_gn P y5_4.toNatClampNeg y5_5.toNatClampNeg := ⟨by omega, by omega⟩
                                                            have hE := s_PI_E g2 hd
                                                            have hd1 := hd.1
                                                            have hd2 := hd.2
                                                            rw [show y5_4.toNatClampNeg = (P 0 0).toNat by omega, show y5_5.toNatClampNeg = (P 0 1).toNat by omega] at hE
                                                            exact ⟨⟨fun _ => g3, fun _ => rfl⟩, fun _ => hE⟩))⟩⟩
        · have r15 : z9.toInt < z12.toInt := Int32.lt_iff_toInt_lt.mp (t_nle h13)
          have u16 : z9.toInt ≤ 11 := t_ltu (t_nle h13) u12 rfl
          have l17 : 1 ≤ z12.toInt := t_ltl (t_nle h13) l9 rfl
          refine ev_loc f_X1_layPlan (nx := 63) rfl rfl rfl rfl ?_
          refine ev_if f_X1_layPlan (t1 := 135) (t2 := 66) rfl rfl rfl (fun h18 => ?_) (fun h18 => ?_)
          · have u19 : y5_3.toInt ≤ 0 := t_equ h18 (by decide : (0:Int32).toInt ≤ (0:Int))
            refine ev_loc f_X1_layPlan (nx := 136) rfl rfl rfl rfl ?_
            refine ev_t f_X1_layPlan (t1 := 139) (t2 := 208) rfl rfl rfl (t_eqT u19 l5_3 (by decide : (0:Int32).toInt ≤ (0:Int)) (by decide : (0:Int) ≤ (0:Int32).toInt)) ?_
            refine ev_loc f_X1_layPlan (nx := 140) rfl rfl rfl rfl ?_
            refine ev_loc f_X1_layPlan (nx := 141) rfl rfl rfl rfl ?_
            refine ev_loc f_X1_layPlan (nx := 143) rfl rfl rfl rfl ?_
            refine ev_loc f_X1_layPlan (nx := 145) rfl rfl rfl rfl ?_
            refine ev_loc f_X1_layPlan (nx := 146) rfl rfl rfl rfl ?_
            refine ev_inV5 f_X1_layPlan (nx := 149) (lo2 := [(0, .ref 28), (1, .int y5_2), (2, .int y5_4), (3, .int y5_5), (4, .int y5_1)]) rfl rfl rfl rfl f_X1_cartMayBegin (hI.wf.s rfl) rfl rfl rfl rfl rfl ?_
            refine ev_loc f_X1_cartMayBegin (nx := 1) rfl rfl rfl rfl ?_
            have hXc := hX
            refine ev_getR f_X1_cartMayBegin (nx := 4) rfl (hI.wf.s rfl) rfl rfl (hI.wf.r rfl) rfl rfl ?_
            refine ev_loc f_X1_cartMayBegin (nx := 5) rfl rfl rfl rfl ?_
            refine ev_loc f_X1_cartMayBegin (nx := 6) rfl rfl rfl rfl ?_
            refine ev_qI0 f_X1_cartMayBegin (nx := 9) (r := []) rfl rfl rfl rfl rfl rfl rfl (c_d_canBegin2_35 hI (y5_5) (y5_2)) rfl (fun w20 l20 u20 q20 => ?_)
            have q20 : s_may2 y5_5.toInt (gi5 35 0).toInt y5_2.toInt (gi5 37 y5_5.toNatClampNeg).toInt (gi5 40 y5_5.toNatClampNeg).toInt w20.toInt := q20
            refine ev_if f_X1_cartMayBegin (t1 := 12) (t2 := 14) rfl rfl rfl (fun h21 => ?_) (fun h21 => ?_)
            · have u22 : w20.toInt ≤ 0 := t_equ h21 (by decide : (0:Int32).toInt ≤ (0:Int))
              refine ev_ic f_X1_cartMayBegin (nx := 13) (v := 0) rfl (by decide) rfl ?_
              refine ev_retK1 f_X1_cartMayBegin rfl rfl rfl ?_
              refine ev_t f_X1_layPlan (t1 := 208) (t2 := 152) rfl rfl rfl (by decide) ?_
              refine ev_loc f_X1_layPlan (nx := 209) rfl rfl rfl rfl ?_
              have hXr := hX
              refine ev_loc f_X1_layPlan (nx := 210) rfl rfl rfl rfl ?_
              refine ev_ic f_X1_layPlan (nx := 211) (v := 1) rfl (by decide) rfl ?_
              refine ev_anyIE f_X1_layPlan (nx := 212) rfl rfl rfl rfl (fun z23 e23 => ?_)
              refine ev_loc f_X1_layPlan (nx := 213) rfl rfl rfl rfl ?_
              refine ev_loc f_X1_layPlan (nx := 215) rfl rfl rfl rfl ?_
              refine ev_loc f_X1_layPlan (nx := 217) rfl rfl rfl rfl ?_
              refine ev_loc f_X1_layPlan (nx := 218) rfl rfl rfl rfl ?_
              refine ev_qI f_X1_layPlan (nx := 221) (r := []) rfl rfl rfl rfl rfl rfl rfl (c_d_canEndWithin2 hI (z23) (y5_3) l5_3 (Int.le_trans u19 (by decide : (0:Int) ≤ 1)) (y5_4) l5_4 u5_4 (y5_5) l5_5 u5_5 (y5_1)) rfl hX rfl (fun w24 gi24 gl24 gr24 l24 u24 hI hX hC24 q24 => ?_)
              have q24 : ∀ P : Nat → Nat → Int, s_CP P gi5 gr5 → s_PB P → s_PO P → 0 ≤ z23.toInt → z23.toInt ≤ 2000 → y5_4.toInt ≤ P 0 0 → y5_5.toInt ≤ P 0 1 → -1000000000 ≤ y5_1.toInt → y5_1.toInt ≤ 999999999 → (w24.toInt = 1 ↔ s_LS P z23.toInt y5_3.toNatClampNeg y5_4.toNatClampNeg y5_5.toNatClampNeg ≤ y5_1.toInt) := q24
              refine ev_if f_X1_layPlan (t1 := 230) (t2 := 224) rfl rfl rfl (fun h25 => ?_) (fun h25 => ?_)
              · have u26 : w24.toInt ≤ 0 := t_equ h25 (by decide : (0:Int32).toInt ≤ (0:Int))
                refine ev_loc f_X1_layPlan (nx := 231) rfl rfl rfl rfl ?_
                refine ev_ic f_X1_layPlan (nx := 232) (v := 2) rfl (by decide) rfl ?_
                refine ev_loc f_X1_layPlan (nx := 233) rfl rfl rfl rfl ?_
                refine ev_ic f_X1_layPlan (nx := 234) (v := -1) rfl (by decide) rfl ?_
                refine ev_qN f_X1_layPlan (nx := 237) (r := []) rfl rfl rfl rfl rfl rfl rfl (c_d_addAct hI (2) (y5_2) ((-1))) rfl hX rfl (fun gi27 gl27 gr27 hI hX hC27 q27 => ?_)
                have q27 : ∀ (L : s_RL) (t : Int × Int × Int), s_P1 gi24 L → L.length < 24 → (2 : Int) = t.1 → y5_2.toInt = t.2.1 → ((-1) : Int) = t.2.2 → s_P1 gi27 (L ++ [t]) := q27
                refine ev_loc f_X1_layPlan (nx := 238) rfl rfl rfl rfl ?_
                have hXu := hX
                refine ev_loc f_X1_layPlan (nx := 239) rfl rfl rfl rfl ?_
                refine ev_qI0 f_X1_layPlan (nx := 242) (r := []) rfl rfl rfl rfl rfl rfl rfl (c_d_turnEnd hI (y5_2)) rfl (fun w28 l28 u28 q28 => ?_)
                have q28 : ∀ P : Nat → Nat → Int, s_CP P gi27 gr27 → s_PB P → 0 ≤ y5_2.toInt → y5_2.toInt ≤ 3000 → w28.toInt = y5_2.toInt + P 8 y5_2.toInt.toNat := q28
                refine ev_loc f_X1_layPlan (nx := 243) (lo' := [(2, .int w28), (6, .int y5_6), (5, .int y5_5), (4, .int y5_4), (3, .int y5_3), (1, .int y5_1), (0, .ref 28)]) rfl rfl rfl rfl ?_
                refine ev_loc f_X1_layPlan (nx := 244) rfl rfl rfl rfl ?_
                refine ev_t f_X1_layPlan (t1 := 247) (t2 := 251) rfl rfl rfl (t_eqT u19 l5_3 (by decide : (0:Int32).toInt ≤ (0:Int)) (by decide : (0:Int) ≤ (0:Int32).toInt)) ?_
                refine ev_ic f_X1_layPlan (nx := 248) (v := 1) rfl (by decide) rfl ?_
                refine ev_jmp f_X1_layPlan (nx := 252) rfl rfl rfl ?_
                refine ev_loc f_X1_layPlan (nx := 253) (lo' := [(3, .int 1), (2, .int w28), (6, .int y5_6), (5, .int y5_5), (4, .int y5_4), (1, .int y5_1), (0, .ref 28)]) rfl rfl rfl rfl ?_
                refine ev_incR f_X1_layPlan (nx := 256) (c := 1) (l := 1) (u := 241) rfl rfl (by decide) (by decide) l5_6 u8 rfl rfl (by decide) (by decide) rfl (fun z29 e29 l29 u29 => ?_)
                refine ev_jmp f_X1_layPlan (nx := 31) rfl rfl rfl ?_
                refine ev_sub (lo := [(6, .int z29), (5, .int y5_5), (4, .int y5_4), (3, .int 1), (2, .int w28), (1, .int y5_1), (0, .ref 28)]) rfl (t_sc rfl (t_sc rfl (t_sc rfl (t_sc rfl (t_sc rfl (t_sc rfl (t_sc rfl t_sn))))))) ?_
                exact ih5 _ (by omega) gi27 gl27 gr27 (z29) (y5_5) (y5_4) (1) (w28) (y5_1) hI hX  (Int.le_trans (by decide : (0:Int) ≤ 1) l29) u29 l5_5 u5_5 l5_4 u5_4 (Int.le_trans (by decide : (0:Int) ≤ 1) (by decide : (1:Int) ≤ (1:Int32).toInt)) (by decide : (1:Int32).toInt ≤ (1:Int)) (by
                                                            intro P W hc hb hp ht hw
                                                            obtain ⟨g1, g2, g3⟩ := j5_0 P W hc hb hp ht hw
                                                            have hcH := hc.fr hX31 rfl rfl
                                                            have b1 := hb.1
                                                            have nn := hcH.1
                                                            have c3 := t_clamp (i := y5_3) (by omega)
                                                            have c4 := t_clamp (i := y5_4) (by omega)
                                                            have c5 := t_clamp (i := y5_5) (by omega)
                                                            have c6 := t_clamp (i := y5_6) (by omega)
                                                            obtain ⟨⟨h0, ho⟩, ⟨hsN, hcN⟩, hkm, hl⟩ := g2.1
                                                            have hd : ¬ s_gn P _ _ := fun hh => absurd hh (show ¬ s_gn P y5_4.toNatClampNeg y5_5.toNatClampNeg from fun hh => by have q1 := hh.1; have q2 := hh.2; omega)
                                                            obtain ⟨hm, hk2, -⟩ := s_PI_n g2 hp hd
                                                            have hnS : ¬ s_yS P y5_2.toInt y5_3.toNatClampNeg y5_4.toNatClampNeg y5_5.toNatClampNeg := fun hh => by have := hh.1; omega
                                                            have hcC := hc.fr hXc rfl rfl
                                                            have hmc := s_mb_C hcC q20 (by omega)
                                                            have hnC : ¬ s_yC P y5_2.toInt y5_3.toNatClampNeg y5_4.toNatClampNeg y5_5.toNatClampNeg := fun hh => by have h9 := hmc.mpr ⟨hh.2.1, hh.2.2.1, hh.2.2.2.1⟩; omega
                                                            have hcR := hc.fr hXr rfl rfl
                                                            have k1 : (1 : Int32).toInt = 1 := rfl
                                                            have hzr := s_add e23 rfl k1 (by omega)
                                                            have hlo9 := s_LS_lo hp y5_2.toInt y5_3.toNatClampNeg y5_4.toNatClampNeg y5_5.toNatClampNeg
                                                            have hcr := q24 P hcR hb hp (by omega) (by omega) (by omega) (by omega) (by omega) (by omega)
                                                            rw [hzr] at hcr
                                                            have hmo := s_LS_mono (o := y5_3.toNatClampNeg) (s := y5_4.toNatClampNeg) (c := y5_5.toNatClampNeg) hp h0 (show y5_2.toInt ≤ y5_2.toInt + 1 by omega)
                                                            have e6 := s_cp (y := y5_6) (z := z29) (by omega) (by omega)
                                                            have hnr : ¬ s_LS P (y5_2.toInt + 1) y5_3.toNatClampNeg y5_4.toNatClampNeg y5_5.toNatClampNeg = s_LS P y5_2.toInt y5_3.toNatClampNeg y5_4.toNatClampNeg y5_5.toNatClampNeg := fun hh => by have h9 := hcr.mpr (by omega); omega
                                                            have hT := s_PI_T (S' := s_C1 gi27 y5_4.toNatClampNeg y5_5.toNatClampNeg) g2 hp hd hb hnS hnC hnr (fun L hL hlen => s_C1_T hL (q27 L _ (hL.1.cg ((t_F_X hC24) 28 6 (by decide) rfl).1 (t_F_nc (t_F_X hC24) rfl (by decide))) hlen rfl rfl rfl) ((t_F_nc (t_F_X hC27) rfl (by decide)).trans (t_F_nc (t_F_X hC24) rfl (by decide))) ((t_F_nc (t_F_X hC27) rfl (by decide)).trans (t_F_nc (t_F_X hC24) rfl (by decide))))
                                                            have htt := (s_LS_turn hp hd h0 ho hl hnS hnC hnr).1
                                                            have hcT := hc.fr hXu rfl rfl
                                                            have hte := q28 P hcT hb (by omega) (by omega)
                                                            have e3 : (1 : Int32).toNatClampNeg = 1 - y5_3.toNatClampNeg := by have hz : (1 : Int32).toNatClampNeg = 1 := rfl; omega
                                                            rw [hte, e6, e3]
                                                            exact ⟨by rw [htt]; exact g1, hT, g3⟩) rfl
              · have r30 : w24.toInt ≠ 0 := fun e => h25 (Int32.toInt_inj.mp (e.trans (by decide : (0:Int) = (0 : Int32).toInt)))
                have l31 : 1 ≤ w24.toInt := t_nel h25 l24 rfl rfl
                refine ev_incE f_X1_layPlan (nx := 227) (c := 1) rfl rfl rfl (by decide) rfl (fun z32 e32 => ?_)
                refine ev_jmp f_X1_layPlan (nx := 253) rfl rfl rfl ?_
                refine ev_incR f_X1_layPlan (nx := 256) (c := 1) (l := 1) (u := 241) rfl rfl (by decide) (by decide) l5_6 u8 rfl rfl (by decide) (by decide) rfl (fun z33 e33 l33 u33 => ?_)
                refine ev_jmp f_X1_layPlan (nx := 31) rfl rfl rfl ?_
                refine ev_sub (lo := [(6, .int z33), (5, .int y5_5), (4, .int y5_4), (3, .int y5_3), (2, .int z32), (1, .int y5_1), (0, .ref 28)]) rfl (t_sc rfl (t_sc rfl (t_sc rfl (t_sc rfl (t_sc rfl (t_sc rfl (t_sc rfl t_sn))))))) ?_
                exact ih5 _ (by omega) gi24 gl24 gr24 (z33) (y5_5) (y5_4) (y5_3) (z32) (y5_1) hI hX  (Int.le_trans (by decide : (0:Int) ≤ 1) l33) u33 l5_5 u5_5 l5_4 u5_4 l5_3 (Int.le_trans u19 (by decide : (0:Int) ≤ 1)) (by
                                                            intro P W hc hb hp ht hw
                                                            obtain ⟨g1, g2, g3⟩ := j5_0 P W hc hb hp ht hw
                                                            have hcH := hc.fr hX31 rfl rfl
                                                            have b1 := hb.1
                                                            have nn := hcH.1
                                                            have c3 := t_clamp (i := y5_3) (by omega)
                                                            have c4 := t_clamp (i := y5_4) (by omega)
                                                            have c5 := t_clamp (i := y5_5) (by omega)
                                                            have c6 := t_clamp (i := y5_6) (by omega)
                                                            obtain ⟨⟨h0, ho⟩, ⟨hsN, hcN⟩, hkm, hl⟩ := g2.1
                                                            have hd : ¬ s_gn P _ _ := fun hh => absurd hh (show ¬ s_gn P y5_4.toNatClampNeg y5_5.toNatClampNeg from fun hh => by have q1 := hh.1; have q2 := hh.2; omega)
                                                            obtain ⟨hm, hk2, -⟩ := s_PI_n g2 hp hd
                                                            have hnS : ¬ s_yS P y5_2.toInt y5_3.toNatClampNeg y5_4.toNatClampNeg y5_5.toNatClampNeg := fun hh => by have := hh.1; omega
                                                            have hcC := hc.fr hXc rfl rfl
                                                            have hmc := s_mb_C hcC q20 (by omega)
                                                            have hnC : ¬ s_yC P y5_2.toInt y5_3.toNatClampNeg y5_4.toNatClampNeg y5_5.toNatClampNeg := fun hh => by have h9 := hmc.mpr ⟨hh.2.1, hh.2.2.1, hh.2.2.2.1⟩; omega
                                                            have hcR := hc.fr hXr rfl rfl
                                                            have k1 : (1 : Int32).toInt = 1 := rfl
                                                            have hzr := s_add e23 rfl k1 (by omega)
                                                            have hlo9 := s_LS_lo hp y5_2.toInt y5_3.toNatClampNeg y5_4.toNatClampNeg y5_5.toNatClampNeg
                                                            have hcr := q24 P hcR hb hp (by omega) (by omega) (by omega) (by omega) (by omega) (by omega)
                                                            rw [hzr] at hcr
                                                            have hmo := s_LS_mono (o := y5_3.toNatClampNeg) (s := y5_4.toNatClampNeg) (c := y5_5.toNatClampNeg) hp h0 (show y5_2.toInt ≤ y5_2.toInt + 1 by omega)
                                                            have e6 := s_cp (y := y5_6) (z := z33) (by omega) (by omega)
                                                            have hrs : s_LS P (y5_2.toInt + 1) y5_3.toNatClampNeg y5_4.toNatClampNeg y5_5.toNatClampNeg = s_LS P y5_2.toInt y5_3.toNatClampNeg y5_4.toNatClampNeg y5_5.toNatClampNeg := by have h9 := hcr.mp (by omega); omega
                                                            have e2 := s_add e32 rfl k1 (by omega)
                                                            rw [e2, e6]
                                                            exact ⟨by rw [hrs]; exact g1, (s_PI_R g2 hp hd hnS hnC hrs).mono (fun L hL => hL.cg ((t_F_X hC24) 28 6 (by decide) rfl).1 (t_F_nc (t_F_X hC24) rfl (by decide)) (t_F_nc (t_F_X hC24) rfl (by decide)) (t_F_nc (t_F_X hC24) rfl (by decide))), g3⟩) rfl
            · have r34 : w20.toInt ≠ 0 := fun e => h21 (Int32.toInt_inj.mp (e.trans (by decide : (0:Int) = (0 : Int32).toInt)))
              have l35 : 1 ≤ w20.toInt := t_nel h21 l20 rfl rfl
              refine ev_loc f_X1_cartMayBegin (nx := 16) rfl rfl rfl rfl ?_
              refine ev_loc f_X1_cartMayBegin (nx := 17) rfl rfl rfl rfl ?_
              refine ev_getR f_X1_cartMayBegin (nx := 20) rfl (hI.wf.s rfl) rfl rfl (hI.wf.r rfl) rfl rfl ?_
              refine ev_loc f_X1_cartMayBegin (nx := 21) rfl rfl rfl rfl ?_
              refine ev_loc f_X1_cartMayBegin (nx := 22) rfl rfl rfl rfl ?_
              refine ev_qI0 f_X1_cartMayBegin (nx := 25) (r := [.int y5_1]) rfl rfl rfl rfl rfl rfl rfl (c_d_waitsOf_35 hI (y5_5) (y5_2)) rfl (fun w36 l36 u36 q36 => ?_)
              have q36 : s_wts y5_5.toInt (gi5 35 0).toInt y5_2.toInt (gi5 37 y5_5.toNatClampNeg).toInt (gi5 39 y5_5.toNatClampNeg).toInt w36.toInt := q36
              refine ev_anyIE f_X1_cartMayBegin (nx := 26) rfl rfl rfl rfl (fun z37 e37 => ?_)
              refine ev_loc f_X1_cartMayBegin (nx := 28) (lo' := [(5, .int z37), (0, .ref 28), (1, .int y5_2), (2, .int y5_4), (3, .int y5_5), (4, .int y5_1)]) rfl rfl rfl rfl ?_
              refine ev_loc f_X1_cartMayBegin (nx := 29) rfl rfl rfl rfl ?_
              refine ev_loc f_X1_cartMayBegin (nx := 30) rfl rfl rfl rfl ?_
              refine ev_loc f_X1_cartMayBegin (nx := 31) rfl rfl rfl rfl ?_
              refine ev_getR f_X1_cartMayBegin (nx := 34) rfl (hI.wf.s rfl) rfl rfl (hI.wf.r rfl) rfl rfl ?_
              refine ev_getR f_X1_cartMayBegin (nx := 37) rfl (hI.wf.s rfl) rfl rfl (hI.wf.r rfl) rfl rfl ?_
              refine ev_loc f_X1_cartMayBegin (nx := 38) rfl rfl rfl rfl ?_
              have u39 : y5_5.toInt ≤ (5:Int) := (by have hq := q20; unfold s_may2 at hq; have h9 := (hq.mp (by omega)).2.1; omega)
              refine ev_ialdT f_X1_cartMayBegin (nx := 39) rfl (hI.wf.s rfl) l5_5 (by decide) u39 (by decide) rfl (fun w38 e38 => ?_)
              refine ev_anyIE f_X1_cartMayBegin (nx := 40) rfl rfl rfl rfl (fun z40 e40 => ?_)
              refine ev_ic f_X1_cartMayBegin (nx := 41) (v := 0) rfl (by decide) rfl ?_
              refine ev_loc f_X1_cartMayBegin (nx := 42) rfl rfl rfl rfl ?_
              refine ev_loc f_X1_cartMayBegin (nx := 43) rfl rfl rfl rfl ?_
              refine ev_ic f_X1_cartMayBegin (nx := 44) (v := 1) rfl (by decide) rfl ?_
              refine ev_addC f_X1_cartMayBegin (nx := 45) (c := 1) (l := 1) (u := 6) rfl (by decide) l5_5 u39 rfl rfl (by decide) (by decide) rfl (fun z41 e41 l41 u41 => ?_)
              refine ev_loc f_X1_cartMayBegin (nx := 47) rfl rfl rfl rfl ?_
              refine ev_qI f_X1_cartMayBegin (nx := 50) (r := []) rfl rfl rfl rfl rfl rfl rfl (c_d_canEndWithin2 hI (z40) (0) (by decide : (0:Int) ≤ (0:Int32).toInt) (Int.le_trans (by decide : (0:Int32).toInt ≤ (0:Int)) (by decide : (0:Int) ≤ 1)) (y5_4) l5_4 u5_4 (z41) (Int.le_trans (by decide : (0:Int) ≤ 1) l41) u41 (z37)) rfl hX rfl (fun w42 gi42 gl42 gr42 l42 u42 hI hX hC42 q42 => ?_)
              have q42 : ∀ P : Nat → Nat → Int, s_CP P gi5 gr5 → s_PB P → s_PO P → 0 ≤ z40.toInt → z40.toInt ≤ 2000 → y5_4.toInt ≤ P 0 0 → z41.toInt ≤ P 0 1 → -1000000000 ≤ z37.toInt → z37.toInt ≤ 999999999 → (w42.toInt = 1 ↔ s_LS P z40.toInt (0 : Int32).toNatClampNeg y5_4.toNatClampNeg z41.toNatClampNeg ≤ z37.toInt) := q42
              refine ev_retK1 f_X1_cartMayBegin rfl rfl (t_rz l42 u42) ?_
              refine ev_if f_X1_layPlan (t1 := 208) (t2 := 152) rfl rfl rfl (fun h43 => ?_) (fun h43 => ?_)
              · have u44 : w42.toInt ≤ 0 := t_equ h43 (by decide : (0:Int32).toInt ≤ (0:Int))
                refine ev_loc f_X1_layPlan (nx := 209) rfl rfl rfl rfl ?_
                have hXr := hX
                refine ev_loc f_X1_layPlan (nx := 210) rfl rfl rfl rfl ?_
                refine ev_ic f_X1_layPlan (nx := 211) (v := 1) rfl (by decide) rfl ?_
                refine ev_anyIE f_X1_layPlan (nx := 212) rfl rfl rfl rfl (fun z45 e45 => ?_)
                refine ev_loc f_X1_layPlan (nx := 213) rfl rfl rfl rfl ?_
                refine ev_loc f_X1_layPlan (nx := 215) rfl rfl rfl rfl ?_
                refine ev_loc f_X1_layPlan (nx := 217) rfl rfl rfl rfl ?_
                refine ev_loc f_X1_layPlan (nx := 218) rfl rfl rfl rfl ?_
                refine ev_qI f_X1_layPlan (nx := 221) (r := []) rfl rfl rfl rfl rfl rfl rfl (c_d_canEndWithin2 hI (z45) (y5_3) l5_3 (Int.le_trans u19 (by decide : (0:Int) ≤ 1)) (y5_4) l5_4 u5_4 (y5_5) l5_5 (Int.le_trans u39 (by decide : (5:Int) ≤ 6)) (y5_1)) rfl hX rfl (fun w46 gi46 gl46 gr46 l46 u46 hI hX hC46 q46 => ?_)
                have q46 : ∀ P : Nat → Nat → Int, s_CP P gi42 gr42 → s_PB P → s_PO P → 0 ≤ z45.toInt → z45.toInt ≤ 2000 → y5_4.toInt ≤ P 0 0 → y5_5.toInt ≤ P 0 1 → -1000000000 ≤ y5_1.toInt → y5_1.toInt ≤ 999999999 → (w46.toInt = 1 ↔ s_LS P z45.toInt y5_3.toNatClampNeg y5_4.toNatClampNeg y5_5.toNatClampNeg ≤ y5_1.toInt) := q46
                refine ev_if f_X1_layPlan (t1 := 230) (t2 := 224) rfl rfl rfl (fun h47 => ?_) (fun h47 => ?_)
                · have u48 : w46.toInt ≤ 0 := t_equ h47 (by decide : (0:Int32).toInt ≤ (0:Int))
                  refine ev_loc f_X1_layPlan (nx := 231) rfl rfl rfl rfl ?_
                  refine ev_ic f_X1_layPlan (nx := 232) (v := 2) rfl (by decide) rfl ?_
                  refine ev_loc f_X1_layPlan (nx := 233) rfl rfl rfl rfl ?_
                  refine ev_ic f_X1_layPlan (nx := 234) (v := -1) rfl (by decide) rfl ?_
                  refine ev_qN f_X1_layPlan (nx := 237) (r := []) rfl rfl rfl rfl rfl rfl rfl (c_d_addAct hI (2) (y5_2) ((-1))) rfl hX rfl (fun gi49 gl49 gr49 hI hX hC49 q49 => ?_)
                  have q49 : ∀ (L : s_RL) (t : Int × Int × Int), s_P1 gi46 L → L.length < 24 → (2 : Int) = t.1 → y5_2.toInt = t.2.1 → ((-1) : Int) = t.2.2 → s_P1 gi49 (L ++ [t]) := q49
                  refine ev_loc f_X1_layPlan (nx := 238) rfl rfl rfl rfl ?_
                  have hXu := hX
                  refine ev_loc f_X1_layPlan (nx := 239) rfl rfl rfl rfl ?_
                  refine ev_qI0 f_X1_layPlan (nx := 242) (r := []) rfl rfl rfl rfl rfl rfl rfl (c_d_turnEnd hI (y5_2)) rfl (fun w50 l50 u50 q50 => ?_)
                  have q50 : ∀ P : Nat → Nat → Int, s_CP P gi49 gr49 → s_PB P → 0 ≤ y5_2.toInt → y5_2.toInt ≤ 3000 → w50.toInt = y5_2.toInt + P 8 y5_2.toInt.toNat := q50
                  refine ev_loc f_X1_layPlan (nx := 243) (lo' := [(2, .int w50), (6, .int y5_6), (5, .int y5_5), (4, .int y5_4), (3, .int y5_3), (1, .int y5_1), (0, .ref 28)]) rfl rfl rfl rfl ?_
                  refine ev_loc f_X1_layPlan (nx := 244) rfl rfl rfl rfl ?_
                  refine ev_t f_X1_layPlan (t1 := 247) (t2 := 251) rfl rfl rfl (t_eqT u19 l5_3 (by decide : (0:Int32).toInt ≤ (0:Int)) (by decide : (0:Int) ≤ (0:Int32).toInt)) ?_
                  refine ev_ic f_X1_layPlan (nx := 248) (v := 1) rfl (by decide) rfl ?_
                  refine ev_jmp f_X1_layPlan (nx := 252) rfl rfl rfl ?_
                  refine ev_loc f_X1_layPlan (nx := 253) (lo' := [(3, .int 1), (2, .int w50), (6, .int y5_6), (5, .int y5_5), (4, .int y5_4), (1, .int y5_1), (0, .ref 28)]) rfl rfl rfl rfl ?_
                  refine ev_incR f_X1_layPlan (nx := 256) (c := 1) (l := 1) (u := 241) rfl rfl (by decide) (by decide) l5_6 u8 rfl rfl (by decide) (by decide) rfl (fun z51 e51 l51 u51 => ?_)
                  refine ev_jmp f_X1_layPlan (nx := 31) rfl rfl rfl ?_
                  refine ev_sub (lo := [(6, .int z51), (5, .int y5_5), (4, .int y5_4), (3, .int 1), (2, .int w50), (1, .int y5_1), (0, .ref 28)]) rfl (t_sc rfl (t_sc rfl (t_sc rfl (t_sc rfl (t_sc rfl (t_sc rfl (t_sc rfl t_sn))))))) ?_
                  exact ih5 _ (by omega) gi49 gl49 gr49 (z51) (y5_5) (y5_4) (1) (w50) (y5_1) hI hX  (Int.le_trans (by decide : (0:Int) ≤ 1) l51) u51 l5_5 (Int.le_trans u39 (by decide : (5:Int) ≤ 6)) l5_4 u5_4 (Int.le_trans (by decide : (0:Int) ≤ 1) (by decide : (1:Int) ≤ (1:Int32).toInt)) (by decide : (1:Int32).toInt ≤ (1:Int)) (by
                                                            intro P W hc hb hp ht hw
                                                            obtain ⟨g1, g2, g3⟩ := j5_0 P W hc hb hp ht hw
                                                            have hcH := hc.fr hX31 rfl rfl
                                                            have b1 := hb.1
                                                            have nn := hcH.1
                                                            have c3 := t_clamp (i := y5_3) (by omega)
                                                            have c4 := t_clamp (i := y5_4) (by omega)
                                                            have c5 := t_clamp (i := y5_5) (by omega)
                                                            have c6 := t_clamp (i := y5_6) (by omega)
                                                            obtain ⟨⟨h0, ho⟩, ⟨hsN, hcN⟩, hkm, hl⟩ := g2.1
                                                            have hd : ¬ s_gn P _ _ := fun hh => absurd hh (show ¬ s_gn P y5_4.toNatClampNeg y5_5.toNatClampNeg from fun hh => by have q1 := hh.1; have q2 := hh.2; omega)
                                                            obtain ⟨hm, hk2, -⟩ := s_PI_n g2 hp hd
                                                            have hnS : ¬ s_yS P y5_2.toInt y5_3.toNatClampNeg y5_4.toNatClampNeg y5_5.toNatClampNeg := fun hh => by have := hh.1; omega
                                                            have hcC := hc.fr hXc rfl rfl
                                                            have hmc := s_mb_C hcC q20 (by omega)
                                                            have hce2 := hmc.mp (by omega)
                                                            have hco : y5_3.toNatClampNeg = 0 := by omega
                                                            have hwc := s_wt_C hcC hp hb q36 (by omega) hce2.1 hce2.2.1 hce2.2.2
                                                            have hloc := s_LS_lo hp y5_2.toInt y5_3.toNatClampNeg y5_4.toNatClampNeg y5_5.toNatClampNeg
                                                            have hbc := s_sub e37 rfl rfl (by omega)
                                                            have htc : w38.toInt = P 6 y5_5.toNatClampNeg := by rw [e38]; exact (hcC.2.2.1 _ hce2.1).2.1
                                                            have htbc := (hb.2.2.1 _ hce2.1).2.1
                                                            have ht2 := ht.2 _ hce2.1
                                                            have hzc := s_add e40 rfl htc (by omega)
                                                            have hn2 := s_cp (y := y5_5) (z := z41) (by omega) (by omega)
                                                            have hcc := q42 P hcC hb hp (by omega) (by omega) (by omega) (by omega) (by omega) (by omega)
                                                            have e0 : (0 : Int32).toNatClampNeg = 0 := rfl
                                                            rw [hzc, e0, hn2] at hcc
                                                            have hyc := s_yC_iff (s := y5_4.toNatClampNeg) hp hco h0 hce2 hl
                                                            have hnC : ¬ s_yC P y5_2.toInt y5_3.toNatClampNeg y5_4.toNatClampNeg y5_5.toNatClampNeg := fun hh => by have h8 := hyc.mp hh; have h9 := hcc.mpr (by omega); omega
                                                            have hcR := hc.fr hXr rfl rfl
                                                            have k1 : (1 : Int32).toInt = 1 := rfl
                                                            have hzr := s_add e45 rfl k1 (by omega)
                                                            have hlo9 := s_LS_lo hp y5_2.toInt y5_3.toNatClampNeg y5_4.toNatClampNeg y5_5.toNatClampNeg
                                                            have hcr := q46 P hcR hb hp (by omega) (by omega) (by omega) (by omega) (by omega) (by omega)
                                                            rw [hzr] at hcr
                                                            have hmo := s_LS_mono (o := y5_3.toNatClampNeg) (s := y5_4.toNatClampNeg) (c := y5_5.toNatClampNeg) hp h0 (show y5_2.toInt ≤ y5_2.toInt + 1 by omega)
                                                            have e6 := s_cp (y := y5_6) (z := z51) (by omega) (by omega)
                                                            have hnr : ¬ s_LS P (y5_2.toInt + 1) y5_3.toNatClampNeg y5_4.toNatClampNeg y5_5.toNatClampNeg = s_LS P y5_2.toInt y5_3.toNatClampNeg y5_4.toNatClampNeg y5_5.toNatClampNeg := fun hh => by have h9 := hcr.mpr (by omega); omega
                                                            have hT := s_PI_T (S' := s_C1 gi49 y5_4.toNatClampNeg y5_5.toNatClampNeg) g2 hp hd hb hnS hnC hnr (fun L hL hlen => s_C1_T hL (q49 L _ (hL.1.cg (((t_F_X hC46) 28 6 (by decide) rfl).1.trans ((t_F_X hC42) 28 6 (by decide) rfl).1) ((t_F_nc (t_F_X hC46) rfl (by decide)).trans (t_F_nc (t_F_X hC42) rfl (by decide)))) hlen rfl rfl rfl) ((t_F_nc (t_F_X hC49) rfl (by decide)).trans ((t_F_nc (t_F_X hC46) rfl (by decide)).trans (t_F_nc (t_F_X hC42) rfl (by decide)))) ((t_F_nc (t_F_X hC49) rfl (by decide)).trans ((t_F_nc (t_F_X hC46) rfl (by decide)).trans (t_F_nc (t_F_X hC42) rfl (by decide)))))
                                                            have htt := (s_LS_turn hp hd h0 ho hl hnS hnC hnr).1
                                                            have hcT := hc.fr hXu rfl rfl
                                                            have hte := q50 P hcT hb (by omega) (by omega)
                                                            have e3 : (1 : Int32).toNatClampNeg = 1 - y5_3.toNatClampNeg := by have hz : (1 : Int32).toNatClampNeg = 1 := rfl; omega
                                                            rw [hte, e6, e3]
                                                            exact ⟨by rw [htt]; exact g1, hT, g3⟩) rfl
                · have r52 : w46.toInt ≠ 0 := fun e => h47 (Int32.toInt_inj.mp (e.trans (by decide : (0:Int) = (0 : Int32).toInt)))
                  have l53 : 1 ≤ w46.toInt := t_nel h47 l46 rfl rfl
                  refine ev_incE f_X1_layPlan (nx := 227) (c := 1) rfl rfl rfl (by decide) rfl (fun z54 e54 => ?_)
                  refine ev_jmp f_X1_layPlan (nx := 253) rfl rfl rfl ?_
                  refine ev_incR f_X1_layPlan (nx := 256) (c := 1) (l := 1) (u := 241) rfl rfl (by decide) (by decide) l5_6 u8 rfl rfl (by decide) (by decide) rfl (fun z55 e55 l55 u55 => ?_)
                  refine ev_jmp f_X1_layPlan (nx := 31) rfl rfl rfl ?_
                  refine ev_sub (lo := [(6, .int z55), (5, .int y5_5), (4, .int y5_4), (3, .int y5_3), (2, .int z54), (1, .int y5_1), (0, .ref 28)]) rfl (t_sc rfl (t_sc rfl (t_sc rfl (t_sc rfl (t_sc rfl (t_sc rfl (t_sc rfl t_sn))))))) ?_
                  exact ih5 _ (by omega) gi46 gl46 gr46 (z55) (y5_5) (y5_4) (y5_3) (z54) (y5_1) hI hX  (Int.le_trans (by decide : (0:Int) ≤ 1) l55) u55 l5_5 (Int.le_trans u39 (by decide : (5:Int) ≤ 6)) l5_4 u5_4 l5_3 (Int.le_trans u19 (by decide : (0:Int) ≤ 1)) (by
                                                            intro P W hc hb hp ht hw
                                                            obtain ⟨g1, g2, g3⟩ := j5_0 P W hc hb hp ht hw
                                                            have hcH := hc.fr hX31 rfl rfl
                                                            have b1 := hb.1
                                                            have nn := hcH.1
                                                            have c3 := t_clamp (i := y5_3) (by omega)
                                                            have c4 := t_clamp (i := y5_4) (by omega)
                                                            have c5 := t_clamp (i := y5_5) (by omega)
                                                            have c6 := t_clamp (i := y5_6) (by omega)
                                                            obtain ⟨⟨h0, ho⟩, ⟨hsN, hcN⟩, hkm, hl⟩ := g2.1
                                                            have hd : ¬ s_gn P _ _ := fun hh => absurd hh (show ¬ s_gn P y5_4.toNatClampNeg y5_5.toNatClampNeg from fun hh => by have q1 := hh.1; have q2 := hh.2; omega)
                                                            obtain ⟨hm, hk2, -⟩ := s_PI_n g2 hp hd
                                                            have hnS : ¬ s_yS P y5_2.toInt y5_3.toNatClampNeg y5_4.toNatClampNeg y5_5.toNatClampNeg := fun hh => by have := hh.1; omega
                                                            have hcC := hc.fr hXc rfl rfl
                                                            have hmc := s_mb_C hcC q20 (by omega)
                                                            have hce2 := hmc.mp (by omega)
                                                            have hco : y5_3.toNatClampNeg = 0 := by omega
                                                            have hwc := s_wt_C hcC hp hb q36 (by omega) hce2.1 hce2.2.1 hce2.2.2
                                                            have hloc := s_LS_lo hp y5_2.toInt y5_3.toNatClampNeg y5_4.toNatClampNeg y5_5.toNatClampNeg
                                                            have hbc := s_sub e37 rfl rfl (by omega)
                                                            have htc : w38.toInt = P 6 y5_5.toNatClampNeg := by rw [e38]; exact (hcC.2.2.1 _ hce2.1).2.1
                                                            have htbc := (hb.2.2.1 _ hce2.1).2.1
                                                            have ht2 := ht.2 _ hce2.1
                                                            have hzc := s_add e40 rfl htc (by omega)
                                                            have hn2 := s_cp (y := y5_5) (z := z41) (by omega) (by omega)
                                                            have hcc := q42 P hcC hb hp (by omega) (by omega) (by omega) (by omega) (by omega) (by omega)
                                                            have e0 : (0 : Int32).toNatClampNeg = 0 := rfl
                                                            rw [hzc, e0, hn2] at hcc
                                                            have hyc := s_yC_iff (s := y5_4.toNatClampNeg) hp hco h0 hce2 hl
                                                            have hnC : ¬ s_yC P y5_2.toInt y5_3.toNatClampNeg y5_4.toNatClampNeg y5_5.toNatClampNeg := fun hh => by have h8 := hyc.mp hh; have h9 := hcc.mpr (by omega); omega
                                                            have hcR := hc.fr hXr rfl rfl
                                                            have k1 : (1 : Int32).toInt = 1 := rfl
                                                            have hzr := s_add e45 rfl k1 (by omega)
                                                            have hlo9 := s_LS_lo hp y5_2.toInt y5_3.toNatClampNeg y5_4.toNatClampNeg y5_5.toNatClampNeg
                                                            have hcr := q46 P hcR hb hp (by omega) (by omega) (by omega) (by omega) (by omega) (by omega)
                                                            rw [hzr] at hcr
                                                            have hmo := s_LS_mono (o := y5_3.toNatClampNeg) (s := y5_4.toNatClampNeg) (c := y5_5.toNatClampNeg) hp h0 (show y5_2.toInt ≤ y5_2.toInt + 1 by omega)
                                                            have e6 := s_cp (y := y5_6) (z := z55) (by omega) (by omega)
                                                            have hrs : s_LS P (y5_2.toInt + 1) y5_3.toNatClampNeg y5_4.toNatClampNeg y5_5.toNatClampNeg = s_LS P y5_2.toInt y5_3.toNatClampNeg y5_4.toNatClampNeg y5_5.toNatClampNeg := by have h9 := hcr.mp (by omega); omega
                                                            have e2 := s_add e54 rfl k1 (by omega)
                                                            rw [e2, e6]
                                                            exact ⟨by rw [hrs]; exact g1, (s_PI_R g2 hp hd hnS hnC hrs).mono (fun L hL => hL.cg (((t_F_X hC46) 28 6 (by decide) rfl).1.trans ((t_F_X hC42) 28 6 (by decide) rfl).1) ((t_F_nc (t_F_X hC46) rfl (by decide)).trans (t_F_nc (t_F_X hC42) rfl (by decide))) ((t_F_nc (t_F_X hC46) rfl (by decide)).trans (t_F_nc (t_F_X hC42) rfl (by decide))) ((t_F_nc (t_F_X hC46) rfl (by decide)).trans (t_F_nc (t_F_X hC42) rfl (by decide)))), g3⟩) rfl
              · have r56 : w42.toInt ≠ 0 := fun e => h43 (Int32.toInt_inj.mp (e.trans (by decide : (0:Int) = (0 : Int32).toInt)))
                have l57 : 1 ≤ w42.toInt := t_nel h43 l42 rfl rfl
                refine ev_loc f_X1_layPlan (nx := 153) rfl rfl rfl rfl ?_
                have hX153 := hX
                refine ev_loc f_X1_layPlan (nx := 154) rfl rfl rfl rfl ?_
                refine ev_getR f_X1_layPlan (nx := 157) rfl (hI.wf.s rfl) rfl rfl (hI.wf.r rfl) rfl rfl ?_
                refine ev_loc f_X1_layPlan (nx := 159) rfl rfl rfl rfl ?_
                refine ev_loc f_X1_layPlan (nx := 160) rfl rfl rfl rfl ?_
                refine ev_qI0 f_X1_layPlan (nx := 163) (r := [.int y5_1]) rfl rfl rfl rfl rfl rfl rfl (c_d_waitsOf_35 hI (y5_5) (y5_2)) rfl (fun w58 l58 u58 q58 => ?_)
                have ff59 : (gi42 35 0).toInt = (gi5 35 0).toInt := congrArg Int32.toInt ((hC42.1 35 0 rfl).1.trans rfl)
                have q58 : s_wts y5_5.toInt (gi42 35 0).toInt y5_2.toInt (gi42 37 y5_5.toNatClampNeg).toInt (gi42 39 y5_5.toNatClampNeg).toInt w58.toInt := q58
                refine ev_anyIE f_X1_layPlan (nx := 164) rfl rfl rfl rfl (fun z60 e60 => ?_)
                refine ev_loc f_X1_layPlan (nx := 165) (lo' := [(1, .int z60), (6, .int y5_6), (5, .int y5_5), (4, .int y5_4), (3, .int y5_3), (2, .int y5_2), (0, .ref 28)]) rfl rfl rfl rfl ?_
                refine ev_loc f_X1_layPlan (nx := 166) rfl rfl rfl rfl ?_
                refine ev_ic f_X1_layPlan (nx := 167) (v := 1) rfl (by decide) rfl ?_
                refine ev_loc f_X1_layPlan (nx := 168) rfl rfl rfl rfl ?_
                refine ev_loc f_X1_layPlan (nx := 169) rfl rfl rfl rfl ?_
                refine ev_getR f_X1_layPlan (nx := 172) rfl (hI.wf.s rfl) rfl rfl (hI.wf.r rfl) rfl rfl ?_
                refine ev_getR f_X1_layPlan (nx := 175) rfl (hI.wf.s rfl) rfl rfl (hI.wf.r rfl) rfl rfl ?_
                refine ev_loc f_X1_layPlan (nx := 177) rfl rfl rfl rfl ?_
                refine ev_ialdT f_X1_layPlan (nx := 178) rfl (hI.wf.s rfl) l5_5 (by decide) u39 (by decide) rfl (fun w61 e61 => ?_)
                refine ev_qN f_X1_layPlan (nx := 181) (r := []) rfl rfl rfl rfl rfl rfl rfl (c_d_addAct hI (1) (y5_2) (w61)) rfl hX rfl (fun gi62 gl62 gr62 hI hX hC62 q62 => ?_)
                have q62 : ∀ (L : s_RL) (t : Int × Int × Int), s_P1 gi42 L → L.length < 24 → (1 : Int) = t.1 → y5_2.toInt = t.2.1 → w61.toInt = t.2.2 → s_P1 gi62 (L ++ [t]) := q62
                refine ev_loc f_X1_layPlan (nx := 182) rfl rfl rfl rfl ?_
                refine ev_getR f_X1_layPlan (nx := 185) rfl (hI.wf.s rfl) rfl rfl (hI.wf.r rfl) rfl rfl ?_
                refine ev_loc f_X1_layPlan (nx := 187) rfl rfl rfl rfl ?_
                refine ev_loc f_X1_layPlan (nx := 188) rfl rfl rfl rfl ?_
                refine ev_iastT f_X1_layPlan (nx := 189) rfl (hI.wf.s rfl) l5_5 (by decide) u39 (by decide) rfl (hI.astO (hI.wf.s rfl) (Or.inl (by decide)) (by decide +kernel)) (hX.upI (t_inA_ok rfl)) (fun g63 e63 hI hX => ?_)
                refine ev_loc f_X1_layPlan (nx := 190) rfl rfl rfl rfl ?_
                have hX190 := hX
                refine ev_loc f_X1_layPlan (nx := 191) rfl rfl rfl rfl ?_
                refine ev_getR f_X1_layPlan (nx := 194) rfl (hI.wf.s rfl) rfl rfl (hI.wf.r rfl) rfl rfl ?_
                refine ev_getR f_X1_layPlan (nx := 197) rfl (hI.wf.s rfl) rfl rfl (hI.wf.r rfl) rfl rfl ?_
                refine ev_loc f_X1_layPlan (nx := 199) rfl rfl rfl rfl ?_
                refine ev_ialdT f_X1_layPlan (nx := 200) rfl (hI.wf.s rfl) l5_5 (by decide) u39 (by decide) rfl (fun w64 e64 => ?_)
                rw [e64.trans ((by rw [e63]; exact x_up2_off (Or.inl (by decide)) : g63 38 y5_5.toNatClampNeg = gi62 38 y5_5.toNatClampNeg).trans ((hC62.1 38 y5_5.toNatClampNeg rfl).1.trans ((hC42.1 38 y5_5.toNatClampNeg rfl).1.trans e38.symm)))]
                refine ev_anyIE f_X1_layPlan (nx := 201) rfl rfl rfl rfl (fun z65 e65 => ?_)
                refine ev_loc f_X1_layPlan (nx := 202) (lo' := [(2, .int z65), (1, .int z60), (6, .int y5_6), (5, .int y5_5), (4, .int y5_4), (3, .int y5_3), (0, .ref 28)]) rfl rfl rfl rfl ?_
                refine ev_incR f_X1_layPlan (nx := 205) (c := 1) (l := 1) (u := 6) rfl rfl (by decide) (by decide) l5_5 u39 rfl rfl (by decide) (by decide) rfl (fun z66 e66 l66 u66 => ?_)
                refine ev_jmp f_X1_layPlan (nx := 253) rfl rfl rfl ?_
                refine ev_incR f_X1_layPlan (nx := 256) (c := 1) (l := 1) (u := 241) rfl rfl (by decide) (by decide) l5_6 u8 rfl rfl (by decide) (by decide) rfl (fun z67 e67 l67 u67 => ?_)
                refine ev_jmp f_X1_layPlan (nx := 31) rfl rfl rfl ?_
                refine ev_sub (lo := [(6, .int z67), (5, .int z66), (4, .int y5_4), (3, .int y5_3), (2, .int z65), (1, .int z60), (0, .ref 28)]) rfl (t_sc rfl (t_sc rfl (t_sc rfl (t_sc rfl (t_sc rfl (t_sc rfl (t_sc rfl t_sn))))))) ?_
                exact ih5 _ (by omega) g63 gl62 gr62 (z67) (z66) (y5_4) (y5_3) (z65) (z60) hI hX  (Int.le_trans (by decide : (0:Int) ≤ 1) l67) u67 (Int.le_trans (by decide : (0:Int) ≤ 1) l66) u66 l5_4 u5_4 l5_3 (Int.le_trans u19 (by decide : (0:Int) ≤ 1)) (by
                                                            intro P W hc hb hp ht hw
                                                            obtain ⟨g1, g2, g3⟩ := j5_0 P W hc hb hp ht hw
                                                            have hcH := hc.fr hX31 rfl rfl
                                                            have b1 := hb.1
                                                            have nn := hcH.1
                                                            have c3 := t_clamp (i := y5_3) (by omega)
                                                            have c4 := t_clamp (i := y5_4) (by omega)
                                                            have c5 := t_clamp (i := y5_5) (by omega)
                                                            have c6 := t_clamp (i := y5_6) (by omega)
                                                            obtain ⟨⟨h0, ho⟩, ⟨hsN, hcN⟩, hkm, hl⟩ := g2.1
                                                            have hd : ¬ s_gn P _ _ := fun hh => absurd hh (show ¬ s_gn P y5_4.toNatClampNeg y5_5.toNatClampNeg from fun hh => by have q1 := hh.1; have q2 := hh.2; omega)
                                                            obtain ⟨hm, hk2, -⟩ := s_PI_n g2 hp hd
                                                            have hnS : ¬ s_yS P y5_2.toInt y5_3.toNatClampNeg y5_4.toNatClampNeg y5_5.toNatClampNeg := fun hh => by have := hh.1; omega
                                                            have hcC := hc.fr hXc rfl rfl
                                                            have hmc := s_mb_C hcC q20 (by omega)
                                                            have hce2 := hmc.mp (by omega)
                                                            have hco : y5_3.toNatClampNeg = 0 := by omega
                                                            have hwc := s_wt_C hcC hp hb q36 (by omega) hce2.1 hce2.2.1 hce2.2.2
                                                            have hloc := s_LS_lo hp y5_2.toInt y5_3.toNatClampNeg y5_4.toNatClampNeg y5_5.toNatClampNeg
                                                            have hbc := s_sub e37 rfl rfl (by omega)
                                                            have htc : w38.toInt = P 6 y5_5.toNatClampNeg := by rw [e38]; exact (hcC.2.2.1 _ hce2.1).2.1
                                                            have htbc := (hb.2.2.1 _ hce2.1).2.1
                                                            have ht2 := ht.2 _ hce2.1
                                                            have hzc := s_add e40 rfl htc (by omega)
                                                            have hn2 := s_cp (y := y5_5) (z := z41) (by omega) (by omega)
                                                            have hcc := q42 P hcC hb hp (by omega) (by omega) (by omega) (by omega) (by omega) (by omega)
                                                            have e0 : (0 : Int32).toNatClampNeg = 0 := rfl
                                                            rw [hzc, e0, hn2] at hcc
                                                            have hyc := s_yC_iff (s := y5_4.toNatClampNeg) hp hco h0 hce2 hl
                                                            have hyC : s_yC P y5_2.toInt y5_3.toNatClampNeg y5_4.toNatClampNeg y5_5.toNatClampNeg := hyc.mpr (by have h9 := hcc.mp (by omega); omega)
                                                            have hcA := hc.fr hX153 rfl rfl
                                                            have hwA := s_wt_C hcA hp hb q58 (by omega) hce2.1 hce2.2.1 hce2.2.2
                                                            have hle := s_sub e60 rfl rfl (by omega)
                                                            have hwho : w61.toInt = W 1 y5_5.toNatClampNeg := by rw [e61]; exact (hw.fr hX153 rfl).2 _ hce2.1
                                                            have hcB := hcH
                                                            have htk2 : w38.toInt = P 6 y5_5.toNatClampNeg := by rw [e38]; exact (hcB.2.2.1 _ hce2.1).2.1
                                                            have e2 := s_add e65 rfl htk2 (by omega)
                                                            have e4 := s_cp (y := y5_5) (z := z66) (by omega) (by omega)
                                                            have e6 := s_cp (y := y5_6) (z := z67) (by omega) (by omega)
                                                            have hPI := s_PI_C (S' := s_C1 g63 y5_4.toNatClampNeg (y5_5.toNatClampNeg + 1)) g2 hp ht hd hb hyC (fun L hL hlen => s_C1_C hL (q62 L _ (hL.1.cg ((t_F_X hC42) 28 6 (by decide) rfl).1 (t_F_nc (t_F_X hC42) rfl (by decide))) hlen rfl rfl hwho) ((t_F_nc (t_F_X hC62) rfl (by decide)).trans (t_F_nc (t_F_X hC42) rfl (by decide))) ((t_F_nc (t_F_X hC62) rfl (by decide)).trans (t_F_nc (t_F_X hC42) rfl (by decide))) e63 rfl rfl)
                                                            rw [e2, e4, e6, hco]
                                                            exact ⟨by have h9 := hyC.2.2.2.2; omega, hPI, g3⟩) rfl
          · have r68 : y5_3.toInt ≠ 0 := fun e => h18 (Int32.toInt_inj.mp (e.trans (by decide : (0:Int) = (0 : Int32).toInt)))
            have l69 : 1 ≤ y5_3.toInt := t_nel h18 l5_3 rfl rfl
            refine ev_loc f_X1_layPlan (nx := 67) rfl rfl rfl rfl ?_
            refine ev_loc f_X1_layPlan (nx := 68) rfl rfl rfl rfl ?_
            refine ev_loc f_X1_layPlan (nx := 70) rfl rfl rfl rfl ?_
            refine ev_loc f_X1_layPlan (nx := 72) rfl rfl rfl rfl ?_
            refine ev_loc f_X1_layPlan (nx := 73) rfl rfl rfl rfl ?_
            refine ev_inV5 f_X1_layPlan (nx := 76) (lo2 := [(0, .ref 28), (1, .int y5_2), (2, .int y5_4), (3, .int y5_5), (4, .int y5_1)]) rfl rfl rfl rfl f_X1_shipMayBegin (hI.wf.s rfl) rfl rfl rfl rfl rfl ?_
            refine ev_loc f_X1_shipMayBegin (nx := 1) rfl rfl rfl rfl ?_
            have hXs := hX
            refine ev_getR f_X1_shipMayBegin (nx := 4) rfl (hI.wf.s rfl) rfl rfl (hI.wf.r rfl) rfl rfl ?_
            refine ev_loc f_X1_shipMayBegin (nx := 5) rfl rfl rfl rfl ?_
            refine ev_loc f_X1_shipMayBegin (nx := 6) rfl rfl rfl rfl ?_
            refine ev_qI0 f_X1_shipMayBegin (nx := 9) (r := []) rfl rfl rfl rfl rfl rfl rfl (c_d_canBegin2_29 hI (y5_4) (y5_2)) rfl (fun w70 l70 u70 q70 => ?_)
            have q70 : s_may2 y5_4.toInt (gi5 29 0).toInt y5_2.toInt (gi5 31 y5_4.toNatClampNeg).toInt (gi5 34 y5_4.toNatClampNeg).toInt w70.toInt := q70
            refine ev_if f_X1_shipMayBegin (t1 := 12) (t2 := 14) rfl rfl rfl (fun h71 => ?_) (fun h71 => ?_)
            · have u72 : w70.toInt ≤ 0 := t_equ h71 (by decide : (0:Int32).toInt ≤ (0:Int))
              refine ev_ic f_X1_shipMayBegin (nx := 13) (v := 0) rfl (by decide) rfl ?_
              refine ev_retK1 f_X1_shipMayBegin rfl rfl rfl ?_
              refine ev_t f_X1_layPlan (t1 := 135) (t2 := 79) rfl rfl rfl (by decide) ?_
              refine ev_loc f_X1_layPlan (nx := 136) rfl rfl rfl rfl ?_
              refine ev_f f_X1_layPlan (t1 := 139) (t2 := 208) rfl rfl rfl (t_neT' (by decide : (0:Int32).toInt ≤ (0:Int)) l69 (by decide)) ?_
              refine ev_loc f_X1_layPlan (nx := 209) rfl rfl rfl rfl ?_
              have hXr := hX
              refine ev_loc f_X1_layPlan (nx := 210) rfl rfl rfl rfl ?_
              refine ev_ic f_X1_layPlan (nx := 211) (v := 1) rfl (by decide) rfl ?_
              refine ev_anyIE f_X1_layPlan (nx := 212) rfl rfl rfl rfl (fun z73 e73 => ?_)
              refine ev_loc f_X1_layPlan (nx := 213) rfl rfl rfl rfl ?_
              refine ev_loc f_X1_layPlan (nx := 215) rfl rfl rfl rfl ?_
              refine ev_loc f_X1_layPlan (nx := 217) rfl rfl rfl rfl ?_
              refine ev_loc f_X1_layPlan (nx := 218) rfl rfl rfl rfl ?_
              refine ev_qI f_X1_layPlan (nx := 221) (r := []) rfl rfl rfl rfl rfl rfl rfl (c_d_canEndWithin2 hI (z73) (y5_3) (Int.le_trans (by decide : (0:Int) ≤ 1) l69) u5_3 (y5_4) l5_4 u5_4 (y5_5) l5_5 u5_5 (y5_1)) rfl hX rfl (fun w74 gi74 gl74 gr74 l74 u74 hI hX hC74 q74 => ?_)
              have q74 : ∀ P : Nat → Nat → Int, s_CP P gi5 gr5 → s_PB P → s_PO P → 0 ≤ z73.toInt → z73.toInt ≤ 2000 → y5_4.toInt ≤ P 0 0 → y5_5.toInt ≤ P 0 1 → -1000000000 ≤ y5_1.toInt → y5_1.toInt ≤ 999999999 → (w74.toInt = 1 ↔ s_LS P z73.toInt y5_3.toNatClampNeg y5_4.toNatClampNeg y5_5.toNatClampNeg ≤ y5_1.toInt) := q74
              refine ev_if f_X1_layPlan (t1 := 230) (t2 := 224) rfl rfl rfl (fun h75 => ?_) (fun h75 => ?_)
              · have u76 : w74.toInt ≤ 0 := t_equ h75 (by decide : (0:Int32).toInt ≤ (0:Int))
                refine ev_loc f_X1_layPlan (nx := 231) rfl rfl rfl rfl ?_
                refine ev_ic f_X1_layPlan (nx := 232) (v := 2) rfl (by decide) rfl ?_
                refine ev_loc f_X1_layPlan (nx := 233) rfl rfl rfl rfl ?_
                refine ev_ic f_X1_layPlan (nx := 234) (v := -1) rfl (by decide) rfl ?_
                refine ev_qN f_X1_layPlan (nx := 237) (r := []) rfl rfl rfl rfl rfl rfl rfl (c_d_addAct hI (2) (y5_2) ((-1))) rfl hX rfl (fun gi77 gl77 gr77 hI hX hC77 q77 => ?_)
                have q77 : ∀ (L : s_RL) (t : Int × Int × Int), s_P1 gi74 L → L.length < 24 → (2 : Int) = t.1 → y5_2.toInt = t.2.1 → ((-1) : Int) = t.2.2 → s_P1 gi77 (L ++ [t]) := q77
                refine ev_loc f_X1_layPlan (nx := 238) rfl rfl rfl rfl ?_
                have hXu := hX
                refine ev_loc f_X1_layPlan (nx := 239) rfl rfl rfl rfl ?_
                refine ev_qI0 f_X1_layPlan (nx := 242) (r := []) rfl rfl rfl rfl rfl rfl rfl (c_d_turnEnd hI (y5_2)) rfl (fun w78 l78 u78 q78 => ?_)
                have q78 : ∀ P : Nat → Nat → Int, s_CP P gi77 gr77 → s_PB P → 0 ≤ y5_2.toInt → y5_2.toInt ≤ 3000 → w78.toInt = y5_2.toInt + P 8 y5_2.toInt.toNat := q78
                refine ev_loc f_X1_layPlan (nx := 243) (lo' := [(2, .int w78), (6, .int y5_6), (5, .int y5_5), (4, .int y5_4), (3, .int y5_3), (1, .int y5_1), (0, .ref 28)]) rfl rfl rfl rfl ?_
                refine ev_loc f_X1_layPlan (nx := 244) rfl rfl rfl rfl ?_
                refine ev_f f_X1_layPlan (t1 := 247) (t2 := 251) rfl rfl rfl (t_neT' (by decide : (0:Int32).toInt ≤ (0:Int)) l69 (by decide)) ?_
                refine ev_ic f_X1_layPlan (nx := 252) (v := 0) rfl (by decide) rfl ?_
                refine ev_loc f_X1_layPlan (nx := 253) (lo' := [(3, .int 0), (2, .int w78), (6, .int y5_6), (5, .int y5_5), (4, .int y5_4), (1, .int y5_1), (0, .ref 28)]) rfl rfl rfl rfl ?_
                refine ev_incR f_X1_layPlan (nx := 256) (c := 1) (l := 1) (u := 241) rfl rfl (by decide) (by decide) l5_6 u8 rfl rfl (by decide) (by decide) rfl (fun z79 e79 l79 u79 => ?_)
                refine ev_jmp f_X1_layPlan (nx := 31) rfl rfl rfl ?_
                refine ev_sub (lo := [(6, .int z79), (5, .int y5_5), (4, .int y5_4), (3, .int 0), (2, .int w78), (1, .int y5_1), (0, .ref 28)]) rfl (t_sc rfl (t_sc rfl (t_sc rfl (t_sc rfl (t_sc rfl (t_sc rfl (t_sc rfl t_sn))))))) ?_
                exact ih5 _ (by omega) gi77 gl77 gr77 (z79) (y5_5) (y5_4) (0) (w78) (y5_1) hI hX  (Int.le_trans (by decide : (0:Int) ≤ 1) l79) u79 l5_5 u5_5 l5_4 u5_4 (by decide : (0:Int) ≤ (0:Int32).toInt) (Int.le_trans (by decide : (0:Int32).toInt ≤ (0:Int)) (by decide : (0:Int) ≤ 1)) (by
                                                            intro P W hc hb hp ht hw
                                                            obtain ⟨g1, g2, g3⟩ := j5_0 P W hc hb hp ht hw
                                                            have hcH := hc.fr hX31 rfl rfl
                                                            have b1 := hb.1
                                                            have nn := hcH.1
                                                            have c3 := t_clamp (i := y5_3) (by omega)
                                                            have c4 := t_clamp (i := y5_4) (by omega)
                                                            have c5 := t_clamp (i := y5_5) (by omega)
                                                            have c6 := t_clamp (i := y5_6) (by omega)
                                                            obtain ⟨⟨h0, ho⟩, ⟨hsN, hcN⟩, hkm, hl⟩ := g2.1
                                                            have hd : ¬ s_gn P _ _ := fun hh => absurd hh (show ¬ s_gn P y5_4.toNatClampNeg y5_5.toNatClampNeg from fun hh => by have q1 := hh.1; have q2 := hh.2; omega)
                                                            obtain ⟨hm, hk2, -⟩ := s_PI_n g2 hp hd
                                                            have hcS := hc.fr hXs rfl rfl
                                                            have hmb := s_mb_S hcS q70 (by omega)
                                                            have hnS : ¬ s_yS P y5_2.toInt y5_3.toNatClampNeg y5_4.toNatClampNeg y5_5.toNatClampNeg := fun hh => by have h9 := hmb.mpr ⟨hh.2.1, hh.2.2.1, hh.2.2.2.1, hh.2.2.2.2.1⟩; omega
                                                            have hnC : ¬ s_yC P y5_2.toInt y5_3.toNatClampNeg y5_4.toNatClampNeg y5_5.toNatClampNeg := fun hh => by have := hh.1; omega
                                                            have hcR := hc.fr hXr rfl rfl
                                                            have k1 : (1 : Int32).toInt = 1 := rfl
                                                            have hzr := s_add e73 rfl k1 (by omega)
                                                            have hlo9 := s_LS_lo hp y5_2.toInt y5_3.toNatClampNeg y5_4.toNatClampNeg y5_5.toNatClampNeg
                                                            have hcr := q74 P hcR hb hp (by omega) (by omega) (by omega) (by omega) (by omega) (by omega)
                                                            rw [hzr] at hcr
                                                            have hmo := s_LS_mono (o := y5_3.toNatClampNeg) (s := y5_4.toNatClampNeg) (c := y5_5.toNatClampNeg) hp h0 (show y5_2.toInt ≤ y5_2.toInt + 1 by omega)
                                                            have e6 := s_cp (y := y5_6) (z := z79) (by omega) (by omega)
                                                            have hnr : ¬ s_LS P (y5_2.toInt + 1) y5_3.toNatClampNeg y5_4.toNatClampNeg y5_5.toNatClampNeg = s_LS P y5_2.toInt y5_3.toNatClampNeg y5_4.toNatClampNeg y5_5.toNatClampNeg := fun hh => by have h9 := hcr.mpr (by omega); omega
                                                            have hT := s_PI_T (S' := s_C1 gi77 y5_4.toNatClampNeg y5_5.toNatClampNeg) g2 hp hd hb hnS hnC hnr (fun L hL hlen => s_C1_T hL (q77 L _ (hL.1.cg ((t_F_X hC74) 28 6 (by decide) rfl).1 (t_F_nc (t_F_X hC74) rfl (by decide))) hlen rfl rfl rfl) ((t_F_nc (t_F_X hC77) rfl (by decide)).trans (t_F_nc (t_F_X hC74) rfl (by decide))) ((t_F_nc (t_F_X hC77) rfl (by decide)).trans (t_F_nc (t_F_X hC74) rfl (by decide))))
                                                            have htt := (s_LS_turn hp hd h0 ho hl hnS hnC hnr).1
                                                            have hcT := hc.fr hXu rfl rfl
                                                            have hte := q78 P hcT hb (by omega) (by omega)
                                                            have e3 : (0 : Int32).toNatClampNeg = 1 - y5_3.toNatClampNeg := by have hz : (0 : Int32).toNatClampNeg = 0 := rfl; omega
                                                            rw [hte, e6, e3]
                                                            exact ⟨by rw [htt]; exact g1, hT, g3⟩) rfl
              · have r80 : w74.toInt ≠ 0 := fun e => h75 (Int32.toInt_inj.mp (e.trans (by decide : (0:Int) = (0 : Int32).toInt)))
                have l81 : 1 ≤ w74.toInt := t_nel h75 l74 rfl rfl
                refine ev_incE f_X1_layPlan (nx := 227) (c := 1) rfl rfl rfl (by decide) rfl (fun z82 e82 => ?_)
                refine ev_jmp f_X1_layPlan (nx := 253) rfl rfl rfl ?_
                refine ev_incR f_X1_layPlan (nx := 256) (c := 1) (l := 1) (u := 241) rfl rfl (by decide) (by decide) l5_6 u8 rfl rfl (by decide) (by decide) rfl (fun z83 e83 l83 u83 => ?_)
                refine ev_jmp f_X1_layPlan (nx := 31) rfl rfl rfl ?_
                refine ev_sub (lo := [(6, .int z83), (5, .int y5_5), (4, .int y5_4), (3, .int y5_3), (2, .int z82), (1, .int y5_1), (0, .ref 28)]) rfl (t_sc rfl (t_sc rfl (t_sc rfl (t_sc rfl (t_sc rfl (t_sc rfl (t_sc rfl t_sn))))))) ?_
                exact ih5 _ (by omega) gi74 gl74 gr74 (z83) (y5_5) (y5_4) (y5_3) (z82) (y5_1) hI hX  (Int.le_trans (by decide : (0:Int) ≤ 1) l83) u83 l5_5 u5_5 l5_4 u5_4 (Int.le_trans (by decide : (0:Int) ≤ 1) l69) u5_3 (by
                                                            intro P W hc hb hp ht hw
                                                            obtain ⟨g1, g2, g3⟩ := j5_0 P W hc hb hp ht hw
                                                            have hcH := hc.fr hX31 rfl rfl
                                                            have b1 := hb.1
                                                            have nn := hcH.1
                                                            have c3 := t_clamp (i := y5_3) (by omega)
                                                            have c4 := t_clamp (i := y5_4) (by omega)
                                                            have c5 := t_clamp (i := y5_5) (by omega)
                                                            have c6 := t_clamp (i := y5_6) (by omega)
                                                            obtain ⟨⟨h0, ho⟩, ⟨hsN, hcN⟩, hkm, hl⟩ := g2.1
                                                            have hd : ¬ s_gn P _ _ := fun hh => absurd hh (show ¬ s_gn P y5_4.toNatClampNeg y5_5.toNatClampNeg from fun hh => by have q1 := hh.1; have q2 := hh.2; omega)
                                                            obtain ⟨hm, hk2, -⟩ := s_PI_n g2 hp hd
                                                            have hcS := hc.fr hXs rfl rfl
                                                            have hmb := s_mb_S hcS q70 (by omega)
                                                            have hnS : ¬ s_yS P y5_2.toInt y5_3.toNatClampNeg y5_4.toNatClampNeg y5_5.toNatClampNeg := fun hh => by have h9 := hmb.mpr ⟨hh.2.1, hh.2.2.1, hh.2.2.2.1, hh.2.2.2.2.1⟩; omega
                                                            have hnC : ¬ s_yC P y5_2.toInt y5_3.toNatClampNeg y5_4.toNatClampNeg y5_5.toNatClampNeg := fun hh => by have := hh.1; omega
                                                            have hcR := hc.fr hXr rfl rfl
                                                            have k1 : (1 : Int32).toInt = 1 := rfl
                                                            have hzr := s_add e73 rfl k1 (by omega)
                                                            have hlo9 := s_LS_lo hp y5_2.toInt y5_3.toNatClampNeg y5_4.toNatClampNeg y5_5.toNatClampNeg
                                                            have hcr := q74 P hcR hb hp (by omega) (by omega) (by omega) (by omega) (by omega) (by omega)
                                                            rw [hzr] at hcr
                                                            have hmo := s_LS_mono (o := y5_3.toNatClampNeg) (s := y5_4.toNatClampNeg) (c := y5_5.toNatClampNeg) hp h0 (show y5_2.toInt ≤ y5_2.toInt + 1 by omega)
                                                            have e6 := s_cp (y := y5_6) (z := z83) (by omega) (by omega)
                                                            have hrs : s_LS P (y5_2.toInt + 1) y5_3.toNatClampNeg y5_4.toNatClampNeg y5_5.toNatClampNeg = s_LS P y5_2.toInt y5_3.toNatClampNeg y5_4.toNatClampNeg y5_5.toNatClampNeg := by have h9 := hcr.mp (by omega); omega
                                                            have e2 := s_add e82 rfl k1 (by omega)
                                                            rw [e2, e6]
                                                            exact ⟨by rw [hrs]; exact g1, (s_PI_R g2 hp hd hnS hnC hrs).mono (fun L hL => hL.cg ((t_F_X hC74) 28 6 (by decide) rfl).1 (t_F_nc (t_F_X hC74) rfl (by decide)) (t_F_nc (t_F_X hC74) rfl (by decide)) (t_F_nc (t_F_X hC74) rfl (by decide))), g3⟩) rfl
            · have r84 : w70.toInt ≠ 0 := fun e => h71 (Int32.toInt_inj.mp (e.trans (by decide : (0:Int) = (0 : Int32).toInt)))
              have l85 : 1 ≤ w70.toInt := t_nel h71 l70 rfl rfl
              refine ev_loc f_X1_shipMayBegin (nx := 16) rfl rfl rfl rfl ?_
              refine ev_loc f_X1_shipMayBegin (nx := 17) rfl rfl rfl rfl ?_
              refine ev_getR f_X1_shipMayBegin (nx := 20) rfl (hI.wf.s rfl) rfl rfl (hI.wf.r rfl) rfl rfl ?_
              refine ev_loc f_X1_shipMayBegin (nx := 21) rfl rfl rfl rfl ?_
              refine ev_loc f_X1_shipMayBegin (nx := 22) rfl rfl rfl rfl ?_
              refine ev_qI0 f_X1_shipMayBegin (nx := 25) (r := [.int y5_1]) rfl rfl rfl rfl rfl rfl rfl (c_d_waitsOf_29 hI (y5_4) (y5_2)) rfl (fun w86 l86 u86 q86 => ?_)
              have q86 : s_wts y5_4.toInt (gi5 29 0).toInt y5_2.toInt (gi5 31 y5_4.toNatClampNeg).toInt (gi5 33 y5_4.toNatClampNeg).toInt w86.toInt := q86
              refine ev_anyIE f_X1_shipMayBegin (nx := 26) rfl rfl rfl rfl (fun z87 e87 => ?_)
              refine ev_loc f_X1_shipMayBegin (nx := 28) (lo' := [(5, .int z87), (0, .ref 28), (1, .int y5_2), (2, .int y5_4), (3, .int y5_5), (4, .int y5_1)]) rfl rfl rfl rfl ?_
              refine ev_loc f_X1_shipMayBegin (nx := 29) rfl rfl rfl rfl ?_
              refine ev_loc f_X1_shipMayBegin (nx := 30) rfl rfl rfl rfl ?_
              refine ev_loc f_X1_shipMayBegin (nx := 31) rfl rfl rfl rfl ?_
              refine ev_getR f_X1_shipMayBegin (nx := 34) rfl (hI.wf.s rfl) rfl rfl (hI.wf.r rfl) rfl rfl ?_
              refine ev_getR f_X1_shipMayBegin (nx := 37) rfl (hI.wf.s rfl) rfl rfl (hI.wf.r rfl) rfl rfl ?_
              refine ev_loc f_X1_shipMayBegin (nx := 38) rfl rfl rfl rfl ?_
              have u89 : y5_4.toInt ≤ (5:Int) := (by have hq := q70; unfold s_may2 at hq; have h9 := (hq.mp (by omega)).2.1; omega)
              refine ev_ialdT f_X1_shipMayBegin (nx := 39) rfl (hI.wf.s rfl) l5_4 (by decide) u89 (by decide) rfl (fun w88 e88 => ?_)
              refine ev_anyIE f_X1_shipMayBegin (nx := 40) rfl rfl rfl rfl (fun z90 e90 => ?_)
              refine ev_ic f_X1_shipMayBegin (nx := 41) (v := 1) rfl (by decide) rfl ?_
              refine ev_loc f_X1_shipMayBegin (nx := 42) rfl rfl rfl rfl ?_
              refine ev_ic f_X1_shipMayBegin (nx := 43) (v := 1) rfl (by decide) rfl ?_
              refine ev_addC f_X1_shipMayBegin (nx := 44) (c := 1) (l := 1) (u := 6) rfl (by decide) l5_4 u89 rfl rfl (by decide) (by decide) rfl (fun z91 e91 l91 u91 => ?_)
              refine ev_loc f_X1_shipMayBegin (nx := 45) rfl rfl rfl rfl ?_
              refine ev_loc f_X1_shipMayBegin (nx := 47) rfl rfl rfl rfl ?_
              refine ev_qI f_X1_shipMayBegin (nx := 50) (r := []) rfl rfl rfl rfl rfl rfl rfl (c_d_canEndWithin2 hI (z90) (1) (Int.le_trans (by decide : (0:Int) ≤ 1) (by decide : (1:Int) ≤ (1:Int32).toInt)) (by decide : (1:Int32).toInt ≤ (1:Int)) (z91) (Int.le_trans (by decide : (0:Int) ≤ 1) l91) u91 (y5_5) l5_5 u5_5 (z87)) rfl hX rfl (fun w92 gi92 gl92 gr92 l92 u92 hI hX hC92 q92 => ?_)
              have q92 : ∀ P : Nat → Nat → Int, s_CP P gi5 gr5 → s_PB P → s_PO P → 0 ≤ z90.toInt → z90.toInt ≤ 2000 → z91.toInt ≤ P 0 0 → y5_5.toInt ≤ P 0 1 → -1000000000 ≤ z87.toInt → z87.toInt ≤ 999999999 → (w92.toInt = 1 ↔ s_LS P z90.toInt (1 : Int32).toNatClampNeg z91.toNatClampNeg y5_5.toNatClampNeg ≤ z87.toInt) := q92
              refine ev_retK1 f_X1_shipMayBegin rfl rfl (t_rz l92 u92) ?_
              refine ev_if f_X1_layPlan (t1 := 135) (t2 := 79) rfl rfl rfl (fun h93 => ?_) (fun h93 => ?_)
              · have u94 : w92.toInt ≤ 0 := t_equ h93 (by decide : (0:Int32).toInt ≤ (0:Int))
                refine ev_loc f_X1_layPlan (nx := 136) rfl rfl rfl rfl ?_
                refine ev_f f_X1_layPlan (t1 := 139) (t2 := 208) rfl rfl rfl (t_neT' (by decide : (0:Int32).toInt ≤ (0:Int)) l69 (by decide)) ?_
                refine ev_loc f_X1_layPlan (nx := 209) rfl rfl rfl rfl ?_
                have hXr := hX
                refine ev_loc f_X1_layPlan (nx := 210) rfl rfl rfl rfl ?_
                refine ev_ic f_X1_layPlan (nx := 211) (v := 1) rfl (by decide) rfl ?_
                refine ev_anyIE f_X1_layPlan (nx := 212) rfl rfl rfl rfl (fun z95 e95 => ?_)
                refine ev_loc f_X1_layPlan (nx := 213) rfl rfl rfl rfl ?_
                refine ev_loc f_X1_layPlan (nx := 215) rfl rfl rfl rfl ?_
                refine ev_loc f_X1_layPlan (nx := 217) rfl rfl rfl rfl ?_
                refine ev_loc f_X1_layPlan (nx := 218) rfl rfl rfl rfl ?_
                refine ev_qI f_X1_layPlan (nx := 221) (r := []) rfl rfl rfl rfl rfl rfl rfl (c_d_canEndWithin2 hI (z95) (y5_3) (Int.le_trans (by decide : (0:Int) ≤ 1) l69) u5_3 (y5_4) l5_4 (Int.le_trans u89 (by decide : (5:Int) ≤ 6)) (y5_5) l5_5 u5_5 (y5_1)) rfl hX rfl (fun w96 gi96 gl96 gr96 l96 u96 hI hX hC96 q96 => ?_)
                have q96 : ∀ P : Nat → Nat → Int, s_CP P gi92 gr92 → s_PB P → s_PO P → 0 ≤ z95.toInt → z95.toInt ≤ 2000 → y5_4.toInt ≤ P 0 0 → y5_5.toInt ≤ P 0 1 → -1000000000 ≤ y5_1.toInt → y5_1.toInt ≤ 999999999 → (w96.toInt = 1 ↔ s_LS P z95.toInt y5_3.toNatClampNeg y5_4.toNatClampNeg y5_5.toNatClampNeg ≤ y5_1.toInt) := q96
                refine ev_if f_X1_layPlan (t1 := 230) (t2 := 224) rfl rfl rfl (fun h97 => ?_) (fun h97 => ?_)
                · have u98 : w96.toInt ≤ 0 := t_equ h97 (by decide : (0:Int32).toInt ≤ (0:Int))
                  refine ev_loc f_X1_layPlan (nx := 231) rfl rfl rfl rfl ?_
                  refine ev_ic f_X1_layPlan (nx := 232) (v := 2) rfl (by decide) rfl ?_
                  refine ev_loc f_X1_layPlan (nx := 233) rfl rfl rfl rfl ?_
                  refine ev_ic f_X1_layPlan (nx := 234) (v := -1) rfl (by decide) rfl ?_
                  refine ev_qN f_X1_layPlan (nx := 237) (r := []) rfl rfl rfl rfl rfl rfl rfl (c_d_addAct hI (2) (y5_2) ((-1))) rfl hX rfl (fun gi99 gl99 gr99 hI hX hC99 q99 => ?_)
                  have q99 : ∀ (L : s_RL) (t : Int × Int × Int), s_P1 gi96 L → L.length < 24 → (2 : Int) = t.1 → y5_2.toInt = t.2.1 → ((-1) : Int) = t.2.2 → s_P1 gi99 (L ++ [t]) := q99
                  refine ev_loc f_X1_layPlan (nx := 238) rfl rfl rfl rfl ?_
                  have hXu := hX
                  refine ev_loc f_X1_layPlan (nx := 239) rfl rfl rfl rfl ?_
                  refine ev_qI0 f_X1_layPlan (nx := 242) (r := []) rfl rfl rfl rfl rfl rfl rfl (c_d_turnEnd hI (y5_2)) rfl (fun w100 l100 u100 q100 => ?_)
                  have q100 : ∀ P : Nat → Nat → Int, s_CP P gi99 gr99 → s_PB P → 0 ≤ y5_2.toInt → y5_2.toInt ≤ 3000 → w100.toInt = y5_2.toInt + P 8 y5_2.toInt.toNat := q100
                  refine ev_loc f_X1_layPlan (nx := 243) (lo' := [(2, .int w100), (6, .int y5_6), (5, .int y5_5), (4, .int y5_4), (3, .int y5_3), (1, .int y5_1), (0, .ref 28)]) rfl rfl rfl rfl ?_
                  refine ev_loc f_X1_layPlan (nx := 244) rfl rfl rfl rfl ?_
                  refine ev_f f_X1_layPlan (t1 := 247) (t2 := 251) rfl rfl rfl (t_neT' (by decide : (0:Int32).toInt ≤ (0:Int)) l69 (by decide)) ?_
                  refine ev_ic f_X1_layPlan (nx := 252) (v := 0) rfl (by decide) rfl ?_
                  refine ev_loc f_X1_layPlan (nx := 253) (lo' := [(3, .int 0), (2, .int w100), (6, .int y5_6), (5, .int y5_5), (4, .int y5_4), (1, .int y5_1), (0, .ref 28)]) rfl rfl rfl rfl ?_
                  refine ev_incR f_X1_layPlan (nx := 256) (c := 1) (l := 1) (u := 241) rfl rfl (by decide) (by decide) l5_6 u8 rfl rfl (by decide) (by decide) rfl (fun z101 e101 l101 u101 => ?_)
                  refine ev_jmp f_X1_layPlan (nx := 31) rfl rfl rfl ?_
                  refine ev_sub (lo := [(6, .int z101), (5, .int y5_5), (4, .int y5_4), (3, .int 0), (2, .int w100), (1, .int y5_1), (0, .ref 28)]) rfl (t_sc rfl (t_sc rfl (t_sc rfl (t_sc rfl (t_sc rfl (t_sc rfl (t_sc rfl t_sn))))))) ?_
                  exact ih5 _ (by omega) gi99 gl99 gr99 (z101) (y5_5) (y5_4) (0) (w100) (y5_1) hI hX  (Int.le_trans (by decide : (0:Int) ≤ 1) l101) u101 l5_5 u5_5 l5_4 (Int.le_trans u89 (by decide : (5:Int) ≤ 6)) (by decide : (0:Int) ≤ (0:Int32).toInt) (Int.le_trans (by decide : (0:Int32).toInt ≤ (0:Int)) (by decide : (0:Int) ≤ 1)) (by
                                                            intro P W hc hb hp ht hw
                                                            obtain ⟨g1, g2, g3⟩ := j5_0 P W hc hb hp ht hw
                                                            have hcH := hc.fr hX31 rfl rfl
                                                            have b1 := hb.1
                                                            have nn := hcH.1
                                                            have c3 := t_clamp (i := y5_3) (by omega)
                                                            have c4 := t_clamp (i := y5_4) (by omega)
                                                            have c5 := t_clamp (i := y5_5) (by omega)
                                                            have c6 := t_clamp (i := y5_6) (by omega)
                                                            obtain ⟨⟨h0, ho⟩, ⟨hsN, hcN⟩, hkm, hl⟩ := g2.1
                                                            have hd : ¬ s_gn P _ _ := fun hh => absurd hh (show ¬ s_gn P y5_4.toNatClampNeg y5_5.toNatClampNeg from fun hh => by have q1 := hh.1; have q2 := hh.2; omega)
                                                            obtain ⟨hm, hk2, -⟩ := s_PI_n g2 hp hd
                                                            have hcS := hc.fr hXs rfl rfl
                                                            have hmb := s_mb_S hcS q70 (by omega)
                                                            have hcd := hmb.mp (by omega)
                                                            have hso : y5_3.toNatClampNeg = 1 := by omega
                                                            have hwt := s_wt_S hcS hp hb q86 (by omega) hcd.1 hcd.2.1 hcd.2.2.1
                                                            have hlo := s_LS_lo hp y5_2.toInt y5_3.toNatClampNeg y5_4.toNatClampNeg y5_5.toNatClampNeg
                                                            have hbh := s_sub e87 rfl rfl (by omega)
                                                            have htk : w88.toInt = P 2 y5_4.toNatClampNeg := by rw [e88]; exact (hcS.2.1 _ hcd.1).2.1
                                                            have htb := (hb.2.1 _ hcd.1).2.1
                                                            have ht1 := ht.1 _ hcd.1
                                                            have hz := s_add e90 rfl htk (by omega)
                                                            have hn1 := s_cp (y := y5_4) (z := z91) (by omega) (by omega)
                                                            have hce := q92 P hcS hb hp (by omega) (by omega) (by omega) (by omega) (by omega) (by omega)
                                                            have e1 : (1 : Int32).toNatClampNeg = 1 := rfl
                                                            rw [hz, e1, hn1] at hce
                                                            have hyi := s_yS_iff (c := y5_5.toNatClampNeg) hp hso h0 hcd hl
                                                            have hnS : ¬ s_yS P y5_2.toInt y5_3.toNatClampNeg y5_4.toNatClampNeg y5_5.toNatClampNeg := fun hh => by have h8 := hyi.mp hh; have h9 := hce.mpr (by omega); omega
                                                            have hnC : ¬ s_yC P y5_2.toInt y5_3.toNatClampNeg y5_4.toNatClampNeg y5_5.toNatClampNeg := fun hh => by have := hh.1; omega
                                                            have hcR := hc.fr hXr rfl rfl
                                                            have k1 : (1 : Int32).toInt = 1 := rfl
                                                            have hzr := s_add e95 rfl k1 (by omega)
                                                            have hlo9 := s_LS_lo hp y5_2.toInt y5_3.toNatClampNeg y5_4.toNatClampNeg y5_5.toNatClampNeg
                                                            have hcr := q96 P hcR hb hp (by omega) (by omega) (by omega) (by omega) (by omega) (by omega)
                                                            rw [hzr] at hcr
                                                            have hmo := s_LS_mono (o := y5_3.toNatClampNeg) (s := y5_4.toNatClampNeg) (c := y5_5.toNatClampNeg) hp h0 (show y5_2.toInt ≤ y5_2.toInt + 1 by omega)
                                                            have e6 := s_cp (y := y5_6) (z := z101) (by omega) (by omega)
                                                            have hnr : ¬ s_LS P (y5_2.toInt + 1) y5_3.toNatClampNeg y5_4.toNatClampNeg y5_5.toNatClampNeg = s_LS P y5_2.toInt y5_3.toNatClampNeg y5_4.toNatClampNeg y5_5.toNatClampNeg := fun hh => by have h9 := hcr.mpr (by omega); omega
                                                            have hT := s_PI_T (S' := s_C1 gi99 y5_4.toNatClampNeg y5_5.toNatClampNeg) g2 hp hd hb hnS hnC hnr (fun L hL hlen => s_C1_T hL (q99 L _ (hL.1.cg (((t_F_X hC96) 28 6 (by decide) rfl).1.trans ((t_F_X hC92) 28 6 (by decide) rfl).1) ((t_F_nc (t_F_X hC96) rfl (by decide)).trans (t_F_nc (t_F_X hC92) rfl (by decide)))) hlen rfl rfl rfl) ((t_F_nc (t_F_X hC99) rfl (by decide)).trans ((t_F_nc (t_F_X hC96) rfl (by decide)).trans (t_F_nc (t_F_X hC92) rfl (by decide)))) ((t_F_nc (t_F_X hC99) rfl (by decide)).trans ((t_F_nc (t_F_X hC96) rfl (by decide)).trans (t_F_nc (t_F_X hC92) rfl (by decide)))))
                                                            have htt := (s_LS_turn hp hd h0 ho hl hnS hnC hnr).1
                                                            have hcT := hc.fr hXu rfl rfl
                                                            have hte := q100 P hcT hb (by omega) (by omega)
                                                            have e3 : (0 : Int32).toNatClampNeg = 1 - y5_3.toNatClampNeg := by have hz : (0 : Int32).toNatClampNeg = 0 := rfl; omega
                                                            rw [hte, e6, e3]
                                                            exact ⟨by rw [htt]; exact g1, hT, g3⟩) rfl
                · have r102 : w96.toInt ≠ 0 := fun e => h97 (Int32.toInt_inj.mp (e.trans (by decide : (0:Int) = (0 : Int32).toInt)))
                  have l103 : 1 ≤ w96.toInt := t_nel h97 l96 rfl rfl
                  refine ev_incE f_X1_layPlan (nx := 227) (c := 1) rfl rfl rfl (by decide) rfl (fun z104 e104 => ?_)
                  refine ev_jmp f_X1_layPlan (nx := 253) rfl rfl rfl ?_
                  refine ev_incR f_X1_layPlan (nx := 256) (c := 1) (l := 1) (u := 241) rfl rfl (by decide) (by decide) l5_6 u8 rfl rfl (by decide) (by decide) rfl (fun z105 e105 l105 u105 => ?_)
                  refine ev_jmp f_X1_layPlan (nx := 31) rfl rfl rfl ?_
                  refine ev_sub (lo := [(6, .int z105), (5, .int y5_5), (4, .int y5_4), (3, .int y5_3), (2, .int z104), (1, .int y5_1), (0, .ref 28)]) rfl (t_sc rfl (t_sc rfl (t_sc rfl (t_sc rfl (t_sc rfl (t_sc rfl (t_sc rfl t_sn))))))) ?_
                  exact ih5 _ (by omega) gi96 gl96 gr96 (z105) (y5_5) (y5_4) (y5_3) (z104) (y5_1) hI hX  (Int.le_trans (by decide : (0:Int) ≤ 1) l105) u105 l5_5 u5_5 l5_4 (Int.le_trans u89 (by decide : (5:Int) ≤ 6)) (Int.le_trans (by decide : (0:Int) ≤ 1) l69) u5_3 (by
                                                            intro P W hc hb hp ht hw
                                                            obtain ⟨g1, g2, g3⟩ := j5_0 P W hc hb hp ht hw
                                                            have hcH := hc.fr hX31 rfl rfl
                                                            have b1 := hb.1
                                                            have nn := hcH.1
                                                            have c3 := t_clamp (i := y5_3) (by omega)
                                                            have c4 := t_clamp (i := y5_4) (by omega)
                                                            have c5 := t_clamp (i := y5_5) (by omega)
                                                            have c6 := t_clamp (i := y5_6) (by omega)
                                                            obtain ⟨⟨h0, ho⟩, ⟨hsN, hcN⟩, hkm, hl⟩ := g2.1
                                                            have hd : ¬ s_gn P _ _ := fun hh => absurd hh (show ¬ s_gn P y5_4.toNatClampNeg y5_5.toNatClampNeg from fun hh => by have q1 := hh.1; have q2 := hh.2; omega)
                                                            obtain ⟨hm, hk2, -⟩ := s_PI_n g2 hp hd
                                                            have hcS := hc.fr hXs rfl rfl
                                                            have hmb := s_mb_S hcS q70 (by omega)
                                                            have hcd := hmb.mp (by omega)
                                                            have hso : y5_3.toNatClampNeg = 1 := by omega
                                                            have hwt := s_wt_S hcS hp hb q86 (by omega) hcd.1 hcd.2.1 hcd.2.2.1
                                                            have hlo := s_LS_lo hp y5_2.toInt y5_3.toNatClampNeg y5_4.toNatClampNeg y5_5.toNatClampNeg
                                                            have hbh := s_sub e87 rfl rfl (by omega)
                                                            have htk : w88.toInt = P 2 y5_4.toNatClampNeg := by rw [e88]; exact (hcS.2.1 _ hcd.1).2.1
                                                            have htb := (hb.2.1 _ hcd.1).2.1
                                                            have ht1 := ht.1 _ hcd.1
                                                            have hz := s_add e90 rfl htk (by omega)
                                                            have hn1 := s_cp (y := y5_4) (z := z91) (by omega) (by omega)
                                                            have hce := q92 P hcS hb hp (by omega) (by omega) (by omega) (by omega) (by omega) (by omega)
                                                            have e1 : (1 : Int32).toNatClampNeg = 1 := rfl
                                                            rw [hz, e1, hn1] at hce
                                                            have hyi := s_yS_iff (c := y5_5.toNatClampNeg) hp hso h0 hcd hl
                                                            have hnS : ¬ s_yS P y5_2.toInt y5_3.toNatClampNeg y5_4.toNatClampNeg y5_5.toNatClampNeg := fun hh => by have h8 := hyi.mp hh; have h9 := hce.mpr (by omega); omega
                                                            have hnC : ¬ s_yC P y5_2.toInt y5_3.toNatClampNeg y5_4.toNatClampNeg y5_5.toNatClampNeg := fun hh => by have := hh.1; omega
                                                            have hcR := hc.fr hXr rfl rfl
                                                            have k1 : (1 : Int32).toInt = 1 := rfl
                                                            have hzr := s_add e95 rfl k1 (by omega)
                                                            have hlo9 := s_LS_lo hp y5_2.toInt y5_3.toNatClampNeg y5_4.toNatClampNeg y5_5.toNatClampNeg
                                                            have hcr := q96 P hcR hb hp (by omega) (by omega) (by omega) (by omega) (by omega) (by omega)
                                                            rw [hzr] at hcr
                                                            have hmo := s_LS_mono (o := y5_3.toNatClampNeg) (s := y5_4.toNatClampNeg) (c := y5_5.toNatClampNeg) hp h0 (show y5_2.toInt ≤ y5_2.toInt + 1 by omega)
                                                            have e6 := s_cp (y := y5_6) (z := z105) (by omega) (by omega)
                                                            have hrs : s_LS P (y5_2.toInt + 1) y5_3.toNatClampNeg y5_4.toNatClampNeg y5_5.toNatClampNeg = s_LS P y5_2.toInt y5_3.toNatClampNeg y5_4.toNatClampNeg y5_5.toNatClampNeg := by have h9 := hcr.mp (by omega); omega
                                                            have e2 := s_add e104 rfl k1 (by omega)
                                                            rw [e2, e6]
                                                            exact ⟨by rw [hrs]; exact g1, (s_PI_R g2 hp hd hnS hnC hrs).mono (fun L hL => hL.cg (((t_F_X hC96) 28 6 (by decide) rfl).1.trans ((t_F_X hC92) 28 6 (by decide) rfl).1) ((t_F_nc (t_F_X hC96) rfl (by decide)).trans (t_F_nc (t_F_X hC92) rfl (by decide))) ((t_F_nc (t_F_X hC96) rfl (by decide)).trans (t_F_nc (t_F_X hC92) rfl (by decide))) ((t_F_nc (t_F_X hC96) rfl (by decide)).trans (t_F_nc (t_F_X hC92) rfl (by decide)))), g3⟩) rfl
              · have r106 : w92.toInt ≠ 0 := fun e => h93 (Int32.toInt_inj.mp (e.trans (by decide : (0:Int) = (0 : Int32).toInt)))
                have l107 : 1 ≤ w92.toInt := t_nel h93 l92 rfl rfl
                refine ev_loc f_X1_layPlan (nx := 80) rfl rfl rfl rfl ?_
                have hX80 := hX
                refine ev_loc f_X1_layPlan (nx := 81) rfl rfl rfl rfl ?_
                refine ev_getR f_X1_layPlan (nx := 84) rfl (hI.wf.s rfl) rfl rfl (hI.wf.r rfl) rfl rfl ?_
                refine ev_loc f_X1_layPlan (nx := 86) rfl rfl rfl rfl ?_
                refine ev_loc f_X1_layPlan (nx := 87) rfl rfl rfl rfl ?_
                refine ev_qI0 f_X1_layPlan (nx := 90) (r := [.int y5_1]) rfl rfl rfl rfl rfl rfl rfl (c_d_waitsOf_29 hI (y5_4) (y5_2)) rfl (fun w108 l108 u108 q108 => ?_)
                have ff109 : (gi92 29 0).toInt = (gi5 29 0).toInt := congrArg Int32.toInt ((hC92.1 29 0 rfl).1.trans rfl)
                have q108 : s_wts y5_4.toInt (gi92 29 0).toInt y5_2.toInt (gi92 31 y5_4.toNatClampNeg).toInt (gi92 33 y5_4.toNatClampNeg).toInt w108.toInt := q108
                refine ev_anyIE f_X1_layPlan (nx := 91) rfl rfl rfl rfl (fun z110 e110 => ?_)
                refine ev_loc f_X1_layPlan (nx := 92) (lo' := [(1, .int z110), (6, .int y5_6), (5, .int y5_5), (4, .int y5_4), (3, .int y5_3), (2, .int y5_2), (0, .ref 28)]) rfl rfl rfl rfl ?_
                refine ev_loc f_X1_layPlan (nx := 93) rfl rfl rfl rfl ?_
                refine ev_ic f_X1_layPlan (nx := 94) (v := 0) rfl (by decide) rfl ?_
                refine ev_loc f_X1_layPlan (nx := 95) rfl rfl rfl rfl ?_
                refine ev_loc f_X1_layPlan (nx := 96) rfl rfl rfl rfl ?_
                refine ev_getR f_X1_layPlan (nx := 99) rfl (hI.wf.s rfl) rfl rfl (hI.wf.r rfl) rfl rfl ?_
                refine ev_getR f_X1_layPlan (nx := 102) rfl (hI.wf.s rfl) rfl rfl (hI.wf.r rfl) rfl rfl ?_
                refine ev_loc f_X1_layPlan (nx := 104) rfl rfl rfl rfl ?_
                refine ev_ialdT f_X1_layPlan (nx := 105) rfl (hI.wf.s rfl) l5_4 (by decide) u89 (by decide) rfl (fun w111 e111 => ?_)
                refine ev_qN f_X1_layPlan (nx := 108) (r := []) rfl rfl rfl rfl rfl rfl rfl (c_d_addAct hI (0) (y5_2) (w111)) rfl hX rfl (fun gi112 gl112 gr112 hI hX hC112 q112 => ?_)
                have q112 : ∀ (L : s_RL) (t : Int × Int × Int), s_P1 gi92 L → L.length < 24 → (0 : Int) = t.1 → y5_2.toInt = t.2.1 → w111.toInt = t.2.2 → s_P1 gi112 (L ++ [t]) := q112
                refine ev_loc f_X1_layPlan (nx := 109) rfl rfl rfl rfl ?_
                refine ev_getR f_X1_layPlan (nx := 112) rfl (hI.wf.s rfl) rfl rfl (hI.wf.r rfl) rfl rfl ?_
                refine ev_loc f_X1_layPlan (nx := 114) rfl rfl rfl rfl ?_
                refine ev_loc f_X1_layPlan (nx := 115) rfl rfl rfl rfl ?_
                refine ev_iastT f_X1_layPlan (nx := 116) rfl (hI.wf.s rfl) l5_4 (by decide) u89 (by decide) rfl (hI.astO (hI.wf.s rfl) (Or.inl (by decide)) (by decide +kernel)) (hX.upI (t_inA_ok rfl)) (fun g113 e113 hI hX => ?_)
                refine ev_loc f_X1_layPlan (nx := 117) rfl rfl rfl rfl ?_
                have hX117 := hX
                refine ev_loc f_X1_layPlan (nx := 118) rfl rfl rfl rfl ?_
                refine ev_getR f_X1_layPlan (nx := 121) rfl (hI.wf.s rfl) rfl rfl (hI.wf.r rfl) rfl rfl ?_
                refine ev_getR f_X1_layPlan (nx := 124) rfl (hI.wf.s rfl) rfl rfl (hI.wf.r rfl) rfl rfl ?_
                refine ev_loc f_X1_layPlan (nx := 126) rfl rfl rfl rfl ?_
                refine ev_ialdT f_X1_layPlan (nx := 127) rfl (hI.wf.s rfl) l5_4 (by decide) u89 (by decide) rfl (fun w114 e114 => ?_)
                rw [e114.trans ((by rw [e113]; exact x_up2_off (Or.inl (by decide)) : g113 32 y5_4.toNatClampNeg = gi112 32 y5_4.toNatClampNeg).trans ((hC112.1 32 y5_4.toNatClampNeg rfl).1.trans ((hC92.1 32 y5_4.toNatClampNeg rfl).1.trans e88.symm)))]
                refine ev_anyIE f_X1_layPlan (nx := 128) rfl rfl rfl rfl (fun z115 e115 => ?_)
                refine ev_loc f_X1_layPlan (nx := 129) (lo' := [(2, .int z115), (1, .int z110), (6, .int y5_6), (5, .int y5_5), (4, .int y5_4), (3, .int y5_3), (0, .ref 28)]) rfl rfl rfl rfl ?_
                refine ev_incR f_X1_layPlan (nx := 132) (c := 1) (l := 1) (u := 6) rfl rfl (by decide) (by decide) l5_4 u89 rfl rfl (by decide) (by decide) rfl (fun z116 e116 l116 u116 => ?_)
                refine ev_jmp f_X1_layPlan (nx := 253) rfl rfl rfl ?_
                refine ev_incR f_X1_layPlan (nx := 256) (c := 1) (l := 1) (u := 241) rfl rfl (by decide) (by decide) l5_6 u8 rfl rfl (by decide) (by decide) rfl (fun z117 e117 l117 u117 => ?_)
                refine ev_jmp f_X1_layPlan (nx := 31) rfl rfl rfl ?_
                refine ev_sub (lo := [(6, .int z117), (5, .int y5_5), (4, .int z116), (3, .int y5_3), (2, .int z115), (1, .int z110), (0, .ref 28)]) rfl (t_sc rfl (t_sc rfl (t_sc rfl (t_sc rfl (t_sc rfl (t_sc rfl (t_sc rfl t_sn))))))) ?_
                exact ih5 _ (by omega) g113 gl112 gr112 (z117) (y5_5) (z116) (y5_3) (z115) (z110) hI hX  (Int.le_trans (by decide : (0:Int) ≤ 1) l117) u117 l5_5 u5_5 (Int.le_trans (by decide : (0:Int) ≤ 1) l116) u116 (Int.le_trans (by decide : (0:Int) ≤ 1) l69) u5_3 (by
                                                            intro P W hc hb hp ht hw
                                                            obtain ⟨g1, g2, g3⟩ := j5_0 P W hc hb hp ht hw
                                                            have hcH := hc.fr hX31 rfl rfl
                                                            have b1 := hb.1
                                                            have nn := hcH.1
                                                            have c3 := t_clamp (i := y5_3) (by omega)
                                                            have c4 := t_clamp (i := y5_4) (by omega)
                                                            have c5 := t_clamp (i := y5_5) (by omega)
                                                            have c6 := t_clamp (i := y5_6) (by omega)
                                                            obtain ⟨⟨h0, ho⟩, ⟨hsN, hcN⟩, hkm, hl⟩ := g2.1
                                                            have hd : ¬ s_gn P _ _ := fun hh => absurd hh (show ¬ s_gn P y5_4.toNatClampNeg y5_5.toNatClampNeg from fun hh => by have q1 := hh.1; have q2 := hh.2; omega)
                                                            obtain ⟨hm, hk2, -⟩ := s_PI_n g2 hp hd
                                                            have hcS := hc.fr hXs rfl rfl
                                                            have hmb := s_mb_S hcS q70 (by omega)
                                                            have hcd := hmb.mp (by omega)
                                                            have hso : y5_3.toNatClampNeg = 1 := by omega
                                                            have hwt := s_wt_S hcS hp hb q86 (by omega) hcd.1 hcd.2.1 hcd.2.2.1
                                                            have hlo := s_LS_lo hp y5_2.toInt y5_3.toNatClampNeg y5_4.toNatClampNeg y5_5.toNatClampNeg
                                                            have hbh := s_sub e87 rfl rfl (by omega)
                                                            have htk : w88.toInt = P 2 y5_4.toNatClampNeg := by rw [e88]; exact (hcS.2.1 _ hcd.1).2.1
                                                            have htb := (hb.2.1 _ hcd.1).2.1
                                                            have ht1 := ht.1 _ hcd.1
                                                            have hz := s_add e90 rfl htk (by omega)
                                                            have hn1 := s_cp (y := y5_4) (z := z91) (by omega) (by omega)
                                                            have hce := q92 P hcS hb hp (by omega) (by omega) (by omega) (by omega) (by omega) (by omega)
                                                            have e1 : (1 : Int32).toNatClampNeg = 1 := rfl
                                                            rw [hz, e1, hn1] at hce
                                                            have hyi := s_yS_iff (c := y5_5.toNatClampNeg) hp hso h0 hcd hl
                                                            have hyS : s_yS P y5_2.toInt y5_3.toNatClampNeg y5_4.toNatClampNeg y5_5.toNatClampNeg := hyi.mpr (by have h9 := hce.mp (by omega); omega)
                                                            have hcA := hc.fr hX80 rfl rfl
                                                            have hwA := s_wt_S hcA hp hb q108 (by omega) hcd.1 hcd.2.1 hcd.2.2.1
                                                            have hle := s_sub e110 rfl rfl (by omega)
                                                            have hwho : w111.toInt = W 0 y5_4.toNatClampNeg := by rw [e111]; exact (hw.fr hX80 rfl).1 _ hcd.1
                                                            have hcB := hcH
                                                            have htk2 : w88.toInt = P 2 y5_4.toNatClampNeg := by rw [e88]; exact (hcB.2.1 _ hcd.1).2.1
                                                            have e2 := s_add e115 rfl htk2 (by omega)
                                                            have e4 := s_cp (y := y5_4) (z := z116) (by omega) (by omega)
                                                            have e6 := s_cp (y := y5_6) (z := z117) (by omega) (by omega)
                                                            have hPI := s_PI_S (S' := s_C1 g113 (y5_4.toNatClampNeg + 1) y5_5.toNatClampNeg) g2 hp ht hd hb hyS (fun L hL hlen => s_C1_S hL (q112 L _ (hL.1.cg ((t_F_X hC92) 28 6 (by decide) rfl).1 (t_F_nc (t_F_X hC92) rfl (by decide))) hlen rfl rfl hwho) ((t_F_nc (t_F_X hC112) rfl (by decide)).trans (t_F_nc (t_F_X hC92) rfl (by decide))) ((t_F_nc (t_F_X hC112) rfl (by decide)).trans (t_F_nc (t_F_X hC92) rfl (by decide))) e113 rfl rfl)
                                                            rw [e2, e4, e6, hso]
                                                            exact ⟨by have h9 := hyS.2.2.2.2.2; omega, hPI, g3⟩) rfl
    refine ev_sub (lo := [(6, .int 0), (5, .int 0), (4, .int 0), (3, .int 0), (2, .int 0), (1, .int w2), (0, .ref 28)]) rfl (t_sc rfl (t_sc rfl (t_sc rfl (t_sc rfl (t_sc rfl (t_sc rfl (t_sc rfl t_sn))))))) ?_
    exact L5 _ gi2 gl2 gr2 (0) (0) (0) (0) (0) (w2) hI hX  (by decide : (0:Int) ≤ (0:Int32).toInt) (Int.le_trans (by decide : (0:Int32).toInt ≤ (0:Int)) (by decide : (0:Int) ≤ 241)) (by decide : (0:Int) ≤ (0:Int32).toInt) (Int.le_trans (by decide : (0:Int32).toInt ≤ (0:Int)) (by decide : (0:Int) ≤ 6)) (by decide : (0:Int) ≤ (0:Int32).toInt) (Int.le_trans (by decide : (0:Int32).toInt ≤ (0:Int)) (by decide : (0:Int) ≤ 6)) (by decide : (0:Int) ≤ (0:Int32).toInt) (Int.le_trans (by decide : (0:Int32).toInt ≤ (0:Int)) (by decide : (0:Int) ≤ 1)) (by
                                                            intro P W hc hb hp ht hw
                                                            have hca := hc.fr hXa rfl rfl
                                                            have hq := q2 P hca hb hp
                                                            have ff118 : (gi2 28 6).toInt = 0 := (congrArg Int32.toInt ((hC2.1 28 6 rfl).1.trans (by rw [e1]; exact x_up2_at _ _ _ _ : g1 28 6 = 0))).trans (by decide)
                                                            have z0 : (0 : Int32).toInt = 0 := rfl
                                                            exact ⟨hq, s_PI_0 hb (by omega) (s_C1_0 (by omega)), by omega⟩) rfl
  · have l119 : 1000000000 ≤ w2.toInt := t_lel (t_nlt h3) (by decide : (1000000000:Int) ≤ (1000000000:Int32).toInt)
    refine ev_ic f_X1_layPlan (nx := 17) (v := 0) rfl (by decide) rfl ?_
    exact ev_ret f_X1_layPlan rfl rfl rfl ⟨_, _, _, rfl, hI, hX, ⟨_, rfl, (by decide : (0:Int) ≤ (0:Int32).toInt), (Int.le_trans (by decide : (0:Int32).toInt ≤ (0:Int)) (by decide : (0:Int) ≤ 1)), (show ∀ (P W : Nat → Nat → Int), s_CP P gi gr → s_PB P → s_PO P → s_T1 P → s_W1 gi P W → ((0 : Int) = 1 ↔ s_LS P 0 0 0 0 < 1000000000) ∧ ((0 : Int) = 1 → s_C1 gi2 (P 0 0).toNat (P 0 1).toNat (s_pl P W 241 0 0 0 0)) from (by
                                                            intro P W hc hb hp ht hw
                                                            have hca := hc.fr hXa rfl rfl
                                                            have hq := q2 P hca hb hp
                                                            have z0 : (0 : Int32).toInt = 0 := rfl
                                                            exact ⟨⟨fun h => absurd h (by omega), fun h => by omega⟩, fun h => absurd h (by omega)⟩))⟩⟩
noncomputable def wl_d_takeAll2 : List (Nat × Nat) := [(28, 0), (28, 1), (29, 0), (30, 9999), (31, 9999), (32, 9999), (33, 9999), (34, 9999), (35, 0), (36, 9999), (37, 9999), (38, 9999), (39, 9999), (40, 9999)]
noncomputable def Q_d_takeAll2 (gi : Nat → Nat → Int32) (gl : Nat → Nat → Int64) (gr : Nat → Nat → Value) (ar1 : Nat) : (Nat → Nat → Int32) → (Nat → Nat → Int64) → (Nat → Nat → Value) → Prop := fun (gi2 : Nat → Nat → Int32) (gl2 : Nat → Nat → Int64) (gr2 : Nat → Nat → Value) => ∀ D : s_D, t_VL gr ar1 → t_CV gi gl ar1 D → (ar1 = 3 ∨ 102 ≤ ar1) → t_Cb D → (∀ s : Nat, (s : Int) < D 1 → 0 ≤ D (56 + 5 * s) ∧ D (56 + 5 * s) ≤ 1) → s_CP (s_PD D (D 4)) gi2 gr2 ∧ s_W1 gi2 (s_PD D (D 4)) (s_WD D)
theorem c_d_takeAll2 {X : x_Ext} {d : Nat} {sh : List (Nat ⊕ (Nat × Nat))} {gi : Nat → Nat → Int32} {gl : Nat → Nat → Int64} {gr : Nat → Nat → Value} (hI : t_I sh gi gr) (ar1 : Nat) (p_a1 : t_Rv sh gr ar1) : x_Me X (d + 4) n_X1_takeAll [.ref 28, .ref ar1] (sh, gi, gl, gr) (t_PN wl_d_takeAll2 sh gi gl gr (Q_d_takeAll2 gi gl gr ar1)) := by
  have hX : t_X wl_d_takeAll2 sh gi gl gr gi gl gr := t_X.rf
  refine me_i f_X1_takeAll (hI.wf.s rfl) rfl rfl rfl ?_
  refine ev_loc f_X1_takeAll (nx := 1) rfl rfl rfl rfl ?_
  refine ev_loc f_X1_takeAll (nx := 2) rfl rfl rfl rfl ?_
  have hE1 := t_eqf_up (gr := gr) (j := 0) (v := .ref ar1) (hI.wf.s (k := 28) rfl) rfl
  have hT1 := t_cross hI p_a1
  replace p_a1 := p_a1.ext hE1
  refine ev_putRT f_X1_takeAll (nx := 5) rfl (hI.wf.s rfl) rfl rfl rfl rfl hT1 (hX.upR rfl hE1) (fun g1 e1 hI hX => ?_)
  rw [← e1] at p_a1
  refine ev_loc f_X1_takeAll (nx := 6) rfl rfl rfl rfl ?_
  refine ev_loc f_X1_takeAll (nx := 7) rfl rfl rfl rfl ?_
  refine ev_getI f_X1_takeAll (nx := 10) rfl p_a1.1 rfl rfl rfl ?_
  refine ev_putIT f_X1_takeAll (nx := 13) rfl (hI.wf.s rfl) rfl rfl rfl (hI.put0 (hI.wf.s rfl) rfl rfl) (hX.upI rfl) (fun g2 e2 hI hX => ?_)
  refine ev_loc f_X1_takeAll (nx := 14) rfl rfl rfl rfl ?_
  have hXa := hX
  refine ev_loc f_X1_takeAll (nx := 15) rfl rfl rfl rfl ?_
  refine ev_ic f_X1_takeAll (nx := 16) (v := 0) rfl (by decide) rfl ?_
  refine ev_ic f_X1_takeAll (nx := 17) (v := -1) rfl (by decide) rfl ?_
  refine ev_ic f_X1_takeAll (nx := 18) (v := 0) rfl (by decide) rfl ?_
  refine ev_qN f_X1_takeAll (nx := 21) (r := []) rfl rfl rfl rfl rfl rfl rfl (c_d_takeShips hI (ar1) p_a1) rfl hX rfl (fun gi3 gl3 gr3 hI hX hC3 q3 => ?_)
  have q3 : ∀ D : s_D, t_VL g1 ar1 → t_CV g2 gl ar1 D → (ar1 = 3 ∨ 102 ≤ ar1) → t_Cb D → (∀ s : Nat, (s : Int) < D 1 → 0 ≤ D (56 + 5 * s) ∧ D (56 + 5 * s) ≤ 1) → (gi3 29 0).toInt = D 1 ∧ s_RO (s_A D) (gi3 30) (D 1).toNat ∧ s_RM (s_A D) (gi3 31) (D 1).toNat ∧ s_RX (s_A D) (fun k => D (54 + 5 * k)) (gi3 32) (D 1).toNat ∧ s_RX (s_A D) (fun k => D (55 + 5 * k)) (gi3 33) (D 1).toNat ∧ s_RX (s_A D) (fun k => D (56 + 5 * k)) (gi3 34) (D 1).toNat := q3
  replace p_a1 := p_a1.ext hC3.2
  refine ev_loc f_X1_takeAll (nx := 22) rfl rfl rfl rfl ?_
  have hXb := hX
  refine ev_loc f_X1_takeAll (nx := 23) rfl rfl rfl rfl ?_
  refine ev_ic f_X1_takeAll (nx := 24) (v := -1) rfl (by decide) rfl ?_
  refine ev_qN f_X1_takeAll (nx := 27) (r := []) rfl rfl rfl rfl rfl rfl rfl (c_d_takeCarts hI (ar1) p_a1) rfl hX rfl (fun gi4 gl4 gr4 hI hX hC4 q4 => ?_)
  have q4 : ∀ D : s_D, t_VL gr3 ar1 → t_CV gi3 gl3 ar1 D → (ar1 = 3 ∨ 102 ≤ ar1) → t_Cb D → (gi4 35 0).toInt = D 2 ∧ s_RO (s_B D) (gi4 36) (D 2).toNat ∧ s_RM (s_B D) (gi4 37) (D 2).toNat ∧ s_RX (s_B D) (fun k => D (83 + 3 * k)) (gi4 38) (D 2).toNat ∧ s_RX (s_B D) (fun k => D (84 + 3 * k)) (gi4 39) (D 2).toNat ∧ s_RX (s_B D) (fun _ => 0) (gi4 40) (D 2).toNat := q4
  replace p_a1 := p_a1.ext hC4.2
  exact ev_ret f_X1_takeAll rfl rfl rfl ⟨_, _, _, rfl, hI, hX, ⟨rfl, (show ∀ D : s_D, t_VL gr ar1 → t_CV gi gl ar1 D → (ar1 = 3 ∨ 102 ≤ ar1) → t_Cb D → (∀ s : Nat, (s : Int) < D 1 → 0 ≤ D (56 + 5 * s) ∧ D (56 + 5 * s) ≤ 1) → s_CP (s_PD D (D 4)) gi4 gr4 ∧ s_W1 gi4 (s_PD D (D 4)) (s_WD D) from (by
                                                            intro D hl hc hv hb hsl
                                                            have hKa := t_nd_fr hXa rfl
                                                            have hla := hl.fr (fun K k1 k2 => hKa K (by omega))
                                                            have hca := hc.fr (fun K k1 k2 => hKa K (by omega))
                                                            have hqa := q3 D hla hca hv hb hsl
                                                            have hKb := t_nd_fr hXb rfl
                                                            have hlb := hl.fr (fun K k1 k2 => hKb K (by omega))
                                                            have hcb := hc.fr (fun K k1 k2 => hKb K (by omega))
                                                            have hqb := q4 D hlb hcb hv hb
                                                            have hKc := t_nd_fr hX rfl
                                                            obtain ⟨a0, a1, a2, a3, a4, a5⟩ := hqa
                                                            obtain ⟨c0, c1, c2, c3, c4, c5⟩ := hqb
                                                            have fb := t_F_X hC4
                                                            have fa := t_F_X hC3
                                                            have b1 := hb.2.1
                                                            have b2 := hb.2.2
                                                            have e29 : gi4 29 = gi3 29 := t_F_nc fb rfl (by decide)
                                                            have e30 : gi4 30 = gi3 30 := t_F_nc fb rfl (by decide)
                                                            have e31 : gi4 31 = gi3 31 := t_F_nc fb rfl (by decide)
                                                            have e32 : gi4 32 = gi3 32 := t_F_nc fb rfl (by decide)
                                                            have e33 : gi4 33 = gi3 33 := t_F_nc fb rfl (by decide)
                                                            have e34 : gi4 34 = gi3 34 := t_F_nc fb rfl (by decide)
                                                            have er : gr4 28 0 = .ref ar1 := by rw [(fb 28 0 (by decide) rfl).2.2, (fa 28 0 (by decide) rfl).2.2, e1, x_up2_at]
                                                            have e1 : (gi4 28 1).toInt = D 4 := by rw [(fb 28 1 (by decide) rfl).1, (fa 28 1 (by decide) rfl).1, e2, x_up2_at]; exact hc.2.1.1
                                                            refine ⟨⟨⟨?_, ?_⟩, fun s hs => ?_, fun c hc3 => ?_, Or.inr ⟨ar1, er, hv, fun m => ?_⟩⟩, fun s hs => ?_, fun c hc3 => ?_⟩
                                                            · rw [e29, a0]; show D 1 = (((D 1).toNat : Nat) : Int); omega
                                                            · rw [c0]; show D 2 = (((D 2).toNat : Nat) : Int); omega
                                                            · have hs2 : s < (D 1).toNat := Int.ofNat_lt.mp (show (s : Int) < (((D 1).toNat : Nat) : Int) from hs)
                                                              rw [e31, e32, e33, e34]
                                                              exact ⟨a2 s hs2, a3 s hs2, a4 s hs2, a5 s hs2⟩
                                                            · have hc4 : c < (D 2).toNat := Int.ofNat_lt.mp (show (c : Int) < (((D 2).toNat : Nat) : Int) from hc3)
                                                              exact ⟨c2 c hc4, c3 c hc4, c4 c hc4, c5 c hc4⟩
                                                            · rw [e1, (hKc ar1 (by omega)).1, hc.2.1.2.1, hc.2.1.2.2.1]; rfl
                                                            · have hs2 : s < (D 1).toNat := Int.ofNat_lt.mp (show (s : Int) < (((D 1).toNat : Nat) : Int) from hs)
                                                              rw [e30]; exact a1 s hs2
                                                            · have hc4 : c < (D 2).toNat := Int.ofNat_lt.mp (show (c : Int) < (((D 2).toNat : Nat) : Int) from hc3)
                                                              exact c1 c hc4))⟩⟩
noncomputable def wl_d_plan : List (Nat × Nat) := [(0, 0), (28, 0), (28, 1), (28, 4), (28, 5), (28, 6), (28, 8), (29, 0), (30, 9999), (31, 9999), (32, 9999), (33, 9999), (34, 9999), (35, 0), (36, 9999), (37, 9999), (38, 9999), (39, 9999), (40, 9999), (41, 9999), (42, 9999), (43, 9999), (44, 9999)]
noncomputable def Q_d_plan (gi : Nat → Nat → Int32) (gl : Nat → Nat → Int64) (gr : Nat → Nat → Value) : Int32 → (Nat → Nat → Int32) → (Nat → Nat → Int64) → (Nat → Nat → Value) → Prop := fun (v : Int32) (gi2 : Nat → Nat → Int32) (gl2 : Nat → Nat → Int64) (gr2 : Nat → Nat → Value) => ∀ (u : Nat) (D : s_D), gr 0 6 = .ref u → t_VL gr u → t_CV gi gl u D → t_Cb D → (u = 3 ∨ 102 ≤ u) → (∀ s : Nat, (s : Int) < D 1 → 0 ≤ D (56 + 5 * s) ∧ D (56 + 5 * s) ≤ 1) → s_DB D → s_tk D → (s_LS (s_PD D (D 4)) 0 0 0 0 < 1000000000 → s_P2 gi2 (s_PL D) ∧ v.toInt = ((s_PL D).length : Int)) ∧ (¬ s_LS (s_PD D (D 4)) 0 0 0 0 < 1000000000 → v.toInt = -1 ∧ ∀ L, s_P2 gi L → s_P2 gi2 L)
theorem c_d_plan {X : x_Ext} {d : Nat} {sh : List (Nat ⊕ (Nat × Nat))} {gi : Nat → Nat → Int32} {gl : Nat → Nat → Int64} {gr : Nat → Nat → Value} (hI : t_I sh gi gr) : x_Me X (d + 20) n_X11_plan [.ref 0] (sh, gi, gl, gr) (t_PI wl_d_plan sh gi gl gr (-1) 24 (Q_d_plan gi gl gr)) := by
  have hX : t_X wl_d_plan sh gi gl gr gi gl gr := t_X.rf
  refine me_i f_X11_plan (hI.wf.s rfl) rfl rfl rfl ?_
  refine ev_loc f_X11_plan (nx := 1) rfl rfl rfl rfl ?_
  refine ev_getR f_X11_plan (nx := 4) rfl (hI.wf.s rfl) rfl rfl (hI.wf.r rfl) rfl rfl ?_
  refine ev_loc f_X11_plan (nx := 5) rfl rfl rfl rfl ?_
  obtain ⟨a1, e1, p1⟩ := hI.2.2.2.1.1
  refine ev_getR f_X11_plan (nx := 8) rfl (hI.wf.s rfl) rfl rfl e1 rfl rfl ?_
  refine ev_qN f_X11_plan (nx := 11) (r := []) rfl rfl rfl rfl rfl rfl rfl (c_d_takeAll2 hI (a1) p1) rfl hX rfl (fun gi2 gl2 gr2 hI hX hC2 q2 => ?_)
  have q2 : ∀ D : s_D, t_VL gr a1 → t_CV gi gl a1 D → (a1 = 3 ∨ 102 ≤ a1) → t_Cb D → (∀ s : Nat, (s : Int) < D 1 → 0 ≤ D (56 + 5 * s) ∧ D (56 + 5 * s) ≤ 1) → s_CP (s_PD D (D 4)) gi2 gr2 ∧ s_W1 gi2 (s_PD D (D 4)) (s_WD D) := q2
  replace p1 := p1.ext hC2.2
  refine ev_loc f_X11_plan (nx := 12) rfl rfl rfl rfl ?_
  refine ev_getR f_X11_plan (nx := 15) rfl (hI.wf.s rfl) rfl rfl (hI.wf.r rfl) rfl rfl ?_
  refine ev_qI f_X11_plan (nx := 18) (r := []) rfl rfl rfl rfl rfl rfl rfl (c_d_layPlan hI ) rfl hX rfl (fun w3 gi3 gl3 gr3 l3 u3 hI hX hC3 q3 => ?_)
  have q3 : ∀ (P W : Nat → Nat → Int), s_CP P gi2 gr2 → s_PB P → s_PO P → s_T1 P → s_W1 gi2 P W → (w3.toInt = 1 ↔ s_LS P 0 0 0 0 < 1000000000) ∧ (w3.toInt = 1 → s_C1 gi3 (P 0 0).toNat (P 0 1).toNat (s_pl P W 241 0 0 0 0)) := q3
  replace p1 := p1.ext hC3.2
  have hIL := hI
  refine ev_if f_X11_plan (t1 := 21) (t2 := 28) rfl rfl rfl (fun h4 => ?_) (fun h4 => ?_)
  · have u5 : w3.toInt ≤ 0 := t_equ h4 (by decide : (0:Int32).toInt ≤ (0:Int))
    refine ev_loc f_X11_plan (nx := 22) rfl rfl rfl rfl ?_
    refine ev_bp f_X11_plan (nx := 24) (v := 6) rfl (by decide) rfl ?_
    refine ev_inV2 f_X11_plan (nx := 27) (lo2 := [(0, .ref 0), (1, .int 6)]) rfl rfl rfl rfl f_X11_refuse (hI.wf.s rfl) rfl rfl rfl rfl rfl ?_
    refine ev_loc f_X11_refuse (nx := 1) rfl rfl rfl rfl ?_
    refine ev_loc f_X11_refuse (nx := 2) rfl rfl rfl rfl ?_
    refine ev_putIT f_X11_refuse (nx := 5) rfl (hI.wf.s rfl) rfl rfl rfl (hI.put0 (hI.wf.s rfl) rfl rfl) (hX.upI rfl) (fun g6 e6 hI hX => ?_)
    refine ev_ic f_X11_refuse (nx := 6) (v := -1) rfl (by decide) rfl ?_
    refine ev_retK1 f_X11_refuse rfl rfl rfl ?_
    exact ev_ret f_X11_plan rfl rfl rfl ⟨_, _, _, rfl, hI, hX, ⟨_, rfl, (by decide : ((-1):Int) ≤ ((-1):Int32).toInt), (Int.le_trans (by decide : ((-1):Int32).toInt ≤ ((-1):Int)) (by decide : ((-1):Int) ≤ 24)), (show ∀ (u : Nat) (D : s_D), gr 0 6 = .ref u → t_VL gr u → t_CV gi gl u D → t_Cb D → (u = 3 ∨ 102 ≤ u) → (∀ s : Nat, (s : Int) < D 1 → 0 ≤ D (56 + 5 * s) ∧ D (56 + 5 * s) ≤ 1) → s_DB D → s_tk D → (s_LS (s_PD D (D 4)) 0 0 0 0 < 1000000000 → s_P2 g6 (s_PL D) ∧ ((-1) : Int) = ((s_PL D).length : Int)) ∧ (¬ s_LS (s_PD D (D 4)) 0 0 0 0 < 1000000000 → ((-1) : Int) = -1 ∧ ∀ L, s_P2 gi L → s_P2 g6 L) from (by
                                                            intro u D hu hl hc hb hv hsl hd htk
                                                            have ha : a1 = u := Value.ref.inj (e1.symm.trans hu)
                                                            subst ha
                                                            have hq := q2 D hl hc hv hb hsl
                                                            have hq2 := q3 _ _ hq.1 (s_PD_B hb hd ⟨hd.2.2.1.1, hd.2.2.1.2⟩) (s_PD_O hb hd hd.2.2.1.1) (s_T1_of htk hb) hq.2
                                                            have z0 : (0 : Int32).toInt = 0 := rfl
                                                            have z1 : (1 : Int32).toInt = 1 := rfl
                                                            have hno : ¬ s_LS (s_PD D (D 4)) 0 0 0 0 < 1000000000 := fun hh => by have h9 := hq2.1.mpr hh; omega
                                                            exact ⟨fun h => absurd h hno, fun _ => ⟨rfl, fun L hL => hL.cg (by rw [e6, x_up2_off (Or.inl (by decide)), ((t_F_X hC3) 28 8 (by decide) rfl).1, ((t_F_X hC2) 28 8 (by decide) rfl).1]) (by rw [e6, x_up2_ne (by decide), t_F_nc (t_F_X hC3) rfl (by decide), t_F_nc (t_F_X hC2) rfl (by decide)])⟩⟩))⟩⟩
  · have r7 : w3.toInt ≠ 0 := fun e => h4 (Int32.toInt_inj.mp (e.trans (by decide : (0:Int) = (0 : Int32).toInt)))
    have l8 : 1 ≤ w3.toInt := t_nel h4 l3 rfl rfl
    refine ev_loc f_X11_plan (nx := 29) rfl rfl rfl rfl ?_
    refine ev_getR f_X11_plan (nx := 32) rfl (hI.wf.s rfl) rfl rfl (hI.wf.r rfl) rfl rfl ?_
    refine ev_inV1 f_X11_plan (nx := 35) (lo2 := [(0, .ref 28)]) rfl rfl rfl rfl f_X1_tellPlan (hI.wf.s rfl) rfl rfl rfl rfl rfl ?_
    refine ev_loc f_X1_tellPlan (nx := 1) rfl rfl rfl rfl ?_
    refine ev_getR f_X1_tellPlan (nx := 4) rfl (hI.wf.s rfl) rfl rfl (hI.wf.r rfl) rfl rfl ?_
    refine ev_ic f_X1_tellPlan (nx := 5) (v := 0) rfl (by decide) rfl ?_
    refine ev_loc f_X1_tellPlan (nx := 6) rfl rfl rfl rfl ?_
    refine ev_getR f_X1_tellPlan (nx := 9) rfl (hI.wf.s rfl) rfl rfl (hI.wf.r rfl) rfl rfl ?_
    refine ev_ic f_X1_tellPlan (nx := 10) (v := 0) rfl (by decide) rfl ?_
    refine ev_loc f_X1_tellPlan (nx := 11) rfl rfl rfl rfl ?_
    refine ev_getR f_X1_tellPlan (nx := 14) rfl (hI.wf.s rfl) rfl rfl (hI.wf.r rfl) rfl rfl ?_
    refine ev_alenv f_X1_tellPlan (nx := 15) (w := 72) rfl (hI.wf.s rfl) rfl (by decide) rfl ?_
    refine ev_cpyTIE f_X1_tellPlan (nx := 18) rfl rfl (hI.wf.s (k := 41) rfl) (hI.wf.s (k := 42) rfl) (by omega) (by decide : (0:Int) ≤ (0:Int32).toInt) (by decide : (0:Int32).toInt ≤ (0:Int)) (by decide : (0:Int) ≤ (0:Int32).toInt) (by decide : (0:Int32).toInt ≤ (0:Int)) (Int.le_trans (by decide : (0:Int) ≤ 72) (by decide : (72:Int) ≤ (72:Int32).toInt)) (by decide : (72:Int32).toInt ≤ (72:Int)) (by decide) (by decide) rfl (hI.arr (hI.wf.s (k := 42) rfl) (fun j lo hi e => absurd e (t_nob (by decide +kernel) _)) (by decide)) (hX.arrI (fun j => t_inA_ok rfl)) (fun g9 e9 hI hX => ?_)
    refine ev_loc f_X1_tellPlan (nx := 19) rfl rfl rfl rfl ?_
    refine ev_loc f_X1_tellPlan (nx := 20) rfl rfl rfl rfl ?_
    refine ev_getI f_X1_tellPlan (nx := 23) rfl (hI.wf.s rfl) rfl rfl rfl ?_
    obtain ⟨l10, u10⟩ := hI.b (hI.wf.s (k := 28) rfl) (t_bdK rfl : t_bd 1 6 = some (0, 24))
    refine ev_putIT f_X1_tellPlan (nx := 26) rfl (hI.wf.s rfl) rfl rfl rfl (hI.putB (hI.wf.s rfl) rfl rfl l10 (by decide) u10 (by decide)) (hX.upI rfl) (fun g11 e11 hI hX => ?_)
    refine ev_retK0 f_X1_tellPlan rfl rfl rfl ?_
    refine ev_loc f_X11_plan (nx := 36) rfl rfl rfl rfl ?_
    refine ev_loc f_X11_plan (nx := 37) rfl rfl rfl rfl ?_
    refine ev_getR f_X11_plan (nx := 40) rfl (hI.wf.s rfl) rfl rfl (hI.wf.r rfl) rfl rfl ?_
    refine ev_gvI f_X11_plan (nx := 43) (w := (g9 28 6)) rfl (hI.wf.s rfl) rfl rfl (by rw [e11]; exact x_up2_at _ _ _ _ : g11 28 8 = (g9 28 6)) rfl ?_
    refine ev_inV2 f_X11_plan (nx := 46) (lo2 := [(0, .ref 0), (1, .int (g9 28 6))]) rfl rfl rfl rfl f_X11_answer (hI.wf.s rfl) rfl rfl rfl rfl rfl ?_
    refine ev_loc f_X11_answer (nx := 1) rfl rfl rfl rfl ?_
    refine ev_ic f_X11_answer (nx := 2) (v := 0) rfl (by decide) rfl ?_
    refine ev_putIT f_X11_answer (nx := 5) rfl (hI.wf.s rfl) rfl rfl rfl (hI.put0 (hI.wf.s rfl) rfl rfl) (hX.upI rfl) (fun g12 e12 hI hX => ?_)
    refine ev_loc f_X11_answer (nx := 6) rfl rfl rfl rfl ?_
    refine ev_retK1 f_X11_answer rfl rfl rfl ?_
    exact ev_ret f_X11_plan rfl rfl rfl ⟨_, _, _, rfl, hI, hX, ⟨_, rfl, (Int.le_trans (by decide : ((-1):Int) ≤ 0) l10), u10, (show ∀ (u : Nat) (D : s_D), gr 0 6 = .ref u → t_VL gr u → t_CV gi gl u D → t_Cb D → (u = 3 ∨ 102 ≤ u) → (∀ s : Nat, (s : Int) < D 1 → 0 ≤ D (56 + 5 * s) ∧ D (56 + 5 * s) ≤ 1) → s_DB D → s_tk D → (s_LS (s_PD D (D 4)) 0 0 0 0 < 1000000000 → s_P2 g12 (s_PL D) ∧ (g9 28 6).toInt = ((s_PL D).length : Int)) ∧ (¬ s_LS (s_PD D (D 4)) 0 0 0 0 < 1000000000 → (g9 28 6).toInt = -1 ∧ ∀ L, s_P2 gi L → s_P2 g12 L) from (by
                                                            intro u D hu hl hc hb hv hsl hd htk
                                                            have ha : a1 = u := Value.ref.inj (e1.symm.trans hu)
                                                            subst ha
                                                            have hq := q2 D hl hc hv hb hsl
                                                            have hq2 := q3 _ _ hq.1 (s_PD_B hb hd ⟨hd.2.2.1.1, hd.2.2.1.2⟩) (s_PD_O hb hd hd.2.2.1.1) (s_T1_of htk hb) hq.2
                                                            have z0 : (0 : Int32).toInt = 0 := rfl
                                                            have z1 : (1 : Int32).toInt = 1 := rfl
                                                            have hyes : s_LS (s_PD D (D 4)) 0 0 0 0 < 1000000000 := hq2.1.mp (by omega)
                                                            have hl2 := (hq2.2 (by omega)).1
                                                            have h24 := (hIL.b (hIL.wf.s (k := 28) rfl) (t_bdK rfl : t_bd 1 6 = some (0, 24))).2
                                                            have hP2 := s_P2_of hl2 h24 e9 e11 (by rw [e9]; rfl)
                                                            have ff13 : (g12 28 8).toInt = (g9 28 6).toInt := congrArg Int32.toInt ((by rw [e12]; exact x_up2_off (Or.inr (by decide)) : g12 28 8 = g11 28 8).trans (by rw [e11]; exact x_up2_at _ _ _ _ : g11 28 8 = (g9 28 6)))
                                                            exact ⟨fun _ => ⟨hP2.cg (by rw [e12, x_up2_off (Or.inl (by decide))]) (by rw [e12, x_up2_ne (by decide)]), (by have h9 := hP2.1; rw [e11, x_up2_at] at h9; exact h9)⟩, fun h => absurd hyes h⟩))⟩⟩
noncomputable def wl_d_planAt : List (Nat × Nat) := [(0, 0)]
noncomputable def Q_d_planAt (gi : Nat → Nat → Int32) (gl : Nat → Nat → Int64) (gr : Nat → Nat → Value) (ar1 : Int32) (ar2 : Int32) : Int32 → (Nat → Nat → Int32) → (Nat → Nat → Int64) → (Nat → Nat → Value) → Prop := fun (v : Int32) (gi2 : Nat → Nat → Int32) (gl2 : Nat → Nat → Int64) (gr2 : Nat → Nat → Value) => ∀ L : s_RL, s_P2 gi L → s_LP L → ((0 ≤ ar1.toInt ∧ ar1.toInt < (L.length : Int) ∧ 0 ≤ ar2.toInt ∧ ar2.toInt ≤ 2) → v.toInt = s_pd L ar1.toNatClampNeg ar2.toInt) ∧ (¬ (0 ≤ ar1.toInt ∧ ar1.toInt < (L.length : Int) ∧ 0 ≤ ar2.toInt ∧ ar2.toInt ≤ 2) → v.toInt = -1)
theorem c_d_planAt {X : x_Ext} {d : Nat} {sh : List (Nat ⊕ (Nat × Nat))} {gi : Nat → Nat → Int32} {gl : Nat → Nat → Int64} {gr : Nat → Nat → Value} (hI : t_I sh gi gr) (ar1 : Int32) (ar2 : Int32) : x_Me X (d + 2) n_X11_planAt [.ref 0, .int ar1, .int ar2] (sh, gi, gl, gr) (t_PI wl_d_planAt sh gi gl gr (-2147483648) 2147483647 (Q_d_planAt gi gl gr ar1 ar2)) := by
  have hX : t_X wl_d_planAt sh gi gl gr gi gl gr := t_X.rf
  refine me_i f_X11_planAt (hI.wf.s rfl) rfl rfl rfl ?_
  refine ev_loc f_X11_planAt (nx := 1) rfl rfl rfl rfl ?_
  refine ev_if f_X11_planAt (t1 := 9) (t2 := 4) rfl rfl rfl (fun h1 => ?_) (fun h1 => ?_)
  · have u2 : ar2.toInt ≤ (-1) := t_ltu h1 (by decide : (0:Int32).toInt ≤ (0:Int)) rfl
    refine ev_loc f_X11_planAt (nx := 10) rfl rfl rfl rfl ?_
    refine ev_ic f_X11_planAt (nx := 11) (v := 1) rfl (by decide) rfl ?_
    refine ev_inV2 f_X11_planAt (nx := 14) (lo2 := [(0, .ref 0), (1, .int 1)]) rfl rfl rfl rfl f_X11_refuse (hI.wf.s rfl) rfl rfl rfl rfl rfl ?_
    refine ev_loc f_X11_refuse (nx := 1) rfl rfl rfl rfl ?_
    refine ev_loc f_X11_refuse (nx := 2) rfl rfl rfl rfl ?_
    refine ev_putIT f_X11_refuse (nx := 5) rfl (hI.wf.s rfl) rfl rfl rfl (hI.put0 (hI.wf.s rfl) rfl rfl) (hX.upI rfl) (fun g3 e3 hI hX => ?_)
    refine ev_ic f_X11_refuse (nx := 6) (v := -1) rfl (by decide) rfl ?_
    refine ev_retK1 f_X11_refuse rfl rfl rfl ?_
    exact ev_ret f_X11_planAt rfl rfl rfl ⟨_, _, _, rfl, hI, hX, ⟨_, rfl, (Int.le_trans (by decide : ((-2147483648):Int) ≤ (-1)) (by decide : ((-1):Int) ≤ ((-1):Int32).toInt)), (Int.le_trans (by decide : ((-1):Int32).toInt ≤ ((-1):Int)) (by decide : ((-1):Int) ≤ 2147483647)), (show ∀ L : s_RL, s_P2 gi L → s_LP L → ((0 ≤ ar1.toInt ∧ ar1.toInt < (L.length : Int) ∧ 0 ≤ ar2.toInt ∧ ar2.toInt ≤ 2) → ((-1) : Int) = s_pd L ar1.toNatClampNeg ar2.toInt) ∧ (¬ (0 ≤ ar1.toInt ∧ ar1.toInt < (L.length : Int) ∧ 0 ≤ ar2.toInt ∧ ar2.toInt ≤ 2) → ((-1) : Int) = -1) from (by
                                                            intro L h hL
                                                            obtain ⟨hn, hl⟩ := h
                                                            have hk : (gi 28 8).toInt = (L.length : Int) := hn
                                                            exact ⟨fun h => absurd h (by omega), fun _ => rfl⟩))⟩⟩
  · have l4 : 0 ≤ ar2.toInt := t_lel (t_nlt h1) (by decide : (0:Int) ≤ (0:Int32).toInt)
    refine ev_loc f_X11_planAt (nx := 5) rfl rfl rfl rfl ?_
    refine ev_ic f_X11_planAt (nx := 6) (v := 2) rfl (by decide) rfl ?_
    refine ev_if f_X11_planAt (t1 := 15) (t2 := 9) rfl rfl rfl (fun h5 => ?_) (fun h5 => ?_)
    · have u6 : ar2.toInt ≤ 2 := t_leu h5 (by decide : (2:Int32).toInt ≤ (2:Int))
      refine ev_loc f_X11_planAt (nx := 16) rfl rfl rfl rfl ?_
      refine ev_if f_X11_planAt (t1 := 30) (t2 := 19) rfl rfl rfl (fun h7 => ?_) (fun h7 => ?_)
      · have u8 : ar1.toInt ≤ (-1) := t_ltu h7 (by decide : (0:Int32).toInt ≤ (0:Int)) rfl
        refine ev_loc f_X11_planAt (nx := 31) rfl rfl rfl rfl ?_
        refine ev_bp f_X11_planAt (nx := 33) (v := 6) rfl (by decide) rfl ?_
        refine ev_inV2 f_X11_planAt (nx := 36) (lo2 := [(0, .ref 0), (1, .int 6)]) rfl rfl rfl rfl f_X11_refuse (hI.wf.s rfl) rfl rfl rfl rfl rfl ?_
        refine ev_loc f_X11_refuse (nx := 1) rfl rfl rfl rfl ?_
        refine ev_loc f_X11_refuse (nx := 2) rfl rfl rfl rfl ?_
        refine ev_putIT f_X11_refuse (nx := 5) rfl (hI.wf.s rfl) rfl rfl rfl (hI.put0 (hI.wf.s rfl) rfl rfl) (hX.upI rfl) (fun g9 e9 hI hX => ?_)
        refine ev_ic f_X11_refuse (nx := 6) (v := -1) rfl (by decide) rfl ?_
        refine ev_retK1 f_X11_refuse rfl rfl rfl ?_
        exact ev_ret f_X11_planAt rfl rfl rfl ⟨_, _, _, rfl, hI, hX, ⟨_, rfl, (Int.le_trans (by decide : ((-2147483648):Int) ≤ (-1)) (by decide : ((-1):Int) ≤ ((-1):Int32).toInt)), (Int.le_trans (by decide : ((-1):Int32).toInt ≤ ((-1):Int)) (by decide : ((-1):Int) ≤ 2147483647)), (show ∀ L : s_RL, s_P2 gi L → s_LP L → ((0 ≤ ar1.toInt ∧ ar1.toInt < (L.length : Int) ∧ 0 ≤ ar2.toInt ∧ ar2.toInt ≤ 2) → ((-1) : Int) = s_pd L ar1.toNatClampNeg ar2.toInt) ∧ (¬ (0 ≤ ar1.toInt ∧ ar1.toInt < (L.length : Int) ∧ 0 ≤ ar2.toInt ∧ ar2.toInt ≤ 2) → ((-1) : Int) = -1) from (by
                                                            intro L h hL
                                                            obtain ⟨hn, hl⟩ := h
                                                            have hk : (gi 28 8).toInt = (L.length : Int) := hn
                                                            exact ⟨fun h => absurd h (by omega), fun _ => rfl⟩))⟩⟩
      · have l10 : 0 ≤ ar1.toInt := t_lel (t_nlt h7) (by decide : (0:Int) ≤ (0:Int32).toInt)
        refine ev_loc f_X11_planAt (nx := 20) rfl rfl rfl rfl ?_
        refine ev_loc f_X11_planAt (nx := 21) rfl rfl rfl rfl ?_
        refine ev_getR f_X11_planAt (nx := 24) rfl (hI.wf.s rfl) rfl rfl (hI.wf.r rfl) rfl rfl ?_
        refine ev_getI f_X11_planAt (nx := 27) rfl (hI.wf.s rfl) rfl rfl rfl ?_
        obtain ⟨l11, u11⟩ := hI.b (hI.wf.s (k := 28) rfl) (t_bdK rfl : t_bd 1 8 = some (0, 24))
        refine ev_if f_X11_planAt (t1 := 37) (t2 := 30) rfl rfl rfl (fun h12 => ?_) (fun h12 => ?_)
        · have r13 : ar1.toInt < (gi 28 8).toInt := Int32.lt_iff_toInt_lt.mp h12
          have u14 : ar1.toInt ≤ 23 := t_ltu h12 u11 rfl
          have l15 : 1 ≤ (gi 28 8).toInt := t_ltl h12 l10 rfl
          refine ev_loc f_X11_planAt (nx := 38) rfl rfl rfl rfl ?_
          refine ev_ic f_X11_planAt (nx := 39) (v := 2) rfl (by decide) rfl ?_
          refine ev_if f_X11_planAt (t1 := 42) (t2 := 64) rfl rfl rfl (fun h16 => ?_) (fun h16 => ?_)
          · have l17 : 2 ≤ ar2.toInt := t_eql h16 (by decide : (2:Int) ≤ (2:Int32).toInt)
            refine ev_loc f_X11_planAt (nx := 43) rfl rfl rfl rfl ?_
            refine ev_getR f_X11_planAt (nx := 46) rfl (hI.wf.s rfl) rfl rfl (hI.wf.r rfl) rfl rfl ?_
            refine ev_getR f_X11_planAt (nx := 49) rfl (hI.wf.s rfl) rfl rfl (hI.wf.r rfl) rfl rfl ?_
            refine ev_ic f_X11_planAt (nx := 50) (v := 3) rfl (by decide) rfl ?_
            refine ev_loc f_X11_planAt (nx := 51) rfl rfl rfl rfl ?_
            refine ev_mulL f_X11_planAt (nx := 52) (c := 3) (l := 0) (u := 69) rfl (by decide) (by decide) l10 u14 rfl rfl (by decide) (by decide) rfl (fun z18 e18 l18 u18 => ?_)
            refine ev_ialdT f_X11_planAt (nx := 53) rfl (hI.wf.s rfl) l18 (by decide) u18 (by decide) rfl (fun w19 e19 => ?_)
            refine ev_ic f_X11_planAt (nx := 54) (v := 2) rfl (by decide) rfl ?_
            refine ev_if f_X11_planAt (t1 := 57) (t2 := 64) rfl rfl rfl (fun h20 => ?_) (fun h20 => ?_)
            · have u21 : w19.toInt ≤ 2 := t_equ h20 (by decide : (2:Int32).toInt ≤ (2:Int))
              have l22 : 2 ≤ w19.toInt := t_eql h20 (by decide : (2:Int) ≤ (2:Int32).toInt)
              refine ev_loc f_X11_planAt (nx := 58) rfl rfl rfl rfl ?_
              refine ev_bp f_X11_planAt (nx := 60) (v := 6) rfl (by decide) rfl ?_
              refine ev_inV2 f_X11_planAt (nx := 63) (lo2 := [(0, .ref 0), (1, .int 6)]) rfl rfl rfl rfl f_X11_refuse (hI.wf.s rfl) rfl rfl rfl rfl rfl ?_
              refine ev_loc f_X11_refuse (nx := 1) rfl rfl rfl rfl ?_
              refine ev_loc f_X11_refuse (nx := 2) rfl rfl rfl rfl ?_
              refine ev_putIT f_X11_refuse (nx := 5) rfl (hI.wf.s rfl) rfl rfl rfl (hI.put0 (hI.wf.s rfl) rfl rfl) (hX.upI rfl) (fun g23 e23 hI hX => ?_)
              refine ev_ic f_X11_refuse (nx := 6) (v := -1) rfl (by decide) rfl ?_
              refine ev_retK1 f_X11_refuse rfl rfl rfl ?_
              exact ev_ret f_X11_planAt rfl rfl rfl ⟨_, _, _, rfl, hI, hX, ⟨_, rfl, (Int.le_trans (by decide : ((-2147483648):Int) ≤ (-1)) (by decide : ((-1):Int) ≤ ((-1):Int32).toInt)), (Int.le_trans (by decide : ((-1):Int32).toInt ≤ ((-1):Int)) (by decide : ((-1):Int) ≤ 2147483647)), (show ∀ L : s_RL, s_P2 gi L → s_LP L → ((0 ≤ ar1.toInt ∧ ar1.toInt < (L.length : Int) ∧ 0 ≤ ar2.toInt ∧ ar2.toInt ≤ 2) → ((-1) : Int) = s_pd L ar1.toNatClampNeg ar2.toInt) ∧ (¬ (0 ≤ ar1.toInt ∧ ar1.toInt < (L.length : Int) ∧ 0 ≤ ar2.toInt ∧ ar2.toInt ≤ 2) → ((-1) : Int) = -1) from (by
                                                            intro L h hL
                                                            obtain ⟨hn, hl⟩ := h
                                                            have hk : (gi 28 8).toInt = (L.length : Int) := hn
                                                            refine ⟨fun _ => ?_, fun h => absurd (show _ from ⟨by omega, by omega, by omega, by omega⟩) h⟩
                                                            have c1 := t_clamp (i := ar1) (by omega)
                                                            obtain ⟨t, ht⟩ := s_pd_g (L := L) (k := ar1.toNatClampNeg) (by omega)
                                                            obtain ⟨v1, v2, v3⟩ := hl _ t ht
                                                            obtain ⟨d0, d1, d2⟩ := s_pd_0 ht
                                                            have ho := hL _ t ht
                                                            have c2 := t_clamp (i := z18) (by omega)
                                                            have e53 : w19.toInt = t.1 := by rw [e19, show z18.toNatClampNeg = 3 * ar1.toNatClampNeg by omega]; exact v1
                                                            rw [show ar2.toInt = 2 by omega, d2]
                                                            have k1 : (-1 : Int32).toInt = -1 := rfl
                                                            rcases ho with h9 | h9 <;> omega))⟩⟩
            · have r24 : w19.toInt ≠ 2 := fun e => h20 (Int32.toInt_inj.mp (e.trans (by decide : (2:Int) = (2 : Int32).toInt)))
              refine ev_loc f_X11_planAt (nx := 65) rfl rfl rfl rfl ?_
              refine ev_loc f_X11_planAt (nx := 66) rfl rfl rfl rfl ?_
              refine ev_getR f_X11_planAt (nx := 69) rfl (hI.wf.s rfl) rfl rfl (hI.wf.r rfl) rfl rfl ?_
              refine ev_getR f_X11_planAt (nx := 72) rfl (hI.wf.s rfl) rfl rfl (hI.wf.r rfl) rfl rfl ?_
              refine ev_ic f_X11_planAt (nx := 73) (v := 3) rfl (by decide) rfl ?_
              refine ev_loc f_X11_planAt (nx := 74) rfl rfl rfl rfl ?_
              refine ev_mulL f_X11_planAt (nx := 75) (c := 3) (l := 0) (u := 69) rfl (by decide) (by decide) l10 u14 rfl rfl (by decide) (by decide) rfl (fun z25 e25 l25 u25 => ?_)
              refine ev_loc f_X11_planAt (nx := 76) rfl rfl rfl rfl ?_
              refine ev_addR f_X11_planAt (nx := 77) (l := 2) (u := 71) rfl l25 u25 l17 u6 rfl rfl (by decide) (by decide) rfl (fun z26 e26 l26 u26 => ?_)
              refine ev_ialdT f_X11_planAt (nx := 78) rfl (hI.wf.s rfl) l26 (by decide) u26 (by decide) rfl (fun w27 e27 => ?_)
              refine ev_inV2 f_X11_planAt (nx := 81) (lo2 := [(0, .ref 0), (1, .int w27)]) rfl rfl rfl rfl f_X11_answer (hI.wf.s rfl) rfl rfl rfl rfl rfl ?_
              refine ev_loc f_X11_answer (nx := 1) rfl rfl rfl rfl ?_
              refine ev_ic f_X11_answer (nx := 2) (v := 0) rfl (by decide) rfl ?_
              refine ev_putIT f_X11_answer (nx := 5) rfl (hI.wf.s rfl) rfl rfl rfl (hI.put0 (hI.wf.s rfl) rfl rfl) (hX.upI rfl) (fun g28 e28 hI hX => ?_)
              refine ev_loc f_X11_answer (nx := 6) rfl rfl rfl rfl ?_
              refine ev_retK1 f_X11_answer rfl rfl rfl ?_
              exact ev_ret f_X11_planAt rfl rfl rfl ⟨_, _, _, rfl, hI, hX, ⟨_, rfl, (t_lo w27), (t_hi w27), (show ∀ L : s_RL, s_P2 gi L → s_LP L → ((0 ≤ ar1.toInt ∧ ar1.toInt < (L.length : Int) ∧ 0 ≤ ar2.toInt ∧ ar2.toInt ≤ 2) → w27.toInt = s_pd L ar1.toNatClampNeg ar2.toInt) ∧ (¬ (0 ≤ ar1.toInt ∧ ar1.toInt < (L.length : Int) ∧ 0 ≤ ar2.toInt ∧ ar2.toInt ≤ 2) → w27.toInt = -1) from (by
                                                            intro L h hL
                                                            obtain ⟨hn, hl⟩ := h
                                                            have hk : (gi 28 8).toInt = (L.length : Int) := hn
                                                            refine ⟨fun _ => ?_, fun h => absurd (show _ from ⟨by omega, by omega, by omega, by omega⟩) h⟩
                                                            have c1 := t_clamp (i := ar1) (by omega)
                                                            obtain ⟨t, ht⟩ := s_pd_g (L := L) (k := ar1.toNatClampNeg) (by omega)
                                                            obtain ⟨v1, v2, v3⟩ := hl _ t ht
                                                            obtain ⟨d0, d1, d2⟩ := s_pd_0 ht
                                                            have ho := hL _ t ht
                                                            have c3 := t_clamp (i := z26) (by omega)
                                                            rw [e27, show z26.toNatClampNeg = 3 * ar1.toNatClampNeg + 2 by omega, show ar2.toInt = 2 by omega, d2]; exact v3))⟩⟩
          · have r29 : ar2.toInt ≠ 2 := fun e => h16 (Int32.toInt_inj.mp (e.trans (by decide : (2:Int) = (2 : Int32).toInt)))
            have u30 : ar2.toInt ≤ 1 := t_neu h16 u6 rfl rfl
            refine ev_loc f_X11_planAt (nx := 65) rfl rfl rfl rfl ?_
            refine ev_loc f_X11_planAt (nx := 66) rfl rfl rfl rfl ?_
            refine ev_getR f_X11_planAt (nx := 69) rfl (hI.wf.s rfl) rfl rfl (hI.wf.r rfl) rfl rfl ?_
            refine ev_getR f_X11_planAt (nx := 72) rfl (hI.wf.s rfl) rfl rfl (hI.wf.r rfl) rfl rfl ?_
            refine ev_ic f_X11_planAt (nx := 73) (v := 3) rfl (by decide) rfl ?_
            refine ev_loc f_X11_planAt (nx := 74) rfl rfl rfl rfl ?_
            refine ev_mulL f_X11_planAt (nx := 75) (c := 3) (l := 0) (u := 69) rfl (by decide) (by decide) l10 u14 rfl rfl (by decide) (by decide) rfl (fun z31 e31 l31 u31 => ?_)
            refine ev_loc f_X11_planAt (nx := 76) rfl rfl rfl rfl ?_
            refine ev_addR f_X11_planAt (nx := 77) (l := 0) (u := 70) rfl l31 u31 l4 u30 rfl rfl (by decide) (by decide) rfl (fun z32 e32 l32 u32 => ?_)
            refine ev_ialdT f_X11_planAt (nx := 78) rfl (hI.wf.s rfl) l32 (by decide) u32 (by decide) rfl (fun w33 e33 => ?_)
            refine ev_inV2 f_X11_planAt (nx := 81) (lo2 := [(0, .ref 0), (1, .int w33)]) rfl rfl rfl rfl f_X11_answer (hI.wf.s rfl) rfl rfl rfl rfl rfl ?_
            refine ev_loc f_X11_answer (nx := 1) rfl rfl rfl rfl ?_
            refine ev_ic f_X11_answer (nx := 2) (v := 0) rfl (by decide) rfl ?_
            refine ev_putIT f_X11_answer (nx := 5) rfl (hI.wf.s rfl) rfl rfl rfl (hI.put0 (hI.wf.s rfl) rfl rfl) (hX.upI rfl) (fun g34 e34 hI hX => ?_)
            refine ev_loc f_X11_answer (nx := 6) rfl rfl rfl rfl ?_
            refine ev_retK1 f_X11_answer rfl rfl rfl ?_
            exact ev_ret f_X11_planAt rfl rfl rfl ⟨_, _, _, rfl, hI, hX, ⟨_, rfl, (t_lo w33), (t_hi w33), (show ∀ L : s_RL, s_P2 gi L → s_LP L → ((0 ≤ ar1.toInt ∧ ar1.toInt < (L.length : Int) ∧ 0 ≤ ar2.toInt ∧ ar2.toInt ≤ 2) → w33.toInt = s_pd L ar1.toNatClampNeg ar2.toInt) ∧ (¬ (0 ≤ ar1.toInt ∧ ar1.toInt < (L.length : Int) ∧ 0 ≤ ar2.toInt ∧ ar2.toInt ≤ 2) → w33.toInt = -1) from (by
                                                            intro L h hL
                                                            obtain ⟨hn, hl⟩ := h
                                                            have hk : (gi 28 8).toInt = (L.length : Int) := hn
                                                            refine ⟨fun _ => ?_, fun h => absurd (show _ from ⟨by omega, by omega, by omega, by omega⟩) h⟩
                                                            have c1 := t_clamp (i := ar1) (by omega)
                                                            obtain ⟨t, ht⟩ := s_pd_g (L := L) (k := ar1.toNatClampNeg) (by omega)
                                                            obtain ⟨v1, v2, v3⟩ := hl _ t ht
                                                            obtain ⟨d0, d1, d2⟩ := s_pd_0 ht
                                                            have ho := hL _ t ht
                                                            have c3 := t_clamp (i := z32) (by omega)
                                                            rcases (show ar2.toInt = 0 ∨ ar2.toInt = 1 by omega) with h9 | h9
                                                            · rw [e33, show z32.toNatClampNeg = 3 * ar1.toNatClampNeg by omega, h9, d0]; exact v1
                                                            · rw [e33, show z32.toNatClampNeg = 3 * ar1.toNatClampNeg + 1 by omega, h9, d1]; exact v2))⟩⟩
        · have r35 : (gi 28 8).toInt ≤ ar1.toInt := Int32.le_iff_toInt_le.mp (t_nlt h12)
          refine ev_loc f_X11_planAt (nx := 31) rfl rfl rfl rfl ?_
          refine ev_bp f_X11_planAt (nx := 33) (v := 6) rfl (by decide) rfl ?_
          refine ev_inV2 f_X11_planAt (nx := 36) (lo2 := [(0, .ref 0), (1, .int 6)]) rfl rfl rfl rfl f_X11_refuse (hI.wf.s rfl) rfl rfl rfl rfl rfl ?_
          refine ev_loc f_X11_refuse (nx := 1) rfl rfl rfl rfl ?_
          refine ev_loc f_X11_refuse (nx := 2) rfl rfl rfl rfl ?_
          refine ev_putIT f_X11_refuse (nx := 5) rfl (hI.wf.s rfl) rfl rfl rfl (hI.put0 (hI.wf.s rfl) rfl rfl) (hX.upI rfl) (fun g36 e36 hI hX => ?_)
          refine ev_ic f_X11_refuse (nx := 6) (v := -1) rfl (by decide) rfl ?_
          refine ev_retK1 f_X11_refuse rfl rfl rfl ?_
          exact ev_ret f_X11_planAt rfl rfl rfl ⟨_, _, _, rfl, hI, hX, ⟨_, rfl, (Int.le_trans (by decide : ((-2147483648):Int) ≤ (-1)) (by decide : ((-1):Int) ≤ ((-1):Int32).toInt)), (Int.le_trans (by decide : ((-1):Int32).toInt ≤ ((-1):Int)) (by decide : ((-1):Int) ≤ 2147483647)), (show ∀ L : s_RL, s_P2 gi L → s_LP L → ((0 ≤ ar1.toInt ∧ ar1.toInt < (L.length : Int) ∧ 0 ≤ ar2.toInt ∧ ar2.toInt ≤ 2) → ((-1) : Int) = s_pd L ar1.toNatClampNeg ar2.toInt) ∧ (¬ (0 ≤ ar1.toInt ∧ ar1.toInt < (L.length : Int) ∧ 0 ≤ ar2.toInt ∧ ar2.toInt ≤ 2) → ((-1) : Int) = -1) from (by
                                                            intro L h hL
                                                            obtain ⟨hn, hl⟩ := h
                                                            have hk : (gi 28 8).toInt = (L.length : Int) := hn
                                                            exact ⟨fun h => absurd h (by omega), fun _ => rfl⟩))⟩⟩
    · have l37 : 3 ≤ ar2.toInt := t_ltl (t_nle h5) (by decide : (2:Int) ≤ (2:Int32).toInt) rfl
      refine ev_loc f_X11_planAt (nx := 10) rfl rfl rfl rfl ?_
      refine ev_ic f_X11_planAt (nx := 11) (v := 1) rfl (by decide) rfl ?_
      refine ev_inV2 f_X11_planAt (nx := 14) (lo2 := [(0, .ref 0), (1, .int 1)]) rfl rfl rfl rfl f_X11_refuse (hI.wf.s rfl) rfl rfl rfl rfl rfl ?_
      refine ev_loc f_X11_refuse (nx := 1) rfl rfl rfl rfl ?_
      refine ev_loc f_X11_refuse (nx := 2) rfl rfl rfl rfl ?_
      refine ev_putIT f_X11_refuse (nx := 5) rfl (hI.wf.s rfl) rfl rfl rfl (hI.put0 (hI.wf.s rfl) rfl rfl) (hX.upI rfl) (fun g38 e38 hI hX => ?_)
      refine ev_ic f_X11_refuse (nx := 6) (v := -1) rfl (by decide) rfl ?_
      refine ev_retK1 f_X11_refuse rfl rfl rfl ?_
      exact ev_ret f_X11_planAt rfl rfl rfl ⟨_, _, _, rfl, hI, hX, ⟨_, rfl, (Int.le_trans (by decide : ((-2147483648):Int) ≤ (-1)) (by decide : ((-1):Int) ≤ ((-1):Int32).toInt)), (Int.le_trans (by decide : ((-1):Int32).toInt ≤ ((-1):Int)) (by decide : ((-1):Int) ≤ 2147483647)), (show ∀ L : s_RL, s_P2 gi L → s_LP L → ((0 ≤ ar1.toInt ∧ ar1.toInt < (L.length : Int) ∧ 0 ≤ ar2.toInt ∧ ar2.toInt ≤ 2) → ((-1) : Int) = s_pd L ar1.toNatClampNeg ar2.toInt) ∧ (¬ (0 ≤ ar1.toInt ∧ ar1.toInt < (L.length : Int) ∧ 0 ≤ ar2.toInt ∧ ar2.toInt ≤ 2) → ((-1) : Int) = -1) from (by
                                                            intro L h hL
                                                            obtain ⟨hn, hl⟩ := h
                                                            have hk : (gi 28 8).toInt = (L.length : Int) := hn
                                                            exact ⟨fun h => absurd h (by omega), fun _ => rfl⟩))⟩⟩
