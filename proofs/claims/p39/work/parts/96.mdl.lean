/-! ===== printed by mdl10.py: contracts of the model ===== -/
noncomputable def wl_m_leftAt : List (Nat × Nat) := []
noncomputable def Q_m_leftAt (gi : Nat → Nat → Int32) (gl : Nat → Nat → Int64) (gr : Nat → Nat → Value) (ar1 : Int32) (ar2 : Int32) (ar3 : Int32) (ar4 : Int32) : Int32 → (Nat → Nat → Int32) → (Nat → Nat → Int64) → (Nat → Nat → Value) → Prop := fun (v : Int32) (gi2 : Nat → Nat → Int32) (gl2 : Nat → Nat → Int64) (gr2 : Nat → Nat → Value) => v.toInt = t_la (gi 92) (t_S gi) (t_C gi) ar1.toInt.toNat ar2.toInt.toNat ar3.toInt.toNat ar4.toInt.toNat
theorem c_m_leftAt {X : x_Ext} {d : Nat} {sh : List (Nat ⊕ (Nat × Nat))} {gi : Nat → Nat → Int32} {gl : Nat → Nat → Int64} {gr : Nat → Nat → Value} (hI : t_I sh gi gr) (ar1 : Int32) (l_a1 : 0 ≤ ar1.toInt) (u_a1 : ar1.toInt ≤ 300) (ar2 : Int32) (l_a2 : 0 ≤ ar2.toInt) (u_a2 : ar2.toInt ≤ 1) (ar3 : Int32) (l_a3 : 0 ≤ ar3.toInt) (u_a3 : ar3.toInt ≤ 6) (ar4 : Int32) (l_a4 : 0 ≤ ar4.toInt) (u_a4 : ar4.toInt ≤ 6) : x_Me X (d + 2) n_X12_leftAt [.ref 69, .int ar1, .int ar2, .int ar3, .int ar4] (sh, gi, gl, gr) (t_PI wl_m_leftAt sh gi gl gr (-2147483648) 2147483647 (Q_m_leftAt gi gl gr ar1 ar2 ar3 ar4)) := by
  have hX : t_X wl_m_leftAt sh gi gl gr gi gl gr := t_X.rf
  refine me_i f_X12_leftAt (hI.wf.s rfl) rfl rfl rfl ?_
  refine ev_loc f_X12_leftAt (nx := 1) rfl rfl rfl rfl ?_
  refine ev_loc f_X12_leftAt (nx := 2) rfl rfl rfl rfl ?_
  refine ev_getI f_X12_leftAt (nx := 5) rfl (hI.wf.s rfl) rfl rfl rfl ?_
  obtain ⟨l1, u1⟩ := hI.b (hI.wf.s (k := 69) rfl) (t_bdK rfl : t_bd 11 44 = some (0, 6))
  refine ev_if f_X12_leftAt (t1 := 8) (t2 := 19) rfl rfl rfl (fun h2 => ?_) (fun h2 => ?_)
  · have r3 : ar3.toInt = (gi 69 44).toInt := t_eqi h2
    refine ev_loc f_X12_leftAt (nx := 10) rfl rfl rfl rfl ?_
    refine ev_loc f_X12_leftAt (nx := 11) rfl rfl rfl rfl ?_
    refine ev_getI f_X12_leftAt (nx := 14) rfl (hI.wf.s rfl) rfl rfl rfl ?_
    obtain ⟨l4, u4⟩ := hI.b (hI.wf.s (k := 69) rfl) (t_bdK rfl : t_bd 11 45 = some (0, 6))
    refine ev_if f_X12_leftAt (t1 := 17) (t2 := 19) rfl rfl rfl (fun h5 => ?_) (fun h5 => ?_)
    · have r6 : ar4.toInt = (gi 69 45).toInt := t_eqi h5
      refine ev_ic f_X12_leftAt (nx := 18) (v := 0) rfl (by decide) rfl ?_
      exact ev_ret f_X12_leftAt rfl rfl rfl ⟨_, _, _, rfl, hI, hX, ⟨_, rfl, (Int.le_trans (by decide : ((-2147483648):Int) ≤ 0) (by decide : (0:Int) ≤ (0:Int32).toInt)), (Int.le_trans (by decide : (0:Int32).toInt ≤ (0:Int)) (by decide : (0:Int) ≤ 2147483647)), (show 0 = t_la (gi 92) (t_S gi) (t_C gi) ar1.toInt.toNat ar2.toInt.toNat ar3.toInt.toNat ar4.toInt.toNat from (by unfold t_la t_S t_C; rw [if_pos (by omega)]))⟩⟩
    · have r7 : ar4.toInt ≠ (gi 69 45).toInt := t_nei h5
      refine ev_loc f_X12_leftAt (nx := 20) rfl rfl rfl rfl ?_
      refine ev_sp f_X12_leftAt (nx := 23) (v := 240) rfl (by decide) rfl ?_
      refine ev_if f_X12_leftAt (t1 := 32) (t2 := 26) rfl rfl rfl (fun h8 => ?_) (fun h8 => ?_)
      · have u9 : ar1.toInt ≤ 240 := t_leu h8 (by decide : (240:Int32).toInt ≤ (240:Int))
        refine ev_loc f_X12_leftAt (nx := 33) rfl rfl rfl rfl ?_
        refine ev_getR f_X12_leftAt (nx := 36) rfl (hI.wf.s rfl) rfl rfl (hI.wf.r rfl) rfl rfl ?_
        refine ev_loc f_X12_leftAt (nx := 37) rfl rfl rfl rfl ?_
        refine ev_loc f_X12_leftAt (nx := 38) rfl rfl rfl rfl ?_
        refine ev_loc f_X12_leftAt (nx := 39) rfl rfl rfl rfl ?_
        refine ev_loc f_X12_leftAt (nx := 41) rfl rfl rfl rfl ?_
        refine ev_inS4 f_X12_leftAt (nx := 44) (lo2 := [(0, .int ar1), (1, .int ar2), (2, .int ar3), (3, .int ar4)]) rfl rfl rfl rfl f_X12_stateOf rfl rfl rfl rfl ?_
        refine ev_ic f_X12_stateOf (nx := 1) (v := 2) rfl (by decide) rfl ?_
        refine ev_loc f_X12_stateOf (nx := 2) rfl rfl rfl rfl ?_
        refine ev_mulL f_X12_stateOf (nx := 3) (c := 2) (l := 0) (u := 480) rfl (by decide) (by decide) l_a1 u9 rfl rfl (by decide) (by decide) rfl (fun z10 e10 l10 u10 => ?_)
        refine ev_loc f_X12_stateOf (nx := 4) rfl rfl rfl rfl ?_
        refine ev_addR f_X12_stateOf (nx := 5) (l := 0) (u := 481) rfl l10 u10 l_a2 u_a2 rfl rfl (by decide) (by decide) rfl (fun z11 e11 l11 u11 => ?_)
        refine ev_bp f_X12_stateOf (nx := 7) (v := 7) rfl (by decide) rfl ?_
        refine ev_mulR f_X12_stateOf (nx := 8) (c := 7) (l := 0) (u := 3367) rfl (by decide) (by decide) l11 u11 rfl rfl (by decide) (by decide) rfl (fun z12 e12 l12 u12 => ?_)
        refine ev_loc f_X12_stateOf (nx := 9) rfl rfl rfl rfl ?_
        refine ev_addR f_X12_stateOf (nx := 10) (l := 0) (u := 3373) rfl l12 u12 l_a3 u_a3 rfl rfl (by decide) (by decide) rfl (fun z13 e13 l13 u13 => ?_)
        refine ev_bp f_X12_stateOf (nx := 12) (v := 7) rfl (by decide) rfl ?_
        refine ev_mulR f_X12_stateOf (nx := 13) (c := 7) (l := 0) (u := 23611) rfl (by decide) (by decide) l13 u13 rfl rfl (by decide) (by decide) rfl (fun z14 e14 l14 u14 => ?_)
        refine ev_loc f_X12_stateOf (nx := 14) rfl rfl rfl rfl ?_
        refine ev_addR f_X12_stateOf (nx := 15) (l := 0) (u := 23617) rfl l14 u14 l_a4 u_a4 rfl rfl (by decide) (by decide) rfl (fun z15 e15 l15 u15 => ?_)
        refine ev_retK1 f_X12_stateOf rfl rfl rfl ?_
        refine ev_ialdT f_X12_leftAt (nx := 45) rfl (hI.wf.s rfl) l15 (by decide) u15 (by decide) rfl (fun w16 e16 => ?_)
        exact ev_ret f_X12_leftAt rfl rfl rfl ⟨_, _, _, rfl, hI, hX, ⟨_, rfl, (t_lo w16), (t_hi w16), (show w16.toInt = t_la (gi 92) (t_S gi) (t_C gi) ar1.toInt.toNat ar2.toInt.toNat ar3.toInt.toNat ar4.toInt.toNat from (by unfold t_la t_S t_C; rw [if_neg (by omega), if_neg (by omega), e16]; congr 2; have hc := t_clamp (i := z15) (by omega); unfold t_ix; omega))⟩⟩
      · have l17 : 241 ≤ ar1.toInt := t_ltl (t_nle h8) (by decide : (240:Int) ≤ (240:Int32).toInt) rfl
        refine ev_ldW f_X12_leftAt (nx := 29) (v := 1000000000) rfl (by decide) rfl ?_
        refine ev_jmp f_X12_leftAt (nx := 45) rfl rfl rfl ?_
        exact ev_ret f_X12_leftAt rfl rfl rfl ⟨_, _, _, rfl, hI, hX, ⟨_, rfl, (Int.le_trans (by decide : ((-2147483648):Int) ≤ 1000000000) (by decide : (1000000000:Int) ≤ (1000000000:Int32).toInt)), (Int.le_trans (by decide : (1000000000:Int32).toInt ≤ (1000000000:Int)) (by decide : (1000000000:Int) ≤ 2147483647)), (show 1000000000 = t_la (gi 92) (t_S gi) (t_C gi) ar1.toInt.toNat ar2.toInt.toNat ar3.toInt.toNat ar4.toInt.toNat from (by unfold t_la t_S t_C; rw [if_neg (by omega), if_pos (by omega)]))⟩⟩
  · have r18 : ar3.toInt ≠ (gi 69 44).toInt := t_nei h2
    refine ev_loc f_X12_leftAt (nx := 20) rfl rfl rfl rfl ?_
    refine ev_sp f_X12_leftAt (nx := 23) (v := 240) rfl (by decide) rfl ?_
    refine ev_if f_X12_leftAt (t1 := 32) (t2 := 26) rfl rfl rfl (fun h19 => ?_) (fun h19 => ?_)
    · have u20 : ar1.toInt ≤ 240 := t_leu h19 (by decide : (240:Int32).toInt ≤ (240:Int))
      refine ev_loc f_X12_leftAt (nx := 33) rfl rfl rfl rfl ?_
      refine ev_getR f_X12_leftAt (nx := 36) rfl (hI.wf.s rfl) rfl rfl (hI.wf.r rfl) rfl rfl ?_
      refine ev_loc f_X12_leftAt (nx := 37) rfl rfl rfl rfl ?_
      refine ev_loc f_X12_leftAt (nx := 38) rfl rfl rfl rfl ?_
      refine ev_loc f_X12_leftAt (nx := 39) rfl rfl rfl rfl ?_
      refine ev_loc f_X12_leftAt (nx := 41) rfl rfl rfl rfl ?_
      refine ev_inS4 f_X12_leftAt (nx := 44) (lo2 := [(0, .int ar1), (1, .int ar2), (2, .int ar3), (3, .int ar4)]) rfl rfl rfl rfl f_X12_stateOf rfl rfl rfl rfl ?_
      refine ev_ic f_X12_stateOf (nx := 1) (v := 2) rfl (by decide) rfl ?_
      refine ev_loc f_X12_stateOf (nx := 2) rfl rfl rfl rfl ?_
      refine ev_mulL f_X12_stateOf (nx := 3) (c := 2) (l := 0) (u := 480) rfl (by decide) (by decide) l_a1 u20 rfl rfl (by decide) (by decide) rfl (fun z21 e21 l21 u21 => ?_)
      refine ev_loc f_X12_stateOf (nx := 4) rfl rfl rfl rfl ?_
      refine ev_addR f_X12_stateOf (nx := 5) (l := 0) (u := 481) rfl l21 u21 l_a2 u_a2 rfl rfl (by decide) (by decide) rfl (fun z22 e22 l22 u22 => ?_)
      refine ev_bp f_X12_stateOf (nx := 7) (v := 7) rfl (by decide) rfl ?_
      refine ev_mulR f_X12_stateOf (nx := 8) (c := 7) (l := 0) (u := 3367) rfl (by decide) (by decide) l22 u22 rfl rfl (by decide) (by decide) rfl (fun z23 e23 l23 u23 => ?_)
      refine ev_loc f_X12_stateOf (nx := 9) rfl rfl rfl rfl ?_
      refine ev_addR f_X12_stateOf (nx := 10) (l := 0) (u := 3373) rfl l23 u23 l_a3 u_a3 rfl rfl (by decide) (by decide) rfl (fun z24 e24 l24 u24 => ?_)
      refine ev_bp f_X12_stateOf (nx := 12) (v := 7) rfl (by decide) rfl ?_
      refine ev_mulR f_X12_stateOf (nx := 13) (c := 7) (l := 0) (u := 23611) rfl (by decide) (by decide) l24 u24 rfl rfl (by decide) (by decide) rfl (fun z25 e25 l25 u25 => ?_)
      refine ev_loc f_X12_stateOf (nx := 14) rfl rfl rfl rfl ?_
      refine ev_addR f_X12_stateOf (nx := 15) (l := 0) (u := 23617) rfl l25 u25 l_a4 u_a4 rfl rfl (by decide) (by decide) rfl (fun z26 e26 l26 u26 => ?_)
      refine ev_retK1 f_X12_stateOf rfl rfl rfl ?_
      refine ev_ialdT f_X12_leftAt (nx := 45) rfl (hI.wf.s rfl) l26 (by decide) u26 (by decide) rfl (fun w27 e27 => ?_)
      exact ev_ret f_X12_leftAt rfl rfl rfl ⟨_, _, _, rfl, hI, hX, ⟨_, rfl, (t_lo w27), (t_hi w27), (show w27.toInt = t_la (gi 92) (t_S gi) (t_C gi) ar1.toInt.toNat ar2.toInt.toNat ar3.toInt.toNat ar4.toInt.toNat from (by unfold t_la t_S t_C; rw [if_neg (by omega), if_neg (by omega), e27]; congr 2; have hc := t_clamp (i := z26) (by omega); unfold t_ix; omega))⟩⟩
    · have l28 : 241 ≤ ar1.toInt := t_ltl (t_nle h19) (by decide : (240:Int) ≤ (240:Int32).toInt) rfl
      refine ev_ldW f_X12_leftAt (nx := 29) (v := 1000000000) rfl (by decide) rfl ?_
      refine ev_jmp f_X12_leftAt (nx := 45) rfl rfl rfl ?_
      exact ev_ret f_X12_leftAt rfl rfl rfl ⟨_, _, _, rfl, hI, hX, ⟨_, rfl, (Int.le_trans (by decide : ((-2147483648):Int) ≤ 1000000000) (by decide : (1000000000:Int) ≤ (1000000000:Int32).toInt)), (Int.le_trans (by decide : (1000000000:Int32).toInt ≤ (1000000000:Int)) (by decide : (1000000000:Int) ≤ 2147483647)), (show 1000000000 = t_la (gi 92) (t_S gi) (t_C gi) ar1.toInt.toNat ar2.toInt.toNat ar3.toInt.toNat ar4.toInt.toNat from (by unfold t_la t_S t_C; rw [if_neg (by omega), if_pos (by omega)]))⟩⟩
noncomputable def wl_m_turnTime : List (Nat × Nat) := []
noncomputable def Q_m_turnTime (gi : Nat → Nat → Int32) (gl : Nat → Nat → Int64) (gr : Nat → Nat → Value) (ar1 : Int32) (ar2 : Int32) : Int32 → (Nat → Nat → Int32) → (Nat → Nat → Int64) → (Nat → Nat → Value) → Prop := fun (v : Int32) (gi2 : Nat → Nat → Int32) (gl2 : Nat → Nat → Int64) (gr2 : Nat → Nat → Value) => v.toInt = ((t_tt gi ar2.toInt ar1.toInt.toNat : Nat) : Int)
theorem c_m_turnTime {X : x_Ext} {d : Nat} {sh : List (Nat ⊕ (Nat × Nat))} {gi : Nat → Nat → Int32} {gl : Nat → Nat → Int64} {gr : Nat → Nat → Value} (hI : t_I sh gi gr) (ar1 : Int32) (l_a1 : 0 ≤ ar1.toInt) (u_a1 : ar1.toInt ≤ 300) (ar2 : Int32) (l_a2 : 1 ≤ ar2.toInt) (u_a2 : ar2.toInt ≤ 20) : x_Me X (d + 1) n_X12_turnTime [.ref 69, .int ar1, .int ar2] (sh, gi, gl, gr) (t_PI wl_m_turnTime sh gi gl gr 1 40 (Q_m_turnTime gi gl gr ar1 ar2)) := by
  have hX : t_X wl_m_turnTime sh gi gl gr gi gl gr := t_X.rf
  refine me_i f_X12_turnTime (hI.wf.s rfl) rfl rfl rfl ?_
  refine ev_loc f_X12_turnTime (nx := 1) rfl rfl rfl rfl ?_
  refine ev_loc f_X12_turnTime (nx := 2) rfl rfl rfl rfl ?_
  refine ev_getR f_X12_turnTime (nx := 5) rfl (hI.wf.s rfl) rfl rfl (hI.wf.r rfl) rfl rfl ?_
  refine ev_ic f_X12_turnTime (nx := 6) (v := 5) rfl (by decide) rfl ?_
  obtain ⟨l1, u1⟩ := hI.ab (by decide +kernel : t_abr 70 5 5 0 20 = true) (Nat.le_refl _) (Nat.le_refl _)
  refine ev_ialdv f_X12_turnTime (nx := 7) (w := (gi 70 5)) rfl (hI.wf.s rfl) (by decide) (rfl : (5 : Int32).toNatClampNeg = 5) (by decide) rfl rfl ?_
  refine ev_if f_X12_turnTime (t1 := 30) (t2 := 10) rfl rfl rfl (fun h2 => ?_) (fun h2 => ?_)
  · have u3 : (gi 70 5).toInt ≤ 0 := t_leu h2 (by decide : (0:Int32).toInt ≤ (0:Int))
    refine ev_ic f_X12_turnTime (nx := 31) (v := 0) rfl (by decide) rfl ?_
    refine ev_addC f_X12_turnTime (nx := 32) (c := 0) (l := 1) (u := 20) rfl (by decide) l_a2 u_a2 rfl rfl (by decide) (by decide) rfl (fun z4 e4 l4 u4 => ?_)
    exact ev_ret f_X12_turnTime rfl rfl rfl ⟨_, _, _, rfl, hI, hX, ⟨_, rfl, l4, (Int.le_trans u4 (by decide : (20:Int) ≤ 40)), (show z4.toInt = ((t_tt gi ar2.toInt ar1.toInt.toNat : Nat) : Int) from (by unfold t_tt; split <;> omega))⟩⟩
  · have l5 : 1 ≤ (gi 70 5).toInt := t_ltl (t_nle h2) (by decide : (0:Int) ≤ (0:Int32).toInt) rfl
    refine ev_loc f_X12_turnTime (nx := 11) rfl rfl rfl rfl ?_
    refine ev_loc f_X12_turnTime (nx := 12) rfl rfl rfl rfl ?_
    refine ev_getR f_X12_turnTime (nx := 15) rfl (hI.wf.s rfl) rfl rfl (hI.wf.r rfl) rfl rfl ?_
    refine ev_bp f_X12_turnTime (nx := 17) (v := 6) rfl (by decide) rfl ?_
    obtain ⟨l6, u6⟩ := hI.ab (by decide +kernel : t_abr 70 6 6 0 200 = true) (Nat.le_refl _) (Nat.le_refl _)
    refine ev_ialdv f_X12_turnTime (nx := 18) (w := (gi 70 6)) rfl (hI.wf.s rfl) (by decide) (rfl : (6 : Int32).toNatClampNeg = 6) (by decide) rfl rfl ?_
    refine ev_if f_X12_turnTime (t1 := 30) (t2 := 21) rfl rfl rfl (fun h7 => ?_) (fun h7 => ?_)
    · have r8 : ar1.toInt < (gi 70 6).toInt := Int32.lt_iff_toInt_lt.mp h7
      have u9 : ar1.toInt ≤ 199 := t_ltu h7 u6 rfl
      have l10 : 1 ≤ (gi 70 6).toInt := t_ltl h7 l_a1 rfl
      refine ev_ic f_X12_turnTime (nx := 31) (v := 0) rfl (by decide) rfl ?_
      refine ev_addC f_X12_turnTime (nx := 32) (c := 0) (l := 1) (u := 20) rfl (by decide) l_a2 u_a2 rfl rfl (by decide) (by decide) rfl (fun z11 e11 l11 u11 => ?_)
      exact ev_ret f_X12_turnTime rfl rfl rfl ⟨_, _, _, rfl, hI, hX, ⟨_, rfl, l11, (Int.le_trans u11 (by decide : (20:Int) ≤ 40)), (show z11.toInt = ((t_tt gi ar2.toInt ar1.toInt.toNat : Nat) : Int) from (by unfold t_tt; split <;> omega))⟩⟩
    · have r12 : (gi 70 6).toInt ≤ ar1.toInt := Int32.le_iff_toInt_le.mp (t_nlt h7)
      refine ev_loc f_X12_turnTime (nx := 22) rfl rfl rfl rfl ?_
      refine ev_getR f_X12_turnTime (nx := 25) rfl (hI.wf.s rfl) rfl rfl (hI.wf.r rfl) rfl rfl ?_
      refine ev_ic f_X12_turnTime (nx := 26) (v := 5) rfl (by decide) rfl ?_
      refine ev_ialdv f_X12_turnTime (nx := 27) (w := (gi 70 5)) rfl (hI.wf.s rfl) (by decide) (rfl : (5 : Int32).toNatClampNeg = 5) (by decide) rfl rfl ?_
      refine ev_jmp f_X12_turnTime (nx := 31) rfl rfl rfl ?_
      refine ev_addR f_X12_turnTime (nx := 32) (l := 2) (u := 40) rfl l_a2 u_a2 l5 u1 rfl rfl (by decide) (by decide) rfl (fun z14 e14 l14 u14 => ?_)
      exact ev_ret f_X12_turnTime rfl rfl rfl ⟨_, _, _, rfl, hI, hX, ⟨_, rfl, (Int.le_trans (by decide : (1:Int) ≤ 2) l14), u14, (show z14.toInt = ((t_tt gi ar2.toInt ar1.toInt.toNat : Nat) : Int) from (by unfold t_tt; split <;> omega))⟩⟩
noncomputable def wl_m_mayShip : List (Nat × Nat) := []
noncomputable def Q_m_mayShip (gi : Nat → Nat → Int32) (gl : Nat → Nat → Int64) (gr : Nat → Nat → Value) (ar1 : Int32) (ar2 : Int32) (ar3 : Int32) : Int32 → (Nat → Nat → Int32) → (Nat → Nat → Int64) → (Nat → Nat → Value) → Prop := fun (v : Int32) (gi2 : Nat → Nat → Int32) (gl2 : Nat → Nat → Int64) (gr2 : Nat → Nat → Value) => (v.toInt = 1 ↔ t_mayS gi ar1.toInt.toNat ar2.toInt.toNat ar3.toInt.toNat)
theorem c_m_mayShip {X : x_Ext} {d : Nat} {sh : List (Nat ⊕ (Nat × Nat))} {gi : Nat → Nat → Int32} {gl : Nat → Nat → Int64} {gr : Nat → Nat → Value} (hI : t_I sh gi gr) (ar1 : Int32) (l_a1 : 0 ≤ ar1.toInt) (u_a1 : ar1.toInt ≤ 240) (ar2 : Int32) (l_a2 : 0 ≤ ar2.toInt) (u_a2 : ar2.toInt ≤ 1) (ar3 : Int32) (l_a3 : 0 ≤ ar3.toInt) (u_a3 : ar3.toInt ≤ 6) (e_p0 : ar3.toInt ≤ (gi 69 44).toInt) : x_Me X (d + 2) n_X12_mayShip [.ref 69, .int ar1, .int ar2, .int ar3] (sh, gi, gl, gr) (t_PI wl_m_mayShip sh gi gl gr 0 1 (Q_m_mayShip gi gl gr ar1 ar2 ar3)) := by
  have hX : t_X wl_m_mayShip sh gi gl gr gi gl gr := t_X.rf
  refine me_i f_X12_mayShip (hI.wf.s rfl) rfl rfl rfl ?_
  obtain ⟨l1, u1⟩ := hI.b (hI.wf.s (k := 69) rfl) (t_bdK rfl : t_bd 11 44 = some (0, 6))
  refine ev_loc f_X12_mayShip (nx := 1) rfl rfl rfl rfl ?_
  refine ev_if f_X12_mayShip (t1 := 27) (t2 := 4) rfl rfl rfl (fun h2 => ?_) (fun h2 => ?_)
  · have u3 : ar2.toInt ≤ 0 := t_equ h2 (by decide : (0:Int32).toInt ≤ (0:Int))
    refine ev_ic f_X12_mayShip (nx := 28) (v := 0) rfl (by decide) rfl ?_
    exact ev_ret f_X12_mayShip rfl rfl rfl ⟨_, _, _, rfl, hI, hX, ⟨_, rfl, (by decide : (0:Int) ≤ (0:Int32).toInt), (Int.le_trans (by decide : (0:Int32).toInt ≤ (0:Int)) (by decide : (0:Int) ≤ 1)), (show (0 = 1 ↔ t_mayS gi ar1.toInt.toNat ar2.toInt.toNat ar3.toInt.toNat) from (by unfold t_mayS t_S; omega))⟩⟩
  · have r4 : ar2.toInt ≠ 0 := fun e => h2 (Int32.toInt_inj.mp (e.trans (by decide : (0:Int) = (0 : Int32).toInt)))
    have l5 : 1 ≤ ar2.toInt := t_nel h2 l_a2 rfl rfl
    refine ev_loc f_X12_mayShip (nx := 5) rfl rfl rfl rfl ?_
    refine ev_loc f_X12_mayShip (nx := 6) rfl rfl rfl rfl ?_
    refine ev_gvI f_X12_mayShip (nx := 9) (w := (gi 69 44)) rfl (hI.wf.s rfl) rfl rfl rfl rfl ?_
    refine ev_if f_X12_mayShip (t1 := 27) (t2 := 12) rfl rfl rfl (fun h6 => ?_) (fun h6 => ?_)
    · have r7 : ar3.toInt = (gi 69 44).toInt := t_eqi h6
      refine ev_ic f_X12_mayShip (nx := 28) (v := 0) rfl (by decide) rfl ?_
      exact ev_ret f_X12_mayShip rfl rfl rfl ⟨_, _, _, rfl, hI, hX, ⟨_, rfl, (by decide : (0:Int) ≤ (0:Int32).toInt), (Int.le_trans (by decide : (0:Int32).toInt ≤ (0:Int)) (by decide : (0:Int) ≤ 1)), (show (0 = 1 ↔ t_mayS gi ar1.toInt.toNat ar2.toInt.toNat ar3.toInt.toNat) from (by unfold t_mayS t_S; omega))⟩⟩
    · have r8 : ar3.toInt ≠ (gi 69 44).toInt := t_nei h6
      refine ev_loc f_X12_mayShip (nx := 13) rfl rfl rfl rfl ?_
      refine ev_getR f_X12_mayShip (nx := 16) rfl (hI.wf.s rfl) rfl rfl (hI.wf.r rfl) rfl rfl ?_
      refine ev_loc f_X12_mayShip (nx := 17) rfl rfl rfl rfl ?_
      refine ev_getR f_X12_mayShip (nx := 20) rfl (hI.wf.s rfl) rfl rfl (hI.wf.r rfl) rfl rfl ?_
      refine ev_loc f_X12_mayShip (nx := 21) rfl rfl rfl rfl ?_
      have u10 : ar3.toInt ≤ (5:Int) := (by omega)
      refine ev_ialdT f_X12_mayShip (nx := 22) rfl (hI.wf.s rfl) l_a3 (by decide) u10 (by decide) rfl (fun w9 e9 => ?_)
      obtain ⟨l9, u9⟩ := hI.abi e9 (by decide +kernel : t_abr 90 0 5 0 5 = true) l_a3 (by decide) u10 (by decide)
      refine ev_ialdT f_X12_mayShip (nx := 23) rfl (hI.wf.s rfl) l9 (by decide) u9 (by decide) rfl (fun w11 e11 => ?_)
      refine ev_loc f_X12_mayShip (nx := 24) rfl rfl rfl rfl ?_
      refine ev_if f_X12_mayShip (t1 := 29) (t2 := 27) rfl rfl rfl (fun h12 => ?_) (fun h12 => ?_)
      · have r13 : w11.toInt ≤ ar1.toInt := Int32.le_iff_toInt_le.mp h12
        have u14 : w11.toInt ≤ 240 := t_leu h12 u_a1
        refine ev_loc f_X12_mayShip (nx := 30) rfl rfl rfl rfl ?_
        refine ev_loc f_X12_mayShip (nx := 31) rfl rfl rfl rfl ?_
        refine ev_getR f_X12_mayShip (nx := 34) rfl (hI.wf.s rfl) rfl rfl (hI.wf.r rfl) rfl rfl ?_
        refine ev_loc f_X12_mayShip (nx := 35) rfl rfl rfl rfl ?_
        refine ev_ialdT f_X12_mayShip (nx := 36) rfl (hI.wf.s rfl) l_a3 (by decide) u10 (by decide) rfl (fun w15 e15 => ?_)
        rw [e15.trans e9.symm]
        refine ev_ic f_X12_mayShip (nx := 37) (v := 4) rfl (by decide) rfl ?_
        refine ev_inV3 f_X12_mayShip (nx := 40) (lo2 := [(0, .ref 69), (1, .int w9), (2, .int 4)]) rfl rfl rfl rfl f_X12_ofShip (hI.wf.s rfl) rfl rfl rfl rfl rfl ?_
        refine ev_loc f_X12_ofShip (nx := 1) rfl rfl rfl rfl ?_
        refine ev_getR f_X12_ofShip (nx := 4) rfl (hI.wf.s rfl) rfl rfl (hI.wf.r rfl) rfl rfl ?_
        refine ev_bp f_X12_ofShip (nx := 6) (v := 52) rfl (by decide) rfl ?_
        refine ev_ic f_X12_ofShip (nx := 7) (v := 5) rfl (by decide) rfl ?_
        refine ev_loc f_X12_ofShip (nx := 8) rfl rfl rfl rfl ?_
        refine ev_mulL f_X12_ofShip (nx := 9) (c := 5) (l := 0) (u := 25) rfl (by decide) (by decide) l9 u9 rfl rfl (by decide) (by decide) rfl (fun z16 e16 l16 u16 => ?_)
        refine ev_addK f_X12_ofShip (nx := 10) (c := 52) (l := 52) (u := 77) rfl (by decide) l16 u16 rfl rfl (by decide) (by decide) rfl (fun z17 e17 l17 u17 => ?_)
        refine ev_loc f_X12_ofShip (nx := 11) rfl rfl rfl rfl ?_
        refine ev_addC f_X12_ofShip (nx := 12) (c := 4) (l := 56) (u := 81) rfl (by decide) l17 u17 rfl rfl (by decide) (by decide) rfl (fun z18 e18 l18 u18 => ?_)
        refine ev_ialdT f_X12_ofShip (nx := 13) rfl (hI.wf.s rfl) l18 (by decide) u18 (by decide) rfl (fun w19 e19 => ?_)
        obtain ⟨l19, u19⟩ := hI.abA (x := w9) e19 (by decide +kernel : t_aba 70 56 5 0 5 0 1 = true) (by omega) (by omega) (by omega)
        refine ev_retK1 f_X12_ofShip rfl rfl rfl ?_
        refine ev_if f_X12_mayShip (t1 := 58) (t2 := 43) rfl rfl rfl (fun h20 => ?_) (fun h20 => ?_)
        · have u21 : w19.toInt ≤ 0 := t_equ h20 (by decide : (0:Int32).toInt ≤ (0:Int))
          refine ev_ic f_X12_mayShip (nx := 59) (v := 1) rfl (by decide) rfl ?_
          refine ev_jmp f_X12_mayShip (nx := 63) rfl rfl rfl ?_
          exact ev_ret f_X12_mayShip rfl rfl rfl ⟨_, _, _, rfl, hI, hX, ⟨_, rfl, (Int.le_trans (by decide : (0:Int) ≤ 1) (by decide : (1:Int) ≤ (1:Int32).toInt)), (by decide : (1:Int32).toInt ≤ (1:Int)), (show (1 = 1 ↔ t_mayS gi ar1.toInt.toNat ar2.toInt.toNat ar3.toInt.toNat) from (by have hsa := t_sa_eq (p := gi) t_sp.rf (i := ar3) (e9.symm).symm (by omega) (e11.symm).symm; have hsa : t_ss gi ar3.toInt.toNat = w19.toInt := (by unfold t_ss; rw [t_of_eq (p := gi) (a := 56) (b := 5) t_sp.rf (t_si_eq t_sp.rf (i := ar3) (e9.symm).symm (by omega)) (e19.symm).symm (by omega) (by omega)]); unfold t_mayS t_S; omega))⟩⟩
        · have r22 : w19.toInt ≠ 0 := fun e => h20 (Int32.toInt_inj.mp (e.trans (by decide : (0:Int) = (0 : Int32).toInt)))
          have l23 : 1 ≤ w19.toInt := t_nel h20 l19 rfl rfl
          refine ev_loc f_X12_mayShip (nx := 44) rfl rfl rfl rfl ?_
          refine ev_getR f_X12_mayShip (nx := 47) rfl (hI.wf.s rfl) rfl rfl (hI.wf.r rfl) rfl rfl ?_
          refine ev_loc f_X12_mayShip (nx := 48) rfl rfl rfl rfl ?_
          refine ev_getR f_X12_mayShip (nx := 51) rfl (hI.wf.s rfl) rfl rfl (hI.wf.r rfl) rfl rfl ?_
          refine ev_loc f_X12_mayShip (nx := 52) rfl rfl rfl rfl ?_
          refine ev_ialdT f_X12_mayShip (nx := 53) rfl (hI.wf.s rfl) l_a3 (by decide) u10 (by decide) rfl (fun w24 e24 => ?_)
          rw [e24.trans e9.symm]
          refine ev_ialdT f_X12_mayShip (nx := 54) rfl (hI.wf.s rfl) l9 (by decide) u9 (by decide) rfl (fun w25 e25 => ?_)
          rw [e25.trans e11.symm]
          refine ev_loc f_X12_mayShip (nx := 55) rfl rfl rfl rfl ?_
          refine ev_if f_X12_mayShip (t1 := 58) (t2 := 62) rfl rfl rfl (fun h26 => ?_) (fun h26 => ?_)
          · have r27 : w11.toInt = ar1.toInt := t_eqi h26
            have l28 : 0 ≤ w11.toInt := t_eql h26 l_a1
            refine ev_ic f_X12_mayShip (nx := 59) (v := 1) rfl (by decide) rfl ?_
            refine ev_jmp f_X12_mayShip (nx := 63) rfl rfl rfl ?_
            exact ev_ret f_X12_mayShip rfl rfl rfl ⟨_, _, _, rfl, hI, hX, ⟨_, rfl, (Int.le_trans (by decide : (0:Int) ≤ 1) (by decide : (1:Int) ≤ (1:Int32).toInt)), (by decide : (1:Int32).toInt ≤ (1:Int)), (show (1 = 1 ↔ t_mayS gi ar1.toInt.toNat ar2.toInt.toNat ar3.toInt.toNat) from (by have hsa := t_sa_eq (p := gi) t_sp.rf (i := ar3) (e9.symm).symm (by omega) (e11.symm).symm; have hsa : t_ss gi ar3.toInt.toNat = w19.toInt := (by unfold t_ss; rw [t_of_eq (p := gi) (a := 56) (b := 5) t_sp.rf (t_si_eq t_sp.rf (i := ar3) (e9.symm).symm (by omega)) (e19.symm).symm (by omega) (by omega)]); unfold t_mayS t_S; omega))⟩⟩
          · have r29 : w11.toInt ≠ ar1.toInt := t_nei h26
            refine ev_ic f_X12_mayShip (nx := 63) (v := 0) rfl (by decide) rfl ?_
            exact ev_ret f_X12_mayShip rfl rfl rfl ⟨_, _, _, rfl, hI, hX, ⟨_, rfl, (by decide : (0:Int) ≤ (0:Int32).toInt), (Int.le_trans (by decide : (0:Int32).toInt ≤ (0:Int)) (by decide : (0:Int) ≤ 1)), (show (0 = 1 ↔ t_mayS gi ar1.toInt.toNat ar2.toInt.toNat ar3.toInt.toNat) from (by have hsa := t_sa_eq (p := gi) t_sp.rf (i := ar3) (e9.symm).symm (by omega) (e11.symm).symm; have hsa : t_ss gi ar3.toInt.toNat = w19.toInt := (by unfold t_ss; rw [t_of_eq (p := gi) (a := 56) (b := 5) t_sp.rf (t_si_eq t_sp.rf (i := ar3) (e9.symm).symm (by omega)) (e19.symm).symm (by omega) (by omega)]); unfold t_mayS t_S; omega))⟩⟩
      · have r30 : ar1.toInt < w11.toInt := Int32.lt_iff_toInt_lt.mp (t_nle h12)
        have l31 : 1 ≤ w11.toInt := t_ltl (t_nle h12) l_a1 rfl
        refine ev_ic f_X12_mayShip (nx := 28) (v := 0) rfl (by decide) rfl ?_
        exact ev_ret f_X12_mayShip rfl rfl rfl ⟨_, _, _, rfl, hI, hX, ⟨_, rfl, (by decide : (0:Int) ≤ (0:Int32).toInt), (Int.le_trans (by decide : (0:Int32).toInt ≤ (0:Int)) (by decide : (0:Int) ≤ 1)), (show (0 = 1 ↔ t_mayS gi ar1.toInt.toNat ar2.toInt.toNat ar3.toInt.toNat) from (by have hsa := t_sa_eq (p := gi) t_sp.rf (i := ar3) (e9.symm).symm (by omega) (e11.symm).symm; unfold t_mayS t_S; omega))⟩⟩
noncomputable def wl_m_mayCart : List (Nat × Nat) := []
noncomputable def Q_m_mayCart (gi : Nat → Nat → Int32) (gl : Nat → Nat → Int64) (gr : Nat → Nat → Value) (ar1 : Int32) (ar2 : Int32) (ar3 : Int32) : Int32 → (Nat → Nat → Int32) → (Nat → Nat → Int64) → (Nat → Nat → Value) → Prop := fun (v : Int32) (gi2 : Nat → Nat → Int32) (gl2 : Nat → Nat → Int64) (gr2 : Nat → Nat → Value) => (v.toInt = 1 ↔ t_mayC gi ar1.toInt.toNat ar2.toInt.toNat ar3.toInt.toNat)
theorem c_m_mayCart {X : x_Ext} {d : Nat} {sh : List (Nat ⊕ (Nat × Nat))} {gi : Nat → Nat → Int32} {gl : Nat → Nat → Int64} {gr : Nat → Nat → Value} (hI : t_I sh gi gr) (ar1 : Int32) (l_a1 : 0 ≤ ar1.toInt) (u_a1 : ar1.toInt ≤ 240) (ar2 : Int32) (l_a2 : 0 ≤ ar2.toInt) (u_a2 : ar2.toInt ≤ 1) (ar3 : Int32) (l_a3 : 0 ≤ ar3.toInt) (u_a3 : ar3.toInt ≤ 6) : x_Me X (d + 1) n_X12_mayCart [.ref 69, .int ar1, .int ar2, .int ar3] (sh, gi, gl, gr) (t_PI wl_m_mayCart sh gi gl gr 0 1 (Q_m_mayCart gi gl gr ar1 ar2 ar3)) := by
  have hX : t_X wl_m_mayCart sh gi gl gr gi gl gr := t_X.rf
  refine me_i f_X12_mayCart (hI.wf.s rfl) rfl rfl rfl ?_
  refine ev_loc f_X12_mayCart (nx := 1) rfl rfl rfl rfl ?_
  refine ev_if f_X12_mayCart (t1 := 4) (t2 := 34) rfl rfl rfl (fun h1 => ?_) (fun h1 => ?_)
  · have u2 : ar2.toInt ≤ 0 := t_equ h1 (by decide : (0:Int32).toInt ≤ (0:Int))
    refine ev_loc f_X12_mayCart (nx := 5) rfl rfl rfl rfl ?_
    refine ev_loc f_X12_mayCart (nx := 6) rfl rfl rfl rfl ?_
    refine ev_getI f_X12_mayCart (nx := 9) rfl (hI.wf.s rfl) rfl rfl rfl ?_
    obtain ⟨l3, u3⟩ := hI.b (hI.wf.s (k := 69) rfl) (t_bdK rfl : t_bd 11 45 = some (0, 6))
    refine ev_if f_X12_mayCart (t1 := 34) (t2 := 12) rfl rfl rfl (fun h4 => ?_) (fun h4 => ?_)
    · have r5 : (gi 69 45).toInt ≤ ar3.toInt := Int32.le_iff_toInt_le.mp h4
      refine ev_ic f_X12_mayCart (nx := 35) (v := 0) rfl (by decide) rfl ?_
      exact ev_ret f_X12_mayCart rfl rfl rfl ⟨_, _, _, rfl, hI, hX, ⟨_, rfl, (by decide : (0:Int) ≤ (0:Int32).toInt), (Int.le_trans (by decide : (0:Int32).toInt ≤ (0:Int)) (by decide : (0:Int) ≤ 1)), (show (0 = 1 ↔ t_mayC gi ar1.toInt.toNat ar2.toInt.toNat ar3.toInt.toNat) from (by unfold t_mayC t_C; omega))⟩⟩
    · have r6 : ar3.toInt < (gi 69 45).toInt := Int32.lt_iff_toInt_lt.mp (t_nle h4)
      have u7 : ar3.toInt ≤ 5 := t_ltu (t_nle h4) u3 rfl
      have l8 : 1 ≤ (gi 69 45).toInt := t_ltl (t_nle h4) l_a3 rfl
      refine ev_loc f_X12_mayCart (nx := 13) rfl rfl rfl rfl ?_
      refine ev_getR f_X12_mayCart (nx := 16) rfl (hI.wf.s rfl) rfl rfl (hI.wf.r rfl) rfl rfl ?_
      refine ev_bp f_X12_mayCart (nx := 18) (v := 6) rfl (by decide) rfl ?_
      refine ev_loc f_X12_mayCart (nx := 19) rfl rfl rfl rfl ?_
      refine ev_getR f_X12_mayCart (nx := 22) rfl (hI.wf.s rfl) rfl rfl (hI.wf.r rfl) rfl rfl ?_
      refine ev_loc f_X12_mayCart (nx := 23) rfl rfl rfl rfl ?_
      refine ev_ialdT f_X12_mayCart (nx := 24) rfl (hI.wf.s rfl) l_a3 (by decide) u7 (by decide) rfl (fun w9 e9 => ?_)
      obtain ⟨l9, u9⟩ := hI.abi e9 (by decide +kernel : t_abr 91 0 5 0 5 = true) l_a3 (by decide) u7 (by decide)
      refine ev_addK f_X12_mayCart (nx := 25) (c := 6) (l := 6) (u := 11) rfl (by decide) l9 u9 rfl rfl (by decide) (by decide) rfl (fun z10 e10 l10 u10 => ?_)
      refine ev_ialdT f_X12_mayCart (nx := 26) rfl (hI.wf.s rfl) l10 (by decide) u10 (by decide) rfl (fun w11 e11 => ?_)
      refine ev_loc f_X12_mayCart (nx := 27) rfl rfl rfl rfl ?_
      refine ev_if f_X12_mayCart (t1 := 34) (t2 := 30) rfl rfl rfl (fun h12 => ?_) (fun h12 => ?_)
      · have r13 : ar1.toInt < w11.toInt := Int32.lt_iff_toInt_lt.mp h12
        have l14 : 1 ≤ w11.toInt := t_ltl h12 l_a1 rfl
        refine ev_ic f_X12_mayCart (nx := 35) (v := 0) rfl (by decide) rfl ?_
        exact ev_ret f_X12_mayCart rfl rfl rfl ⟨_, _, _, rfl, hI, hX, ⟨_, rfl, (by decide : (0:Int) ≤ (0:Int32).toInt), (Int.le_trans (by decide : (0:Int32).toInt ≤ (0:Int)) (by decide : (0:Int) ≤ 1)), (show (0 = 1 ↔ t_mayC gi ar1.toInt.toNat ar2.toInt.toNat ar3.toInt.toNat) from (by have hsa := t_ca_eq (p := gi) t_sp.rf (i := ar3) (e9.symm).symm (by omega) (e11.symm).symm (by omega) (by omega); unfold t_mayC t_C; omega))⟩⟩
      · have r15 : w11.toInt ≤ ar1.toInt := Int32.le_iff_toInt_le.mp (t_nlt h12)
        have u16 : w11.toInt ≤ 240 := t_leu (t_nlt h12) u_a1
        refine ev_ic f_X12_mayCart (nx := 31) (v := 1) rfl (by decide) rfl ?_
        refine ev_jmp f_X12_mayCart (nx := 35) rfl rfl rfl ?_
        exact ev_ret f_X12_mayCart rfl rfl rfl ⟨_, _, _, rfl, hI, hX, ⟨_, rfl, (Int.le_trans (by decide : (0:Int) ≤ 1) (by decide : (1:Int) ≤ (1:Int32).toInt)), (by decide : (1:Int32).toInt ≤ (1:Int)), (show (1 = 1 ↔ t_mayC gi ar1.toInt.toNat ar2.toInt.toNat ar3.toInt.toNat) from (by have hsa := t_ca_eq (p := gi) t_sp.rf (i := ar3) (e9.symm).symm (by omega) (e11.symm).symm (by omega) (by omega); unfold t_mayC t_C; omega))⟩⟩
  · have r17 : ar2.toInt ≠ 0 := fun e => h1 (Int32.toInt_inj.mp (e.trans (by decide : (0:Int) = (0 : Int32).toInt)))
    have l18 : 1 ≤ ar2.toInt := t_nel h1 l_a2 rfl rfl
    refine ev_ic f_X12_mayCart (nx := 35) (v := 0) rfl (by decide) rfl ?_
    exact ev_ret f_X12_mayCart rfl rfl rfl ⟨_, _, _, rfl, hI, hX, ⟨_, rfl, (by decide : (0:Int) ≤ (0:Int32).toInt), (Int.le_trans (by decide : (0:Int32).toInt ≤ (0:Int)) (by decide : (0:Int) ≤ 1)), (show (0 = 1 ↔ t_mayC gi ar1.toInt.toNat ar2.toInt.toNat ar3.toInt.toNat) from (by unfold t_mayC t_C; omega))⟩⟩
noncomputable def wl_m_byShip : List (Nat × Nat) := []
noncomputable def Q_m_byShip (gi : Nat → Nat → Int32) (gl : Nat → Nat → Int64) (gr : Nat → Nat → Value) (ar1 : Int32) (ar2 : Int32) (ar3 : Int32) : Int32 → (Nat → Nat → Int32) → (Nat → Nat → Int64) → (Nat → Nat → Value) → Prop := fun (v : Int32) (gi2 : Nat → Nat → Int32) (gl2 : Nat → Nat → Int64) (gr2 : Nat → Nat → Value) => v.toInt = t_bys gi (gi 92) ar1.toInt.toNat ar2.toInt.toNat ar3.toInt.toNat
theorem c_m_byShip {X : x_Ext} {d : Nat} {sh : List (Nat ⊕ (Nat × Nat))} {gi : Nat → Nat → Int32} {gl : Nat → Nat → Int64} {gr : Nat → Nat → Value} (hI : t_I sh gi gr) (ar1 : Int32) (l_a1 : 0 ≤ ar1.toInt) (u_a1 : ar1.toInt ≤ 240) (ar2 : Int32) (l_a2 : 0 ≤ ar2.toInt) (u_a2 : ar2.toInt ≤ 5) (ar3 : Int32) (l_a3 : 0 ≤ ar3.toInt) (u_a3 : ar3.toInt ≤ 6) (e_p0 : (∀ j : Nat, j < 12 → 0 ≤ (gi 89 j).toInt ∧ (gi 89 j).toInt ≤ 300)) (e_p1 : t_sa gi ar2.toInt.toNat ≤ ar1.toInt) (e_p2 : (0 ≤ t_la (gi 92) (t_S gi) (t_C gi) (ar1.toInt.toNat + t_st gi ar2.toInt.toNat) 1 (ar2.toInt.toNat + 1) ar3.toInt.toNat ∧ t_la (gi 92) (t_S gi) (t_C gi) (ar1.toInt.toNat + t_st gi ar2.toInt.toNat) 1 (ar2.toInt.toNat + 1) ar3.toInt.toNat ≤ 1000000000)) : x_Me X (d + 3) n_X12_byShip [.ref 69, .int ar1, .int ar2, .int ar3] (sh, gi, gl, gr) (t_PI wl_m_byShip sh gi gl gr 0 1000023760 (Q_m_byShip gi gl gr ar1 ar2 ar3)) := by
  have hX : t_X wl_m_byShip sh gi gl gr gi gl gr := t_X.rf
  refine me_i f_X12_byShip (hI.wf.s rfl) rfl rfl rfl ?_
  refine ev_loc f_X12_byShip (nx := 1) rfl rfl rfl rfl ?_
  refine ev_getR f_X12_byShip (nx := 4) rfl (hI.wf.s rfl) rfl rfl (hI.wf.r rfl) rfl rfl ?_
  refine ev_loc f_X12_byShip (nx := 5) rfl rfl rfl rfl ?_
  refine ev_ialdT f_X12_byShip (nx := 6) rfl (hI.wf.s rfl) l_a2 (by decide) u_a2 (by decide) rfl (fun w1 e1 => ?_)
  obtain ⟨l1, u1⟩ := hI.abi e1 (by decide +kernel : t_abr 90 0 5 0 5 = true) l_a2 (by decide) u_a2 (by decide)
  refine ev_loc f_X12_byShip (nx := 8) (lo' := [(4, .int w1), (0, .ref 69), (1, .int ar1), (2, .int ar2), (3, .int ar3)]) rfl rfl rfl rfl ?_
  refine ev_loc f_X12_byShip (nx := 9) rfl rfl rfl rfl ?_
  refine ev_loc f_X12_byShip (nx := 10) rfl rfl rfl rfl ?_
  refine ev_getR f_X12_byShip (nx := 13) rfl (hI.wf.s rfl) rfl rfl (hI.wf.r rfl) rfl rfl ?_
  refine ev_loc f_X12_byShip (nx := 15) rfl rfl rfl rfl ?_
  refine ev_ialdT f_X12_byShip (nx := 16) rfl (hI.wf.s rfl) l1 (by decide) u1 (by decide) rfl (fun w2 e2 => ?_)
  have l3 : (0:Int) ≤ w2.toInt := (by have hc := t_clamp (i := w1) (by omega); rw [e2]; exact (e_p0 _ (by omega)).1)
  have u4 : w2.toInt ≤ (300:Int) := (by have hc := t_clamp (i := w1) (by omega); rw [e2]; exact (e_p0 _ (by omega)).2)
  refine ev_subR f_X12_byShip (nx := 17) (l := (-300)) (u := 240) rfl l_a1 u_a1 l3 u4 rfl rfl (by decide) (by decide) rfl (fun z5 e5 l5 u5 => ?_)
  refine ev_loc f_X12_byShip (nx := 18) rfl rfl rfl rfl ?_
  refine ev_loc f_X12_byShip (nx := 20) rfl rfl rfl rfl ?_
  refine ev_ic f_X12_byShip (nx := 21) (v := 3) rfl (by decide) rfl ?_
  refine ev_inV3 f_X12_byShip (nx := 24) (lo2 := [(0, .ref 69), (1, .int w1), (2, .int 3)]) rfl rfl rfl rfl f_X12_ofShip (hI.wf.s rfl) rfl rfl rfl rfl rfl ?_
  refine ev_loc f_X12_ofShip (nx := 1) rfl rfl rfl rfl ?_
  refine ev_getR f_X12_ofShip (nx := 4) rfl (hI.wf.s rfl) rfl rfl (hI.wf.r rfl) rfl rfl ?_
  refine ev_bp f_X12_ofShip (nx := 6) (v := 52) rfl (by decide) rfl ?_
  refine ev_ic f_X12_ofShip (nx := 7) (v := 5) rfl (by decide) rfl ?_
  refine ev_loc f_X12_ofShip (nx := 8) rfl rfl rfl rfl ?_
  refine ev_mulL f_X12_ofShip (nx := 9) (c := 5) (l := 0) (u := 25) rfl (by decide) (by decide) l1 u1 rfl rfl (by decide) (by decide) rfl (fun z6 e6 l6 u6 => ?_)
  refine ev_addK f_X12_ofShip (nx := 10) (c := 52) (l := 52) (u := 77) rfl (by decide) l6 u6 rfl rfl (by decide) (by decide) rfl (fun z7 e7 l7 u7 => ?_)
  refine ev_loc f_X12_ofShip (nx := 11) rfl rfl rfl rfl ?_
  refine ev_addC f_X12_ofShip (nx := 12) (c := 3) (l := 55) (u := 80) rfl (by decide) l7 u7 rfl rfl (by decide) (by decide) rfl (fun z8 e8 l8 u8 => ?_)
  refine ev_ialdT f_X12_ofShip (nx := 13) rfl (hI.wf.s rfl) l8 (by decide) u8 (by decide) rfl (fun w9 e9 => ?_)
  obtain ⟨l9, u9⟩ := hI.abA (x := w1) e9 (by decide +kernel : t_aba 70 55 5 0 5 0 99 = true) (by omega) (by omega) (by omega)
  refine ev_retK1 f_X12_ofShip rfl rfl rfl ?_
  have l10 : (0:Int) ≤ z5.toInt := (by have hsa := t_sa_eq (p := gi) t_sp.rf (i := ar2) (e1.symm).symm (by omega) (e2.symm).symm; have hco : t_so gi ar2.toInt.toNat = w9.toInt := (by unfold t_so; rw [t_of_eq (p := gi) (a := 55) (b := 5) t_sp.rf (t_si_eq t_sp.rf (i := ar2) (e1.symm).symm (by omega)) (e9.symm).symm (by omega) (by omega)]); omega)
  refine ev_mulP f_X12_byShip (nx := 25) (ux := 240) (uy := 99) rfl l10 u5 l9 u9 (by decide) rfl (fun z11 e11 l11 u11 => ?_)
  refine ev_loc f_X12_byShip (nx := 26) rfl rfl rfl rfl ?_
  refine ev_loc f_X12_byShip (nx := 27) rfl rfl rfl rfl ?_
  refine ev_loc f_X12_byShip (nx := 28) rfl rfl rfl rfl ?_
  refine ev_loc f_X12_byShip (nx := 30) rfl rfl rfl rfl ?_
  refine ev_ic f_X12_byShip (nx := 31) (v := 2) rfl (by decide) rfl ?_
  refine ev_inV3 f_X12_byShip (nx := 34) (lo2 := [(0, .ref 69), (1, .int w1), (2, .int 2)]) rfl rfl rfl rfl f_X12_ofShip (hI.wf.s rfl) rfl rfl rfl rfl rfl ?_
  refine ev_loc f_X12_ofShip (nx := 1) rfl rfl rfl rfl ?_
  refine ev_getR f_X12_ofShip (nx := 4) rfl (hI.wf.s rfl) rfl rfl (hI.wf.r rfl) rfl rfl ?_
  refine ev_bp f_X12_ofShip (nx := 6) (v := 52) rfl (by decide) rfl ?_
  refine ev_ic f_X12_ofShip (nx := 7) (v := 5) rfl (by decide) rfl ?_
  refine ev_loc f_X12_ofShip (nx := 8) rfl rfl rfl rfl ?_
  refine ev_mulL f_X12_ofShip (nx := 9) (c := 5) (l := 0) (u := 25) rfl (by decide) (by decide) l1 u1 rfl rfl (by decide) (by decide) rfl (fun z12 e12 l12 u12 => ?_)
  refine ev_addK f_X12_ofShip (nx := 10) (c := 52) (l := 52) (u := 77) rfl (by decide) l12 u12 rfl rfl (by decide) (by decide) rfl (fun z13 e13 l13 u13 => ?_)
  refine ev_loc f_X12_ofShip (nx := 11) rfl rfl rfl rfl ?_
  refine ev_addC f_X12_ofShip (nx := 12) (c := 2) (l := 54) (u := 79) rfl (by decide) l13 u13 rfl rfl (by decide) (by decide) rfl (fun z14 e14 l14 u14 => ?_)
  refine ev_ialdT f_X12_ofShip (nx := 13) rfl (hI.wf.s rfl) l14 (by decide) u14 (by decide) rfl (fun w15 e15 => ?_)
  obtain ⟨l15, u15⟩ := hI.abA (x := w1) e15 (by decide +kernel : t_aba 70 54 5 0 5 0 20 = true) (by omega) (by omega) (by omega)
  refine ev_retK1 f_X12_ofShip rfl rfl rfl ?_
  refine ev_addR f_X12_byShip (nx := 35) (l := 0) (u := 260) rfl l_a1 u_a1 l15 u15 rfl rfl (by decide) (by decide) rfl (fun z16 e16 l16 u16 => ?_)
  refine ev_ic f_X12_byShip (nx := 36) (v := 1) rfl (by decide) rfl ?_
  refine ev_loc f_X12_byShip (nx := 37) rfl rfl rfl rfl ?_
  refine ev_ic f_X12_byShip (nx := 38) (v := 1) rfl (by decide) rfl ?_
  refine ev_addC f_X12_byShip (nx := 39) (c := 1) (l := 1) (u := 6) rfl (by decide) l_a2 u_a2 rfl rfl (by decide) (by decide) rfl (fun z17 e17 l17 u17 => ?_)
  refine ev_loc f_X12_byShip (nx := 40) rfl rfl rfl rfl ?_
  refine ev_qI0 f_X12_byShip (nx := 43) (r := [.int z11]) rfl rfl rfl rfl rfl rfl rfl (c_m_leftAt hI (z16) l16 (Int.le_trans u16 (by decide : (260:Int) ≤ 300)) (1) (Int.le_trans (by decide : (0:Int) ≤ 1) (by decide : (1:Int) ≤ (1:Int32).toInt)) (by decide : (1:Int32).toInt ≤ (1:Int)) (z17) (Int.le_trans (by decide : (0:Int) ≤ 1) l17) u17 (ar3) l_a3 u_a3) rfl (fun w18 l18 u18 q18 => ?_)
  have q18 : w18.toInt = t_la (gi 92) (t_S gi) (t_C gi) z16.toInt.toNat 1 z17.toInt.toNat ar3.toInt.toNat := q18
  have l19 : (0:Int) ≤ w18.toInt := (by have hsa := t_sa_eq (p := gi) t_sp.rf (i := ar2) (e1.symm).symm (by omega) (e2.symm).symm; have htk : t_st gi ar2.toInt.toNat = w15.toInt.toNat := (by unfold t_st; rw [t_of_eq (p := gi) (a := 54) (b := 5) t_sp.rf (t_si_eq t_sp.rf (i := ar2) (e1.symm).symm (by omega)) (e15.symm).symm (by omega) (by omega)]); have hco : t_so gi ar2.toInt.toNat = w9.toInt := (by unfold t_so; rw [t_of_eq (p := gi) (a := 55) (b := 5) t_sp.rf (t_si_eq t_sp.rf (i := ar2) (e1.symm).symm (by omega)) (e9.symm).symm (by omega) (by omega)]); have hL : w18.toInt = t_la (gi 92) (t_S gi) (t_C gi) (ar1.toInt.toNat + t_st gi ar2.toInt.toNat) 1 (ar2.toInt.toNat + 1) ar3.toInt.toNat := (by rw [q18, htk]; congr 1 <;> omega); have h2 := e_p2; omega)
  have u20 : w18.toInt ≤ (1000000000:Int) := (by have hsa := t_sa_eq (p := gi) t_sp.rf (i := ar2) (e1.symm).symm (by omega) (e2.symm).symm; have htk : t_st gi ar2.toInt.toNat = w15.toInt.toNat := (by unfold t_st; rw [t_of_eq (p := gi) (a := 54) (b := 5) t_sp.rf (t_si_eq t_sp.rf (i := ar2) (e1.symm).symm (by omega)) (e15.symm).symm (by omega) (by omega)]); have hco : t_so gi ar2.toInt.toNat = w9.toInt := (by unfold t_so; rw [t_of_eq (p := gi) (a := 55) (b := 5) t_sp.rf (t_si_eq t_sp.rf (i := ar2) (e1.symm).symm (by omega)) (e9.symm).symm (by omega) (by omega)]); have hL : w18.toInt = t_la (gi 92) (t_S gi) (t_C gi) (ar1.toInt.toNat + t_st gi ar2.toInt.toNat) 1 (ar2.toInt.toNat + 1) ar3.toInt.toNat := (by rw [q18, htk]; congr 1 <;> omega); have h2 := e_p2; omega)
  refine ev_addR f_X12_byShip (nx := 44) (l := 0) (u := 1000023760) rfl l11 u11 l19 u20 rfl rfl (by decide) (by decide) rfl (fun z21 e21 l21 u21 => ?_)
  exact ev_ret f_X12_byShip rfl rfl rfl ⟨_, _, _, rfl, hI, hX, ⟨_, rfl, l21, u21, (show z21.toInt = t_bys gi (gi 92) ar1.toInt.toNat ar2.toInt.toNat ar3.toInt.toNat from (by have hsa := t_sa_eq (p := gi) t_sp.rf (i := ar2) (e1.symm).symm (by omega) (e2.symm).symm; have htk : t_st gi ar2.toInt.toNat = w15.toInt.toNat := (by unfold t_st; rw [t_of_eq (p := gi) (a := 54) (b := 5) t_sp.rf (t_si_eq t_sp.rf (i := ar2) (e1.symm).symm (by omega)) (e15.symm).symm (by omega) (by omega)]); have hco : t_so gi ar2.toInt.toNat = w9.toInt := (by unfold t_so; rw [t_of_eq (p := gi) (a := 55) (b := 5) t_sp.rf (t_si_eq t_sp.rf (i := ar2) (e1.symm).symm (by omega)) (e9.symm).symm (by omega) (by omega)]); have hL : w18.toInt = t_la (gi 92) (t_S gi) (t_C gi) (ar1.toInt.toNat + t_st gi ar2.toInt.toNat) 1 (ar2.toInt.toNat + 1) ar3.toInt.toNat := (by rw [q18, htk]; congr 1 <;> omega); unfold t_bys; rw [hsa, hco, show ((ar1.toInt.toNat : Nat) : Int) - w2.toInt = z5.toInt by omega, ← e11, ← hL]; omega))⟩⟩
noncomputable def wl_m_byCart : List (Nat × Nat) := []
noncomputable def Q_m_byCart (gi : Nat → Nat → Int32) (gl : Nat → Nat → Int64) (gr : Nat → Nat → Value) (ar1 : Int32) (ar2 : Int32) (ar3 : Int32) : Int32 → (Nat → Nat → Int32) → (Nat → Nat → Int64) → (Nat → Nat → Value) → Prop := fun (v : Int32) (gi2 : Nat → Nat → Int32) (gl2 : Nat → Nat → Int64) (gr2 : Nat → Nat → Value) => v.toInt = t_byc gi (gi 92) ar1.toInt.toNat ar2.toInt.toNat ar3.toInt.toNat
theorem c_m_byCart {X : x_Ext} {d : Nat} {sh : List (Nat ⊕ (Nat × Nat))} {gi : Nat → Nat → Int32} {gl : Nat → Nat → Int64} {gr : Nat → Nat → Value} (hI : t_I sh gi gr) (ar1 : Int32) (l_a1 : 0 ≤ ar1.toInt) (u_a1 : ar1.toInt ≤ 240) (ar2 : Int32) (l_a2 : 0 ≤ ar2.toInt) (u_a2 : ar2.toInt ≤ 6) (ar3 : Int32) (l_a3 : 0 ≤ ar3.toInt) (u_a3 : ar3.toInt ≤ 5) (e_p0 : (∀ j : Nat, j < 12 → 0 ≤ (gi 89 j).toInt ∧ (gi 89 j).toInt ≤ 300)) (e_p1 : t_ca gi ar3.toInt.toNat ≤ ar1.toInt) (e_p2 : (0 ≤ t_la (gi 92) (t_S gi) (t_C gi) (ar1.toInt.toNat + t_ct gi ar3.toInt.toNat) 0 ar2.toInt.toNat (ar3.toInt.toNat + 1) ∧ t_la (gi 92) (t_S gi) (t_C gi) (ar1.toInt.toNat + t_ct gi ar3.toInt.toNat) 0 ar2.toInt.toNat (ar3.toInt.toNat + 1) ≤ 1000000000)) : x_Me X (d + 3) n_X12_byCart [.ref 69, .int ar1, .int ar2, .int ar3] (sh, gi, gl, gr) (t_PI wl_m_byCart sh gi gl gr 0 1000023760 (Q_m_byCart gi gl gr ar1 ar2 ar3)) := by
  have hX : t_X wl_m_byCart sh gi gl gr gi gl gr := t_X.rf
  refine me_i f_X12_byCart (hI.wf.s rfl) rfl rfl rfl ?_
  refine ev_loc f_X12_byCart (nx := 1) rfl rfl rfl rfl ?_
  refine ev_getR f_X12_byCart (nx := 4) rfl (hI.wf.s rfl) rfl rfl (hI.wf.r rfl) rfl rfl ?_
  refine ev_loc f_X12_byCart (nx := 5) rfl rfl rfl rfl ?_
  refine ev_ialdT f_X12_byCart (nx := 6) rfl (hI.wf.s rfl) l_a3 (by decide) u_a3 (by decide) rfl (fun w1 e1 => ?_)
  obtain ⟨l1, u1⟩ := hI.abi e1 (by decide +kernel : t_abr 91 0 5 0 5 = true) l_a3 (by decide) u_a3 (by decide)
  refine ev_loc f_X12_byCart (nx := 8) (lo' := [(4, .int w1), (0, .ref 69), (1, .int ar1), (2, .int ar2), (3, .int ar3)]) rfl rfl rfl rfl ?_
  refine ev_loc f_X12_byCart (nx := 9) rfl rfl rfl rfl ?_
  refine ev_loc f_X12_byCart (nx := 10) rfl rfl rfl rfl ?_
  refine ev_getR f_X12_byCart (nx := 13) rfl (hI.wf.s rfl) rfl rfl (hI.wf.r rfl) rfl rfl ?_
  refine ev_bp f_X12_byCart (nx := 15) (v := 6) rfl (by decide) rfl ?_
  refine ev_loc f_X12_byCart (nx := 17) rfl rfl rfl rfl ?_
  refine ev_addK f_X12_byCart (nx := 18) (c := 6) (l := 6) (u := 11) rfl (by decide) l1 u1 rfl rfl (by decide) (by decide) rfl (fun z2 e2 l2 u2 => ?_)
  refine ev_ialdT f_X12_byCart (nx := 19) rfl (hI.wf.s rfl) l2 (by decide) u2 (by decide) rfl (fun w3 e3 => ?_)
  have l4 : (0:Int) ≤ w3.toInt := (by have hc := t_clamp (i := z2) (by omega); rw [e3]; exact (e_p0 _ (by omega)).1)
  have u5 : w3.toInt ≤ (300:Int) := (by have hc := t_clamp (i := z2) (by omega); rw [e3]; exact (e_p0 _ (by omega)).2)
  refine ev_subR f_X12_byCart (nx := 20) (l := (-300)) (u := 240) rfl l_a1 u_a1 l4 u5 rfl rfl (by decide) (by decide) rfl (fun z6 e6 l6 u6 => ?_)
  refine ev_loc f_X12_byCart (nx := 21) rfl rfl rfl rfl ?_
  refine ev_loc f_X12_byCart (nx := 23) rfl rfl rfl rfl ?_
  refine ev_ic f_X12_byCart (nx := 24) (v := 2) rfl (by decide) rfl ?_
  refine ev_inV3 f_X12_byCart (nx := 27) (lo2 := [(0, .ref 69), (1, .int w1), (2, .int 2)]) rfl rfl rfl rfl f_X12_ofCart (hI.wf.s rfl) rfl rfl rfl rfl rfl ?_
  refine ev_loc f_X12_ofCart (nx := 1) rfl rfl rfl rfl ?_
  refine ev_getR f_X12_ofCart (nx := 4) rfl (hI.wf.s rfl) rfl rfl (hI.wf.r rfl) rfl rfl ?_
  refine ev_bp f_X12_ofCart (nx := 6) (v := 82) rfl (by decide) rfl ?_
  refine ev_ic f_X12_ofCart (nx := 7) (v := 3) rfl (by decide) rfl ?_
  refine ev_loc f_X12_ofCart (nx := 8) rfl rfl rfl rfl ?_
  refine ev_mulL f_X12_ofCart (nx := 9) (c := 3) (l := 0) (u := 15) rfl (by decide) (by decide) l1 u1 rfl rfl (by decide) (by decide) rfl (fun z7 e7 l7 u7 => ?_)
  refine ev_addK f_X12_ofCart (nx := 10) (c := 82) (l := 82) (u := 97) rfl (by decide) l7 u7 rfl rfl (by decide) (by decide) rfl (fun z8 e8 l8 u8 => ?_)
  refine ev_loc f_X12_ofCart (nx := 11) rfl rfl rfl rfl ?_
  refine ev_addC f_X12_ofCart (nx := 12) (c := 2) (l := 84) (u := 99) rfl (by decide) l8 u8 rfl rfl (by decide) (by decide) rfl (fun z9 e9 l9 u9 => ?_)
  refine ev_ialdT f_X12_ofCart (nx := 13) rfl (hI.wf.s rfl) l9 (by decide) u9 (by decide) rfl (fun w10 e10 => ?_)
  obtain ⟨l10, u10⟩ := hI.abA (x := w1) e10 (by decide +kernel : t_aba 70 84 3 0 5 0 99 = true) (by omega) (by omega) (by omega)
  refine ev_retK1 f_X12_ofCart rfl rfl rfl ?_
  have l11 : (0:Int) ≤ z6.toInt := (by have hsa := t_ca_eq (p := gi) t_sp.rf (i := ar3) (e1.symm).symm (by omega) (e3.symm).symm (by omega) (by omega); have hco : t_cc gi ar3.toInt.toNat = w10.toInt := (by unfold t_cc; rw [t_of_eq (p := gi) (a := 84) (b := 3) t_sp.rf (t_ci_eq t_sp.rf (i := ar3) (e1.symm).symm (by omega)) (e10.symm).symm (by omega) (by omega)]); omega)
  refine ev_mulP f_X12_byCart (nx := 28) (ux := 240) (uy := 99) rfl l11 u6 l10 u10 (by decide) rfl (fun z12 e12 l12 u12 => ?_)
  refine ev_loc f_X12_byCart (nx := 29) rfl rfl rfl rfl ?_
  refine ev_loc f_X12_byCart (nx := 30) rfl rfl rfl rfl ?_
  refine ev_loc f_X12_byCart (nx := 31) rfl rfl rfl rfl ?_
  refine ev_loc f_X12_byCart (nx := 33) rfl rfl rfl rfl ?_
  refine ev_ic f_X12_byCart (nx := 34) (v := 1) rfl (by decide) rfl ?_
  refine ev_inV3 f_X12_byCart (nx := 37) (lo2 := [(0, .ref 69), (1, .int w1), (2, .int 1)]) rfl rfl rfl rfl f_X12_ofCart (hI.wf.s rfl) rfl rfl rfl rfl rfl ?_
  refine ev_loc f_X12_ofCart (nx := 1) rfl rfl rfl rfl ?_
  refine ev_getR f_X12_ofCart (nx := 4) rfl (hI.wf.s rfl) rfl rfl (hI.wf.r rfl) rfl rfl ?_
  refine ev_bp f_X12_ofCart (nx := 6) (v := 82) rfl (by decide) rfl ?_
  refine ev_ic f_X12_ofCart (nx := 7) (v := 3) rfl (by decide) rfl ?_
  refine ev_loc f_X12_ofCart (nx := 8) rfl rfl rfl rfl ?_
  refine ev_mulL f_X12_ofCart (nx := 9) (c := 3) (l := 0) (u := 15) rfl (by decide) (by decide) l1 u1 rfl rfl (by decide) (by decide) rfl (fun z13 e13 l13 u13 => ?_)
  refine ev_addK f_X12_ofCart (nx := 10) (c := 82) (l := 82) (u := 97) rfl (by decide) l13 u13 rfl rfl (by decide) (by decide) rfl (fun z14 e14 l14 u14 => ?_)
  refine ev_loc f_X12_ofCart (nx := 11) rfl rfl rfl rfl ?_
  refine ev_addC f_X12_ofCart (nx := 12) (c := 1) (l := 83) (u := 98) rfl (by decide) l14 u14 rfl rfl (by decide) (by decide) rfl (fun z15 e15 l15 u15 => ?_)
  refine ev_ialdT f_X12_ofCart (nx := 13) rfl (hI.wf.s rfl) l15 (by decide) u15 (by decide) rfl (fun w16 e16 => ?_)
  obtain ⟨l16, u16⟩ := hI.abA (x := w1) e16 (by decide +kernel : t_aba 70 83 3 0 5 0 20 = true) (by omega) (by omega) (by omega)
  refine ev_retK1 f_X12_ofCart rfl rfl rfl ?_
  refine ev_addR f_X12_byCart (nx := 38) (l := 0) (u := 260) rfl l_a1 u_a1 l16 u16 rfl rfl (by decide) (by decide) rfl (fun z17 e17 l17 u17 => ?_)
  refine ev_ic f_X12_byCart (nx := 39) (v := 0) rfl (by decide) rfl ?_
  refine ev_loc f_X12_byCart (nx := 40) rfl rfl rfl rfl ?_
  refine ev_loc f_X12_byCart (nx := 41) rfl rfl rfl rfl ?_
  refine ev_ic f_X12_byCart (nx := 42) (v := 1) rfl (by decide) rfl ?_
  refine ev_addC f_X12_byCart (nx := 43) (c := 1) (l := 1) (u := 6) rfl (by decide) l_a3 u_a3 rfl rfl (by decide) (by decide) rfl (fun z18 e18 l18 u18 => ?_)
  refine ev_qI0 f_X12_byCart (nx := 46) (r := [.int z12]) rfl rfl rfl rfl rfl rfl rfl (c_m_leftAt hI (z17) l17 (Int.le_trans u17 (by decide : (260:Int) ≤ 300)) (0) (by decide : (0:Int) ≤ (0:Int32).toInt) (Int.le_trans (by decide : (0:Int32).toInt ≤ (0:Int)) (by decide : (0:Int) ≤ 1)) (ar2) l_a2 u_a2 (z18) (Int.le_trans (by decide : (0:Int) ≤ 1) l18) u18) rfl (fun w19 l19 u19 q19 => ?_)
  have q19 : w19.toInt = t_la (gi 92) (t_S gi) (t_C gi) z17.toInt.toNat 0 ar2.toInt.toNat z18.toInt.toNat := q19
  have l20 : (0:Int) ≤ w19.toInt := (by have hsa := t_ca_eq (p := gi) t_sp.rf (i := ar3) (e1.symm).symm (by omega) (e3.symm).symm (by omega) (by omega); have htk : t_ct gi ar3.toInt.toNat = w16.toInt.toNat := (by unfold t_ct; rw [t_of_eq (p := gi) (a := 83) (b := 3) t_sp.rf (t_ci_eq t_sp.rf (i := ar3) (e1.symm).symm (by omega)) (e16.symm).symm (by omega) (by omega)]); have hco : t_cc gi ar3.toInt.toNat = w10.toInt := (by unfold t_cc; rw [t_of_eq (p := gi) (a := 84) (b := 3) t_sp.rf (t_ci_eq t_sp.rf (i := ar3) (e1.symm).symm (by omega)) (e10.symm).symm (by omega) (by omega)]); have hL : w19.toInt = t_la (gi 92) (t_S gi) (t_C gi) (ar1.toInt.toNat + t_ct gi ar3.toInt.toNat) 0 ar2.toInt.toNat (ar3.toInt.toNat + 1) := (by rw [q19, htk]; congr 1 <;> omega); have h2 := e_p2; omega)
  have u21 : w19.toInt ≤ (1000000000:Int) := (by have hsa := t_ca_eq (p := gi) t_sp.rf (i := ar3) (e1.symm).symm (by omega) (e3.symm).symm (by omega) (by omega); have htk : t_ct gi ar3.toInt.toNat = w16.toInt.toNat := (by unfold t_ct; rw [t_of_eq (p := gi) (a := 83) (b := 3) t_sp.rf (t_ci_eq t_sp.rf (i := ar3) (e1.symm).symm (by omega)) (e16.symm).symm (by omega) (by omega)]); have hco : t_cc gi ar3.toInt.toNat = w10.toInt := (by unfold t_cc; rw [t_of_eq (p := gi) (a := 84) (b := 3) t_sp.rf (t_ci_eq t_sp.rf (i := ar3) (e1.symm).symm (by omega)) (e10.symm).symm (by omega) (by omega)]); have hL : w19.toInt = t_la (gi 92) (t_S gi) (t_C gi) (ar1.toInt.toNat + t_ct gi ar3.toInt.toNat) 0 ar2.toInt.toNat (ar3.toInt.toNat + 1) := (by rw [q19, htk]; congr 1 <;> omega); have h2 := e_p2; omega)
  refine ev_addR f_X12_byCart (nx := 47) (l := 0) (u := 1000023760) rfl l12 u12 l20 u21 rfl rfl (by decide) (by decide) rfl (fun z22 e22 l22 u22 => ?_)
  exact ev_ret f_X12_byCart rfl rfl rfl ⟨_, _, _, rfl, hI, hX, ⟨_, rfl, l22, u22, (show z22.toInt = t_byc gi (gi 92) ar1.toInt.toNat ar2.toInt.toNat ar3.toInt.toNat from (by have hsa := t_ca_eq (p := gi) t_sp.rf (i := ar3) (e1.symm).symm (by omega) (e3.symm).symm (by omega) (by omega); have htk : t_ct gi ar3.toInt.toNat = w16.toInt.toNat := (by unfold t_ct; rw [t_of_eq (p := gi) (a := 83) (b := 3) t_sp.rf (t_ci_eq t_sp.rf (i := ar3) (e1.symm).symm (by omega)) (e16.symm).symm (by omega) (by omega)]); have hco : t_cc gi ar3.toInt.toNat = w10.toInt := (by unfold t_cc; rw [t_of_eq (p := gi) (a := 84) (b := 3) t_sp.rf (t_ci_eq t_sp.rf (i := ar3) (e1.symm).symm (by omega)) (e10.symm).symm (by omega) (by omega)]); have hL : w19.toInt = t_la (gi 92) (t_S gi) (t_C gi) (ar1.toInt.toNat + t_ct gi ar3.toInt.toNat) 0 ar2.toInt.toNat (ar3.toInt.toNat + 1) := (by rw [q19, htk]; congr 1 <;> omega); unfold t_byc; rw [hsa, hco, show ((ar1.toInt.toNat : Nat) : Int) - w3.toInt = z6.toInt by omega, ← e12, ← hL]; omega))⟩⟩
noncomputable def wl_m_tellsMinutes2 : List (Nat × Nat) := [(89, 10005), (89, 610011)]
noncomputable def Q_m_tellsMinutes2 (gi : Nat → Nat → Int32) (gl : Nat → Nat → Int64) (gr : Nat → Nat → Value) : (Nat → Nat → Int32) → (Nat → Nat → Int64) → (Nat → Nat → Value) → Prop := fun (gi2 : Nat → Nat → Int32) (gl2 : Nat → Nat → Int64) (gr2 : Nat → Nat → Value) => (∀ j : Nat, j < 12 → 0 ≤ (gi2 89 j).toInt ∧ (gi2 89 j).toInt ≤ 120)
theorem c_m_tellsMinutes2 {X : x_Ext} {d : Nat} {sh : List (Nat ⊕ (Nat × Nat))} {gi : Nat → Nat → Int32} {gl : Nat → Nat → Int64} {gr : Nat → Nat → Value} (hI : t_I sh gi gr) : x_Me X (d + 1) n_X12_tellsMinutes [.ref 69] (sh, gi, gl, gr) (t_PN wl_m_tellsMinutes2 sh gi gl gr (Q_m_tellsMinutes2 gi gl gr)) := by
  have hX : t_X wl_m_tellsMinutes2 sh gi gl gr gi gl gr := t_X.rf
  refine me_i f_X12_tellsMinutes (hI.wf.s rfl) rfl rfl rfl ?_
  refine ev_ic f_X12_tellsMinutes (nx := 1) (v := 0) rfl (by decide) rfl ?_
  refine ev_loc f_X12_tellsMinutes (nx := 2) (lo' := [(1, .int 0), (0, .ref 69)]) rfl rfl rfl rfl ?_
  have L1 : ∀ (m1 : Nat) (gi1 : Nat → Nat → Int32) (gl1 : Nat → Nat → Int64) (gr1 : Nat → Nat → Value) (y1_1 : Int32), t_I sh gi1 gr1 → t_X wl_m_tellsMinutes2 sh gi gl gr gi1 gl1 gr1 → 0 ≤ y1_1.toInt → y1_1.toInt ≤ 6 → (∀ j : Nat, (j : Int) < y1_1.toInt → 0 ≤ (gi1 89 j).toInt ∧ (gi1 89 j).toInt ≤ 120) → (6 - y1_1.toInt).toNat = m1 → x_Ev X (d + 1) n_X12_tellsMinutes 2 [(1, .int y1_1), (0, .ref 69)] [] (sh, gi1, gl1, gr1) (t_PN wl_m_tellsMinutes2 sh gi gl gr (Q_m_tellsMinutes2 gi gl gr)) := by
    intro m1
    induction m1 using Nat.strongRecOn with
    | _ m1 ih1 =>
    intro gi1 gl1 gr1 y1_1 hI hX l1_1 u1_1 j1_0 hm1
    refine ev_loc f_X12_tellsMinutes (nx := 3) rfl rfl rfl rfl ?_
    refine ev_bp f_X12_tellsMinutes (nx := 5) (v := 6) rfl (by decide) rfl ?_
    refine ev_if f_X12_tellsMinutes (t1 := 33) (t2 := 8) rfl rfl rfl (fun h2 => ?_) (fun h2 => ?_)
    · have l3 : 6 ≤ y1_1.toInt := t_lel h2 (by decide : (6:Int) ≤ (6:Int32).toInt)
      refine ev_ic f_X12_tellsMinutes (nx := 34) (v := 0) rfl (by decide) rfl ?_
      refine ev_loc f_X12_tellsMinutes (nx := 35) (lo' := [(1, .int 0), (0, .ref 69)]) rfl rfl rfl rfl ?_
      have L4 : ∀ (m4 : Nat) (gi4 : Nat → Nat → Int32) (gl4 : Nat → Nat → Int64) (gr4 : Nat → Nat → Value) (y4_1 : Int32), t_I sh gi4 gr4 → t_X wl_m_tellsMinutes2 sh gi gl gr gi4 gl4 gr4 → 0 ≤ y4_1.toInt → y4_1.toInt ≤ 6 → (∀ j : Nat, (j : Int) < 6 + y4_1.toInt → 0 ≤ (gi4 89 j).toInt ∧ (gi4 89 j).toInt ≤ 120) → (6 - y4_1.toInt).toNat = m4 → x_Ev X (d + 1) n_X12_tellsMinutes 35 [(1, .int y4_1), (0, .ref 69)] [] (sh, gi4, gl4, gr4) (t_PN wl_m_tellsMinutes2 sh gi gl gr (Q_m_tellsMinutes2 gi gl gr)) := by
        intro m4
        induction m4 using Nat.strongRecOn with
        | _ m4 ih4 =>
        intro gi4 gl4 gr4 y4_1 hI hX l4_1 u4_1 j4_0 hm4
        refine ev_loc f_X12_tellsMinutes (nx := 36) rfl rfl rfl rfl ?_
        refine ev_bp f_X12_tellsMinutes (nx := 38) (v := 6) rfl (by decide) rfl ?_
        refine ev_if f_X12_tellsMinutes (t1 := 67) (t2 := 41) rfl rfl rfl (fun h5 => ?_) (fun h5 => ?_)
        · have l6 : 6 ≤ y4_1.toInt := t_lel h5 (by decide : (6:Int) ≤ (6:Int32).toInt)
          exact ev_ret f_X12_tellsMinutes rfl rfl rfl ⟨_, _, _, rfl, hI, hX, ⟨rfl, (show (∀ j : Nat, j < 12 → 0 ≤ (gi4 89 j).toInt ∧ (gi4 89 j).toInt ≤ 120) from (fun j h1 => j4_0 j (by have kf : (0 : Int32).toInt = 0 := rfl; omega)))⟩⟩
        · have u7 : y4_1.toInt ≤ 5 := t_ltu (t_nle h5) (by decide : (6:Int32).toInt ≤ (6:Int)) rfl
          refine ev_loc f_X12_tellsMinutes (nx := 42) rfl rfl rfl rfl ?_
          refine ev_getR f_X12_tellsMinutes (nx := 45) rfl (hI.wf.s rfl) rfl rfl (hI.wf.r rfl) rfl rfl ?_
          refine ev_bp f_X12_tellsMinutes (nx := 47) (v := 6) rfl (by decide) rfl ?_
          refine ev_loc f_X12_tellsMinutes (nx := 48) rfl rfl rfl rfl ?_
          refine ev_addK f_X12_tellsMinutes (nx := 49) (c := 6) (l := 6) (u := 11) rfl (by decide) l4_1 u7 rfl rfl (by decide) (by decide) rfl (fun z8 e8 l8 u8 => ?_)
          refine ev_loc f_X12_tellsMinutes (nx := 50) rfl rfl rfl rfl ?_
          refine ev_getR f_X12_tellsMinutes (nx := 53) rfl (hI.wf.s rfl) rfl rfl (hI.wf.r rfl) rfl rfl ?_
          refine ev_bp f_X12_tellsMinutes (nx := 55) (v := 82) rfl (by decide) rfl ?_
          refine ev_ic f_X12_tellsMinutes (nx := 56) (v := 3) rfl (by decide) rfl ?_
          refine ev_loc f_X12_tellsMinutes (nx := 57) rfl rfl rfl rfl ?_
          refine ev_mulL f_X12_tellsMinutes (nx := 58) (c := 3) (l := 0) (u := 15) rfl (by decide) (by decide) l4_1 u7 rfl rfl (by decide) (by decide) rfl (fun z9 e9 l9 u9 => ?_)
          refine ev_addK f_X12_tellsMinutes (nx := 59) (c := 82) (l := 82) (u := 97) rfl (by decide) l9 u9 rfl rfl (by decide) (by decide) rfl (fun z10 e10 l10 u10 => ?_)
          refine ev_ialdT f_X12_tellsMinutes (nx := 60) rfl (hI.wf.s rfl) l10 (by decide) u10 (by decide) rfl (fun w11 e11 => ?_)
          obtain ⟨l11, u11⟩ := hI.abA (x := y4_1) e11 (by decide +kernel : t_aba 70 82 3 0 5 0 120 = true) (by omega) (by omega) (by omega)
          refine ev_iastT f_X12_tellsMinutes (nx := 61) rfl (hI.wf.s rfl) l8 (by decide) u8 (by decide) rfl (hI.astG (hI.wf.s rfl) (fun lo hi e => absurd e (t_nob (by decide +kernel) _)) (fun k hk e => by have := hk.2.1; omega)) (hX.upI (t_inR (p := 6) (m := 11) rfl l8 (by decide) u8 (by decide) (by decide))) (fun g12 e12 hI hX => ?_)
          refine ev_incR f_X12_tellsMinutes (nx := 64) (c := 1) (l := 1) (u := 6) rfl rfl (by decide) (by decide) l4_1 u7 rfl rfl (by decide) (by decide) rfl (fun z13 e13 l13 u13 => ?_)
          refine ev_jmp f_X12_tellsMinutes (nx := 35) rfl rfl rfl ?_
          refine ev_sub (lo := [(1, .int z13), (0, .ref 69)]) rfl (t_sc rfl (t_sc rfl t_sn)) ?_
          exact ih4 _ (by omega) g12 gl4 gr4 (z13) hI hX  (Int.le_trans (by decide : (0:Int) ≤ 1) l13) u13 (by intro j h1; rcases t_stc e12 j with ⟨h2, h3⟩ | ⟨h2, h3⟩ <;> rw [h3]; (constructor <;> omega); exact j4_0 j (by have hc := t_clamp (i := z8) (by omega); omega)) rfl
      refine ev_sub (lo := [(1, .int 0), (0, .ref 69)]) rfl (t_sc rfl (t_sc rfl t_sn)) ?_
      exact L4 _ gi1 gl1 gr1 (0) hI hX  (by decide : (0:Int) ≤ (0:Int32).toInt) (Int.le_trans (by decide : (0:Int32).toInt ≤ (0:Int)) (by decide : (0:Int) ≤ 6)) (fun j h1 => j1_0 j (by have kf : (0 : Int32).toInt = 0 := rfl; omega)) rfl
    · have u14 : y1_1.toInt ≤ 5 := t_ltu (t_nle h2) (by decide : (6:Int32).toInt ≤ (6:Int)) rfl
      refine ev_loc f_X12_tellsMinutes (nx := 9) rfl rfl rfl rfl ?_
      refine ev_getR f_X12_tellsMinutes (nx := 12) rfl (hI.wf.s rfl) rfl rfl (hI.wf.r rfl) rfl rfl ?_
      refine ev_loc f_X12_tellsMinutes (nx := 13) rfl rfl rfl rfl ?_
      refine ev_loc f_X12_tellsMinutes (nx := 14) rfl rfl rfl rfl ?_
      refine ev_getR f_X12_tellsMinutes (nx := 17) rfl (hI.wf.s rfl) rfl rfl (hI.wf.r rfl) rfl rfl ?_
      refine ev_bp f_X12_tellsMinutes (nx := 19) (v := 52) rfl (by decide) rfl ?_
      refine ev_ic f_X12_tellsMinutes (nx := 20) (v := 5) rfl (by decide) rfl ?_
      refine ev_loc f_X12_tellsMinutes (nx := 21) rfl rfl rfl rfl ?_
      refine ev_mulL f_X12_tellsMinutes (nx := 22) (c := 5) (l := 0) (u := 25) rfl (by decide) (by decide) l1_1 u14 rfl rfl (by decide) (by decide) rfl (fun z15 e15 l15 u15 => ?_)
      refine ev_addK f_X12_tellsMinutes (nx := 23) (c := 52) (l := 52) (u := 77) rfl (by decide) l15 u15 rfl rfl (by decide) (by decide) rfl (fun z16 e16 l16 u16 => ?_)
      refine ev_ic f_X12_tellsMinutes (nx := 24) (v := 1) rfl (by decide) rfl ?_
      refine ev_addC f_X12_tellsMinutes (nx := 25) (c := 1) (l := 53) (u := 78) rfl (by decide) l16 u16 rfl rfl (by decide) (by decide) rfl (fun z17 e17 l17 u17 => ?_)
      refine ev_ialdT f_X12_tellsMinutes (nx := 26) rfl (hI.wf.s rfl) l17 (by decide) u17 (by decide) rfl (fun w18 e18 => ?_)
      obtain ⟨l18, u18⟩ := hI.abA (x := y1_1) e18 (by decide +kernel : t_aba 70 53 5 0 5 0 120 = true) (by omega) (by omega) (by omega)
      refine ev_iastT f_X12_tellsMinutes (nx := 27) rfl (hI.wf.s rfl) l1_1 (by decide) u14 (by decide) rfl (hI.astG (hI.wf.s rfl) (fun lo hi e => absurd e (t_nob (by decide +kernel) _)) (fun k hk e => by have := hk.2.1; omega)) (hX.upI (t_inR (p := 0) (m := 5) rfl l1_1 (by decide) u14 (by decide) (by decide))) (fun g19 e19 hI hX => ?_)
      refine ev_incR f_X12_tellsMinutes (nx := 30) (c := 1) (l := 1) (u := 6) rfl rfl (by decide) (by decide) l1_1 u14 rfl rfl (by decide) (by decide) rfl (fun z20 e20 l20 u20 => ?_)
      refine ev_jmp f_X12_tellsMinutes (nx := 2) rfl rfl rfl ?_
      refine ev_sub (lo := [(1, .int z20), (0, .ref 69)]) rfl (t_sc rfl (t_sc rfl t_sn)) ?_
      exact ih1 _ (by omega) g19 gl1 gr1 (z20) hI hX  (Int.le_trans (by decide : (0:Int) ≤ 1) l20) u20 (by intro j h1; rcases t_stc e19 j with ⟨h2, h3⟩ | ⟨h2, h3⟩ <;> rw [h3]; (constructor <;> omega); exact j1_0 j (by have hc := t_clamp (i := y1_1) (by omega); omega)) rfl
  refine ev_sub (lo := [(1, .int 0), (0, .ref 69)]) rfl (t_sc rfl (t_sc rfl t_sn)) ?_
  exact L1 _ gi gl gr (0) hI hX  (by decide : (0:Int) ≤ (0:Int32).toInt) (Int.le_trans (by decide : (0:Int32).toInt ≤ (0:Int)) (by decide : (0:Int) ≤ 6)) (fun j h1 => absurd h1 (by have : (0 : Int32).toInt = 0 := rfl; omega)) rfl
noncomputable def wl_m_reckons : List (Nat × Nat) := [(92, 9999)]
noncomputable def Q_m_reckons (gi : Nat → Nat → Int32) (gl : Nat → Nat → Int64) (gr : Nat → Nat → Value) : Int32 → (Nat → Nat → Int32) → (Nat → Nat → Int64) → (Nat → Nat → Value) → Prop := fun (v : Int32) (gi2 : Nat → Nat → Int32) (gl2 : Nat → Nat → Int64) (gr2 : Nat → Nat → Value) => t_pr gi2 (gi2 92) (gi2 69 48).toInt 23618 ∧ t_rk v.toInt (t_la (gi2 92) (t_S gi2) (t_C gi2) 0 0 0 0)
theorem c_m_reckons {X : x_Ext} {d : Nat} {sh : List (Nat ⊕ (Nat × Nat))} {gi : Nat → Nat → Int32} {gl : Nat → Nat → Int64} {gr : Nat → Nat → Value} (hI : t_I sh gi gr) (e_p0 : 1 ≤ (gi 69 48).toInt) (e_p1 : (∀ j : Nat, j < 12 → 0 ≤ (gi 89 j).toInt ∧ (gi 89 j).toInt ≤ 300)) : x_Me X (d + 4) n_X12_reckons [.ref 69] (sh, gi, gl, gr) (t_PI wl_m_reckons sh gi gl gr (-2147483648) 999999999 (Q_m_reckons gi gl gr)) := by
  have hX : t_X wl_m_reckons sh gi gl gr gi gl gr := t_X.rf
  refine me_i f_X12_reckons (hI.wf.s rfl) rfl rfl rfl ?_
  obtain ⟨l1, u1⟩ := hI.b (hI.wf.s (k := 69) rfl) (t_bdK rfl : t_bd 11 44 = some (0, 6))
  obtain ⟨l2, u2⟩ := hI.b (hI.wf.s (k := 69) rfl) (t_bdK rfl : t_bd 11 45 = some (0, 6))
  obtain ⟨l3, u3⟩ := hI.b (hI.wf.s (k := 69) rfl) (t_bdK rfl : t_bd 11 48 = some (0, 20))
  refine ev_sp f_X12_reckons (nx := 3) (v := 240) rfl (by decide) rfl ?_
  refine ev_loc f_X12_reckons (nx := 4) (lo' := [(1, .int 240), (0, .ref 69)]) rfl rfl rfl rfl ?_
  have L4 : ∀ (m4 : Nat) (gi4 : Nat → Nat → Int32) (gl4 : Nat → Nat → Int64) (gr4 : Nat → Nat → Value) (y4_1 : Int32), t_I sh gi4 gr4 → t_X wl_m_reckons sh gi gl gr gi4 gl4 gr4 → (-1) ≤ y4_1.toInt → y4_1.toInt ≤ 240 → gi4 69 44 = (gi 69 44) → gi4 69 45 = (gi 69 45) → gi4 69 48 = (gi 69 48) → t_pr gi (gi4 92) (gi 69 48).toInt (98 * (240 - y4_1.toInt)).toNat → (y4_1.toInt - (-1)).toNat = m4 → x_Ev X (d + 4) n_X12_reckons 4 [(1, .int y4_1), (0, .ref 69)] [] (sh, gi4, gl4, gr4) (t_PI wl_m_reckons sh gi gl gr (-2147483648) 999999999 (Q_m_reckons gi gl gr)) := by
    intro m4
    induction m4 using Nat.strongRecOn with
    | _ m4 ih4 =>
    intro gi4 gl4 gr4 y4_1 hI hX l4_1 u4_1 c4_0 c4_1 c4_2 j4_0 hm4
    refine ev_loc f_X12_reckons (nx := 5) rfl rfl rfl rfl ?_
    refine ev_if f_X12_reckons (t1 := 176) (t2 := 8) rfl rfl rfl (fun h5 => ?_) (fun h5 => ?_)
    · have u6 : y4_1.toInt ≤ (-1) := t_ltu h5 (by decide : (0:Int32).toInt ≤ (0:Int)) rfl
      refine ev_loc f_X12_reckons (nx := 177) rfl rfl rfl rfl ?_
      refine ev_ic f_X12_reckons (nx := 178) (v := 0) rfl (by decide) rfl ?_
      refine ev_ic f_X12_reckons (nx := 179) (v := 0) rfl (by decide) rfl ?_
      refine ev_ic f_X12_reckons (nx := 180) (v := 0) rfl (by decide) rfl ?_
      refine ev_ic f_X12_reckons (nx := 181) (v := 0) rfl (by decide) rfl ?_
      refine ev_qI0 f_X12_reckons (nx := 184) (r := []) rfl rfl rfl rfl rfl rfl rfl (c_m_leftAt hI (0) (by decide : (0:Int) ≤ (0:Int32).toInt) (Int.le_trans (by decide : (0:Int32).toInt ≤ (0:Int)) (by decide : (0:Int) ≤ 300)) (0) (by decide : (0:Int) ≤ (0:Int32).toInt) (Int.le_trans (by decide : (0:Int32).toInt ≤ (0:Int)) (by decide : (0:Int) ≤ 1)) (0) (by decide : (0:Int) ≤ (0:Int32).toInt) (Int.le_trans (by decide : (0:Int32).toInt ≤ (0:Int)) (by decide : (0:Int) ≤ 6)) (0) (by decide : (0:Int) ≤ (0:Int32).toInt) (Int.le_trans (by decide : (0:Int32).toInt ≤ (0:Int)) (by decide : (0:Int) ≤ 6))) rfl (fun w7 l7 u7 q7 => ?_)
      have q7 : w7.toInt = t_la (gi4 92) (t_S gi4) (t_C gi4) 0 0 0 0 := q7
      refine ev_loc f_X12_reckons (nx := 185) (lo' := [(1, .int w7), (0, .ref 69)]) rfl rfl rfl rfl ?_
      refine ev_loc f_X12_reckons (nx := 186) rfl rfl rfl rfl ?_
      refine ev_ldW f_X12_reckons (nx := 189) (v := 1000000000) rfl (by decide) rfl ?_
      refine ev_if f_X12_reckons (t1 := 196) (t2 := 192) rfl rfl rfl (fun h8 => ?_) (fun h8 => ?_)
      · have l9 : 1000000000 ≤ w7.toInt := t_lel h8 (by decide : (1000000000:Int) ≤ (1000000000:Int32).toInt)
        refine ev_ic f_X12_reckons (nx := 197) (v := -1) rfl (by decide) rfl ?_
        exact ev_ret f_X12_reckons rfl rfl rfl ⟨_, _, _, rfl, hI, hX, ⟨_, rfl, (Int.le_trans (by decide : ((-2147483648):Int) ≤ (-1)) (by decide : ((-1):Int) ≤ ((-1):Int32).toInt)), (Int.le_trans (by decide : ((-1):Int32).toInt ≤ ((-1):Int)) (by decide : ((-1):Int) ≤ 999999999)), (show t_pr gi4 (gi4 92) (gi4 69 48).toInt 23618 ∧ t_rk (-1) (t_la (gi4 92) (t_S gi4) (t_C gi4) 0 0 0 0) from (by have hsp : t_sp gi gi4 := ⟨(hX.1 69 44 rfl).1, (hX.1 69 45 rfl).1, (hX.1 69 48 rfl).1, funext (fun j => (hX.1 70 j rfl).1), funext (fun j => (hX.1 89 j rfl).1), funext (fun j => (hX.1 90 j rfl).1), funext (fun j => (hX.1 91 j rfl).1)⟩; refine ⟨?_, ⟨fun hv => ?_, ?_⟩⟩; (rw [t_pr_sp hsp, hsp.2.2.1]; have hK : (98 * (240 - y4_1.toInt)).toNat = 23618 := (by omega); rw [← hK]; exact j4_0); (have hq := q7; omega); (have hq := q7; omega)))⟩⟩
      · have u10 : w7.toInt ≤ 999999999 := t_ltu (t_nle h8) (by decide : (1000000000:Int32).toInt ≤ (1000000000:Int)) rfl
        refine ev_loc f_X12_reckons (nx := 193) rfl rfl rfl rfl ?_
        refine ev_jmp f_X12_reckons (nx := 197) rfl rfl rfl ?_
        exact ev_ret f_X12_reckons rfl rfl rfl ⟨_, _, _, rfl, hI, hX, ⟨_, rfl, l7, u10, (show t_pr gi4 (gi4 92) (gi4 69 48).toInt 23618 ∧ t_rk w7.toInt (t_la (gi4 92) (t_S gi4) (t_C gi4) 0 0 0 0) from (by have hsp : t_sp gi gi4 := ⟨(hX.1 69 44 rfl).1, (hX.1 69 45 rfl).1, (hX.1 69 48 rfl).1, funext (fun j => (hX.1 70 j rfl).1), funext (fun j => (hX.1 89 j rfl).1), funext (fun j => (hX.1 90 j rfl).1), funext (fun j => (hX.1 91 j rfl).1)⟩; refine ⟨?_, ⟨fun hv => ?_, ?_⟩⟩; (rw [t_pr_sp hsp, hsp.2.2.1]; have hK : (98 * (240 - y4_1.toInt)).toNat = 23618 := (by omega); rw [← hK]; exact j4_0); (have hq := q7; omega); (have hq := q7; omega)))⟩⟩
    · have l11 : 0 ≤ y4_1.toInt := t_lel (t_nlt h5) (by decide : (0:Int) ≤ (0:Int32).toInt)
      refine ev_ic f_X12_reckons (nx := 9) (v := 0) rfl (by decide) rfl ?_
      refine ev_loc f_X12_reckons (nx := 10) (lo' := [(2, .int 0), (1, .int y4_1), (0, .ref 69)]) rfl rfl rfl rfl ?_
      have L12 : ∀ (m12 : Nat) (gi12 : Nat → Nat → Int32) (gl12 : Nat → Nat → Int64) (gr12 : Nat → Nat → Value) (y12_2 : Int32), t_I sh gi12 gr12 → t_X wl_m_reckons sh gi gl gr gi12 gl12 gr12 → 0 ≤ y12_2.toInt → y12_2.toInt ≤ 2 → gi12 69 44 = (gi 69 44) → gi12 69 45 = (gi 69 45) → gi12 69 48 = (gi 69 48) → t_pr gi (gi12 92) (gi 69 48).toInt (98 * (240 - y4_1.toInt) + 49 * y12_2.toInt).toNat → (2 - y12_2.toInt).toNat = m12 → x_Ev X (d + 4) n_X12_reckons 10 [(2, .int y12_2), (1, .int y4_1), (0, .ref 69)] [] (sh, gi12, gl12, gr12) (t_PI wl_m_reckons sh gi gl gr (-2147483648) 999999999 (Q_m_reckons gi gl gr)) := by
        intro m12
        induction m12 using Nat.strongRecOn with
        | _ m12 ih12 =>
        intro gi12 gl12 gr12 y12_2 hI hX l12_2 u12_2 c12_0 c12_1 c12_2 j12_0 hm12
        refine ev_loc f_X12_reckons (nx := 11) rfl rfl rfl rfl ?_
        refine ev_ic f_X12_reckons (nx := 12) (v := 2) rfl (by decide) rfl ?_
        refine ev_if f_X12_reckons (t1 := 170) (t2 := 15) rfl rfl rfl (fun h13 => ?_) (fun h13 => ?_)
        · have l14 : 2 ≤ y12_2.toInt := t_lel h13 (by decide : (2:Int) ≤ (2:Int32).toInt)
          refine ev_incR f_X12_reckons (nx := 173) (c := (-1)) (l := (-1)) (u := 239) rfl rfl (by decide) (by decide) l11 u4_1 rfl rfl (by decide) (by decide) rfl (fun z15 e15 l15 u15 => ?_)
          refine ev_jmp f_X12_reckons (nx := 4) rfl rfl rfl ?_
          refine ev_sub (lo := [(1, .int z15), (0, .ref 69)]) rfl (t_sc rfl (t_sc rfl t_sn)) ?_
          exact ih4 _ (by omega) gi12 gl12 gr12 (z15) hI hX  l15 (Int.le_trans u15 (by decide : (239:Int) ≤ 240)) c12_0 c12_1 c12_2 (t_prK j12_0 (fun m o s c h1 h2 h3 h4 h5 => by unfold t_S at h3; unfold t_C at h4; unfold t_ky at h5 ⊢; omega)) rfl
        · have u16 : y12_2.toInt ≤ 1 := t_ltu (t_nle h13) (by decide : (2:Int32).toInt ≤ (2:Int)) rfl
          refine ev_loc f_X12_reckons (nx := 16) rfl rfl rfl rfl ?_
          refine ev_gvI f_X12_reckons (nx := 19) (w := (gi 69 44)) rfl (hI.wf.s rfl) rfl rfl c12_0 rfl ?_
          refine ev_loc f_X12_reckons (nx := 20) (lo' := [(3, .int (gi 69 44)), (2, .int y12_2), (1, .int y4_1), (0, .ref 69)]) rfl rfl rfl rfl ?_
          have L17 : ∀ (m17 : Nat) (gi17 : Nat → Nat → Int32) (gl17 : Nat → Nat → Int64) (gr17 : Nat → Nat → Value) (y17_3 : Int32), t_I sh gi17 gr17 → t_X wl_m_reckons sh gi gl gr gi17 gl17 gr17 → (-1) ≤ y17_3.toInt → y17_3.toInt ≤ 6 → gi17 69 44 = (gi 69 44) → gi17 69 45 = (gi 69 45) → gi17 69 48 = (gi 69 48) → t_pr gi (gi17 92) (gi 69 48).toInt (98 * (240 - y4_1.toInt) + 49 * y12_2.toInt + 7 * (6 - y17_3.toInt)).toNat → y17_3.toInt ≤ (gi 69 44).toInt → (y17_3.toInt - (-1)).toNat = m17 → x_Ev X (d + 4) n_X12_reckons 20 [(3, .int y17_3), (2, .int y12_2), (1, .int y4_1), (0, .ref 69)] [] (sh, gi17, gl17, gr17) (t_PI wl_m_reckons sh gi gl gr (-2147483648) 999999999 (Q_m_reckons gi gl gr)) := by
            intro m17
            induction m17 using Nat.strongRecOn with
            | _ m17 ih17 =>
            intro gi17 gl17 gr17 y17_3 hI hX l17_3 u17_3 c17_0 c17_1 c17_2 j17_0 j17_1 hm17
            refine ev_loc f_X12_reckons (nx := 21) rfl rfl rfl rfl ?_
            refine ev_if f_X12_reckons (t1 := 164) (t2 := 24) rfl rfl rfl (fun h18 => ?_) (fun h18 => ?_)
            · have u19 : y17_3.toInt ≤ (-1) := t_ltu h18 (by decide : (0:Int32).toInt ≤ (0:Int)) rfl
              refine ev_incR f_X12_reckons (nx := 167) (c := 1) (l := 1) (u := 2) rfl rfl (by decide) (by decide) l12_2 u16 rfl rfl (by decide) (by decide) rfl (fun z20 e20 l20 u20 => ?_)
              refine ev_jmp f_X12_reckons (nx := 10) rfl rfl rfl ?_
              refine ev_sub (lo := [(2, .int z20), (1, .int y4_1), (0, .ref 69)]) rfl (t_sc rfl (t_sc rfl (t_sc rfl t_sn))) ?_
              exact ih12 _ (by omega) gi17 gl17 gr17 (z20) hI hX  (Int.le_trans (by decide : (0:Int) ≤ 1) l20) u20 c17_0 c17_1 c17_2 (t_prK j17_0 (fun m o s c h1 h2 h3 h4 h5 => by unfold t_S at h3; unfold t_C at h4; unfold t_ky at h5 ⊢; omega)) rfl
            · have l21 : 0 ≤ y17_3.toInt := t_lel (t_nlt h18) (by decide : (0:Int) ≤ (0:Int32).toInt)
              refine ev_loc f_X12_reckons (nx := 25) rfl rfl rfl rfl ?_
              refine ev_gvI f_X12_reckons (nx := 28) (w := (gi 69 45)) rfl (hI.wf.s rfl) rfl rfl c17_1 rfl ?_
              refine ev_loc f_X12_reckons (nx := 30) (lo' := [(4, .int (gi 69 45)), (3, .int y17_3), (2, .int y12_2), (1, .int y4_1), (0, .ref 69)]) rfl rfl rfl rfl ?_
              have L22 : ∀ (m22 : Nat) (gi22 : Nat → Nat → Int32) (gl22 : Nat → Nat → Int64) (gr22 : Nat → Nat → Value) (y22_4 : Int32), t_I sh gi22 gr22 → t_X wl_m_reckons sh gi gl gr gi22 gl22 gr22 → (-1) ≤ y22_4.toInt → y22_4.toInt ≤ 6 → gi22 69 44 = (gi 69 44) → gi22 69 45 = (gi 69 45) → gi22 69 48 = (gi 69 48) → t_pr gi (gi22 92) (gi 69 48).toInt (98 * (240 - y4_1.toInt) + 49 * y12_2.toInt + 7 * (6 - y17_3.toInt) + (6 - y22_4.toInt)).toNat → y17_3.toInt ≤ (gi 69 44).toInt → y22_4.toInt ≤ (gi 69 45).toInt → (y22_4.toInt - (-1)).toNat = m22 → x_Ev X (d + 4) n_X12_reckons 30 [(4, .int y22_4), (3, .int y17_3), (2, .int y12_2), (1, .int y4_1), (0, .ref 69)] [] (sh, gi22, gl22, gr22) (t_PI wl_m_reckons sh gi gl gr (-2147483648) 999999999 (Q_m_reckons gi gl gr)) := by
                intro m22
                induction m22 using Nat.strongRecOn with
                | _ m22 ih22 =>
                intro gi22 gl22 gr22 y22_4 hI hX l22_4 u22_4 c22_0 c22_1 c22_2 j22_0 j22_1 j22_2 hm22
                refine ev_loc f_X12_reckons (nx := 32) rfl rfl rfl rfl ?_
                refine ev_if f_X12_reckons (t1 := 158) (t2 := 35) rfl rfl rfl (fun h23 => ?_) (fun h23 => ?_)
                · have u24 : y22_4.toInt ≤ (-1) := t_ltu h23 (by decide : (0:Int32).toInt ≤ (0:Int)) rfl
                  refine ev_incR f_X12_reckons (nx := 161) (c := (-1)) (l := (-1)) (u := 5) rfl rfl (by decide) (by decide) l21 u17_3 rfl rfl (by decide) (by decide) rfl (fun z25 e25 l25 u25 => ?_)
                  refine ev_jmp f_X12_reckons (nx := 20) rfl rfl rfl ?_
                  refine ev_sub (lo := [(3, .int z25), (2, .int y12_2), (1, .int y4_1), (0, .ref 69)]) rfl (t_sc rfl (t_sc rfl (t_sc rfl (t_sc rfl t_sn)))) ?_
                  exact ih17 _ (by omega) gi22 gl22 gr22 (z25) hI hX  l25 (Int.le_trans u25 (by decide : (5:Int) ≤ 6)) c22_0 c22_1 c22_2 (t_prK j22_0 (fun m o s c h1 h2 h3 h4 h5 => by unfold t_S at h3; unfold t_C at h4; unfold t_ky at h5 ⊢; omega)) (by omega) rfl
                · have l26 : 0 ≤ y22_4.toInt := t_lel (t_nlt h23) (by decide : (0:Int) ≤ (0:Int32).toInt)
                  refine ev_loc f_X12_reckons (nx := 36) rfl rfl rfl rfl ?_
                  refine ev_loc f_X12_reckons (nx := 37) rfl rfl rfl rfl ?_
                  refine ev_ic f_X12_reckons (nx := 38) (v := 1) rfl (by decide) rfl ?_
                  refine ev_addC f_X12_reckons (nx := 39) (c := 1) (l := 1) (u := 241) rfl (by decide) l11 u4_1 rfl rfl (by decide) (by decide) rfl (fun z27 e27 l27 u27 => ?_)
                  refine ev_loc f_X12_reckons (nx := 40) rfl rfl rfl rfl ?_
                  refine ev_loc f_X12_reckons (nx := 41) rfl rfl rfl rfl ?_
                  refine ev_loc f_X12_reckons (nx := 43) rfl rfl rfl rfl ?_
                  refine ev_qI0 f_X12_reckons (nx := 46) (r := []) rfl rfl rfl rfl rfl rfl rfl (c_m_leftAt hI (z27) (Int.le_trans (by decide : (0:Int) ≤ 1) l27) (Int.le_trans u27 (by decide : (241:Int) ≤ 300)) (y12_2) l12_2 u16 (y17_3) l21 u17_3 (y22_4) l26 u22_4) rfl (fun w28 l28 u28 q28 => ?_)
                  have q28 : w28.toInt = t_la (gi22 92) (t_S gi22) (t_C gi22) z27.toInt.toNat y12_2.toInt.toNat y17_3.toInt.toNat y22_4.toInt.toNat := q28
                  refine ev_loc f_X12_reckons (nx := 47) rfl rfl rfl rfl ?_
                  refine ev_loc f_X12_reckons (nx := 48) rfl rfl rfl rfl ?_
                  refine ev_loc f_X12_reckons (nx := 49) rfl rfl rfl rfl ?_
                  refine ev_loc f_X12_reckons (nx := 50) rfl rfl rfl rfl ?_
                  refine ev_loc f_X12_reckons (nx := 51) rfl rfl rfl rfl ?_
                  refine ev_gvI f_X12_reckons (nx := 54) (w := (gi 69 48)) rfl (hI.wf.s rfl) rfl rfl c22_2 rfl ?_
                  have l29 : (1:Int) ≤ (gi 69 48).toInt := (by have ff30 : (gi22 69 48).toInt = (gi 69 48).toInt := congrArg Int32.toInt c22_2; have h := e_p0; omega)
                  refine ev_qI0 f_X12_reckons (nx := 57) (r := [.int y4_1, .ref 69, .int w28]) rfl rfl rfl rfl rfl rfl rfl (c_m_turnTime hI (y4_1) l11 (Int.le_trans u4_1 (by decide : (240:Int) ≤ 300)) ((gi 69 48)) l29 u3) rfl (fun w31 l31 u31 q31 => ?_)
                  have q31 : w31.toInt = ((t_tt gi22 (gi 69 48).toInt y4_1.toInt.toNat : Nat) : Int) := q31
                  refine ev_addR f_X12_reckons (nx := 58) (l := 1) (u := 280) rfl l11 u4_1 l31 u31 rfl rfl (by decide) (by decide) rfl (fun z32 e32 l32 u32 => ?_)
                  refine ev_ic f_X12_reckons (nx := 59) (v := 1) rfl (by decide) rfl ?_
                  refine ev_loc f_X12_reckons (nx := 60) rfl rfl rfl rfl ?_
                  refine ev_subK f_X12_reckons (nx := 61) (c := 1) (l := 0) (u := 1) rfl (by decide) l12_2 u16 rfl rfl (by decide) (by decide) rfl (fun z33 e33 l33 u33 => ?_)
                  refine ev_loc f_X12_reckons (nx := 62) rfl rfl rfl rfl ?_
                  refine ev_loc f_X12_reckons (nx := 64) rfl rfl rfl rfl ?_
                  refine ev_qI0 f_X12_reckons (nx := 67) (r := [.int w28]) rfl rfl rfl rfl rfl rfl rfl (c_m_leftAt hI (z32) (Int.le_trans (by decide : (0:Int) ≤ 1) l32) (Int.le_trans u32 (by decide : (280:Int) ≤ 300)) (z33) l33 u33 (y17_3) l21 u17_3 (y22_4) l26 u22_4) rfl (fun w34 l34 u34 q34 => ?_)
                  have q34 : w34.toInt = t_la (gi22 92) (t_S gi22) (t_C gi22) z32.toInt.toNat z33.toInt.toNat y17_3.toInt.toNat y22_4.toInt.toNat := q34
                  refine ev_minE f_X12_reckons (nx := 70) (l := (-2147483648)) (u := 2147483647) rfl rfl (by omega) rfl l28 u28 l34 u34 (by decide) (by decide) rfl (fun z35 e35 l35 u35 => ?_)
                  refine ev_loc f_X12_reckons (nx := 72) (lo' := [(5, .int z35), (4, .int y22_4), (3, .int y17_3), (2, .int y12_2), (1, .int y4_1), (0, .ref 69)]) rfl rfl rfl rfl ?_
                  refine ev_loc f_X12_reckons (nx := 73) rfl rfl rfl rfl ?_
                  refine ev_loc f_X12_reckons (nx := 74) rfl rfl rfl rfl ?_
                  refine ev_loc f_X12_reckons (nx := 75) rfl rfl rfl rfl ?_
                  refine ev_loc f_X12_reckons (nx := 76) rfl rfl rfl rfl ?_
                  refine ev_qI0 f_X12_reckons (nx := 79) (r := []) rfl rfl rfl rfl rfl rfl rfl (c_m_mayShip hI (y4_1) l11 u4_1 (y12_2) l12_2 u16 (y17_3) l21 u17_3 (by have ff37 : (gi22 69 44).toInt = (gi 69 44).toInt := congrArg Int32.toInt c22_0; omega)) rfl (fun w36 l36 u36 q36 => ?_)
                  have q36 : (w36.toInt = 1 ↔ t_mayS gi22 y4_1.toInt.toNat y12_2.toInt.toNat y17_3.toInt.toNat) := q36
                  refine ev_if f_X12_reckons (t1 := 97) (t2 := 82) rfl rfl rfl (fun h38 => ?_) (fun h38 => ?_)
                  · have u39 : w36.toInt ≤ 0 := t_equ h38 (by decide : (0:Int32).toInt ≤ (0:Int))
                    refine ev_loc f_X12_reckons (nx := 98) rfl rfl rfl rfl ?_
                    refine ev_loc f_X12_reckons (nx := 99) rfl rfl rfl rfl ?_
                    refine ev_loc f_X12_reckons (nx := 100) rfl rfl rfl rfl ?_
                    refine ev_loc f_X12_reckons (nx := 102) rfl rfl rfl rfl ?_
                    refine ev_qI0 f_X12_reckons (nx := 105) (r := []) rfl rfl rfl rfl rfl rfl rfl (c_m_mayCart hI (y4_1) l11 u4_1 (y12_2) l12_2 u16 (y22_4) l26 u22_4) rfl (fun w40 l40 u40 q40 => ?_)
                    have q40 : (w40.toInt = 1 ↔ t_mayC gi22 y4_1.toInt.toNat y12_2.toInt.toNat y22_4.toInt.toNat) := q40
                    refine ev_if f_X12_reckons (t1 := 123) (t2 := 108) rfl rfl rfl (fun h41 => ?_) (fun h41 => ?_)
                    · have u42 : w40.toInt ≤ 0 := t_equ h41 (by decide : (0:Int32).toInt ≤ (0:Int))
                      refine ev_loc f_X12_reckons (nx := 124) rfl rfl rfl rfl ?_
                      refine ev_getR f_X12_reckons (nx := 127) rfl (hI.wf.s rfl) rfl rfl (hI.wf.r rfl) rfl rfl ?_
                      refine ev_loc f_X12_reckons (nx := 128) rfl rfl rfl rfl ?_
                      refine ev_loc f_X12_reckons (nx := 129) rfl rfl rfl rfl ?_
                      refine ev_loc f_X12_reckons (nx := 130) rfl rfl rfl rfl ?_
                      refine ev_loc f_X12_reckons (nx := 132) rfl rfl rfl rfl ?_
                      refine ev_inS4 f_X12_reckons (nx := 135) (lo2 := [(0, .int y4_1), (1, .int y12_2), (2, .int y17_3), (3, .int y22_4)]) rfl rfl rfl rfl f_X12_stateOf rfl rfl rfl rfl ?_
                      refine ev_ic f_X12_stateOf (nx := 1) (v := 2) rfl (by decide) rfl ?_
                      refine ev_loc f_X12_stateOf (nx := 2) rfl rfl rfl rfl ?_
                      refine ev_mulL f_X12_stateOf (nx := 3) (c := 2) (l := 0) (u := 480) rfl (by decide) (by decide) l11 u4_1 rfl rfl (by decide) (by decide) rfl (fun z43 e43 l43 u43 => ?_)
                      refine ev_loc f_X12_stateOf (nx := 4) rfl rfl rfl rfl ?_
                      refine ev_addR f_X12_stateOf (nx := 5) (l := 0) (u := 481) rfl l43 u43 l12_2 u16 rfl rfl (by decide) (by decide) rfl (fun z44 e44 l44 u44 => ?_)
                      refine ev_bp f_X12_stateOf (nx := 7) (v := 7) rfl (by decide) rfl ?_
                      refine ev_mulR f_X12_stateOf (nx := 8) (c := 7) (l := 0) (u := 3367) rfl (by decide) (by decide) l44 u44 rfl rfl (by decide) (by decide) rfl (fun z45 e45 l45 u45 => ?_)
                      refine ev_loc f_X12_stateOf (nx := 9) rfl rfl rfl rfl ?_
                      refine ev_addR f_X12_stateOf (nx := 10) (l := 0) (u := 3373) rfl l45 u45 l21 u17_3 rfl rfl (by decide) (by decide) rfl (fun z46 e46 l46 u46 => ?_)
                      refine ev_bp f_X12_stateOf (nx := 12) (v := 7) rfl (by decide) rfl ?_
                      refine ev_mulR f_X12_stateOf (nx := 13) (c := 7) (l := 0) (u := 23611) rfl (by decide) (by decide) l46 u46 rfl rfl (by decide) (by decide) rfl (fun z47 e47 l47 u47 => ?_)
                      refine ev_loc f_X12_stateOf (nx := 14) rfl rfl rfl rfl ?_
                      refine ev_addR f_X12_stateOf (nx := 15) (l := 0) (u := 23617) rfl l47 u47 l26 u22_4 rfl rfl (by decide) (by decide) rfl (fun z48 e48 l48 u48 => ?_)
                      refine ev_retK1 f_X12_stateOf rfl rfl rfl ?_
                      refine ev_loc f_X12_reckons (nx := 137) rfl rfl rfl rfl ?_
                      refine ev_ldW f_X12_reckons (nx := 140) (v := 1000000000) rfl (by decide) rfl ?_
                      refine ev_if f_X12_reckons (t1 := 148) (t2 := 143) rfl rfl rfl (fun h49 => ?_) (fun h49 => ?_)
                      · have l50 : 1000000000 ≤ z35.toInt := t_lel h49 (by decide : (1000000000:Int) ≤ (1000000000:Int32).toInt)
                        refine ev_ldW f_X12_reckons (nx := 151) (v := 1000000000) rfl (by decide) rfl ?_
                        have hsp : t_sp gi gi22 := ⟨(hX.1 69 44 rfl).1, (hX.1 69 45 rfl).1, (hX.1 69 48 rfl).1, funext (fun j => (hX.1 70 j rfl).1), funext (fun j => (hX.1 89 j rfl).1), funext (fun j => (hX.1 90 j rfl).1), funext (fun j => (hX.1 91 j rfl).1)⟩
                        have hcs := t_hcs hI
                        have hct := t_hct hI
                        have hcm : (∀ j : Nat, j < 12 → 0 ≤ (gi22 89 j).toInt ∧ (gi22 89 j).toInt ≤ 300) := (by rw [hsp.2.2.2.2.1]; exact e_p1)
                        have hS := hI.b (hI.wf.s (k := 69) rfl) (t_bdK rfl : t_bd 11 44 = some (0, 6))
                        have hC := hI.b (hI.wf.s (k := 69) rfl) (t_bdK rfl : t_bd 11 45 = some (0, 6))
                        refine ev_iastT f_X12_reckons (nx := 152) rfl (hI.wf.s rfl) l48 (by decide) u48 (by decide) rfl (hI.astG (hI.wf.s rfl) (fun lo hi e => absurd e (t_nob (by decide +kernel) _)) (fun k hk e => by have := hk.2.1; omega)) (hX.upI (t_inA_ok rfl)) (fun g51 e51 hI hX => ?_)
                        refine ev_incR f_X12_reckons (nx := 155) (c := (-1)) (l := (-1)) (u := 5) rfl rfl (by decide) (by decide) l26 u22_4 rfl rfl (by decide) (by decide) rfl (fun z52 e52 l52 u52 => ?_)
                        refine ev_jmp f_X12_reckons (nx := 30) rfl rfl rfl ?_
                        refine ev_sub (lo := [(4, .int z52), (3, .int y17_3), (2, .int y12_2), (1, .int y4_1), (0, .ref 69)]) rfl (t_sc rfl (t_sc rfl (t_sc rfl (t_sc rfl (t_sc rfl t_sn))))) ?_
                        exact ih22 _ (by omega) g51 gl22 gr22 (z52) hI hX  l52 (Int.le_trans u52 (by decide : (5:Int) ≤ 6)) ((by rw [e51]; exact x_up2_off (Or.inl (by decide)) : g51 69 44 = gi22 69 44).trans c22_0) ((by rw [e51]; exact x_up2_off (Or.inl (by decide)) : g51 69 45 = gi22 69 45).trans c22_1) ((by rw [e51]; exact x_up2_off (Or.inl (by decide)) : g51 69 48 = gi22 69 48).trans c22_2) (by rw [← t_pr_sp hsp]; exact t_rkS (m := y4_1) (o := y12_2) (s := y17_3) (c := y22_4) (x := 1000000000) (v1 := w28) (v2 := w34) (z1 := z27) (z2 := z32) (z3 := z33) (w := w31) (b1 := z35) (b2 := z35) (bs := z35) (bc := z35) (a2 := (gi 69 48)) (K := (98 * (240 - y4_1.toInt) + 49 * y12_2.toInt + 7 * (6 - y17_3.toInt) + (6 - y22_4.toInt)).toNat) (by rw [t_pr_sp hsp]; exact j22_0) e_p0 hS.1 hS.2 hC.1 hC.2 (by omega) (by omega) (by omega) (by omega) (by omega) (by rw [hsp.1]; omega) (by omega) (by rw [hsp.2.1]; omega) (by omega) (by omega) (by omega) q28 (by omega) q31 (by omega) (by omega) q34 (Or.inr ⟨fun h => absurd (q36.mpr h) (by omega), e35⟩) (Or.inr ⟨fun h => absurd (q40.mpr h) (by omega), rfl⟩) (Or.inr ⟨by omega, by decide⟩) hcm hcs hct e51 (by omega)) (by omega) (by omega) rfl
                      · have u53 : z35.toInt ≤ 999999999 := t_ltu (t_nle h49) (by decide : (1000000000:Int32).toInt ≤ (1000000000:Int)) rfl
                        refine ev_loc f_X12_reckons (nx := 145) rfl rfl rfl rfl ?_
                        refine ev_jmp f_X12_reckons (nx := 151) rfl rfl rfl ?_
                        have hsp : t_sp gi gi22 := ⟨(hX.1 69 44 rfl).1, (hX.1 69 45 rfl).1, (hX.1 69 48 rfl).1, funext (fun j => (hX.1 70 j rfl).1), funext (fun j => (hX.1 89 j rfl).1), funext (fun j => (hX.1 90 j rfl).1), funext (fun j => (hX.1 91 j rfl).1)⟩
                        have hcs := t_hcs hI
                        have hct := t_hct hI
                        have hcm : (∀ j : Nat, j < 12 → 0 ≤ (gi22 89 j).toInt ∧ (gi22 89 j).toInt ≤ 300) := (by rw [hsp.2.2.2.2.1]; exact e_p1)
                        have hS := hI.b (hI.wf.s (k := 69) rfl) (t_bdK rfl : t_bd 11 44 = some (0, 6))
                        have hC := hI.b (hI.wf.s (k := 69) rfl) (t_bdK rfl : t_bd 11 45 = some (0, 6))
                        refine ev_iastT f_X12_reckons (nx := 152) rfl (hI.wf.s rfl) l48 (by decide) u48 (by decide) rfl (hI.astG (hI.wf.s rfl) (fun lo hi e => absurd e (t_nob (by decide +kernel) _)) (fun k hk e => by have := hk.2.1; omega)) (hX.upI (t_inA_ok rfl)) (fun g54 e54 hI hX => ?_)
                        refine ev_incR f_X12_reckons (nx := 155) (c := (-1)) (l := (-1)) (u := 5) rfl rfl (by decide) (by decide) l26 u22_4 rfl rfl (by decide) (by decide) rfl (fun z55 e55 l55 u55 => ?_)
                        refine ev_jmp f_X12_reckons (nx := 30) rfl rfl rfl ?_
                        refine ev_sub (lo := [(4, .int z55), (3, .int y17_3), (2, .int y12_2), (1, .int y4_1), (0, .ref 69)]) rfl (t_sc rfl (t_sc rfl (t_sc rfl (t_sc rfl (t_sc rfl t_sn))))) ?_
                        exact ih22 _ (by omega) g54 gl22 gr22 (z55) hI hX  l55 (Int.le_trans u55 (by decide : (5:Int) ≤ 6)) ((by rw [e54]; exact x_up2_off (Or.inl (by decide)) : g54 69 44 = gi22 69 44).trans c22_0) ((by rw [e54]; exact x_up2_off (Or.inl (by decide)) : g54 69 45 = gi22 69 45).trans c22_1) ((by rw [e54]; exact x_up2_off (Or.inl (by decide)) : g54 69 48 = gi22 69 48).trans c22_2) (by rw [← t_pr_sp hsp]; exact t_rkS (m := y4_1) (o := y12_2) (s := y17_3) (c := y22_4) (x := z35) (v1 := w28) (v2 := w34) (z1 := z27) (z2 := z32) (z3 := z33) (w := w31) (b1 := z35) (b2 := z35) (bs := z35) (bc := z35) (a2 := (gi 69 48)) (K := (98 * (240 - y4_1.toInt) + 49 * y12_2.toInt + 7 * (6 - y17_3.toInt) + (6 - y22_4.toInt)).toNat) (by rw [t_pr_sp hsp]; exact j22_0) e_p0 hS.1 hS.2 hC.1 hC.2 (by omega) (by omega) (by omega) (by omega) (by omega) (by rw [hsp.1]; omega) (by omega) (by rw [hsp.2.1]; omega) (by omega) (by omega) (by omega) q28 (by omega) q31 (by omega) (by omega) q34 (Or.inr ⟨fun h => absurd (q36.mpr h) (by omega), e35⟩) (Or.inr ⟨fun h => absurd (q40.mpr h) (by omega), rfl⟩) (Or.inl ⟨by omega, rfl⟩) hcm hcs hct e54 (by omega)) (by omega) (by omega) rfl
                    · have r56 : w40.toInt ≠ 0 := fun e => h41 (Int32.toInt_inj.mp (e.trans (by decide : (0:Int) = (0 : Int32).toInt)))
                      have l57 : 1 ≤ w40.toInt := t_nel h41 l40 rfl rfl
                      refine ev_loc f_X12_reckons (nx := 110) rfl rfl rfl rfl ?_
                      refine ev_loc f_X12_reckons (nx := 111) rfl rfl rfl rfl ?_
                      refine ev_loc f_X12_reckons (nx := 112) rfl rfl rfl rfl ?_
                      refine ev_loc f_X12_reckons (nx := 113) rfl rfl rfl rfl ?_
                      refine ev_loc f_X12_reckons (nx := 115) rfl rfl rfl rfl ?_
                      have u58 : y22_4.toInt ≤ (5:Int) := (by have ff59 : (gi22 69 45).toInt = (gi 69 45).toInt := congrArg Int32.toInt c22_1; have hm := q40.mp (by omega); unfold t_mayC t_C at hm; omega)
                      refine ev_qI0 f_X12_reckons (nx := 118) (r := [.int z35]) rfl rfl rfl rfl rfl rfl rfl (c_m_byCart hI (y4_1) l11 u4_1 (y17_3) l21 u17_3 (y22_4) l26 u58 (by rw [show gi22 89 = gi 89 from funext (fun j => (hX.1 89 j rfl).1)]; exact e_p1) (by have hm := q40.mp (by omega); unfold t_mayC at hm; omega) (by have hsp : t_sp gi gi22 := ⟨(hX.1 69 44 rfl).1, (hX.1 69 45 rfl).1, (hX.1 69 48 rfl).1, funext (fun j => (hX.1 70 j rfl).1), funext (fun j => (hX.1 89 j rfl).1), funext (fun j => (hX.1 90 j rfl).1), funext (fun j => (hX.1 91 j rfl).1)⟩; have hm := q40.mp (by omega); have H := j22_0; rw [← t_pr_sp hsp] at H; have hb1 := hI.b (hI.wf.s (k := 69) rfl) (t_bdK rfl : t_bd 11 44 = some (0, 6)); have hb2 := hI.b (hI.wf.s (k := 69) rfl) (t_bdK rfl : t_bd 11 45 = some (0, 6)); have hs1 := hsp.1; have hs2 := hsp.2.1; rw [hs1] at hb1; rw [hs2] at hb2; have eS : t_S gi22 = (gi 69 44).toInt.toNat := (by unfold t_S; rw [hs1]); have eC : t_C gi22 = (gi 69 45).toInt.toNat := (by unfold t_C; rw [hs2]); unfold t_mayC at hm; exact t_la_b H (by omega) (by omega) (by omega) (fun _ => by unfold t_ky; omega))) rfl (fun w60 l60 u60 q60 => ?_)
                      have q60 : w60.toInt = t_byc gi22 (gi22 92) y4_1.toInt.toNat y17_3.toInt.toNat y22_4.toInt.toNat := q60
                      refine ev_minE f_X12_reckons (nx := 121) (l := (-2147483648)) (u := 1000023760) rfl rfl (by omega) rfl l35 u35 l60 u60 (by decide) (by decide) rfl (fun z61 e61 l61 u61 => ?_)
                      refine ev_loc f_X12_reckons (nx := 123) (lo' := [(5, .int z61), (4, .int y22_4), (3, .int y17_3), (2, .int y12_2), (1, .int y4_1), (0, .ref 69)]) rfl rfl rfl rfl ?_
                      refine ev_loc f_X12_reckons (nx := 124) rfl rfl rfl rfl ?_
                      refine ev_getR f_X12_reckons (nx := 127) rfl (hI.wf.s rfl) rfl rfl (hI.wf.r rfl) rfl rfl ?_
                      refine ev_loc f_X12_reckons (nx := 128) rfl rfl rfl rfl ?_
                      refine ev_loc f_X12_reckons (nx := 129) rfl rfl rfl rfl ?_
                      refine ev_loc f_X12_reckons (nx := 130) rfl rfl rfl rfl ?_
                      refine ev_loc f_X12_reckons (nx := 132) rfl rfl rfl rfl ?_
                      refine ev_inS4 f_X12_reckons (nx := 135) (lo2 := [(0, .int y4_1), (1, .int y12_2), (2, .int y17_3), (3, .int y22_4)]) rfl rfl rfl rfl f_X12_stateOf rfl rfl rfl rfl ?_
                      refine ev_ic f_X12_stateOf (nx := 1) (v := 2) rfl (by decide) rfl ?_
                      refine ev_loc f_X12_stateOf (nx := 2) rfl rfl rfl rfl ?_
                      refine ev_mulL f_X12_stateOf (nx := 3) (c := 2) (l := 0) (u := 480) rfl (by decide) (by decide) l11 u4_1 rfl rfl (by decide) (by decide) rfl (fun z62 e62 l62 u62 => ?_)
                      refine ev_loc f_X12_stateOf (nx := 4) rfl rfl rfl rfl ?_
                      refine ev_addR f_X12_stateOf (nx := 5) (l := 0) (u := 481) rfl l62 u62 l12_2 u16 rfl rfl (by decide) (by decide) rfl (fun z63 e63 l63 u63 => ?_)
                      refine ev_bp f_X12_stateOf (nx := 7) (v := 7) rfl (by decide) rfl ?_
                      refine ev_mulR f_X12_stateOf (nx := 8) (c := 7) (l := 0) (u := 3367) rfl (by decide) (by decide) l63 u63 rfl rfl (by decide) (by decide) rfl (fun z64 e64 l64 u64 => ?_)
                      refine ev_loc f_X12_stateOf (nx := 9) rfl rfl rfl rfl ?_
                      refine ev_addR f_X12_stateOf (nx := 10) (l := 0) (u := 3373) rfl l64 u64 l21 u17_3 rfl rfl (by decide) (by decide) rfl (fun z65 e65 l65 u65 => ?_)
                      refine ev_bp f_X12_stateOf (nx := 12) (v := 7) rfl (by decide) rfl ?_
                      refine ev_mulR f_X12_stateOf (nx := 13) (c := 7) (l := 0) (u := 23611) rfl (by decide) (by decide) l65 u65 rfl rfl (by decide) (by decide) rfl (fun z66 e66 l66 u66 => ?_)
                      refine ev_loc f_X12_stateOf (nx := 14) rfl rfl rfl rfl ?_
                      refine ev_addR f_X12_stateOf (nx := 15) (l := 0) (u := 23616) rfl l66 u66 l26 u58 rfl rfl (by decide) (by decide) rfl (fun z67 e67 l67 u67 => ?_)
                      refine ev_retK1 f_X12_stateOf rfl rfl rfl ?_
                      refine ev_loc f_X12_reckons (nx := 137) rfl rfl rfl rfl ?_
                      refine ev_ldW f_X12_reckons (nx := 140) (v := 1000000000) rfl (by decide) rfl ?_
                      refine ev_if f_X12_reckons (t1 := 148) (t2 := 143) rfl rfl rfl (fun h68 => ?_) (fun h68 => ?_)
                      · have l69 : 1000000000 ≤ z61.toInt := t_lel h68 (by decide : (1000000000:Int) ≤ (1000000000:Int32).toInt)
                        refine ev_ldW f_X12_reckons (nx := 151) (v := 1000000000) rfl (by decide) rfl ?_
                        have hsp : t_sp gi gi22 := ⟨(hX.1 69 44 rfl).1, (hX.1 69 45 rfl).1, (hX.1 69 48 rfl).1, funext (fun j => (hX.1 70 j rfl).1), funext (fun j => (hX.1 89 j rfl).1), funext (fun j => (hX.1 90 j rfl).1), funext (fun j => (hX.1 91 j rfl).1)⟩
                        have hcs := t_hcs hI
                        have hct := t_hct hI
                        have hcm : (∀ j : Nat, j < 12 → 0 ≤ (gi22 89 j).toInt ∧ (gi22 89 j).toInt ≤ 300) := (by rw [hsp.2.2.2.2.1]; exact e_p1)
                        have hS := hI.b (hI.wf.s (k := 69) rfl) (t_bdK rfl : t_bd 11 44 = some (0, 6))
                        have hC := hI.b (hI.wf.s (k := 69) rfl) (t_bdK rfl : t_bd 11 45 = some (0, 6))
                        refine ev_iastT f_X12_reckons (nx := 152) rfl (hI.wf.s rfl) l67 (by decide) u67 (by decide) rfl (hI.astG (hI.wf.s rfl) (fun lo hi e => absurd e (t_nob (by decide +kernel) _)) (fun k hk e => by have := hk.2.1; omega)) (hX.upI (t_inA_ok rfl)) (fun g70 e70 hI hX => ?_)
                        refine ev_incR f_X12_reckons (nx := 155) (c := (-1)) (l := (-1)) (u := 4) rfl rfl (by decide) (by decide) l26 u58 rfl rfl (by decide) (by decide) rfl (fun z71 e71 l71 u71 => ?_)
                        refine ev_jmp f_X12_reckons (nx := 30) rfl rfl rfl ?_
                        refine ev_sub (lo := [(4, .int z71), (3, .int y17_3), (2, .int y12_2), (1, .int y4_1), (0, .ref 69)]) rfl (t_sc rfl (t_sc rfl (t_sc rfl (t_sc rfl (t_sc rfl t_sn))))) ?_
                        exact ih22 _ (by omega) g70 gl22 gr22 (z71) hI hX  l71 (Int.le_trans u71 (by decide : (4:Int) ≤ 6)) ((by rw [e70]; exact x_up2_off (Or.inl (by decide)) : g70 69 44 = gi22 69 44).trans c22_0) ((by rw [e70]; exact x_up2_off (Or.inl (by decide)) : g70 69 45 = gi22 69 45).trans c22_1) ((by rw [e70]; exact x_up2_off (Or.inl (by decide)) : g70 69 48 = gi22 69 48).trans c22_2) (by rw [← t_pr_sp hsp]; exact t_rkS (m := y4_1) (o := y12_2) (s := y17_3) (c := y22_4) (x := 1000000000) (v1 := w28) (v2 := w34) (z1 := z27) (z2 := z32) (z3 := z33) (w := w31) (b1 := z35) (b2 := z61) (bs := z35) (bc := w60) (a2 := (gi 69 48)) (K := (98 * (240 - y4_1.toInt) + 49 * y12_2.toInt + 7 * (6 - y17_3.toInt) + (6 - y22_4.toInt)).toNat) (by rw [t_pr_sp hsp]; exact j22_0) e_p0 hS.1 hS.2 hC.1 hC.2 (by omega) (by omega) (by omega) (by omega) (by omega) (by rw [hsp.1]; omega) (by omega) (by rw [hsp.2.1]; omega) (by omega) (by omega) (by omega) q28 (by omega) q31 (by omega) (by omega) q34 (Or.inr ⟨fun h => absurd (q36.mpr h) (by omega), e35⟩) (Or.inl ⟨q40.mp (by omega), q60, e61⟩) (Or.inr ⟨by omega, by decide⟩) hcm hcs hct e70 (by omega)) (by omega) (by omega) rfl
                      · have u72 : z61.toInt ≤ 999999999 := t_ltu (t_nle h68) (by decide : (1000000000:Int32).toInt ≤ (1000000000:Int)) rfl
                        refine ev_loc f_X12_reckons (nx := 145) rfl rfl rfl rfl ?_
                        refine ev_jmp f_X12_reckons (nx := 151) rfl rfl rfl ?_
                        have hsp : t_sp gi gi22 := ⟨(hX.1 69 44 rfl).1, (hX.1 69 45 rfl).1, (hX.1 69 48 rfl).1, funext (fun j => (hX.1 70 j rfl).1), funext (fun j => (hX.1 89 j rfl).1), funext (fun j => (hX.1 90 j rfl).1), funext (fun j => (hX.1 91 j rfl).1)⟩
                        have hcs := t_hcs hI
                        have hct := t_hct hI
                        have hcm : (∀ j : Nat, j < 12 → 0 ≤ (gi22 89 j).toInt ∧ (gi22 89 j).toInt ≤ 300) := (by rw [hsp.2.2.2.2.1]; exact e_p1)
                        have hS := hI.b (hI.wf.s (k := 69) rfl) (t_bdK rfl : t_bd 11 44 = some (0, 6))
                        have hC := hI.b (hI.wf.s (k := 69) rfl) (t_bdK rfl : t_bd 11 45 = some (0, 6))
                        refine ev_iastT f_X12_reckons (nx := 152) rfl (hI.wf.s rfl) l67 (by decide) u67 (by decide) rfl (hI.astG (hI.wf.s rfl) (fun lo hi e => absurd e (t_nob (by decide +kernel) _)) (fun k hk e => by have := hk.2.1; omega)) (hX.upI (t_inA_ok rfl)) (fun g73 e73 hI hX => ?_)
                        refine ev_incR f_X12_reckons (nx := 155) (c := (-1)) (l := (-1)) (u := 4) rfl rfl (by decide) (by decide) l26 u58 rfl rfl (by decide) (by decide) rfl (fun z74 e74 l74 u74 => ?_)
                        refine ev_jmp f_X12_reckons (nx := 30) rfl rfl rfl ?_
                        refine ev_sub (lo := [(4, .int z74), (3, .int y17_3), (2, .int y12_2), (1, .int y4_1), (0, .ref 69)]) rfl (t_sc rfl (t_sc rfl (t_sc rfl (t_sc rfl (t_sc rfl t_sn))))) ?_
                        exact ih22 _ (by omega) g73 gl22 gr22 (z74) hI hX  l74 (Int.le_trans u74 (by decide : (4:Int) ≤ 6)) ((by rw [e73]; exact x_up2_off (Or.inl (by decide)) : g73 69 44 = gi22 69 44).trans c22_0) ((by rw [e73]; exact x_up2_off (Or.inl (by decide)) : g73 69 45 = gi22 69 45).trans c22_1) ((by rw [e73]; exact x_up2_off (Or.inl (by decide)) : g73 69 48 = gi22 69 48).trans c22_2) (by rw [← t_pr_sp hsp]; exact t_rkS (m := y4_1) (o := y12_2) (s := y17_3) (c := y22_4) (x := z61) (v1 := w28) (v2 := w34) (z1 := z27) (z2 := z32) (z3 := z33) (w := w31) (b1 := z35) (b2 := z61) (bs := z35) (bc := w60) (a2 := (gi 69 48)) (K := (98 * (240 - y4_1.toInt) + 49 * y12_2.toInt + 7 * (6 - y17_3.toInt) + (6 - y22_4.toInt)).toNat) (by rw [t_pr_sp hsp]; exact j22_0) e_p0 hS.1 hS.2 hC.1 hC.2 (by omega) (by omega) (by omega) (by omega) (by omega) (by rw [hsp.1]; omega) (by omega) (by rw [hsp.2.1]; omega) (by omega) (by omega) (by omega) q28 (by omega) q31 (by omega) (by omega) q34 (Or.inr ⟨fun h => absurd (q36.mpr h) (by omega), e35⟩) (Or.inl ⟨q40.mp (by omega), q60, e61⟩) (Or.inl ⟨by omega, rfl⟩) hcm hcs hct e73 (by omega)) (by omega) (by omega) rfl
                  · have r75 : w36.toInt ≠ 0 := fun e => h38 (Int32.toInt_inj.mp (e.trans (by decide : (0:Int) = (0 : Int32).toInt)))
                    have l76 : 1 ≤ w36.toInt := t_nel h38 l36 rfl rfl
                    refine ev_loc f_X12_reckons (nx := 84) rfl rfl rfl rfl ?_
                    refine ev_loc f_X12_reckons (nx := 85) rfl rfl rfl rfl ?_
                    refine ev_loc f_X12_reckons (nx := 86) rfl rfl rfl rfl ?_
                    refine ev_loc f_X12_reckons (nx := 87) rfl rfl rfl rfl ?_
                    refine ev_loc f_X12_reckons (nx := 89) rfl rfl rfl rfl ?_
                    have u77 : y17_3.toInt ≤ (5:Int) := (by have ff78 : (gi22 69 44).toInt = (gi 69 44).toInt := congrArg Int32.toInt c22_0; have hm := q36.mp (by omega); unfold t_mayS t_S at hm; omega)
                    refine ev_qI0 f_X12_reckons (nx := 92) (r := [.int z35]) rfl rfl rfl rfl rfl rfl rfl (c_m_byShip hI (y4_1) l11 u4_1 (y17_3) l21 u77 (y22_4) l26 u22_4 (by rw [show gi22 89 = gi 89 from funext (fun j => (hX.1 89 j rfl).1)]; exact e_p1) (by have hm := q36.mp (by omega); unfold t_mayS at hm; omega) (by have hsp : t_sp gi gi22 := ⟨(hX.1 69 44 rfl).1, (hX.1 69 45 rfl).1, (hX.1 69 48 rfl).1, funext (fun j => (hX.1 70 j rfl).1), funext (fun j => (hX.1 89 j rfl).1), funext (fun j => (hX.1 90 j rfl).1), funext (fun j => (hX.1 91 j rfl).1)⟩; have hm := q36.mp (by omega); have H := j22_0; rw [← t_pr_sp hsp] at H; have hb1 := hI.b (hI.wf.s (k := 69) rfl) (t_bdK rfl : t_bd 11 44 = some (0, 6)); have hb2 := hI.b (hI.wf.s (k := 69) rfl) (t_bdK rfl : t_bd 11 45 = some (0, 6)); have hs1 := hsp.1; have hs2 := hsp.2.1; rw [hs1] at hb1; rw [hs2] at hb2; have eS : t_S gi22 = (gi 69 44).toInt.toNat := (by unfold t_S; rw [hs1]); have eC : t_C gi22 = (gi 69 45).toInt.toNat := (by unfold t_C; rw [hs2]); unfold t_mayS at hm; exact t_la_b H (by omega) (by omega) (by omega) (fun _ => by unfold t_ky; omega))) rfl (fun w79 l79 u79 q79 => ?_)
                    have q79 : w79.toInt = t_bys gi22 (gi22 92) y4_1.toInt.toNat y17_3.toInt.toNat y22_4.toInt.toNat := q79
                    refine ev_minE f_X12_reckons (nx := 95) (l := (-2147483648)) (u := 1000023760) rfl rfl (by omega) rfl l35 u35 l79 u79 (by decide) (by decide) rfl (fun z80 e80 l80 u80 => ?_)
                    refine ev_loc f_X12_reckons (nx := 97) (lo' := [(5, .int z80), (4, .int y22_4), (3, .int y17_3), (2, .int y12_2), (1, .int y4_1), (0, .ref 69)]) rfl rfl rfl rfl ?_
                    refine ev_loc f_X12_reckons (nx := 98) rfl rfl rfl rfl ?_
                    refine ev_loc f_X12_reckons (nx := 99) rfl rfl rfl rfl ?_
                    refine ev_loc f_X12_reckons (nx := 100) rfl rfl rfl rfl ?_
                    refine ev_loc f_X12_reckons (nx := 102) rfl rfl rfl rfl ?_
                    refine ev_qI0 f_X12_reckons (nx := 105) (r := []) rfl rfl rfl rfl rfl rfl rfl (c_m_mayCart hI (y4_1) l11 u4_1 (y12_2) l12_2 u16 (y22_4) l26 u22_4) rfl (fun w81 l81 u81 q81 => ?_)
                    have q81 : (w81.toInt = 1 ↔ t_mayC gi22 y4_1.toInt.toNat y12_2.toInt.toNat y22_4.toInt.toNat) := q81
                    refine ev_if f_X12_reckons (t1 := 123) (t2 := 108) rfl rfl rfl (fun h82 => ?_) (fun h82 => ?_)
                    · have u83 : w81.toInt ≤ 0 := t_equ h82 (by decide : (0:Int32).toInt ≤ (0:Int))
                      refine ev_loc f_X12_reckons (nx := 124) rfl rfl rfl rfl ?_
                      refine ev_getR f_X12_reckons (nx := 127) rfl (hI.wf.s rfl) rfl rfl (hI.wf.r rfl) rfl rfl ?_
                      refine ev_loc f_X12_reckons (nx := 128) rfl rfl rfl rfl ?_
                      refine ev_loc f_X12_reckons (nx := 129) rfl rfl rfl rfl ?_
                      refine ev_loc f_X12_reckons (nx := 130) rfl rfl rfl rfl ?_
                      refine ev_loc f_X12_reckons (nx := 132) rfl rfl rfl rfl ?_
                      refine ev_inS4 f_X12_reckons (nx := 135) (lo2 := [(0, .int y4_1), (1, .int y12_2), (2, .int y17_3), (3, .int y22_4)]) rfl rfl rfl rfl f_X12_stateOf rfl rfl rfl rfl ?_
                      refine ev_ic f_X12_stateOf (nx := 1) (v := 2) rfl (by decide) rfl ?_
                      refine ev_loc f_X12_stateOf (nx := 2) rfl rfl rfl rfl ?_
                      refine ev_mulL f_X12_stateOf (nx := 3) (c := 2) (l := 0) (u := 480) rfl (by decide) (by decide) l11 u4_1 rfl rfl (by decide) (by decide) rfl (fun z84 e84 l84 u84 => ?_)
                      refine ev_loc f_X12_stateOf (nx := 4) rfl rfl rfl rfl ?_
                      refine ev_addR f_X12_stateOf (nx := 5) (l := 0) (u := 481) rfl l84 u84 l12_2 u16 rfl rfl (by decide) (by decide) rfl (fun z85 e85 l85 u85 => ?_)
                      refine ev_bp f_X12_stateOf (nx := 7) (v := 7) rfl (by decide) rfl ?_
                      refine ev_mulR f_X12_stateOf (nx := 8) (c := 7) (l := 0) (u := 3367) rfl (by decide) (by decide) l85 u85 rfl rfl (by decide) (by decide) rfl (fun z86 e86 l86 u86 => ?_)
                      refine ev_loc f_X12_stateOf (nx := 9) rfl rfl rfl rfl ?_
                      refine ev_addR f_X12_stateOf (nx := 10) (l := 0) (u := 3372) rfl l86 u86 l21 u77 rfl rfl (by decide) (by decide) rfl (fun z87 e87 l87 u87 => ?_)
                      refine ev_bp f_X12_stateOf (nx := 12) (v := 7) rfl (by decide) rfl ?_
                      refine ev_mulR f_X12_stateOf (nx := 13) (c := 7) (l := 0) (u := 23604) rfl (by decide) (by decide) l87 u87 rfl rfl (by decide) (by decide) rfl (fun z88 e88 l88 u88 => ?_)
                      refine ev_loc f_X12_stateOf (nx := 14) rfl rfl rfl rfl ?_
                      refine ev_addR f_X12_stateOf (nx := 15) (l := 0) (u := 23610) rfl l88 u88 l26 u22_4 rfl rfl (by decide) (by decide) rfl (fun z89 e89 l89 u89 => ?_)
                      refine ev_retK1 f_X12_stateOf rfl rfl rfl ?_
                      refine ev_loc f_X12_reckons (nx := 137) rfl rfl rfl rfl ?_
                      refine ev_ldW f_X12_reckons (nx := 140) (v := 1000000000) rfl (by decide) rfl ?_
                      refine ev_if f_X12_reckons (t1 := 148) (t2 := 143) rfl rfl rfl (fun h90 => ?_) (fun h90 => ?_)
                      · have l91 : 1000000000 ≤ z80.toInt := t_lel h90 (by decide : (1000000000:Int) ≤ (1000000000:Int32).toInt)
                        refine ev_ldW f_X12_reckons (nx := 151) (v := 1000000000) rfl (by decide) rfl ?_
                        have hsp : t_sp gi gi22 := ⟨(hX.1 69 44 rfl).1, (hX.1 69 45 rfl).1, (hX.1 69 48 rfl).1, funext (fun j => (hX.1 70 j rfl).1), funext (fun j => (hX.1 89 j rfl).1), funext (fun j => (hX.1 90 j rfl).1), funext (fun j => (hX.1 91 j rfl).1)⟩
                        have hcs := t_hcs hI
                        have hct := t_hct hI
                        have hcm : (∀ j : Nat, j < 12 → 0 ≤ (gi22 89 j).toInt ∧ (gi22 89 j).toInt ≤ 300) := (by rw [hsp.2.2.2.2.1]; exact e_p1)
                        have hS := hI.b (hI.wf.s (k := 69) rfl) (t_bdK rfl : t_bd 11 44 = some (0, 6))
                        have hC := hI.b (hI.wf.s (k := 69) rfl) (t_bdK rfl : t_bd 11 45 = some (0, 6))
                        refine ev_iastT f_X12_reckons (nx := 152) rfl (hI.wf.s rfl) l89 (by decide) u89 (by decide) rfl (hI.astG (hI.wf.s rfl) (fun lo hi e => absurd e (t_nob (by decide +kernel) _)) (fun k hk e => by have := hk.2.1; omega)) (hX.upI (t_inA_ok rfl)) (fun g92 e92 hI hX => ?_)
                        refine ev_incR f_X12_reckons (nx := 155) (c := (-1)) (l := (-1)) (u := 5) rfl rfl (by decide) (by decide) l26 u22_4 rfl rfl (by decide) (by decide) rfl (fun z93 e93 l93 u93 => ?_)
                        refine ev_jmp f_X12_reckons (nx := 30) rfl rfl rfl ?_
                        refine ev_sub (lo := [(4, .int z93), (3, .int y17_3), (2, .int y12_2), (1, .int y4_1), (0, .ref 69)]) rfl (t_sc rfl (t_sc rfl (t_sc rfl (t_sc rfl (t_sc rfl t_sn))))) ?_
                        exact ih22 _ (by omega) g92 gl22 gr22 (z93) hI hX  l93 (Int.le_trans u93 (by decide : (5:Int) ≤ 6)) ((by rw [e92]; exact x_up2_off (Or.inl (by decide)) : g92 69 44 = gi22 69 44).trans c22_0) ((by rw [e92]; exact x_up2_off (Or.inl (by decide)) : g92 69 45 = gi22 69 45).trans c22_1) ((by rw [e92]; exact x_up2_off (Or.inl (by decide)) : g92 69 48 = gi22 69 48).trans c22_2) (by rw [← t_pr_sp hsp]; exact t_rkS (m := y4_1) (o := y12_2) (s := y17_3) (c := y22_4) (x := 1000000000) (v1 := w28) (v2 := w34) (z1 := z27) (z2 := z32) (z3 := z33) (w := w31) (b1 := z80) (b2 := z80) (bs := w79) (bc := z80) (a2 := (gi 69 48)) (K := (98 * (240 - y4_1.toInt) + 49 * y12_2.toInt + 7 * (6 - y17_3.toInt) + (6 - y22_4.toInt)).toNat) (by rw [t_pr_sp hsp]; exact j22_0) e_p0 hS.1 hS.2 hC.1 hC.2 (by omega) (by omega) (by omega) (by omega) (by omega) (by rw [hsp.1]; omega) (by omega) (by rw [hsp.2.1]; omega) (by omega) (by omega) (by omega) q28 (by omega) q31 (by omega) (by omega) q34 (Or.inl ⟨q36.mp (by omega), q79, by rw [e80, e35]⟩) (Or.inr ⟨fun h => absurd (q81.mpr h) (by omega), rfl⟩) (Or.inr ⟨by omega, by decide⟩) hcm hcs hct e92 (by omega)) (by omega) (by omega) rfl
                      · have u94 : z80.toInt ≤ 999999999 := t_ltu (t_nle h90) (by decide : (1000000000:Int32).toInt ≤ (1000000000:Int)) rfl
                        refine ev_loc f_X12_reckons (nx := 145) rfl rfl rfl rfl ?_
                        refine ev_jmp f_X12_reckons (nx := 151) rfl rfl rfl ?_
                        have hsp : t_sp gi gi22 := ⟨(hX.1 69 44 rfl).1, (hX.1 69 45 rfl).1, (hX.1 69 48 rfl).1, funext (fun j => (hX.1 70 j rfl).1), funext (fun j => (hX.1 89 j rfl).1), funext (fun j => (hX.1 90 j rfl).1), funext (fun j => (hX.1 91 j rfl).1)⟩
                        have hcs := t_hcs hI
                        have hct := t_hct hI
                        have hcm : (∀ j : Nat, j < 12 → 0 ≤ (gi22 89 j).toInt ∧ (gi22 89 j).toInt ≤ 300) := (by rw [hsp.2.2.2.2.1]; exact e_p1)
                        have hS := hI.b (hI.wf.s (k := 69) rfl) (t_bdK rfl : t_bd 11 44 = some (0, 6))
                        have hC := hI.b (hI.wf.s (k := 69) rfl) (t_bdK rfl : t_bd 11 45 = some (0, 6))
                        refine ev_iastT f_X12_reckons (nx := 152) rfl (hI.wf.s rfl) l89 (by decide) u89 (by decide) rfl (hI.astG (hI.wf.s rfl) (fun lo hi e => absurd e (t_nob (by decide +kernel) _)) (fun k hk e => by have := hk.2.1; omega)) (hX.upI (t_inA_ok rfl)) (fun g95 e95 hI hX => ?_)
                        refine ev_incR f_X12_reckons (nx := 155) (c := (-1)) (l := (-1)) (u := 5) rfl rfl (by decide) (by decide) l26 u22_4 rfl rfl (by decide) (by decide) rfl (fun z96 e96 l96 u96 => ?_)
                        refine ev_jmp f_X12_reckons (nx := 30) rfl rfl rfl ?_
                        refine ev_sub (lo := [(4, .int z96), (3, .int y17_3), (2, .int y12_2), (1, .int y4_1), (0, .ref 69)]) rfl (t_sc rfl (t_sc rfl (t_sc rfl (t_sc rfl (t_sc rfl t_sn))))) ?_
                        exact ih22 _ (by omega) g95 gl22 gr22 (z96) hI hX  l96 (Int.le_trans u96 (by decide : (5:Int) ≤ 6)) ((by rw [e95]; exact x_up2_off (Or.inl (by decide)) : g95 69 44 = gi22 69 44).trans c22_0) ((by rw [e95]; exact x_up2_off (Or.inl (by decide)) : g95 69 45 = gi22 69 45).trans c22_1) ((by rw [e95]; exact x_up2_off (Or.inl (by decide)) : g95 69 48 = gi22 69 48).trans c22_2) (by rw [← t_pr_sp hsp]; exact t_rkS (m := y4_1) (o := y12_2) (s := y17_3) (c := y22_4) (x := z80) (v1 := w28) (v2 := w34) (z1 := z27) (z2 := z32) (z3 := z33) (w := w31) (b1 := z80) (b2 := z80) (bs := w79) (bc := z80) (a2 := (gi 69 48)) (K := (98 * (240 - y4_1.toInt) + 49 * y12_2.toInt + 7 * (6 - y17_3.toInt) + (6 - y22_4.toInt)).toNat) (by rw [t_pr_sp hsp]; exact j22_0) e_p0 hS.1 hS.2 hC.1 hC.2 (by omega) (by omega) (by omega) (by omega) (by omega) (by rw [hsp.1]; omega) (by omega) (by rw [hsp.2.1]; omega) (by omega) (by omega) (by omega) q28 (by omega) q31 (by omega) (by omega) q34 (Or.inl ⟨q36.mp (by omega), q79, by rw [e80, e35]⟩) (Or.inr ⟨fun h => absurd (q81.mpr h) (by omega), rfl⟩) (Or.inl ⟨by omega, rfl⟩) hcm hcs hct e95 (by omega)) (by omega) (by omega) rfl
                    · have r97 : w81.toInt ≠ 0 := fun e => h82 (Int32.toInt_inj.mp (e.trans (by decide : (0:Int) = (0 : Int32).toInt)))
                      have l98 : 1 ≤ w81.toInt := t_nel h82 l81 rfl rfl
                      refine ev_loc f_X12_reckons (nx := 110) rfl rfl rfl rfl ?_
                      refine ev_loc f_X12_reckons (nx := 111) rfl rfl rfl rfl ?_
                      refine ev_loc f_X12_reckons (nx := 112) rfl rfl rfl rfl ?_
                      refine ev_loc f_X12_reckons (nx := 113) rfl rfl rfl rfl ?_
                      refine ev_loc f_X12_reckons (nx := 115) rfl rfl rfl rfl ?_
                      have u99 : y22_4.toInt ≤ (5:Int) := (by have ff100 : (gi22 69 45).toInt = (gi 69 45).toInt := congrArg Int32.toInt c22_1; have hm := q81.mp (by omega); unfold t_mayC t_C at hm; omega)
                      refine ev_qI0 f_X12_reckons (nx := 118) (r := [.int z80]) rfl rfl rfl rfl rfl rfl rfl (c_m_byCart hI (y4_1) l11 u4_1 (y17_3) l21 (Int.le_trans u77 (by decide : (5:Int) ≤ 6)) (y22_4) l26 u99 (by rw [show gi22 89 = gi 89 from funext (fun j => (hX.1 89 j rfl).1)]; exact e_p1) (by have hm := q81.mp (by omega); unfold t_mayC at hm; omega) (by have hsp : t_sp gi gi22 := ⟨(hX.1 69 44 rfl).1, (hX.1 69 45 rfl).1, (hX.1 69 48 rfl).1, funext (fun j => (hX.1 70 j rfl).1), funext (fun j => (hX.1 89 j rfl).1), funext (fun j => (hX.1 90 j rfl).1), funext (fun j => (hX.1 91 j rfl).1)⟩; have hm := q81.mp (by omega); have H := j22_0; rw [← t_pr_sp hsp] at H; have hb1 := hI.b (hI.wf.s (k := 69) rfl) (t_bdK rfl : t_bd 11 44 = some (0, 6)); have hb2 := hI.b (hI.wf.s (k := 69) rfl) (t_bdK rfl : t_bd 11 45 = some (0, 6)); have hs1 := hsp.1; have hs2 := hsp.2.1; rw [hs1] at hb1; rw [hs2] at hb2; have eS : t_S gi22 = (gi 69 44).toInt.toNat := (by unfold t_S; rw [hs1]); have eC : t_C gi22 = (gi 69 45).toInt.toNat := (by unfold t_C; rw [hs2]); unfold t_mayC at hm; exact t_la_b H (by omega) (by omega) (by omega) (fun _ => by unfold t_ky; omega))) rfl (fun w101 l101 u101 q101 => ?_)
                      have q101 : w101.toInt = t_byc gi22 (gi22 92) y4_1.toInt.toNat y17_3.toInt.toNat y22_4.toInt.toNat := q101
                      refine ev_minE f_X12_reckons (nx := 121) (l := (-2147483648)) (u := 1000023760) rfl rfl (by omega) rfl l80 u80 l101 u101 (by decide) (by decide) rfl (fun z102 e102 l102 u102 => ?_)
                      refine ev_loc f_X12_reckons (nx := 123) (lo' := [(5, .int z102), (4, .int y22_4), (3, .int y17_3), (2, .int y12_2), (1, .int y4_1), (0, .ref 69)]) rfl rfl rfl rfl ?_
                      refine ev_loc f_X12_reckons (nx := 124) rfl rfl rfl rfl ?_
                      refine ev_getR f_X12_reckons (nx := 127) rfl (hI.wf.s rfl) rfl rfl (hI.wf.r rfl) rfl rfl ?_
                      refine ev_loc f_X12_reckons (nx := 128) rfl rfl rfl rfl ?_
                      refine ev_loc f_X12_reckons (nx := 129) rfl rfl rfl rfl ?_
                      refine ev_loc f_X12_reckons (nx := 130) rfl rfl rfl rfl ?_
                      refine ev_loc f_X12_reckons (nx := 132) rfl rfl rfl rfl ?_
                      refine ev_inS4 f_X12_reckons (nx := 135) (lo2 := [(0, .int y4_1), (1, .int y12_2), (2, .int y17_3), (3, .int y22_4)]) rfl rfl rfl rfl f_X12_stateOf rfl rfl rfl rfl ?_
                      refine ev_ic f_X12_stateOf (nx := 1) (v := 2) rfl (by decide) rfl ?_
                      refine ev_loc f_X12_stateOf (nx := 2) rfl rfl rfl rfl ?_
                      refine ev_mulL f_X12_stateOf (nx := 3) (c := 2) (l := 0) (u := 480) rfl (by decide) (by decide) l11 u4_1 rfl rfl (by decide) (by decide) rfl (fun z103 e103 l103 u103 => ?_)
                      refine ev_loc f_X12_stateOf (nx := 4) rfl rfl rfl rfl ?_
                      refine ev_addR f_X12_stateOf (nx := 5) (l := 0) (u := 481) rfl l103 u103 l12_2 u16 rfl rfl (by decide) (by decide) rfl (fun z104 e104 l104 u104 => ?_)
                      refine ev_bp f_X12_stateOf (nx := 7) (v := 7) rfl (by decide) rfl ?_
                      refine ev_mulR f_X12_stateOf (nx := 8) (c := 7) (l := 0) (u := 3367) rfl (by decide) (by decide) l104 u104 rfl rfl (by decide) (by decide) rfl (fun z105 e105 l105 u105 => ?_)
                      refine ev_loc f_X12_stateOf (nx := 9) rfl rfl rfl rfl ?_
                      refine ev_addR f_X12_stateOf (nx := 10) (l := 0) (u := 3372) rfl l105 u105 l21 u77 rfl rfl (by decide) (by decide) rfl (fun z106 e106 l106 u106 => ?_)
                      refine ev_bp f_X12_stateOf (nx := 12) (v := 7) rfl (by decide) rfl ?_
                      refine ev_mulR f_X12_stateOf (nx := 13) (c := 7) (l := 0) (u := 23604) rfl (by decide) (by decide) l106 u106 rfl rfl (by decide) (by decide) rfl (fun z107 e107 l107 u107 => ?_)
                      refine ev_loc f_X12_stateOf (nx := 14) rfl rfl rfl rfl ?_
                      refine ev_addR f_X12_stateOf (nx := 15) (l := 0) (u := 23609) rfl l107 u107 l26 u99 rfl rfl (by decide) (by decide) rfl (fun z108 e108 l108 u108 => ?_)
                      refine ev_retK1 f_X12_stateOf rfl rfl rfl ?_
                      refine ev_loc f_X12_reckons (nx := 137) rfl rfl rfl rfl ?_
                      refine ev_ldW f_X12_reckons (nx := 140) (v := 1000000000) rfl (by decide) rfl ?_
                      refine ev_if f_X12_reckons (t1 := 148) (t2 := 143) rfl rfl rfl (fun h109 => ?_) (fun h109 => ?_)
                      · have l110 : 1000000000 ≤ z102.toInt := t_lel h109 (by decide : (1000000000:Int) ≤ (1000000000:Int32).toInt)
                        refine ev_ldW f_X12_reckons (nx := 151) (v := 1000000000) rfl (by decide) rfl ?_
                        have hsp : t_sp gi gi22 := ⟨(hX.1 69 44 rfl).1, (hX.1 69 45 rfl).1, (hX.1 69 48 rfl).1, funext (fun j => (hX.1 70 j rfl).1), funext (fun j => (hX.1 89 j rfl).1), funext (fun j => (hX.1 90 j rfl).1), funext (fun j => (hX.1 91 j rfl).1)⟩
                        have hcs := t_hcs hI
                        have hct := t_hct hI
                        have hcm : (∀ j : Nat, j < 12 → 0 ≤ (gi22 89 j).toInt ∧ (gi22 89 j).toInt ≤ 300) := (by rw [hsp.2.2.2.2.1]; exact e_p1)
                        have hS := hI.b (hI.wf.s (k := 69) rfl) (t_bdK rfl : t_bd 11 44 = some (0, 6))
                        have hC := hI.b (hI.wf.s (k := 69) rfl) (t_bdK rfl : t_bd 11 45 = some (0, 6))
                        refine ev_iastT f_X12_reckons (nx := 152) rfl (hI.wf.s rfl) l108 (by decide) u108 (by decide) rfl (hI.astG (hI.wf.s rfl) (fun lo hi e => absurd e (t_nob (by decide +kernel) _)) (fun k hk e => by have := hk.2.1; omega)) (hX.upI (t_inA_ok rfl)) (fun g111 e111 hI hX => ?_)
                        refine ev_incR f_X12_reckons (nx := 155) (c := (-1)) (l := (-1)) (u := 4) rfl rfl (by decide) (by decide) l26 u99 rfl rfl (by decide) (by decide) rfl (fun z112 e112 l112 u112 => ?_)
                        refine ev_jmp f_X12_reckons (nx := 30) rfl rfl rfl ?_
                        refine ev_sub (lo := [(4, .int z112), (3, .int y17_3), (2, .int y12_2), (1, .int y4_1), (0, .ref 69)]) rfl (t_sc rfl (t_sc rfl (t_sc rfl (t_sc rfl (t_sc rfl t_sn))))) ?_
                        exact ih22 _ (by omega) g111 gl22 gr22 (z112) hI hX  l112 (Int.le_trans u112 (by decide : (4:Int) ≤ 6)) ((by rw [e111]; exact x_up2_off (Or.inl (by decide)) : g111 69 44 = gi22 69 44).trans c22_0) ((by rw [e111]; exact x_up2_off (Or.inl (by decide)) : g111 69 45 = gi22 69 45).trans c22_1) ((by rw [e111]; exact x_up2_off (Or.inl (by decide)) : g111 69 48 = gi22 69 48).trans c22_2) (by rw [← t_pr_sp hsp]; exact t_rkS (m := y4_1) (o := y12_2) (s := y17_3) (c := y22_4) (x := 1000000000) (v1 := w28) (v2 := w34) (z1 := z27) (z2 := z32) (z3 := z33) (w := w31) (b1 := z80) (b2 := z102) (bs := w79) (bc := w101) (a2 := (gi 69 48)) (K := (98 * (240 - y4_1.toInt) + 49 * y12_2.toInt + 7 * (6 - y17_3.toInt) + (6 - y22_4.toInt)).toNat) (by rw [t_pr_sp hsp]; exact j22_0) e_p0 hS.1 hS.2 hC.1 hC.2 (by omega) (by omega) (by omega) (by omega) (by omega) (by rw [hsp.1]; omega) (by omega) (by rw [hsp.2.1]; omega) (by omega) (by omega) (by omega) q28 (by omega) q31 (by omega) (by omega) q34 (Or.inl ⟨q36.mp (by omega), q79, by rw [e80, e35]⟩) (Or.inl ⟨q81.mp (by omega), q101, e102⟩) (Or.inr ⟨by omega, by decide⟩) hcm hcs hct e111 (by omega)) (by omega) (by omega) rfl
                      · have u113 : z102.toInt ≤ 999999999 := t_ltu (t_nle h109) (by decide : (1000000000:Int32).toInt ≤ (1000000000:Int)) rfl
                        refine ev_loc f_X12_reckons (nx := 145) rfl rfl rfl rfl ?_
                        refine ev_jmp f_X12_reckons (nx := 151) rfl rfl rfl ?_
                        have hsp : t_sp gi gi22 := ⟨(hX.1 69 44 rfl).1, (hX.1 69 45 rfl).1, (hX.1 69 48 rfl).1, funext (fun j => (hX.1 70 j rfl).1), funext (fun j => (hX.1 89 j rfl).1), funext (fun j => (hX.1 90 j rfl).1), funext (fun j => (hX.1 91 j rfl).1)⟩
                        have hcs := t_hcs hI
                        have hct := t_hct hI
                        have hcm : (∀ j : Nat, j < 12 → 0 ≤ (gi22 89 j).toInt ∧ (gi22 89 j).toInt ≤ 300) := (by rw [hsp.2.2.2.2.1]; exact e_p1)
                        have hS := hI.b (hI.wf.s (k := 69) rfl) (t_bdK rfl : t_bd 11 44 = some (0, 6))
                        have hC := hI.b (hI.wf.s (k := 69) rfl) (t_bdK rfl : t_bd 11 45 = some (0, 6))
                        refine ev_iastT f_X12_reckons (nx := 152) rfl (hI.wf.s rfl) l108 (by decide) u108 (by decide) rfl (hI.astG (hI.wf.s rfl) (fun lo hi e => absurd e (t_nob (by decide +kernel) _)) (fun k hk e => by have := hk.2.1; omega)) (hX.upI (t_inA_ok rfl)) (fun g114 e114 hI hX => ?_)
                        refine ev_incR f_X12_reckons (nx := 155) (c := (-1)) (l := (-1)) (u := 4) rfl rfl (by decide) (by decide) l26 u99 rfl rfl (by decide) (by decide) rfl (fun z115 e115 l115 u115 => ?_)
                        refine ev_jmp f_X12_reckons (nx := 30) rfl rfl rfl ?_
                        refine ev_sub (lo := [(4, .int z115), (3, .int y17_3), (2, .int y12_2), (1, .int y4_1), (0, .ref 69)]) rfl (t_sc rfl (t_sc rfl (t_sc rfl (t_sc rfl (t_sc rfl t_sn))))) ?_
                        exact ih22 _ (by omega) g114 gl22 gr22 (z115) hI hX  l115 (Int.le_trans u115 (by decide : (4:Int) ≤ 6)) ((by rw [e114]; exact x_up2_off (Or.inl (by decide)) : g114 69 44 = gi22 69 44).trans c22_0) ((by rw [e114]; exact x_up2_off (Or.inl (by decide)) : g114 69 45 = gi22 69 45).trans c22_1) ((by rw [e114]; exact x_up2_off (Or.inl (by decide)) : g114 69 48 = gi22 69 48).trans c22_2) (by rw [← t_pr_sp hsp]; exact t_rkS (m := y4_1) (o := y12_2) (s := y17_3) (c := y22_4) (x := z102) (v1 := w28) (v2 := w34) (z1 := z27) (z2 := z32) (z3 := z33) (w := w31) (b1 := z80) (b2 := z102) (bs := w79) (bc := w101) (a2 := (gi 69 48)) (K := (98 * (240 - y4_1.toInt) + 49 * y12_2.toInt + 7 * (6 - y17_3.toInt) + (6 - y22_4.toInt)).toNat) (by rw [t_pr_sp hsp]; exact j22_0) e_p0 hS.1 hS.2 hC.1 hC.2 (by omega) (by omega) (by omega) (by omega) (by omega) (by rw [hsp.1]; omega) (by omega) (by rw [hsp.2.1]; omega) (by omega) (by omega) (by omega) q28 (by omega) q31 (by omega) (by omega) q34 (Or.inl ⟨q36.mp (by omega), q79, by rw [e80, e35]⟩) (Or.inl ⟨q81.mp (by omega), q101, e102⟩) (Or.inl ⟨by omega, rfl⟩) hcm hcs hct e114 (by omega)) (by omega) (by omega) rfl
              refine ev_sub (lo := [(4, .int (gi 69 45)), (3, .int y17_3), (2, .int y12_2), (1, .int y4_1), (0, .ref 69)]) rfl (t_sc rfl (t_sc rfl (t_sc rfl (t_sc rfl (t_sc rfl t_sn))))) ?_
              exact L22 _ gi17 gl17 gr17 ((gi 69 45)) hI hX  (Int.le_trans (by decide : ((-1):Int) ≤ 0) l2) u2 c17_0 c17_1 c17_2 (t_prK j17_0 (fun m o s c h1 h2 h3 h4 h5 => by unfold t_S at h3; unfold t_C at h4; unfold t_ky at h5 ⊢; omega)) (by omega) (by omega) rfl
          refine ev_sub (lo := [(3, .int (gi 69 44)), (2, .int y12_2), (1, .int y4_1), (0, .ref 69)]) rfl (t_sc rfl (t_sc rfl (t_sc rfl (t_sc rfl t_sn)))) ?_
          exact L17 _ gi12 gl12 gr12 ((gi 69 44)) hI hX  (Int.le_trans (by decide : ((-1):Int) ≤ 0) l1) u1 c12_0 c12_1 c12_2 (t_prK j12_0 (fun m o s c h1 h2 h3 h4 h5 => by unfold t_S at h3; unfold t_C at h4; unfold t_ky at h5 ⊢; omega)) (by omega) rfl
      refine ev_sub (lo := [(2, .int 0), (1, .int y4_1), (0, .ref 69)]) rfl (t_sc rfl (t_sc rfl (t_sc rfl t_sn))) ?_
      exact L12 _ gi4 gl4 gr4 (0) hI hX  (by decide : (0:Int) ≤ (0:Int32).toInt) (Int.le_trans (by decide : (0:Int32).toInt ≤ (0:Int)) (by decide : (0:Int) ≤ 2)) c4_0 c4_1 c4_2 (t_prK j4_0 (fun m o s c h1 h2 h3 h4 h5 => by have kf2 : (0 : Int32).toInt = 0 := (by decide); unfold t_S at h3; unfold t_C at h4; unfold t_ky at h5 ⊢; omega)) rfl
  refine ev_sub (lo := [(1, .int 240), (0, .ref 69)]) rfl (t_sc rfl (t_sc rfl t_sn)) ?_
  exact L4 _ gi gl gr (240) hI hX  (Int.le_trans (by decide : ((-1):Int) ≤ 240) (by decide : (240:Int) ≤ (240:Int32).toInt)) (by decide : (240:Int32).toInt ≤ (240:Int)) rfl rfl rfl (fun m o s c _ _ _ _ h => absurd h (by have kf : (240 : Int32).toInt = 240 := (by decide); omega)) rfl
noncomputable def wl_m_leastBy : List (Nat × Nat) := [(69, 44), (69, 45), (69, 48), (89, 10005), (89, 610011), (90, 9999), (91, 9999), (92, 9999)]
noncomputable def Q_m_leastBy (gi : Nat → Nat → Int32) (gl : Nat → Nat → Int64) (gr : Nat → Nat → Value) (ar1 : Int32) (ar2 : Int32) : Int32 → (Nat → Nat → Int32) → (Nat → Nat → Int64) → (Nat → Nat → Value) → Prop := fun (v : Int32) (gi2 : Nat → Nat → Int32) (gl2 : Nat → Nat → Int64) (gr2 : Nat → Nat → Value) => (t_pr gi2 (gi2 92) (gi2 69 48).toInt 23618 ∧ t_rk v.toInt (t_la (gi2 92) (t_S gi2) (t_C gi2) 0 0 0 0)) ∧ (∀ j : Nat, j < 12 → 0 ≤ (gi2 89 j).toInt ∧ (gi2 89 j).toInt ≤ 300) ∧ (gi2 69 48).toInt = ar2.toInt
theorem c_m_leastBy {X : x_Ext} {d : Nat} {sh : List (Nat ⊕ (Nat × Nat))} {gi : Nat → Nat → Int32} {gl : Nat → Nat → Int64} {gr : Nat → Nat → Value} (hI : t_I sh gi gr) (ar1 : Int32) (ar2 : Int32) (l_a2 : 0 ≤ ar2.toInt) (u_a2 : ar2.toInt ≤ 20) (e_p0 : 1 ≤ ar2.toInt) : x_Me X (d + 5) n_X12_leastBy [.ref 69, .int ar1, .int ar2] (sh, gi, gl, gr) (t_PI wl_m_leastBy sh gi gl gr (-2147483648) 999999999 (Q_m_leastBy gi gl gr ar1 ar2)) := by
  have hX : t_X wl_m_leastBy sh gi gl gr gi gl gr := t_X.rf
  refine me_i f_X12_leastBy (hI.wf.s rfl) rfl rfl rfl ?_
  obtain ⟨l1, u1⟩ := hI.b (hI.wf.s (k := 69) rfl) (t_bdK rfl : t_bd 11 48 = some (0, 20))
  refine ev_loc f_X12_leastBy (nx := 1) rfl rfl rfl rfl ?_
  refine ev_qN f_X12_leastBy (nx := 4) (r := []) rfl rfl rfl rfl rfl rfl rfl (c_m_tellsMinutes2 hI ) rfl hX rfl (fun gi2 gl2 gr2 hI hX hC2 q2 => ?_)
  have q2 : (∀ j : Nat, j < 12 → 0 ≤ (gi2 89 j).toInt ∧ (gi2 89 j).toInt ≤ 120) := q2
  refine ev_loc f_X12_leastBy (nx := 5) rfl rfl rfl rfl ?_
  refine ev_loc f_X12_leastBy (nx := 6) rfl rfl rfl rfl ?_
  refine ev_c0 f_X12_leastBy (nx := 9) (r := []) rfl rfl rfl rfl rfl rfl rfl (c_m_orders hI (ar1)) rfl hX rfl (fun gi3 gl3 gr3 hI hX hC3 => ?_)
  refine ev_loc f_X12_leastBy (nx := 10) rfl rfl rfl rfl ?_
  refine ev_loc f_X12_leastBy (nx := 11) rfl rfl rfl rfl ?_
  refine ev_putIT f_X12_leastBy (nx := 14) rfl (hI.wf.s rfl) rfl rfl rfl (hI.putB (hI.wf.s rfl) rfl rfl l_a2 (by decide) u_a2 (by decide)) (hX.upI rfl) (fun g4 e4 hI hX => ?_)
  refine ev_loc f_X12_leastBy (nx := 15) rfl rfl rfl rfl ?_
  refine ev_qI f_X12_leastBy (nx := 18) (r := []) rfl rfl rfl rfl rfl rfl rfl (c_m_reckons hI  (by have ff6 : (g4 69 48).toInt = ar2.toInt := congrArg Int32.toInt (by rw [e4]; exact x_up2_at _ _ _ _ : g4 69 48 = ar2); omega) (by rw [(((by rw [e4]; exact x_up2_ne (by decide) : g4 89 = gi3 89).trans ((funext (fun j => (hC3.1 89 j rfl).1) : gi3 89 = gi2 89))) : g4 89 = gi2 89)]; exact (t_cm_w q2))) rfl hX rfl (fun w5 gi5 gl5 gr5 l5 u5 hI hX hC5 q5 => ?_)
  have q5 : t_pr gi5 (gi5 92) (gi5 69 48).toInt 23618 ∧ t_rk w5.toInt (t_la (gi5 92) (t_S gi5) (t_C gi5) 0 0 0 0) := q5
  exact ev_ret f_X12_leastBy rfl rfl rfl ⟨_, _, _, rfl, hI, hX, ⟨_, rfl, l5, u5, (show (t_pr gi5 (gi5 92) (gi5 69 48).toInt 23618 ∧ t_rk w5.toInt (t_la (gi5 92) (t_S gi5) (t_C gi5) 0 0 0 0)) ∧ (∀ j : Nat, j < 12 → 0 ≤ (gi5 89 j).toInt ∧ (gi5 89 j).toInt ≤ 300) ∧ (gi5 69 48).toInt = ar2.toInt from ⟨q5, (by rw [(((funext (fun j => (hC5.1 89 j rfl).1) : gi5 89 = g4 89).trans ((by rw [e4]; exact x_up2_ne (by decide) : g4 89 = gi3 89).trans ((funext (fun j => (hC3.1 89 j rfl).1) : gi3 89 = gi2 89)))) : gi5 89 = gi2 89)]; exact (t_cm_w q2)), (by have ff7 : (gi5 69 48).toInt = ar2.toInt := congrArg Int32.toInt ((hC5.1 69 48 rfl).1.trans (by rw [e4]; exact x_up2_at _ _ _ _ : g4 69 48 = ar2)); omega)⟩)⟩⟩
noncomputable def wl_m_laterBy : List (Nat × Nat) := [(69, 44), (69, 45), (69, 48), (89, 10005), (89, 610011), (90, 9999), (91, 9999), (92, 9999)]
noncomputable def Q_m_laterBy (gi : Nat → Nat → Int32) (gl : Nat → Nat → Int64) (gr : Nat → Nat → Value) (ar1 : Int32) (ar2 : Int32) : Int32 → (Nat → Nat → Int32) → (Nat → Nat → Int64) → (Nat → Nat → Value) → Prop := fun (v : Int32) (gi2 : Nat → Nat → Int32) (gl2 : Nat → Nat → Int64) (gr2 : Nat → Nat → Value) => True
theorem c_m_laterBy {X : x_Ext} {d : Nat} {sh : List (Nat ⊕ (Nat × Nat))} {gi : Nat → Nat → Int32} {gl : Nat → Nat → Int64} {gr : Nat → Nat → Value} (hI : t_I sh gi gr) (ar1 : Int32) (l_a1 : 0 ≤ ar1.toInt) (u_a1 : ar1.toInt ≤ 5) (ar2 : Int32) (l_a2 : 0 ≤ ar2.toInt) (u_a2 : ar2.toInt ≤ 60) (e_p0 : 1 ≤ (gi 70 4).toInt) : x_Me X (d + 5) n_X12_laterBy [.ref 69, .int ar1, .int ar2] (sh, gi, gl, gr) (t_PI wl_m_laterBy sh gi gl gr (-2147483648) 999999999 (Q_m_laterBy gi gl gr ar1 ar2)) := by
  have hX : t_X wl_m_laterBy sh gi gl gr gi gl gr := t_X.rf
  refine me_i f_X12_laterBy (hI.wf.s rfl) rfl rfl rfl ?_
  obtain ⟨l1, u1⟩ := hI.ab (by decide +kernel : t_abr 70 4 4 0 20 = true) (Nat.le_refl _) (Nat.le_refl _)
  refine ev_loc f_X12_laterBy (nx := 1) rfl rfl rfl rfl ?_
  refine ev_qN f_X12_laterBy (nx := 4) (r := []) rfl rfl rfl rfl rfl rfl rfl (c_m_tellsMinutes2 hI ) rfl hX rfl (fun gi2 gl2 gr2 hI hX hC2 q2 => ?_)
  have q2 : (∀ j : Nat, j < 12 → 0 ≤ (gi2 89 j).toInt ∧ (gi2 89 j).toInt ≤ 120) := q2
  refine ev_loc f_X12_laterBy (nx := 5) rfl rfl rfl rfl ?_
  refine ev_getR f_X12_laterBy (nx := 8) rfl (hI.wf.s rfl) rfl rfl (hI.wf.r rfl) rfl rfl ?_
  refine ev_loc f_X12_laterBy (nx := 9) rfl rfl rfl rfl ?_
  refine ev_alu f_X12_laterBy (nx := 10) rfl rfl rfl rfl ?_
  refine ev_ialdT f_X12_laterBy (nx := 11) rfl (hI.wf.s rfl) l_a1 (by decide) u_a1 (by decide) rfl (fun w3 e3 => ?_)
  refine ev_loc f_X12_laterBy (nx := 12) rfl rfl rfl rfl ?_
  have l4 : (0:Int) ≤ w3.toInt := (by have hc := t_clamp (i := ar1) (by omega); rw [e3]; exact (q2 _ (by omega)).1)
  have u5 : w3.toInt ≤ (120:Int) := (by have hc := t_clamp (i := ar1) (by omega); rw [e3]; exact (q2 _ (by omega)).2)
  refine ev_addR f_X12_laterBy (nx := 13) (l := 0) (u := 180) rfl l4 u5 l_a2 u_a2 rfl rfl (by decide) (by decide) rfl (fun z6 e6 l6 u6 => ?_)
  refine ev_iastT f_X12_laterBy (nx := 14) rfl (hI.wf.s rfl) l_a1 (by decide) u_a1 (by decide) rfl (hI.astG (hI.wf.s rfl) (fun lo hi e => absurd e (t_nob (by decide +kernel) _)) (fun k hk e => by have := hk.2.1; omega)) (hX.upI (t_inR (p := 0) (m := 5) rfl l_a1 (by decide) u_a1 (by decide) (by decide))) (fun g7 e7 hI hX => ?_)
  refine ev_loc f_X12_laterBy (nx := 15) rfl rfl rfl rfl ?_
  refine ev_ic f_X12_laterBy (nx := 16) (v := 0) rfl (by decide) rfl ?_
  refine ev_c0 f_X12_laterBy (nx := 19) (r := []) rfl rfl rfl rfl rfl rfl rfl (c_m_orders hI (0)) rfl hX rfl (fun gi8 gl8 gr8 hI hX hC8 => ?_)
  refine ev_loc f_X12_laterBy (nx := 20) rfl rfl rfl rfl ?_
  refine ev_loc f_X12_laterBy (nx := 21) rfl rfl rfl rfl ?_
  refine ev_getR f_X12_laterBy (nx := 24) rfl (hI.wf.s rfl) rfl rfl (hI.wf.r rfl) rfl rfl ?_
  refine ev_ic f_X12_laterBy (nx := 25) (v := 4) rfl (by decide) rfl ?_
  refine ev_ialdv f_X12_laterBy (nx := 26) (w := (gi 70 4)) rfl (hI.wf.s rfl) (by decide) (rfl : (4 : Int32).toNatClampNeg = 4) (by decide) ((hC8.1 70 4 rfl).1.trans ((by rw [e7]; exact x_up2_off (Or.inl (by decide)) : g7 70 4 = gi2 70 4).trans ((hC2.1 70 4 rfl).1.trans rfl))) rfl ?_
  refine ev_putIT f_X12_laterBy (nx := 29) rfl (hI.wf.s rfl) rfl rfl rfl (hI.putB (hI.wf.s rfl) rfl rfl l1 (by decide) u1 (by decide)) (hX.upI rfl) (fun g10 e10 hI hX => ?_)
  refine ev_loc f_X12_laterBy (nx := 30) rfl rfl rfl rfl ?_
  refine ev_qI f_X12_laterBy (nx := 33) (r := []) rfl rfl rfl rfl rfl rfl rfl (c_m_reckons hI  (by have ff12 : (g10 69 48).toInt = (gi 70 4).toInt := congrArg Int32.toInt (by rw [e10]; exact x_up2_at _ _ _ _ : g10 69 48 = (gi 70 4)); omega) (by rw [((by rw [e10]; exact x_up2_ne (by decide) : g10 89 = gi8 89).trans ((funext (fun j => (hC8.1 89 j rfl).1) : gi8 89 = g7 89)))]; intro j hj; rcases t_stc e7 j with ⟨h2, h3⟩ | ⟨h2, h3⟩ <;> rw [h3]; (constructor <;> omega); exact t_cm_w q2 j hj)) rfl hX rfl (fun w11 gi11 gl11 gr11 l11 u11 hI hX hC11 q11 => ?_)
  have q11 : t_pr gi11 (gi11 92) (gi11 69 48).toInt 23618 ∧ t_rk w11.toInt (t_la (gi11 92) (t_S gi11) (t_C gi11) 0 0 0 0) := q11
  exact ev_ret f_X12_laterBy rfl rfl rfl ⟨_, _, _, rfl, hI, hX, ⟨_, rfl, l11, u11, (show True from (by trivial))⟩⟩
noncomputable def wl_m_least : List (Nat × Nat) := [(69, 2), (69, 44), (69, 45), (69, 48), (89, 10005), (89, 610011), (90, 9999), (91, 9999), (92, 9999)]
theorem c_m_least {X : x_Ext} {d : Nat} {sh : List (Nat ⊕ (Nat × Nat))} {gi : Nat → Nat → Int32} {gl : Nat → Nat → Int64} {gr : Nat → Nat → Value} (hI : t_I sh gi gr) (e_p0 : 1 ≤ (gi 70 4).toInt) : x_Me X (d + 6) n_X12_least [.ref 69] (sh, gi, gl, gr) (t_P wl_m_least sh gi gl gr (t_Ri (-2147483648) 999999999)) := by
  have hX : t_X wl_m_least sh gi gl gr gi gl gr := t_X.rf
  refine me_i f_X12_least (hI.wf.s rfl) rfl rfl rfl ?_
  obtain ⟨l1, u1⟩ := hI.ab (by decide +kernel : t_abr 70 4 4 0 20 = true) (Nat.le_refl _) (Nat.le_refl _)
  refine ev_loc f_X12_least (nx := 1) rfl rfl rfl rfl ?_
  refine ev_loc f_X12_least (nx := 2) rfl rfl rfl rfl ?_
  refine ev_ic f_X12_least (nx := 3) (v := 0) rfl (by decide) rfl ?_
  refine ev_loc f_X12_least (nx := 4) rfl rfl rfl rfl ?_
  refine ev_getR f_X12_least (nx := 7) rfl (hI.wf.s rfl) rfl rfl (hI.wf.r rfl) rfl rfl ?_
  refine ev_ic f_X12_least (nx := 8) (v := 4) rfl (by decide) rfl ?_
  refine ev_ialdv f_X12_least (nx := 9) (w := (gi 70 4)) rfl (hI.wf.s rfl) (by decide) (rfl : (4 : Int32).toNatClampNeg = 4) (by decide) rfl rfl ?_
  refine ev_qI f_X12_least (nx := 12) (r := [.ref 69]) rfl rfl rfl rfl rfl rfl rfl (c_m_leastBy hI (0) ((gi 70 4)) l1 u1 (by omega)) rfl hX rfl (fun w3 gi3 gl3 gr3 l3 u3 hI hX hC3 q3 => ?_)
  have q3 : (t_pr gi3 (gi3 92) (gi3 69 48).toInt 23618 ∧ t_rk w3.toInt (t_la (gi3 92) (t_S gi3) (t_C gi3) 0 0 0 0)) ∧ (∀ j : Nat, j < 12 → 0 ≤ (gi3 89 j).toInt ∧ (gi3 89 j).toInt ≤ 300) ∧ (gi3 69 48).toInt = (gi 70 4).toInt := q3
  refine ev_inV2 f_X12_least (nx := 15) (lo2 := [(0, .ref 69), (1, .int w3)]) rfl rfl rfl rfl f_X12_orNone (hI.wf.s rfl) rfl rfl rfl rfl rfl ?_
  refine ev_loc f_X12_orNone (nx := 1) rfl rfl rfl rfl ?_
  refine ev_ic f_X12_orNone (nx := 2) (v := -1) rfl (by decide) rfl ?_
  refine ev_if f_X12_orNone (t1 := 5) (t2 := 14) rfl rfl rfl (fun h4 => ?_) (fun h4 => ?_)
  · have u5 : w3.toInt ≤ (-1) := t_equ h4 (by decide : ((-1):Int32).toInt ≤ ((-1):Int))
    have l6 : (-1) ≤ w3.toInt := t_eql h4 (by decide : ((-1):Int) ≤ ((-1):Int32).toInt)
    refine ev_loc f_X12_orNone (nx := 6) rfl rfl rfl rfl ?_
    refine ev_bp f_X12_orNone (nx := 8) (v := 6) rfl (by decide) rfl ?_
    refine ev_inV2 f_X12_orNone (nx := 11) (lo2 := [(0, .ref 69), (1, .int 6)]) rfl rfl rfl rfl f_X12_refuse (hI.wf.s rfl) rfl rfl rfl rfl rfl ?_
    refine ev_loc f_X12_refuse (nx := 1) rfl rfl rfl rfl ?_
    refine ev_loc f_X12_refuse (nx := 2) rfl rfl rfl rfl ?_
    refine ev_putIT f_X12_refuse (nx := 5) rfl (hI.wf.s rfl) rfl rfl rfl (hI.put0 (hI.wf.s rfl) rfl rfl) (hX.upI rfl) (fun g7 e7 hI hX => ?_)
    refine ev_ic f_X12_refuse (nx := 6) (v := -1) rfl (by decide) rfl ?_
    refine ev_retK1 f_X12_refuse rfl rfl rfl ?_
    refine ev_jmp f_X12_orNone (nx := 19) rfl rfl rfl ?_
    refine ev_retK1 f_X12_orNone rfl rfl rfl ?_
    exact ev_ret f_X12_least rfl rfl rfl ⟨_, _, _, rfl, hI, hX, ⟨_, rfl, (Int.le_trans (by decide : ((-2147483648):Int) ≤ (-1)) (by decide : ((-1):Int) ≤ ((-1):Int32).toInt)), (Int.le_trans (by decide : ((-1):Int32).toInt ≤ ((-1):Int)) (by decide : ((-1):Int) ≤ 999999999))⟩⟩
  · have r8 : w3.toInt ≠ (-1) := fun e => h4 (Int32.toInt_inj.mp (e.trans (by decide : ((-1):Int) = ((-1) : Int32).toInt)))
    refine ev_loc f_X12_orNone (nx := 15) rfl rfl rfl rfl ?_
    refine ev_loc f_X12_orNone (nx := 16) rfl rfl rfl rfl ?_
    refine ev_inV2 f_X12_orNone (nx := 19) (lo2 := [(0, .ref 69), (1, .int w3)]) rfl rfl rfl rfl f_X12_gives (hI.wf.s rfl) rfl rfl rfl rfl rfl ?_
    refine ev_loc f_X12_gives (nx := 1) rfl rfl rfl rfl ?_
    refine ev_ic f_X12_gives (nx := 2) (v := 0) rfl (by decide) rfl ?_
    refine ev_putIT f_X12_gives (nx := 5) rfl (hI.wf.s rfl) rfl rfl rfl (hI.put0 (hI.wf.s rfl) rfl rfl) (hX.upI rfl) (fun g9 e9 hI hX => ?_)
    refine ev_loc f_X12_gives (nx := 6) rfl rfl rfl rfl ?_
    refine ev_retK1 f_X12_gives rfl rfl rfl ?_
    refine ev_retK1 f_X12_orNone rfl rfl rfl ?_
    exact ev_ret f_X12_least rfl rfl rfl ⟨_, _, _, rfl, hI, hX, ⟨_, rfl, l3, u3⟩⟩
noncomputable def wl_m_worth : List (Nat × Nat) := [(69, 2), (69, 44), (69, 45), (69, 48), (89, 10005), (89, 610011), (90, 9999), (91, 9999), (92, 9999)]
theorem c_m_worth {X : x_Ext} {d : Nat} {sh : List (Nat ⊕ (Nat × Nat))} {gi : Nat → Nat → Int32} {gl : Nat → Nat → Int64} {gr : Nat → Nat → Value} (hI : t_I sh gi gr) (ar1 : Int32) (e_p0 : 1 ≤ (gi 70 4).toInt) : x_Me X (d + 6) n_X12_worth [.ref 69, .int ar1] (sh, gi, gl, gr) (t_P wl_m_worth sh gi gl gr (t_Ri (-2147483648) 2147483647)) := by
  have hX : t_X wl_m_worth sh gi gl gr gi gl gr := t_X.rf
  refine me_i f_X12_worth (hI.wf.s rfl) rfl rfl rfl ?_
  obtain ⟨l1, u1⟩ := hI.ab (by decide +kernel : t_abr 70 4 4 0 20 = true) (Nat.le_refl _) (Nat.le_refl _)
  refine ev_loc f_X12_worth (nx := 1) rfl rfl rfl rfl ?_
  refine ev_loc f_X12_worth (nx := 2) rfl rfl rfl rfl ?_
  refine ev_inV2 f_X12_worth (nx := 5) (lo2 := [(0, .ref 69), (1, .int ar1)]) rfl rfl rfl rfl f_X12_isShip (hI.wf.s rfl) rfl rfl rfl rfl rfl ?_
  refine ev_loc f_X12_isShip (nx := 1) rfl rfl rfl rfl ?_
  refine ev_if f_X12_isShip (t1 := 18) (t2 := 4) rfl rfl rfl (fun h2 => ?_) (fun h2 => ?_)
  · have u3 : ar1.toInt ≤ (-1) := t_ltu h2 (by decide : (0:Int32).toInt ≤ (0:Int)) rfl
    refine ev_ic f_X12_isShip (nx := 19) (v := 0) rfl (by decide) rfl ?_
    refine ev_retK1 f_X12_isShip rfl rfl rfl ?_
    refine ev_t f_X12_worth (t1 := 8) (t2 := 14) rfl rfl rfl (by decide) ?_
    refine ev_loc f_X12_worth (nx := 9) rfl rfl rfl rfl ?_
    refine ev_ic f_X12_worth (nx := 10) (v := 1) rfl (by decide) rfl ?_
    refine ev_inV2 f_X12_worth (nx := 13) (lo2 := [(0, .ref 69), (1, .int 1)]) rfl rfl rfl rfl f_X12_refuse (hI.wf.s rfl) rfl rfl rfl rfl rfl ?_
    refine ev_loc f_X12_refuse (nx := 1) rfl rfl rfl rfl ?_
    refine ev_loc f_X12_refuse (nx := 2) rfl rfl rfl rfl ?_
    refine ev_putIT f_X12_refuse (nx := 5) rfl (hI.wf.s rfl) rfl rfl rfl (hI.put0 (hI.wf.s rfl) rfl rfl) (hX.upI rfl) (fun g4 e4 hI hX => ?_)
    refine ev_ic f_X12_refuse (nx := 6) (v := -1) rfl (by decide) rfl ?_
    refine ev_retK1 f_X12_refuse rfl rfl rfl ?_
    exact ev_ret f_X12_worth rfl rfl rfl ⟨_, _, _, rfl, hI, hX, ⟨_, rfl, (Int.le_trans (by decide : ((-2147483648):Int) ≤ (-1)) (by decide : ((-1):Int) ≤ ((-1):Int32).toInt)), (Int.le_trans (by decide : ((-1):Int32).toInt ≤ ((-1):Int)) (by decide : ((-1):Int) ≤ 2147483647))⟩⟩
  · have l5 : 0 ≤ ar1.toInt := t_lel (t_nlt h2) (by decide : (0:Int) ≤ (0:Int32).toInt)
    refine ev_loc f_X12_isShip (nx := 5) rfl rfl rfl rfl ?_
    refine ev_loc f_X12_isShip (nx := 6) rfl rfl rfl rfl ?_
    refine ev_getR f_X12_isShip (nx := 9) rfl (hI.wf.s rfl) rfl rfl (hI.wf.r rfl) rfl rfl ?_
    refine ev_ic f_X12_isShip (nx := 10) (v := 1) rfl (by decide) rfl ?_
    obtain ⟨l6, u6⟩ := hI.ab (by decide +kernel : t_abr 70 1 1 0 6 = true) (Nat.le_refl _) (Nat.le_refl _)
    refine ev_ialdv f_X12_isShip (nx := 11) (w := (gi 70 1)) rfl (hI.wf.s rfl) (by decide) (rfl : (1 : Int32).toNatClampNeg = 1) (by decide) rfl rfl ?_
    refine ev_if f_X12_isShip (t1 := 18) (t2 := 14) rfl rfl rfl (fun h7 => ?_) (fun h7 => ?_)
    · have r8 : (gi 70 1).toInt ≤ ar1.toInt := Int32.le_iff_toInt_le.mp h7
      refine ev_ic f_X12_isShip (nx := 19) (v := 0) rfl (by decide) rfl ?_
      refine ev_retK1 f_X12_isShip rfl rfl rfl ?_
      refine ev_t f_X12_worth (t1 := 8) (t2 := 14) rfl rfl rfl (by decide) ?_
      refine ev_loc f_X12_worth (nx := 9) rfl rfl rfl rfl ?_
      refine ev_ic f_X12_worth (nx := 10) (v := 1) rfl (by decide) rfl ?_
      refine ev_inV2 f_X12_worth (nx := 13) (lo2 := [(0, .ref 69), (1, .int 1)]) rfl rfl rfl rfl f_X12_refuse (hI.wf.s rfl) rfl rfl rfl rfl rfl ?_
      refine ev_loc f_X12_refuse (nx := 1) rfl rfl rfl rfl ?_
      refine ev_loc f_X12_refuse (nx := 2) rfl rfl rfl rfl ?_
      refine ev_putIT f_X12_refuse (nx := 5) rfl (hI.wf.s rfl) rfl rfl rfl (hI.put0 (hI.wf.s rfl) rfl rfl) (hX.upI rfl) (fun g9 e9 hI hX => ?_)
      refine ev_ic f_X12_refuse (nx := 6) (v := -1) rfl (by decide) rfl ?_
      refine ev_retK1 f_X12_refuse rfl rfl rfl ?_
      exact ev_ret f_X12_worth rfl rfl rfl ⟨_, _, _, rfl, hI, hX, ⟨_, rfl, (Int.le_trans (by decide : ((-2147483648):Int) ≤ (-1)) (by decide : ((-1):Int) ≤ ((-1):Int32).toInt)), (Int.le_trans (by decide : ((-1):Int32).toInt ≤ ((-1):Int)) (by decide : ((-1):Int) ≤ 2147483647))⟩⟩
    · have r10 : ar1.toInt < (gi 70 1).toInt := Int32.lt_iff_toInt_lt.mp (t_nle h7)
      have u11 : ar1.toInt ≤ 5 := t_ltu (t_nle h7) u6 rfl
      have l12 : 1 ≤ (gi 70 1).toInt := t_ltl (t_nle h7) l5 rfl
      refine ev_ic f_X12_isShip (nx := 15) (v := 1) rfl (by decide) rfl ?_
      refine ev_jmp f_X12_isShip (nx := 19) rfl rfl rfl ?_
      refine ev_retK1 f_X12_isShip rfl rfl rfl ?_
      refine ev_f f_X12_worth (t1 := 8) (t2 := 14) rfl rfl rfl (by decide) ?_
      refine ev_loc f_X12_worth (nx := 15) rfl rfl rfl rfl ?_
      refine ev_ic f_X12_worth (nx := 16) (v := 0) rfl (by decide) rfl ?_
      refine ev_loc f_X12_worth (nx := 17) rfl rfl rfl rfl ?_
      refine ev_getR f_X12_worth (nx := 20) rfl (hI.wf.s rfl) rfl rfl (hI.wf.r rfl) rfl rfl ?_
      refine ev_ic f_X12_worth (nx := 21) (v := 4) rfl (by decide) rfl ?_
      refine ev_ialdv f_X12_worth (nx := 22) (w := (gi 70 4)) rfl (hI.wf.s rfl) (by decide) (rfl : (4 : Int32).toNatClampNeg = 4) (by decide) rfl rfl ?_
      refine ev_qI f_X12_worth (nx := 25) (r := []) rfl rfl rfl rfl rfl rfl rfl (c_m_leastBy hI (0) ((gi 70 4)) l1 u1 (by omega)) rfl hX rfl (fun w14 gi14 gl14 gr14 l14 u14 hI hX hC14 q14 => ?_)
      have q14 : (t_pr gi14 (gi14 92) (gi14 69 48).toInt 23618 ∧ t_rk w14.toInt (t_la (gi14 92) (t_S gi14) (t_C gi14) 0 0 0 0)) ∧ (∀ j : Nat, j < 12 → 0 ≤ (gi14 89 j).toInt ∧ (gi14 89 j).toInt ≤ 300) ∧ (gi14 69 48).toInt = (gi 70 4).toInt := q14
      refine ev_loc f_X12_worth (nx := 26) (lo' := [(2, .int w14), (0, .ref 69), (1, .int ar1)]) rfl rfl rfl rfl ?_
      refine ev_loc f_X12_worth (nx := 27) rfl rfl rfl rfl ?_
      refine ev_ic f_X12_worth (nx := 28) (v := -1) rfl (by decide) rfl ?_
      refine ev_if f_X12_worth (t1 := 31) (t2 := 40) rfl rfl rfl (fun h15 => ?_) (fun h15 => ?_)
      · have u16 : w14.toInt ≤ (-1) := t_equ h15 (by decide : ((-1):Int32).toInt ≤ ((-1):Int))
        have l17 : (-1) ≤ w14.toInt := t_eql h15 (by decide : ((-1):Int) ≤ ((-1):Int32).toInt)
        refine ev_loc f_X12_worth (nx := 32) rfl rfl rfl rfl ?_
        refine ev_bp f_X12_worth (nx := 34) (v := 6) rfl (by decide) rfl ?_
        refine ev_inV2 f_X12_worth (nx := 37) (lo2 := [(0, .ref 69), (1, .int 6)]) rfl rfl rfl rfl f_X12_refuse (hI.wf.s rfl) rfl rfl rfl rfl rfl ?_
        refine ev_loc f_X12_refuse (nx := 1) rfl rfl rfl rfl ?_
        refine ev_loc f_X12_refuse (nx := 2) rfl rfl rfl rfl ?_
        refine ev_putIT f_X12_refuse (nx := 5) rfl (hI.wf.s rfl) rfl rfl rfl (hI.put0 (hI.wf.s rfl) rfl rfl) (hX.upI rfl) (fun g18 e18 hI hX => ?_)
        refine ev_ic f_X12_refuse (nx := 6) (v := -1) rfl (by decide) rfl ?_
        refine ev_retK1 f_X12_refuse rfl rfl rfl ?_
        refine ev_jmp f_X12_worth (nx := 59) rfl rfl rfl ?_
        exact ev_ret f_X12_worth rfl rfl rfl ⟨_, _, _, rfl, hI, hX, ⟨_, rfl, (Int.le_trans (by decide : ((-2147483648):Int) ≤ (-1)) (by decide : ((-1):Int) ≤ ((-1):Int32).toInt)), (Int.le_trans (by decide : ((-1):Int32).toInt ≤ ((-1):Int)) (by decide : ((-1):Int) ≤ 2147483647))⟩⟩
      · have r19 : w14.toInt ≠ (-1) := fun e => h15 (Int32.toInt_inj.mp (e.trans (by decide : ((-1):Int) = ((-1) : Int32).toInt)))
        refine ev_loc f_X12_worth (nx := 41) rfl rfl rfl rfl ?_
        refine ev_loc f_X12_worth (nx := 42) rfl rfl rfl rfl ?_
        refine ev_loc f_X12_worth (nx := 43) rfl rfl rfl rfl ?_
        refine ev_ic f_X12_worth (nx := 44) (v := 1) rfl (by decide) rfl ?_
        refine ev_loc f_X12_worth (nx := 45) rfl rfl rfl rfl ?_
        refine ev_shl1E f_X12_worth (nx := 46) rfl l5 u11 (by decide) (by decide) rfl (fun z20 s20 => ?_)
        have l20 : 1 ≤ z20.toInt := by have := l5; have := u11; omega
        have u20 : z20.toInt ≤ 32 := by have := l5; have := u11; omega
        refine ev_loc f_X12_worth (nx := 47) rfl rfl rfl rfl ?_
        refine ev_getR f_X12_worth (nx := 50) rfl (hI.wf.s rfl) rfl rfl (hI.wf.r rfl) rfl rfl ?_
        refine ev_ic f_X12_worth (nx := 51) (v := 4) rfl (by decide) rfl ?_
        refine ev_ialdv f_X12_worth (nx := 52) (w := (gi 70 4)) rfl (hI.wf.s rfl) (by decide) (rfl : (4 : Int32).toNatClampNeg = 4) (by decide) ((hC14.1 70 4 rfl).1.trans rfl) rfl ?_
        refine ev_qI f_X12_worth (nx := 55) (r := [.int w14, .ref 69]) rfl rfl rfl rfl rfl rfl rfl (c_m_leastBy hI (z20) ((gi 70 4)) l1 u1 (by omega)) rfl hX rfl (fun w22 gi22 gl22 gr22 l22 u22 hI hX hC22 q22 => ?_)
        have q22 : (t_pr gi22 (gi22 92) (gi22 69 48).toInt 23618 ∧ t_rk w22.toInt (t_la (gi22 92) (t_S gi22) (t_C gi22) 0 0 0 0)) ∧ (∀ j : Nat, j < 12 → 0 ≤ (gi22 89 j).toInt ∧ (gi22 89 j).toInt ≤ 300) ∧ (gi22 69 48).toInt = (gi 70 4).toInt := q22
        refine ev_anyI f_X12_worth (nx := 56) rfl rfl rfl rfl (fun z23 => ?_)
        refine ev_inV2 f_X12_worth (nx := 59) (lo2 := [(0, .ref 69), (1, .int z23)]) rfl rfl rfl rfl f_X12_gives (hI.wf.s rfl) rfl rfl rfl rfl rfl ?_
        refine ev_loc f_X12_gives (nx := 1) rfl rfl rfl rfl ?_
        refine ev_ic f_X12_gives (nx := 2) (v := 0) rfl (by decide) rfl ?_
        refine ev_putIT f_X12_gives (nx := 5) rfl (hI.wf.s rfl) rfl rfl rfl (hI.put0 (hI.wf.s rfl) rfl rfl) (hX.upI rfl) (fun g24 e24 hI hX => ?_)
        refine ev_loc f_X12_gives (nx := 6) rfl rfl rfl rfl ?_
        refine ev_retK1 f_X12_gives rfl rfl rfl ?_
        exact ev_ret f_X12_worth rfl rfl rfl ⟨_, _, _, rfl, hI, hX, ⟨_, rfl, (t_lo z23), (t_hi z23)⟩⟩
noncomputable def wl_m_quicker : List (Nat × Nat) := [(69, 2), (69, 44), (69, 45), (69, 48), (89, 10005), (89, 610011), (90, 9999), (91, 9999), (92, 9999)]
theorem c_m_quicker {X : x_Ext} {d : Nat} {sh : List (Nat ⊕ (Nat × Nat))} {gi : Nat → Nat → Int32} {gl : Nat → Nat → Int64} {gr : Nat → Nat → Value} (hI : t_I sh gi gr) (ar1 : Int32) : x_Me X (d + 6) n_X12_quicker [.ref 69, .int ar1] (sh, gi, gl, gr) (t_P wl_m_quicker sh gi gl gr (t_Ri (-2147483648) 999999999)) := by
  have hX : t_X wl_m_quicker sh gi gl gr gi gl gr := t_X.rf
  refine me_i f_X12_quicker (hI.wf.s rfl) rfl rfl rfl ?_
  refine ev_loc f_X12_quicker (nx := 1) rfl rfl rfl rfl ?_
  refine ev_anyLE f_X12_quicker (nx := 2) rfl rfl rfl rfl (fun z1 e1 => ?_)
  have i1 : z1.toInt = ar1.toInt := by rw [e1]; exact Int32.toInt_toInt64 _
  refine ev_lc f_X12_quicker (nx := 3) (v := 1) rfl (by decide) rfl ?_
  refine ev_ldL f_X12_quicker (nx := 6) (v := 20) rfl (by decide) rfl ?_
  refine ev_inS3 f_X12_quicker (nx := 9) (lo2 := [(0, .long z1), (2, .long 1), (4, .long 20)]) rfl rfl rfl rfl f_X12_isFrom rfl rfl rfl rfl ?_
  refine ev_loc f_X12_isFrom (nx := 1) rfl rfl rfl rfl ?_
  refine ev_loc f_X12_isFrom (nx := 2) rfl rfl rfl rfl ?_
  refine ev_anyIE f_X12_isFrom (nx := 3) rfl rfl rfl rfl (fun z2 e2 => ?_)
  refine ev_if f_X12_isFrom (t1 := 17) (t2 := 6) rfl rfl rfl (fun h3 => ?_) (fun h3 => ?_)
  · have u4 : ar1.toInt ≤ (0:Int) := Int.le_sub_one_of_lt ((lgc_lt (by decide : (1 : Int64).toInt = 1)).mp (by have hh := h3; rw [e2, e1] at hh; exact hh))
    have u5 : z2.toInt ≤ (-1) := t_ltu h3 (by decide : (0:Int32).toInt ≤ (0:Int)) rfl
    refine ev_ic f_X12_isFrom (nx := 18) (v := 0) rfl (by decide) rfl ?_
    refine ev_retK1 f_X12_isFrom rfl rfl rfl ?_
    refine ev_t f_X12_quicker (t1 := 25) (t2 := 12) rfl rfl rfl (by decide) ?_
    refine ev_loc f_X12_quicker (nx := 26) rfl rfl rfl rfl ?_
    refine ev_ic f_X12_quicker (nx := 27) (v := 1) rfl (by decide) rfl ?_
    refine ev_inV2 f_X12_quicker (nx := 30) (lo2 := [(0, .ref 69), (1, .int 1)]) rfl rfl rfl rfl f_X12_refuse (hI.wf.s rfl) rfl rfl rfl rfl rfl ?_
    refine ev_loc f_X12_refuse (nx := 1) rfl rfl rfl rfl ?_
    refine ev_loc f_X12_refuse (nx := 2) rfl rfl rfl rfl ?_
    refine ev_putIT f_X12_refuse (nx := 5) rfl (hI.wf.s rfl) rfl rfl rfl (hI.put0 (hI.wf.s rfl) rfl rfl) (hX.upI rfl) (fun g6 e6 hI hX => ?_)
    refine ev_ic f_X12_refuse (nx := 6) (v := -1) rfl (by decide) rfl ?_
    refine ev_retK1 f_X12_refuse rfl rfl rfl ?_
    exact ev_ret f_X12_quicker rfl rfl rfl ⟨_, _, _, rfl, hI, hX, ⟨_, rfl, (Int.le_trans (by decide : ((-2147483648):Int) ≤ (-1)) (by decide : ((-1):Int) ≤ ((-1):Int32).toInt)), (Int.le_trans (by decide : ((-1):Int32).toInt ≤ ((-1):Int)) (by decide : ((-1):Int) ≤ 999999999))⟩⟩
  · have l7 : (1:Int) ≤ ar1.toInt := (lgc_ge (by decide : (1 : Int64).toInt = 1)).mp (by have hh := (t_nlt h3); rw [e2, e1] at hh; exact hh)
    have l8 : 0 ≤ z2.toInt := t_lel (t_nlt h3) (by decide : (0:Int) ≤ (0:Int32).toInt)
    refine ev_loc f_X12_isFrom (nx := 7) rfl rfl rfl rfl ?_
    refine ev_loc f_X12_isFrom (nx := 9) rfl rfl rfl rfl ?_
    refine ev_anyIE f_X12_isFrom (nx := 10) rfl rfl rfl rfl (fun z9 e9 => ?_)
    refine ev_if f_X12_isFrom (t1 := 17) (t2 := 13) rfl rfl rfl (fun h10 => ?_) (fun h10 => ?_)
    · have l11 : (21:Int) ≤ ar1.toInt := Int.add_one_le_of_lt ((lgc_gt (by decide : (20 : Int64).toInt = 20)).mp (by have hh := h10; rw [e9, e1] at hh; exact hh))
      have l12 : 1 ≤ z9.toInt := t_ltl h10 (by decide : (0:Int) ≤ (0:Int32).toInt) rfl
      refine ev_ic f_X12_isFrom (nx := 18) (v := 0) rfl (by decide) rfl ?_
      refine ev_retK1 f_X12_isFrom rfl rfl rfl ?_
      refine ev_t f_X12_quicker (t1 := 25) (t2 := 12) rfl rfl rfl (by decide) ?_
      refine ev_loc f_X12_quicker (nx := 26) rfl rfl rfl rfl ?_
      refine ev_ic f_X12_quicker (nx := 27) (v := 1) rfl (by decide) rfl ?_
      refine ev_inV2 f_X12_quicker (nx := 30) (lo2 := [(0, .ref 69), (1, .int 1)]) rfl rfl rfl rfl f_X12_refuse (hI.wf.s rfl) rfl rfl rfl rfl rfl ?_
      refine ev_loc f_X12_refuse (nx := 1) rfl rfl rfl rfl ?_
      refine ev_loc f_X12_refuse (nx := 2) rfl rfl rfl rfl ?_
      refine ev_putIT f_X12_refuse (nx := 5) rfl (hI.wf.s rfl) rfl rfl rfl (hI.put0 (hI.wf.s rfl) rfl rfl) (hX.upI rfl) (fun g13 e13 hI hX => ?_)
      refine ev_ic f_X12_refuse (nx := 6) (v := -1) rfl (by decide) rfl ?_
      refine ev_retK1 f_X12_refuse rfl rfl rfl ?_
      exact ev_ret f_X12_quicker rfl rfl rfl ⟨_, _, _, rfl, hI, hX, ⟨_, rfl, (Int.le_trans (by decide : ((-2147483648):Int) ≤ (-1)) (by decide : ((-1):Int) ≤ ((-1):Int32).toInt)), (Int.le_trans (by decide : ((-1):Int32).toInt ≤ ((-1):Int)) (by decide : ((-1):Int) ≤ 999999999))⟩⟩
    · have u14 : ar1.toInt ≤ (20:Int) := (lgc_le (by decide : (20 : Int64).toInt = 20)).mp (by have hh := (t_nlt h10); rw [e9, e1] at hh; exact hh)
      have u15 : z9.toInt ≤ 0 := t_leu (t_nlt h10) (by decide : (0:Int32).toInt ≤ (0:Int))
      refine ev_ic f_X12_isFrom (nx := 14) (v := 1) rfl (by decide) rfl ?_
      refine ev_jmp f_X12_isFrom (nx := 18) rfl rfl rfl ?_
      refine ev_retK1 f_X12_isFrom rfl rfl rfl ?_
      refine ev_f f_X12_quicker (t1 := 25) (t2 := 12) rfl rfl rfl (by decide) ?_
      refine ev_loc f_X12_quicker (nx := 13) rfl rfl rfl rfl ?_
      refine ev_loc f_X12_quicker (nx := 14) rfl rfl rfl rfl ?_
      refine ev_ic f_X12_quicker (nx := 15) (v := 0) rfl (by decide) rfl ?_
      refine ev_loc f_X12_quicker (nx := 16) rfl rfl rfl rfl ?_
      refine ev_qI f_X12_quicker (nx := 19) (r := [.ref 69]) rfl rfl rfl rfl rfl rfl rfl (c_m_leastBy hI (0) (ar1) (Int.le_trans (by decide : (0:Int) ≤ 1) l7) u14 (by omega)) rfl hX rfl (fun w16 gi16 gl16 gr16 l16 u16 hI hX hC16 q16 => ?_)
      have q16 : (t_pr gi16 (gi16 92) (gi16 69 48).toInt 23618 ∧ t_rk w16.toInt (t_la (gi16 92) (t_S gi16) (t_C gi16) 0 0 0 0)) ∧ (∀ j : Nat, j < 12 → 0 ≤ (gi16 89 j).toInt ∧ (gi16 89 j).toInt ≤ 300) ∧ (gi16 69 48).toInt = ar1.toInt := q16
      refine ev_inV2 f_X12_quicker (nx := 22) (lo2 := [(0, .ref 69), (1, .int w16)]) rfl rfl rfl rfl f_X12_orNone (hI.wf.s rfl) rfl rfl rfl rfl rfl ?_
      refine ev_loc f_X12_orNone (nx := 1) rfl rfl rfl rfl ?_
      refine ev_ic f_X12_orNone (nx := 2) (v := -1) rfl (by decide) rfl ?_
      refine ev_if f_X12_orNone (t1 := 5) (t2 := 14) rfl rfl rfl (fun h17 => ?_) (fun h17 => ?_)
      · have u18 : w16.toInt ≤ (-1) := t_equ h17 (by decide : ((-1):Int32).toInt ≤ ((-1):Int))
        have l19 : (-1) ≤ w16.toInt := t_eql h17 (by decide : ((-1):Int) ≤ ((-1):Int32).toInt)
        refine ev_loc f_X12_orNone (nx := 6) rfl rfl rfl rfl ?_
        refine ev_bp f_X12_orNone (nx := 8) (v := 6) rfl (by decide) rfl ?_
        refine ev_inV2 f_X12_orNone (nx := 11) (lo2 := [(0, .ref 69), (1, .int 6)]) rfl rfl rfl rfl f_X12_refuse (hI.wf.s rfl) rfl rfl rfl rfl rfl ?_
        refine ev_loc f_X12_refuse (nx := 1) rfl rfl rfl rfl ?_
        refine ev_loc f_X12_refuse (nx := 2) rfl rfl rfl rfl ?_
        refine ev_putIT f_X12_refuse (nx := 5) rfl (hI.wf.s rfl) rfl rfl rfl (hI.put0 (hI.wf.s rfl) rfl rfl) (hX.upI rfl) (fun g20 e20 hI hX => ?_)
        refine ev_ic f_X12_refuse (nx := 6) (v := -1) rfl (by decide) rfl ?_
        refine ev_retK1 f_X12_refuse rfl rfl rfl ?_
        refine ev_jmp f_X12_orNone (nx := 19) rfl rfl rfl ?_
        refine ev_retK1 f_X12_orNone rfl rfl rfl ?_
        refine ev_jmp f_X12_quicker (nx := 30) rfl rfl rfl ?_
        exact ev_ret f_X12_quicker rfl rfl rfl ⟨_, _, _, rfl, hI, hX, ⟨_, rfl, (Int.le_trans (by decide : ((-2147483648):Int) ≤ (-1)) (by decide : ((-1):Int) ≤ ((-1):Int32).toInt)), (Int.le_trans (by decide : ((-1):Int32).toInt ≤ ((-1):Int)) (by decide : ((-1):Int) ≤ 999999999))⟩⟩
      · have r21 : w16.toInt ≠ (-1) := fun e => h17 (Int32.toInt_inj.mp (e.trans (by decide : ((-1):Int) = ((-1) : Int32).toInt)))
        refine ev_loc f_X12_orNone (nx := 15) rfl rfl rfl rfl ?_
        refine ev_loc f_X12_orNone (nx := 16) rfl rfl rfl rfl ?_
        refine ev_inV2 f_X12_orNone (nx := 19) (lo2 := [(0, .ref 69), (1, .int w16)]) rfl rfl rfl rfl f_X12_gives (hI.wf.s rfl) rfl rfl rfl rfl rfl ?_
        refine ev_loc f_X12_gives (nx := 1) rfl rfl rfl rfl ?_
        refine ev_ic f_X12_gives (nx := 2) (v := 0) rfl (by decide) rfl ?_
        refine ev_putIT f_X12_gives (nx := 5) rfl (hI.wf.s rfl) rfl rfl rfl (hI.put0 (hI.wf.s rfl) rfl rfl) (hX.upI rfl) (fun g22 e22 hI hX => ?_)
        refine ev_loc f_X12_gives (nx := 6) rfl rfl rfl rfl ?_
        refine ev_retK1 f_X12_gives rfl rfl rfl ?_
        refine ev_retK1 f_X12_orNone rfl rfl rfl ?_
        refine ev_jmp f_X12_quicker (nx := 30) rfl rfl rfl ?_
        exact ev_ret f_X12_quicker rfl rfl rfl ⟨_, _, _, rfl, hI, hX, ⟨_, rfl, l16, u16⟩⟩
noncomputable def wl_m_away : List (Nat × Nat) := [(69, 2), (69, 44), (69, 45), (69, 48), (89, 10005), (89, 610011), (90, 9999), (91, 9999), (92, 9999)]
theorem c_m_away {X : x_Ext} {d : Nat} {sh : List (Nat ⊕ (Nat × Nat))} {gi : Nat → Nat → Int32} {gl : Nat → Nat → Int64} {gr : Nat → Nat → Value} (hI : t_I sh gi gr) (e_p0 : 1 ≤ (gi 70 4).toInt) : x_Me X (d + 6) n_X12_away [.ref 69] (sh, gi, gl, gr) (t_P wl_m_away sh gi gl gr (t_Ri (-1) 63)) := by
  have hX : t_X wl_m_away sh gi gl gr gi gl gr := t_X.rf
  refine me_i f_X12_away (hI.wf.s rfl) rfl rfl rfl ?_
  obtain ⟨l1, u1⟩ := hI.ab (by decide +kernel : t_abr 70 4 4 0 20 = true) (Nat.le_refl _) (Nat.le_refl _)
  refine ev_ic f_X12_away (nx := 1) (v := -1) rfl (by decide) rfl ?_
  refine ev_loc f_X12_away (nx := 2) (lo' := [(1, .int (-1)), (0, .ref 69)]) rfl rfl rfl rfl ?_
  refine ev_ic f_X12_away (nx := 3) (v := 0) rfl (by decide) rfl ?_
  refine ev_loc f_X12_away (nx := 4) (lo' := [(2, .int 0), (1, .int (-1)), (0, .ref 69)]) rfl rfl rfl rfl ?_
  have L2 : ∀ (m2 : Nat) (gi2 : Nat → Nat → Int32) (gl2 : Nat → Nat → Int64) (gr2 : Nat → Nat → Value) (y2_2 : Int32) (y2_1 : Int32), t_I sh gi2 gr2 → t_X wl_m_away sh gi gl gr gi2 gl2 gr2 → 0 ≤ y2_2.toInt → y2_2.toInt ≤ 64 → (-1) ≤ y2_1.toInt → y2_1.toInt ≤ 63 → gi2 70 4 = (gi 70 4) → (64 - y2_2.toInt).toNat = m2 → x_Ev X (d + 6) n_X12_away 4 [(2, .int y2_2), (1, .int y2_1), (0, .ref 69)] [] (sh, gi2, gl2, gr2) (t_P wl_m_away sh gi gl gr (t_Ri (-1) 63)) := by
    intro m2
    induction m2 using Nat.strongRecOn with
    | _ m2 ih2 =>
    intro gi2 gl2 gr2 y2_2 y2_1 hI hX l2_2 u2_2 l2_1 u2_1 c2_0 hm2
    refine ev_loc f_X12_away (nx := 5) rfl rfl rfl rfl ?_
    refine ev_ic f_X12_away (nx := 6) (v := 1) rfl (by decide) rfl ?_
    refine ev_loc f_X12_away (nx := 7) rfl rfl rfl rfl ?_
    refine ev_getR f_X12_away (nx := 10) rfl (hI.wf.s rfl) rfl rfl (hI.wf.r rfl) rfl rfl ?_
    refine ev_ic f_X12_away (nx := 11) (v := 1) rfl (by decide) rfl ?_
    obtain ⟨l3, u3⟩ := hI.ab (by decide +kernel : t_abr 70 1 1 0 6 = true) (Nat.le_refl _) (Nat.le_refl _)
    refine ev_ialdv f_X12_away (nx := 12) (w := (gi2 70 1)) rfl (hI.wf.s rfl) (by decide) (rfl : (1 : Int32).toNatClampNeg = 1) (by decide) rfl rfl ?_
    refine ev_shl1E f_X12_away (nx := 13) rfl l3 u3 (by decide) (by decide) rfl (fun z4 s4 => ?_)
    have l4 : 1 ≤ z4.toInt := by have := l3; have := u3; omega
    have u4 : z4.toInt ≤ 64 := by have := l3; have := u3; omega
    refine ev_if f_X12_away (t1 := 57) (t2 := 16) rfl rfl rfl (fun h5 => ?_) (fun h5 => ?_)
    · have r6 : z4.toInt ≤ y2_2.toInt := Int32.le_iff_toInt_le.mp h5
      have l7 : 1 ≤ y2_2.toInt := t_lel h5 l4
      refine ev_loc f_X12_away (nx := 58) rfl rfl rfl rfl ?_
      refine ev_loc f_X12_away (nx := 59) rfl rfl rfl rfl ?_
      refine ev_inV2 f_X12_away (nx := 62) (lo2 := [(0, .ref 69), (1, .int y2_1)]) rfl rfl rfl rfl f_X12_orNone (hI.wf.s rfl) rfl rfl rfl rfl rfl ?_
      refine ev_loc f_X12_orNone (nx := 1) rfl rfl rfl rfl ?_
      refine ev_ic f_X12_orNone (nx := 2) (v := -1) rfl (by decide) rfl ?_
      refine ev_if f_X12_orNone (t1 := 5) (t2 := 14) rfl rfl rfl (fun h8 => ?_) (fun h8 => ?_)
      · have u9 : y2_1.toInt ≤ (-1) := t_equ h8 (by decide : ((-1):Int32).toInt ≤ ((-1):Int))
        refine ev_loc f_X12_orNone (nx := 6) rfl rfl rfl rfl ?_
        refine ev_bp f_X12_orNone (nx := 8) (v := 6) rfl (by decide) rfl ?_
        refine ev_inV2 f_X12_orNone (nx := 11) (lo2 := [(0, .ref 69), (1, .int 6)]) rfl rfl rfl rfl f_X12_refuse (hI.wf.s rfl) rfl rfl rfl rfl rfl ?_
        refine ev_loc f_X12_refuse (nx := 1) rfl rfl rfl rfl ?_
        refine ev_loc f_X12_refuse (nx := 2) rfl rfl rfl rfl ?_
        refine ev_putIT f_X12_refuse (nx := 5) rfl (hI.wf.s rfl) rfl rfl rfl (hI.put0 (hI.wf.s rfl) rfl rfl) (hX.upI rfl) (fun g10 e10 hI hX => ?_)
        refine ev_ic f_X12_refuse (nx := 6) (v := -1) rfl (by decide) rfl ?_
        refine ev_retK1 f_X12_refuse rfl rfl rfl ?_
        refine ev_jmp f_X12_orNone (nx := 19) rfl rfl rfl ?_
        refine ev_retK1 f_X12_orNone rfl rfl rfl ?_
        exact ev_ret f_X12_away rfl rfl rfl ⟨_, _, _, rfl, hI, hX, ⟨_, rfl, (by decide : ((-1):Int) ≤ ((-1):Int32).toInt), (Int.le_trans (by decide : ((-1):Int32).toInt ≤ ((-1):Int)) (by decide : ((-1):Int) ≤ 63))⟩⟩
      · have r11 : y2_1.toInt ≠ (-1) := fun e => h8 (Int32.toInt_inj.mp (e.trans (by decide : ((-1):Int) = ((-1) : Int32).toInt)))
        have l12 : 0 ≤ y2_1.toInt := t_nel h8 l2_1 rfl rfl
        refine ev_loc f_X12_orNone (nx := 15) rfl rfl rfl rfl ?_
        refine ev_loc f_X12_orNone (nx := 16) rfl rfl rfl rfl ?_
        refine ev_inV2 f_X12_orNone (nx := 19) (lo2 := [(0, .ref 69), (1, .int y2_1)]) rfl rfl rfl rfl f_X12_gives (hI.wf.s rfl) rfl rfl rfl rfl rfl ?_
        refine ev_loc f_X12_gives (nx := 1) rfl rfl rfl rfl ?_
        refine ev_ic f_X12_gives (nx := 2) (v := 0) rfl (by decide) rfl ?_
        refine ev_putIT f_X12_gives (nx := 5) rfl (hI.wf.s rfl) rfl rfl rfl (hI.put0 (hI.wf.s rfl) rfl rfl) (hX.upI rfl) (fun g13 e13 hI hX => ?_)
        refine ev_loc f_X12_gives (nx := 6) rfl rfl rfl rfl ?_
        refine ev_retK1 f_X12_gives rfl rfl rfl ?_
        refine ev_retK1 f_X12_orNone rfl rfl rfl ?_
        exact ev_ret f_X12_away rfl rfl rfl ⟨_, _, _, rfl, hI, hX, ⟨_, rfl, (Int.le_trans (by decide : ((-1):Int) ≤ 0) l12), u2_1⟩⟩
    · have r14 : y2_2.toInt < z4.toInt := Int32.lt_iff_toInt_lt.mp (t_nle h5)
      have u15 : y2_2.toInt ≤ 63 := t_ltu (t_nle h5) u4 rfl
      refine ev_loc f_X12_away (nx := 17) rfl rfl rfl rfl ?_
      refine ev_ic f_X12_away (nx := 18) (v := -1) rfl (by decide) rfl ?_
      refine ev_if f_X12_away (t1 := 34) (t2 := 21) rfl rfl rfl (fun h16 => ?_) (fun h16 => ?_)
      · have u17 : y2_1.toInt ≤ (-1) := t_equ h16 (by decide : ((-1):Int32).toInt ≤ ((-1):Int))
        refine ev_loc f_X12_away (nx := 35) rfl rfl rfl rfl ?_
        refine ev_loc f_X12_away (nx := 36) rfl rfl rfl rfl ?_
        refine ev_loc f_X12_away (nx := 37) rfl rfl rfl rfl ?_
        refine ev_getR f_X12_away (nx := 40) rfl (hI.wf.s rfl) rfl rfl (hI.wf.r rfl) rfl rfl ?_
        refine ev_ic f_X12_away (nx := 41) (v := 4) rfl (by decide) rfl ?_
        refine ev_ialdv f_X12_away (nx := 42) (w := (gi 70 4)) rfl (hI.wf.s rfl) (by decide) (rfl : (4 : Int32).toNatClampNeg = 4) (by decide) c2_0 rfl ?_
        refine ev_qI f_X12_away (nx := 45) (r := []) rfl rfl rfl rfl rfl rfl rfl (c_m_leastBy hI (y2_2) ((gi 70 4)) l1 u1 (by omega)) rfl hX rfl (fun w19 gi19 gl19 gr19 l19 u19 hI hX hC19 q19 => ?_)
        have q19 : (t_pr gi19 (gi19 92) (gi19 69 48).toInt 23618 ∧ t_rk w19.toInt (t_la (gi19 92) (t_S gi19) (t_C gi19) 0 0 0 0)) ∧ (∀ j : Nat, j < 12 → 0 ≤ (gi19 89 j).toInt ∧ (gi19 89 j).toInt ≤ 300) ∧ (gi19 69 48).toInt = (gi 70 4).toInt := q19
        refine ev_ic f_X12_away (nx := 46) (v := -1) rfl (by decide) rfl ?_
        refine ev_if f_X12_away (t1 := 51) (t2 := 49) rfl rfl rfl (fun h20 => ?_) (fun h20 => ?_)
        · have u21 : w19.toInt ≤ (-1) := t_equ h20 (by decide : ((-1):Int32).toInt ≤ ((-1):Int))
          have l22 : (-1) ≤ w19.toInt := t_eql h20 (by decide : ((-1):Int) ≤ ((-1):Int32).toInt)
          refine ev_incR f_X12_away (nx := 54) (c := 1) (l := 1) (u := 64) rfl rfl (by decide) (by decide) l2_2 u15 rfl rfl (by decide) (by decide) rfl (fun z23 e23 l23 u23 => ?_)
          refine ev_jmp f_X12_away (nx := 4) rfl rfl rfl ?_
          refine ev_sub (lo := [(2, .int z23), (1, .int y2_1), (0, .ref 69)]) rfl (t_sc rfl (t_sc rfl (t_sc rfl t_sn))) ?_
          exact ih2 _ (by omega) gi19 gl19 gr19 (z23) (y2_1) hI hX  (Int.le_trans (by decide : (0:Int) ≤ 1) l23) u23 l2_1 (Int.le_trans u17 (by decide : ((-1):Int) ≤ 63)) ((hC19.1 70 4 rfl).1.trans c2_0) rfl
        · have r24 : w19.toInt ≠ (-1) := fun e => h20 (Int32.toInt_inj.mp (e.trans (by decide : ((-1):Int) = ((-1) : Int32).toInt)))
          refine ev_loc f_X12_away (nx := 50) rfl rfl rfl rfl ?_
          refine ev_loc f_X12_away (nx := 51) (lo' := [(1, .int y2_2), (2, .int y2_2), (0, .ref 69)]) rfl rfl rfl rfl ?_
          refine ev_incR f_X12_away (nx := 54) (c := 1) (l := 1) (u := 64) rfl rfl (by decide) (by decide) l2_2 u15 rfl rfl (by decide) (by decide) rfl (fun z25 e25 l25 u25 => ?_)
          refine ev_jmp f_X12_away (nx := 4) rfl rfl rfl ?_
          refine ev_sub (lo := [(2, .int z25), (1, .int y2_2), (0, .ref 69)]) rfl (t_sc rfl (t_sc rfl (t_sc rfl t_sn))) ?_
          exact ih2 _ (by omega) gi19 gl19 gr19 (z25) (y2_2) hI hX  (Int.le_trans (by decide : (0:Int) ≤ 1) l25) u25 (Int.le_trans (by decide : ((-1):Int) ≤ 0) l2_2) u15 ((hC19.1 70 4 rfl).1.trans c2_0) rfl
      · have r26 : y2_1.toInt ≠ (-1) := fun e => h16 (Int32.toInt_inj.mp (e.trans (by decide : ((-1):Int) = ((-1) : Int32).toInt)))
        have l27 : 0 ≤ y2_1.toInt := t_nel h16 l2_1 rfl rfl
        refine ev_loc f_X12_away (nx := 22) rfl rfl rfl rfl ?_
        refine ev_anyL f_X12_away (nx := 23) rfl rfl rfl rfl (fun z28 => ?_)
        refine ev_cI f_X12_away (nx := 26) (r := []) rfl rfl rfl rfl rfl rfl rfl (c_m_bits hI (z28)) rfl hX rfl (fun w29 gi29 gl29 gr29 l29 u29 hI hX hC29 => ?_)
        refine ev_loc f_X12_away (nx := 27) rfl rfl rfl rfl ?_
        refine ev_anyL f_X12_away (nx := 28) rfl rfl rfl rfl (fun z30 => ?_)
        refine ev_cI f_X12_away (nx := 31) (r := [.int w29]) rfl rfl rfl rfl rfl rfl rfl (c_m_bits hI (z30)) rfl hX rfl (fun w31 gi31 gl31 gr31 l31 u31 hI hX hC31 => ?_)
        refine ev_if f_X12_away (t1 := 51) (t2 := 34) rfl rfl rfl (fun h32 => ?_) (fun h32 => ?_)
        · have r33 : w31.toInt ≤ w29.toInt := Int32.le_iff_toInt_le.mp h32
          refine ev_incR f_X12_away (nx := 54) (c := 1) (l := 1) (u := 64) rfl rfl (by decide) (by decide) l2_2 u15 rfl rfl (by decide) (by decide) rfl (fun z34 e34 l34 u34 => ?_)
          refine ev_jmp f_X12_away (nx := 4) rfl rfl rfl ?_
          refine ev_sub (lo := [(2, .int z34), (1, .int y2_1), (0, .ref 69)]) rfl (t_sc rfl (t_sc rfl (t_sc rfl t_sn))) ?_
          exact ih2 _ (by omega) gi31 gl31 gr31 (z34) (y2_1) hI hX  (Int.le_trans (by decide : (0:Int) ≤ 1) l34) u34 (Int.le_trans (by decide : ((-1):Int) ≤ 0) l27) u2_1 ((hC31.1 70 4 rfl).1.trans ((hC29.1 70 4 rfl).1.trans c2_0)) rfl
        · have r35 : w29.toInt < w31.toInt := Int32.lt_iff_toInt_lt.mp (t_nle h32)
          have u36 : w29.toInt ≤ 2147483646 := t_ltu (t_nle h32) u31 rfl
          have l37 : (-2147483647) ≤ w31.toInt := t_ltl (t_nle h32) l29 rfl
          refine ev_loc f_X12_away (nx := 35) rfl rfl rfl rfl ?_
          refine ev_loc f_X12_away (nx := 36) rfl rfl rfl rfl ?_
          refine ev_loc f_X12_away (nx := 37) rfl rfl rfl rfl ?_
          refine ev_getR f_X12_away (nx := 40) rfl (hI.wf.s rfl) rfl rfl (hI.wf.r rfl) rfl rfl ?_
          refine ev_ic f_X12_away (nx := 41) (v := 4) rfl (by decide) rfl ?_
          refine ev_ialdv f_X12_away (nx := 42) (w := (gi 70 4)) rfl (hI.wf.s rfl) (by decide) (rfl : (4 : Int32).toNatClampNeg = 4) (by decide) ((hC31.1 70 4 rfl).1.trans ((hC29.1 70 4 rfl).1.trans c2_0)) rfl ?_
          refine ev_qI f_X12_away (nx := 45) (r := []) rfl rfl rfl rfl rfl rfl rfl (c_m_leastBy hI (y2_2) ((gi 70 4)) l1 u1 (by omega)) rfl hX rfl (fun w39 gi39 gl39 gr39 l39 u39 hI hX hC39 q39 => ?_)
          have q39 : (t_pr gi39 (gi39 92) (gi39 69 48).toInt 23618 ∧ t_rk w39.toInt (t_la (gi39 92) (t_S gi39) (t_C gi39) 0 0 0 0)) ∧ (∀ j : Nat, j < 12 → 0 ≤ (gi39 89 j).toInt ∧ (gi39 89 j).toInt ≤ 300) ∧ (gi39 69 48).toInt = (gi 70 4).toInt := q39
          refine ev_ic f_X12_away (nx := 46) (v := -1) rfl (by decide) rfl ?_
          refine ev_if f_X12_away (t1 := 51) (t2 := 49) rfl rfl rfl (fun h40 => ?_) (fun h40 => ?_)
          · have u41 : w39.toInt ≤ (-1) := t_equ h40 (by decide : ((-1):Int32).toInt ≤ ((-1):Int))
            have l42 : (-1) ≤ w39.toInt := t_eql h40 (by decide : ((-1):Int) ≤ ((-1):Int32).toInt)
            refine ev_incR f_X12_away (nx := 54) (c := 1) (l := 1) (u := 64) rfl rfl (by decide) (by decide) l2_2 u15 rfl rfl (by decide) (by decide) rfl (fun z43 e43 l43 u43 => ?_)
            refine ev_jmp f_X12_away (nx := 4) rfl rfl rfl ?_
            refine ev_sub (lo := [(2, .int z43), (1, .int y2_1), (0, .ref 69)]) rfl (t_sc rfl (t_sc rfl (t_sc rfl t_sn))) ?_
            exact ih2 _ (by omega) gi39 gl39 gr39 (z43) (y2_1) hI hX  (Int.le_trans (by decide : (0:Int) ≤ 1) l43) u43 (Int.le_trans (by decide : ((-1):Int) ≤ 0) l27) u2_1 ((hC39.1 70 4 rfl).1.trans ((hC31.1 70 4 rfl).1.trans ((hC29.1 70 4 rfl).1.trans c2_0))) rfl
          · have r44 : w39.toInt ≠ (-1) := fun e => h40 (Int32.toInt_inj.mp (e.trans (by decide : ((-1):Int) = ((-1) : Int32).toInt)))
            refine ev_loc f_X12_away (nx := 50) rfl rfl rfl rfl ?_
            refine ev_loc f_X12_away (nx := 51) (lo' := [(1, .int y2_2), (2, .int y2_2), (0, .ref 69)]) rfl rfl rfl rfl ?_
            refine ev_incR f_X12_away (nx := 54) (c := 1) (l := 1) (u := 64) rfl rfl (by decide) (by decide) l2_2 u15 rfl rfl (by decide) (by decide) rfl (fun z45 e45 l45 u45 => ?_)
            refine ev_jmp f_X12_away (nx := 4) rfl rfl rfl ?_
            refine ev_sub (lo := [(2, .int z45), (1, .int y2_2), (0, .ref 69)]) rfl (t_sc rfl (t_sc rfl (t_sc rfl t_sn))) ?_
            exact ih2 _ (by omega) gi39 gl39 gr39 (z45) (y2_2) hI hX  (Int.le_trans (by decide : (0:Int) ≤ 1) l45) u45 (Int.le_trans (by decide : ((-1):Int) ≤ 0) l2_2) u15 ((hC39.1 70 4 rfl).1.trans ((hC31.1 70 4 rfl).1.trans ((hC29.1 70 4 rfl).1.trans c2_0))) rfl
  refine ev_sub (lo := [(2, .int 0), (1, .int (-1)), (0, .ref 69)]) rfl (t_sc rfl (t_sc rfl (t_sc rfl t_sn))) ?_
  exact L2 _ gi gl gr (0) ((-1)) hI hX  (by decide : (0:Int) ≤ (0:Int32).toInt) (Int.le_trans (by decide : (0:Int32).toInt ≤ (0:Int)) (by decide : (0:Int) ≤ 64)) (by decide : ((-1):Int) ≤ ((-1):Int32).toInt) (Int.le_trans (by decide : ((-1):Int32).toInt ≤ ((-1):Int)) (by decide : ((-1):Int) ≤ 63)) rfl rfl
noncomputable def wl_m_later : List (Nat × Nat) := [(69, 2), (69, 44), (69, 45), (69, 48), (89, 10005), (89, 610011), (90, 9999), (91, 9999), (92, 9999)]
theorem c_m_later {X : x_Ext} {d : Nat} {sh : List (Nat ⊕ (Nat × Nat))} {gi : Nat → Nat → Int32} {gl : Nat → Nat → Int64} {gr : Nat → Nat → Value} (hI : t_I sh gi gr) (ar1 : Int32) (ar2 : Int32) (e_p0 : 1 ≤ (gi 70 4).toInt) : x_Me X (d + 6) n_X12_later [.ref 69, .int ar1, .int ar2] (sh, gi, gl, gr) (t_P wl_m_later sh gi gl gr (t_Ri (-2147483648) 999999999)) := by
  have hX : t_X wl_m_later sh gi gl gr gi gl gr := t_X.rf
  refine me_i f_X12_later (hI.wf.s rfl) rfl rfl rfl ?_
  obtain ⟨l1, u1⟩ := hI.ab (by decide +kernel : t_abr 70 4 4 0 20 = true) (Nat.le_refl _) (Nat.le_refl _)
  refine ev_loc f_X12_later (nx := 1) rfl rfl rfl rfl ?_
  refine ev_loc f_X12_later (nx := 2) rfl rfl rfl rfl ?_
  refine ev_inV2 f_X12_later (nx := 5) (lo2 := [(0, .ref 69), (1, .int ar1)]) rfl rfl rfl rfl f_X12_isShip (hI.wf.s rfl) rfl rfl rfl rfl rfl ?_
  refine ev_loc f_X12_isShip (nx := 1) rfl rfl rfl rfl ?_
  refine ev_if f_X12_isShip (t1 := 18) (t2 := 4) rfl rfl rfl (fun h2 => ?_) (fun h2 => ?_)
  · have u3 : ar1.toInt ≤ (-1) := t_ltu h2 (by decide : (0:Int32).toInt ≤ (0:Int)) rfl
    refine ev_ic f_X12_isShip (nx := 19) (v := 0) rfl (by decide) rfl ?_
    refine ev_retK1 f_X12_isShip rfl rfl rfl ?_
    refine ev_t f_X12_later (t1 := 20) (t2 := 8) rfl rfl rfl (by decide) ?_
    refine ev_loc f_X12_later (nx := 21) rfl rfl rfl rfl ?_
    refine ev_ic f_X12_later (nx := 22) (v := 1) rfl (by decide) rfl ?_
    refine ev_inV2 f_X12_later (nx := 25) (lo2 := [(0, .ref 69), (1, .int 1)]) rfl rfl rfl rfl f_X12_refuse (hI.wf.s rfl) rfl rfl rfl rfl rfl ?_
    refine ev_loc f_X12_refuse (nx := 1) rfl rfl rfl rfl ?_
    refine ev_loc f_X12_refuse (nx := 2) rfl rfl rfl rfl ?_
    refine ev_putIT f_X12_refuse (nx := 5) rfl (hI.wf.s rfl) rfl rfl rfl (hI.put0 (hI.wf.s rfl) rfl rfl) (hX.upI rfl) (fun g4 e4 hI hX => ?_)
    refine ev_ic f_X12_refuse (nx := 6) (v := -1) rfl (by decide) rfl ?_
    refine ev_retK1 f_X12_refuse rfl rfl rfl ?_
    exact ev_ret f_X12_later rfl rfl rfl ⟨_, _, _, rfl, hI, hX, ⟨_, rfl, (Int.le_trans (by decide : ((-2147483648):Int) ≤ (-1)) (by decide : ((-1):Int) ≤ ((-1):Int32).toInt)), (Int.le_trans (by decide : ((-1):Int32).toInt ≤ ((-1):Int)) (by decide : ((-1):Int) ≤ 999999999))⟩⟩
  · have l5 : 0 ≤ ar1.toInt := t_lel (t_nlt h2) (by decide : (0:Int) ≤ (0:Int32).toInt)
    refine ev_loc f_X12_isShip (nx := 5) rfl rfl rfl rfl ?_
    refine ev_loc f_X12_isShip (nx := 6) rfl rfl rfl rfl ?_
    refine ev_getR f_X12_isShip (nx := 9) rfl (hI.wf.s rfl) rfl rfl (hI.wf.r rfl) rfl rfl ?_
    refine ev_ic f_X12_isShip (nx := 10) (v := 1) rfl (by decide) rfl ?_
    obtain ⟨l6, u6⟩ := hI.ab (by decide +kernel : t_abr 70 1 1 0 6 = true) (Nat.le_refl _) (Nat.le_refl _)
    refine ev_ialdv f_X12_isShip (nx := 11) (w := (gi 70 1)) rfl (hI.wf.s rfl) (by decide) (rfl : (1 : Int32).toNatClampNeg = 1) (by decide) rfl rfl ?_
    refine ev_if f_X12_isShip (t1 := 18) (t2 := 14) rfl rfl rfl (fun h7 => ?_) (fun h7 => ?_)
    · have r8 : (gi 70 1).toInt ≤ ar1.toInt := Int32.le_iff_toInt_le.mp h7
      refine ev_ic f_X12_isShip (nx := 19) (v := 0) rfl (by decide) rfl ?_
      refine ev_retK1 f_X12_isShip rfl rfl rfl ?_
      refine ev_t f_X12_later (t1 := 20) (t2 := 8) rfl rfl rfl (by decide) ?_
      refine ev_loc f_X12_later (nx := 21) rfl rfl rfl rfl ?_
      refine ev_ic f_X12_later (nx := 22) (v := 1) rfl (by decide) rfl ?_
      refine ev_inV2 f_X12_later (nx := 25) (lo2 := [(0, .ref 69), (1, .int 1)]) rfl rfl rfl rfl f_X12_refuse (hI.wf.s rfl) rfl rfl rfl rfl rfl ?_
      refine ev_loc f_X12_refuse (nx := 1) rfl rfl rfl rfl ?_
      refine ev_loc f_X12_refuse (nx := 2) rfl rfl rfl rfl ?_
      refine ev_putIT f_X12_refuse (nx := 5) rfl (hI.wf.s rfl) rfl rfl rfl (hI.put0 (hI.wf.s rfl) rfl rfl) (hX.upI rfl) (fun g9 e9 hI hX => ?_)
      refine ev_ic f_X12_refuse (nx := 6) (v := -1) rfl (by decide) rfl ?_
      refine ev_retK1 f_X12_refuse rfl rfl rfl ?_
      exact ev_ret f_X12_later rfl rfl rfl ⟨_, _, _, rfl, hI, hX, ⟨_, rfl, (Int.le_trans (by decide : ((-2147483648):Int) ≤ (-1)) (by decide : ((-1):Int) ≤ ((-1):Int32).toInt)), (Int.le_trans (by decide : ((-1):Int32).toInt ≤ ((-1):Int)) (by decide : ((-1):Int) ≤ 999999999))⟩⟩
    · have r10 : ar1.toInt < (gi 70 1).toInt := Int32.lt_iff_toInt_lt.mp (t_nle h7)
      have u11 : ar1.toInt ≤ 5 := t_ltu (t_nle h7) u6 rfl
      have l12 : 1 ≤ (gi 70 1).toInt := t_ltl (t_nle h7) l5 rfl
      refine ev_ic f_X12_isShip (nx := 15) (v := 1) rfl (by decide) rfl ?_
      refine ev_jmp f_X12_isShip (nx := 19) rfl rfl rfl ?_
      refine ev_retK1 f_X12_isShip rfl rfl rfl ?_
      refine ev_f f_X12_later (t1 := 20) (t2 := 8) rfl rfl rfl (by decide) ?_
      refine ev_loc f_X12_later (nx := 9) rfl rfl rfl rfl ?_
      refine ev_anyLE f_X12_later (nx := 10) rfl rfl rfl rfl (fun z13 e13 => ?_)
      have i13 : z13.toInt = ar2.toInt := by rw [e13]; exact Int32.toInt_toInt64 _
      refine ev_lc f_X12_later (nx := 11) (v := 0) rfl (by decide) rfl ?_
      refine ev_ldL f_X12_later (nx := 14) (v := 60) rfl (by decide) rfl ?_
      refine ev_inS3 f_X12_later (nx := 17) (lo2 := [(0, .long z13), (2, .long 0), (4, .long 60)]) rfl rfl rfl rfl f_X12_isFrom rfl rfl rfl rfl ?_
      refine ev_loc f_X12_isFrom (nx := 1) rfl rfl rfl rfl ?_
      refine ev_loc f_X12_isFrom (nx := 2) rfl rfl rfl rfl ?_
      refine ev_anyIE f_X12_isFrom (nx := 3) rfl rfl rfl rfl (fun z14 e14 => ?_)
      refine ev_if f_X12_isFrom (t1 := 17) (t2 := 6) rfl rfl rfl (fun h15 => ?_) (fun h15 => ?_)
      · have u16 : ar2.toInt ≤ ((-1):Int) := Int.le_sub_one_of_lt ((lgc_lt (by decide : (0 : Int64).toInt = 0)).mp (by have hh := h15; rw [e14, e13] at hh; exact hh))
        have u17 : z14.toInt ≤ (-1) := t_ltu h15 (by decide : (0:Int32).toInt ≤ (0:Int)) rfl
        refine ev_ic f_X12_isFrom (nx := 18) (v := 0) rfl (by decide) rfl ?_
        refine ev_retK1 f_X12_isFrom rfl rfl rfl ?_
        refine ev_t f_X12_later (t1 := 20) (t2 := 26) rfl rfl rfl (by decide) ?_
        refine ev_loc f_X12_later (nx := 21) rfl rfl rfl rfl ?_
        refine ev_ic f_X12_later (nx := 22) (v := 1) rfl (by decide) rfl ?_
        refine ev_inV2 f_X12_later (nx := 25) (lo2 := [(0, .ref 69), (1, .int 1)]) rfl rfl rfl rfl f_X12_refuse (hI.wf.s rfl) rfl rfl rfl rfl rfl ?_
        refine ev_loc f_X12_refuse (nx := 1) rfl rfl rfl rfl ?_
        refine ev_loc f_X12_refuse (nx := 2) rfl rfl rfl rfl ?_
        refine ev_putIT f_X12_refuse (nx := 5) rfl (hI.wf.s rfl) rfl rfl rfl (hI.put0 (hI.wf.s rfl) rfl rfl) (hX.upI rfl) (fun g18 e18 hI hX => ?_)
        refine ev_ic f_X12_refuse (nx := 6) (v := -1) rfl (by decide) rfl ?_
        refine ev_retK1 f_X12_refuse rfl rfl rfl ?_
        exact ev_ret f_X12_later rfl rfl rfl ⟨_, _, _, rfl, hI, hX, ⟨_, rfl, (Int.le_trans (by decide : ((-2147483648):Int) ≤ (-1)) (by decide : ((-1):Int) ≤ ((-1):Int32).toInt)), (Int.le_trans (by decide : ((-1):Int32).toInt ≤ ((-1):Int)) (by decide : ((-1):Int) ≤ 999999999))⟩⟩
      · have l19 : (0:Int) ≤ ar2.toInt := (lgc_ge (by decide : (0 : Int64).toInt = 0)).mp (by have hh := (t_nlt h15); rw [e14, e13] at hh; exact hh)
        have l20 : 0 ≤ z14.toInt := t_lel (t_nlt h15) (by decide : (0:Int) ≤ (0:Int32).toInt)
        refine ev_loc f_X12_isFrom (nx := 7) rfl rfl rfl rfl ?_
        refine ev_loc f_X12_isFrom (nx := 9) rfl rfl rfl rfl ?_
        refine ev_anyIE f_X12_isFrom (nx := 10) rfl rfl rfl rfl (fun z21 e21 => ?_)
        refine ev_if f_X12_isFrom (t1 := 17) (t2 := 13) rfl rfl rfl (fun h22 => ?_) (fun h22 => ?_)
        · have l23 : (61:Int) ≤ ar2.toInt := Int.add_one_le_of_lt ((lgc_gt (by decide : (60 : Int64).toInt = 60)).mp (by have hh := h22; rw [e21, e13] at hh; exact hh))
          have l24 : 1 ≤ z21.toInt := t_ltl h22 (by decide : (0:Int) ≤ (0:Int32).toInt) rfl
          refine ev_ic f_X12_isFrom (nx := 18) (v := 0) rfl (by decide) rfl ?_
          refine ev_retK1 f_X12_isFrom rfl rfl rfl ?_
          refine ev_t f_X12_later (t1 := 20) (t2 := 26) rfl rfl rfl (by decide) ?_
          refine ev_loc f_X12_later (nx := 21) rfl rfl rfl rfl ?_
          refine ev_ic f_X12_later (nx := 22) (v := 1) rfl (by decide) rfl ?_
          refine ev_inV2 f_X12_later (nx := 25) (lo2 := [(0, .ref 69), (1, .int 1)]) rfl rfl rfl rfl f_X12_refuse (hI.wf.s rfl) rfl rfl rfl rfl rfl ?_
          refine ev_loc f_X12_refuse (nx := 1) rfl rfl rfl rfl ?_
          refine ev_loc f_X12_refuse (nx := 2) rfl rfl rfl rfl ?_
          refine ev_putIT f_X12_refuse (nx := 5) rfl (hI.wf.s rfl) rfl rfl rfl (hI.put0 (hI.wf.s rfl) rfl rfl) (hX.upI rfl) (fun g25 e25 hI hX => ?_)
          refine ev_ic f_X12_refuse (nx := 6) (v := -1) rfl (by decide) rfl ?_
          refine ev_retK1 f_X12_refuse rfl rfl rfl ?_
          exact ev_ret f_X12_later rfl rfl rfl ⟨_, _, _, rfl, hI, hX, ⟨_, rfl, (Int.le_trans (by decide : ((-2147483648):Int) ≤ (-1)) (by decide : ((-1):Int) ≤ ((-1):Int32).toInt)), (Int.le_trans (by decide : ((-1):Int32).toInt ≤ ((-1):Int)) (by decide : ((-1):Int) ≤ 999999999))⟩⟩
        · have u26 : ar2.toInt ≤ (60:Int) := (lgc_le (by decide : (60 : Int64).toInt = 60)).mp (by have hh := (t_nlt h22); rw [e21, e13] at hh; exact hh)
          have u27 : z21.toInt ≤ 0 := t_leu (t_nlt h22) (by decide : (0:Int32).toInt ≤ (0:Int))
          refine ev_ic f_X12_isFrom (nx := 14) (v := 1) rfl (by decide) rfl ?_
          refine ev_jmp f_X12_isFrom (nx := 18) rfl rfl rfl ?_
          refine ev_retK1 f_X12_isFrom rfl rfl rfl ?_
          refine ev_f f_X12_later (t1 := 20) (t2 := 26) rfl rfl rfl (by decide) ?_
          refine ev_loc f_X12_later (nx := 27) rfl rfl rfl rfl ?_
          refine ev_loc f_X12_later (nx := 28) rfl rfl rfl rfl ?_
          refine ev_loc f_X12_later (nx := 29) rfl rfl rfl rfl ?_
          refine ev_loc f_X12_later (nx := 30) rfl rfl rfl rfl ?_
          refine ev_qI f_X12_later (nx := 33) (r := [.ref 69]) rfl rfl rfl rfl rfl rfl rfl (c_m_laterBy hI (ar1) l5 u11 (ar2) l19 u26 (by omega)) rfl hX rfl (fun w28 gi28 gl28 gr28 l28 u28 hI hX hC28 q28 => ?_)
          have q28 : True := q28
          refine ev_inV2 f_X12_later (nx := 36) (lo2 := [(0, .ref 69), (1, .int w28)]) rfl rfl rfl rfl f_X12_orNone (hI.wf.s rfl) rfl rfl rfl rfl rfl ?_
          refine ev_loc f_X12_orNone (nx := 1) rfl rfl rfl rfl ?_
          refine ev_ic f_X12_orNone (nx := 2) (v := -1) rfl (by decide) rfl ?_
          refine ev_if f_X12_orNone (t1 := 5) (t2 := 14) rfl rfl rfl (fun h29 => ?_) (fun h29 => ?_)
          · have u30 : w28.toInt ≤ (-1) := t_equ h29 (by decide : ((-1):Int32).toInt ≤ ((-1):Int))
            have l31 : (-1) ≤ w28.toInt := t_eql h29 (by decide : ((-1):Int) ≤ ((-1):Int32).toInt)
            refine ev_loc f_X12_orNone (nx := 6) rfl rfl rfl rfl ?_
            refine ev_bp f_X12_orNone (nx := 8) (v := 6) rfl (by decide) rfl ?_
            refine ev_inV2 f_X12_orNone (nx := 11) (lo2 := [(0, .ref 69), (1, .int 6)]) rfl rfl rfl rfl f_X12_refuse (hI.wf.s rfl) rfl rfl rfl rfl rfl ?_
            refine ev_loc f_X12_refuse (nx := 1) rfl rfl rfl rfl ?_
            refine ev_loc f_X12_refuse (nx := 2) rfl rfl rfl rfl ?_
            refine ev_putIT f_X12_refuse (nx := 5) rfl (hI.wf.s rfl) rfl rfl rfl (hI.put0 (hI.wf.s rfl) rfl rfl) (hX.upI rfl) (fun g32 e32 hI hX => ?_)
            refine ev_ic f_X12_refuse (nx := 6) (v := -1) rfl (by decide) rfl ?_
            refine ev_retK1 f_X12_refuse rfl rfl rfl ?_
            refine ev_jmp f_X12_orNone (nx := 19) rfl rfl rfl ?_
            refine ev_retK1 f_X12_orNone rfl rfl rfl ?_
            exact ev_ret f_X12_later rfl rfl rfl ⟨_, _, _, rfl, hI, hX, ⟨_, rfl, (Int.le_trans (by decide : ((-2147483648):Int) ≤ (-1)) (by decide : ((-1):Int) ≤ ((-1):Int32).toInt)), (Int.le_trans (by decide : ((-1):Int32).toInt ≤ ((-1):Int)) (by decide : ((-1):Int) ≤ 999999999))⟩⟩
          · have r33 : w28.toInt ≠ (-1) := fun e => h29 (Int32.toInt_inj.mp (e.trans (by decide : ((-1):Int) = ((-1) : Int32).toInt)))
            refine ev_loc f_X12_orNone (nx := 15) rfl rfl rfl rfl ?_
            refine ev_loc f_X12_orNone (nx := 16) rfl rfl rfl rfl ?_
            refine ev_inV2 f_X12_orNone (nx := 19) (lo2 := [(0, .ref 69), (1, .int w28)]) rfl rfl rfl rfl f_X12_gives (hI.wf.s rfl) rfl rfl rfl rfl rfl ?_
            refine ev_loc f_X12_gives (nx := 1) rfl rfl rfl rfl ?_
            refine ev_ic f_X12_gives (nx := 2) (v := 0) rfl (by decide) rfl ?_
            refine ev_putIT f_X12_gives (nx := 5) rfl (hI.wf.s rfl) rfl rfl rfl (hI.put0 (hI.wf.s rfl) rfl rfl) (hX.upI rfl) (fun g34 e34 hI hX => ?_)
            refine ev_loc f_X12_gives (nx := 6) rfl rfl rfl rfl ?_
            refine ev_retK1 f_X12_gives rfl rfl rfl ?_
            refine ev_retK1 f_X12_orNone rfl rfl rfl ?_
            exact ev_ret f_X12_later rfl rfl rfl ⟨_, _, _, rfl, hI, hX, ⟨_, rfl, l28, u28⟩⟩
noncomputable def wl_m_slack : List (Nat × Nat) := [(69, 2), (69, 44), (69, 45), (69, 48), (89, 10005), (89, 610011), (90, 9999), (91, 9999), (92, 9999)]
theorem c_m_slack {X : x_Ext} {d : Nat} {sh : List (Nat ⊕ (Nat × Nat))} {gi : Nat → Nat → Int32} {gl : Nat → Nat → Int64} {gr : Nat → Nat → Value} (hI : t_I sh gi gr) (ar1 : Int32) (e_p0 : 1 ≤ (gi 70 4).toInt) : x_Me X (d + 6) n_X12_slack [.ref 69, .int ar1] (sh, gi, gl, gr) (t_P wl_m_slack sh gi gl gr (t_Ri (-1) 60)) := by
  have hX : t_X wl_m_slack sh gi gl gr gi gl gr := t_X.rf
  refine me_i f_X12_slack (hI.wf.s rfl) rfl rfl rfl ?_
  obtain ⟨l1, u1⟩ := hI.ab (by decide +kernel : t_abr 70 4 4 0 20 = true) (Nat.le_refl _) (Nat.le_refl _)
  refine ev_loc f_X12_slack (nx := 1) rfl rfl rfl rfl ?_
  refine ev_loc f_X12_slack (nx := 2) rfl rfl rfl rfl ?_
  refine ev_inV2 f_X12_slack (nx := 5) (lo2 := [(0, .ref 69), (1, .int ar1)]) rfl rfl rfl rfl f_X12_isShip (hI.wf.s rfl) rfl rfl rfl rfl rfl ?_
  refine ev_loc f_X12_isShip (nx := 1) rfl rfl rfl rfl ?_
  refine ev_if f_X12_isShip (t1 := 18) (t2 := 4) rfl rfl rfl (fun h2 => ?_) (fun h2 => ?_)
  · have u3 : ar1.toInt ≤ (-1) := t_ltu h2 (by decide : (0:Int32).toInt ≤ (0:Int)) rfl
    refine ev_ic f_X12_isShip (nx := 19) (v := 0) rfl (by decide) rfl ?_
    refine ev_retK1 f_X12_isShip rfl rfl rfl ?_
    refine ev_t f_X12_slack (t1 := 8) (t2 := 14) rfl rfl rfl (by decide) ?_
    refine ev_loc f_X12_slack (nx := 9) rfl rfl rfl rfl ?_
    refine ev_ic f_X12_slack (nx := 10) (v := 1) rfl (by decide) rfl ?_
    refine ev_inV2 f_X12_slack (nx := 13) (lo2 := [(0, .ref 69), (1, .int 1)]) rfl rfl rfl rfl f_X12_refuse (hI.wf.s rfl) rfl rfl rfl rfl rfl ?_
    refine ev_loc f_X12_refuse (nx := 1) rfl rfl rfl rfl ?_
    refine ev_loc f_X12_refuse (nx := 2) rfl rfl rfl rfl ?_
    refine ev_putIT f_X12_refuse (nx := 5) rfl (hI.wf.s rfl) rfl rfl rfl (hI.put0 (hI.wf.s rfl) rfl rfl) (hX.upI rfl) (fun g4 e4 hI hX => ?_)
    refine ev_ic f_X12_refuse (nx := 6) (v := -1) rfl (by decide) rfl ?_
    refine ev_retK1 f_X12_refuse rfl rfl rfl ?_
    exact ev_ret f_X12_slack rfl rfl rfl ⟨_, _, _, rfl, hI, hX, ⟨_, rfl, (by decide : ((-1):Int) ≤ ((-1):Int32).toInt), (Int.le_trans (by decide : ((-1):Int32).toInt ≤ ((-1):Int)) (by decide : ((-1):Int) ≤ 60))⟩⟩
  · have l5 : 0 ≤ ar1.toInt := t_lel (t_nlt h2) (by decide : (0:Int) ≤ (0:Int32).toInt)
    refine ev_loc f_X12_isShip (nx := 5) rfl rfl rfl rfl ?_
    refine ev_loc f_X12_isShip (nx := 6) rfl rfl rfl rfl ?_
    refine ev_getR f_X12_isShip (nx := 9) rfl (hI.wf.s rfl) rfl rfl (hI.wf.r rfl) rfl rfl ?_
    refine ev_ic f_X12_isShip (nx := 10) (v := 1) rfl (by decide) rfl ?_
    obtain ⟨l6, u6⟩ := hI.ab (by decide +kernel : t_abr 70 1 1 0 6 = true) (Nat.le_refl _) (Nat.le_refl _)
    refine ev_ialdv f_X12_isShip (nx := 11) (w := (gi 70 1)) rfl (hI.wf.s rfl) (by decide) (rfl : (1 : Int32).toNatClampNeg = 1) (by decide) rfl rfl ?_
    refine ev_if f_X12_isShip (t1 := 18) (t2 := 14) rfl rfl rfl (fun h7 => ?_) (fun h7 => ?_)
    · have r8 : (gi 70 1).toInt ≤ ar1.toInt := Int32.le_iff_toInt_le.mp h7
      refine ev_ic f_X12_isShip (nx := 19) (v := 0) rfl (by decide) rfl ?_
      refine ev_retK1 f_X12_isShip rfl rfl rfl ?_
      refine ev_t f_X12_slack (t1 := 8) (t2 := 14) rfl rfl rfl (by decide) ?_
      refine ev_loc f_X12_slack (nx := 9) rfl rfl rfl rfl ?_
      refine ev_ic f_X12_slack (nx := 10) (v := 1) rfl (by decide) rfl ?_
      refine ev_inV2 f_X12_slack (nx := 13) (lo2 := [(0, .ref 69), (1, .int 1)]) rfl rfl rfl rfl f_X12_refuse (hI.wf.s rfl) rfl rfl rfl rfl rfl ?_
      refine ev_loc f_X12_refuse (nx := 1) rfl rfl rfl rfl ?_
      refine ev_loc f_X12_refuse (nx := 2) rfl rfl rfl rfl ?_
      refine ev_putIT f_X12_refuse (nx := 5) rfl (hI.wf.s rfl) rfl rfl rfl (hI.put0 (hI.wf.s rfl) rfl rfl) (hX.upI rfl) (fun g9 e9 hI hX => ?_)
      refine ev_ic f_X12_refuse (nx := 6) (v := -1) rfl (by decide) rfl ?_
      refine ev_retK1 f_X12_refuse rfl rfl rfl ?_
      exact ev_ret f_X12_slack rfl rfl rfl ⟨_, _, _, rfl, hI, hX, ⟨_, rfl, (by decide : ((-1):Int) ≤ ((-1):Int32).toInt), (Int.le_trans (by decide : ((-1):Int32).toInt ≤ ((-1):Int)) (by decide : ((-1):Int) ≤ 60))⟩⟩
    · have r10 : ar1.toInt < (gi 70 1).toInt := Int32.lt_iff_toInt_lt.mp (t_nle h7)
      have u11 : ar1.toInt ≤ 5 := t_ltu (t_nle h7) u6 rfl
      have l12 : 1 ≤ (gi 70 1).toInt := t_ltl (t_nle h7) l5 rfl
      refine ev_ic f_X12_isShip (nx := 15) (v := 1) rfl (by decide) rfl ?_
      refine ev_jmp f_X12_isShip (nx := 19) rfl rfl rfl ?_
      refine ev_retK1 f_X12_isShip rfl rfl rfl ?_
      refine ev_f f_X12_slack (t1 := 8) (t2 := 14) rfl rfl rfl (by decide) ?_
      refine ev_loc f_X12_slack (nx := 15) rfl rfl rfl rfl ?_
      refine ev_ic f_X12_slack (nx := 16) (v := 0) rfl (by decide) rfl ?_
      refine ev_loc f_X12_slack (nx := 17) rfl rfl rfl rfl ?_
      refine ev_getR f_X12_slack (nx := 20) rfl (hI.wf.s rfl) rfl rfl (hI.wf.r rfl) rfl rfl ?_
      refine ev_ic f_X12_slack (nx := 21) (v := 4) rfl (by decide) rfl ?_
      refine ev_ialdv f_X12_slack (nx := 22) (w := (gi 70 4)) rfl (hI.wf.s rfl) (by decide) (rfl : (4 : Int32).toNatClampNeg = 4) (by decide) rfl rfl ?_
      refine ev_qI f_X12_slack (nx := 25) (r := []) rfl rfl rfl rfl rfl rfl rfl (c_m_leastBy hI (0) ((gi 70 4)) l1 u1 (by omega)) rfl hX rfl (fun w14 gi14 gl14 gr14 l14 u14 hI hX hC14 q14 => ?_)
      have q14 : (t_pr gi14 (gi14 92) (gi14 69 48).toInt 23618 ∧ t_rk w14.toInt (t_la (gi14 92) (t_S gi14) (t_C gi14) 0 0 0 0)) ∧ (∀ j : Nat, j < 12 → 0 ≤ (gi14 89 j).toInt ∧ (gi14 89 j).toInt ≤ 300) ∧ (gi14 69 48).toInt = (gi 70 4).toInt := q14
      refine ev_loc f_X12_slack (nx := 26) (lo' := [(2, .int w14), (0, .ref 69), (1, .int ar1)]) rfl rfl rfl rfl ?_
      refine ev_loc f_X12_slack (nx := 27) rfl rfl rfl rfl ?_
      refine ev_ic f_X12_slack (nx := 28) (v := -1) rfl (by decide) rfl ?_
      refine ev_if f_X12_slack (t1 := 31) (t2 := 38) rfl rfl rfl (fun h15 => ?_) (fun h15 => ?_)
      · have u16 : w14.toInt ≤ (-1) := t_equ h15 (by decide : ((-1):Int32).toInt ≤ ((-1):Int))
        have l17 : (-1) ≤ w14.toInt := t_eql h15 (by decide : ((-1):Int) ≤ ((-1):Int32).toInt)
        refine ev_loc f_X12_slack (nx := 32) rfl rfl rfl rfl ?_
        refine ev_bp f_X12_slack (nx := 34) (v := 6) rfl (by decide) rfl ?_
        refine ev_inV2 f_X12_slack (nx := 37) (lo2 := [(0, .ref 69), (1, .int 6)]) rfl rfl rfl rfl f_X12_refuse (hI.wf.s rfl) rfl rfl rfl rfl rfl ?_
        refine ev_loc f_X12_refuse (nx := 1) rfl rfl rfl rfl ?_
        refine ev_loc f_X12_refuse (nx := 2) rfl rfl rfl rfl ?_
        refine ev_putIT f_X12_refuse (nx := 5) rfl (hI.wf.s rfl) rfl rfl rfl (hI.put0 (hI.wf.s rfl) rfl rfl) (hX.upI rfl) (fun g18 e18 hI hX => ?_)
        refine ev_ic f_X12_refuse (nx := 6) (v := -1) rfl (by decide) rfl ?_
        refine ev_retK1 f_X12_refuse rfl rfl rfl ?_
        exact ev_ret f_X12_slack rfl rfl rfl ⟨_, _, _, rfl, hI, hX, ⟨_, rfl, (by decide : ((-1):Int) ≤ ((-1):Int32).toInt), (Int.le_trans (by decide : ((-1):Int32).toInt ≤ ((-1):Int)) (by decide : ((-1):Int) ≤ 60))⟩⟩
      · have r19 : w14.toInt ≠ (-1) := fun e => h15 (Int32.toInt_inj.mp (e.trans (by decide : ((-1):Int) = ((-1) : Int32).toInt)))
        refine ev_ic f_X12_slack (nx := 39) (v := 0) rfl (by decide) rfl ?_
        refine ev_loc f_X12_slack (nx := 40) (lo' := [(3, .int 0), (2, .int w14), (0, .ref 69), (1, .int ar1)]) rfl rfl rfl rfl ?_
        refine ev_ic f_X12_slack (nx := 41) (v := 1) rfl (by decide) rfl ?_
        refine ev_loc f_X12_slack (nx := 43) (lo' := [(4, .int 1), (3, .int 0), (2, .int w14), (0, .ref 69), (1, .int ar1)]) rfl rfl rfl rfl ?_
        have L20 : ∀ (m20 : Nat) (gi20 : Nat → Nat → Int32) (gl20 : Nat → Nat → Int64) (gr20 : Nat → Nat → Value) (y20_4 : Int32) (y20_3 : Int32), t_I sh gi20 gr20 → t_X wl_m_slack sh gi gl gr gi20 gl20 gr20 → 1 ≤ y20_4.toInt → y20_4.toInt ≤ 61 → 0 ≤ y20_3.toInt → y20_3.toInt ≤ 60 → gi20 70 1 = (gi 70 1) → gi20 70 4 = (gi 70 4) → (61 - y20_4.toInt).toNat = m20 → x_Ev X (d + 6) n_X12_slack 43 [(4, .int y20_4), (3, .int y20_3), (2, .int w14), (0, .ref 69), (1, .int ar1)] [] (sh, gi20, gl20, gr20) (t_P wl_m_slack sh gi gl gr (t_Ri (-1) 60)) := by
          intro m20
          induction m20 using Nat.strongRecOn with
          | _ m20 ih20 =>
          intro gi20 gl20 gr20 y20_4 y20_3 hI hX l20_4 u20_4 l20_3 u20_3 c20_0 c20_1 hm20
          refine ev_loc f_X12_slack (nx := 45) rfl rfl rfl rfl ?_
          refine ev_bp f_X12_slack (nx := 47) (v := 60) rfl (by decide) rfl ?_
          refine ev_if f_X12_slack (t1 := 80) (t2 := 50) rfl rfl rfl (fun h21 => ?_) (fun h21 => ?_)
          · have l22 : 61 ≤ y20_4.toInt := t_ltl h21 (by decide : (60:Int) ≤ (60:Int32).toInt) rfl
            refine ev_loc f_X12_slack (nx := 81) rfl rfl rfl rfl ?_
            refine ev_loc f_X12_slack (nx := 82) rfl rfl rfl rfl ?_
            refine ev_inV2 f_X12_slack (nx := 85) (lo2 := [(0, .ref 69), (1, .int y20_3)]) rfl rfl rfl rfl f_X12_gives (hI.wf.s rfl) rfl rfl rfl rfl rfl ?_
            refine ev_loc f_X12_gives (nx := 1) rfl rfl rfl rfl ?_
            refine ev_ic f_X12_gives (nx := 2) (v := 0) rfl (by decide) rfl ?_
            refine ev_putIT f_X12_gives (nx := 5) rfl (hI.wf.s rfl) rfl rfl rfl (hI.put0 (hI.wf.s rfl) rfl rfl) (hX.upI rfl) (fun g23 e23 hI hX => ?_)
            refine ev_loc f_X12_gives (nx := 6) rfl rfl rfl rfl ?_
            refine ev_retK1 f_X12_gives rfl rfl rfl ?_
            exact ev_ret f_X12_slack rfl rfl rfl ⟨_, _, _, rfl, hI, hX, ⟨_, rfl, (Int.le_trans (by decide : ((-1):Int) ≤ 0) l20_3), u20_3⟩⟩
          · have u24 : y20_4.toInt ≤ 60 := t_leu (t_nlt h21) (by decide : (60:Int32).toInt ≤ (60:Int))
            refine ev_loc f_X12_slack (nx := 51) rfl rfl rfl rfl ?_
            refine ev_loc f_X12_slack (nx := 52) rfl rfl rfl rfl ?_
            refine ev_loc f_X12_slack (nx := 54) rfl rfl rfl rfl ?_
            refine ev_qI f_X12_slack (nx := 57) (r := []) rfl rfl rfl rfl rfl rfl rfl (c_m_laterBy hI (ar1) l5 u11 (y20_4) (Int.le_trans (by decide : (0:Int) ≤ 1) l20_4) u24 (by have ff26 : (gi20 70 4).toInt = (gi 70 4).toInt := congrArg Int32.toInt c20_1; omega)) rfl hX rfl (fun w25 gi25 gl25 gr25 l25 u25 hI hX hC25 q25 => ?_)
            have q25 : True := q25
            refine ev_loc f_X12_slack (nx := 59) (lo' := [(5, .int w25), (4, .int y20_4), (3, .int y20_3), (2, .int w14), (0, .ref 69), (1, .int ar1)]) rfl rfl rfl rfl ?_
            refine ev_loc f_X12_slack (nx := 61) rfl rfl rfl rfl ?_
            refine ev_ic f_X12_slack (nx := 62) (v := -1) rfl (by decide) rfl ?_
            refine ev_if f_X12_slack (t1 := 74) (t2 := 65) rfl rfl rfl (fun h27 => ?_) (fun h27 => ?_)
            · have u28 : w25.toInt ≤ (-1) := t_equ h27 (by decide : ((-1):Int32).toInt ≤ ((-1):Int))
              have l29 : (-1) ≤ w25.toInt := t_eql h27 (by decide : ((-1):Int) ≤ ((-1):Int32).toInt)
              refine ev_incR f_X12_slack (nx := 77) (c := 1) (l := 2) (u := 61) rfl rfl (by decide) (by decide) l20_4 u24 rfl rfl (by decide) (by decide) rfl (fun z30 e30 l30 u30 => ?_)
              refine ev_jmp f_X12_slack (nx := 43) rfl rfl rfl ?_
              refine ev_sub (lo := [(4, .int z30), (3, .int y20_3), (2, .int w14), (0, .ref 69), (1, .int ar1)]) rfl (t_sc rfl (t_sc rfl (t_sc rfl (t_sc rfl (t_sc rfl t_sn))))) ?_
              exact ih20 _ (by omega) gi25 gl25 gr25 (z30) (y20_3) hI hX  (Int.le_trans (by decide : (1:Int) ≤ 2) l30) u30 l20_3 u20_3 ((hC25.1 70 1 rfl).1.trans c20_0) ((hC25.1 70 4 rfl).1.trans c20_1) rfl
            · have r31 : w25.toInt ≠ (-1) := fun e => h27 (Int32.toInt_inj.mp (e.trans (by decide : ((-1):Int) = ((-1) : Int32).toInt)))
              refine ev_loc f_X12_slack (nx := 67) rfl rfl rfl rfl ?_
              refine ev_loc f_X12_slack (nx := 68) rfl rfl rfl rfl ?_
              refine ev_if f_X12_slack (t1 := 74) (t2 := 71) rfl rfl rfl (fun h32 => ?_) (fun h32 => ?_)
              · have r33 : w14.toInt < w25.toInt := Int32.lt_iff_toInt_lt.mp h32
                have u34 : w14.toInt ≤ 999999998 := t_ltu h32 u25 rfl
                have l35 : (-2147483647) ≤ w25.toInt := t_ltl h32 l14 rfl
                refine ev_incR f_X12_slack (nx := 77) (c := 1) (l := 2) (u := 61) rfl rfl (by decide) (by decide) l20_4 u24 rfl rfl (by decide) (by decide) rfl (fun z36 e36 l36 u36 => ?_)
                refine ev_jmp f_X12_slack (nx := 43) rfl rfl rfl ?_
                refine ev_sub (lo := [(4, .int z36), (3, .int y20_3), (2, .int w14), (0, .ref 69), (1, .int ar1)]) rfl (t_sc rfl (t_sc rfl (t_sc rfl (t_sc rfl (t_sc rfl t_sn))))) ?_
                exact ih20 _ (by omega) gi25 gl25 gr25 (z36) (y20_3) hI hX  (Int.le_trans (by decide : (1:Int) ≤ 2) l36) u36 l20_3 u20_3 ((hC25.1 70 1 rfl).1.trans c20_0) ((hC25.1 70 4 rfl).1.trans c20_1) rfl
              · have r37 : w25.toInt ≤ w14.toInt := Int32.le_iff_toInt_le.mp (t_nlt h32)
                refine ev_loc f_X12_slack (nx := 73) rfl rfl rfl rfl ?_
                refine ev_loc f_X12_slack (nx := 74) (lo' := [(3, .int y20_4), (5, .int w25), (4, .int y20_4), (2, .int w14), (0, .ref 69), (1, .int ar1)]) rfl rfl rfl rfl ?_
                refine ev_incR f_X12_slack (nx := 77) (c := 1) (l := 2) (u := 61) rfl rfl (by decide) (by decide) l20_4 u24 rfl rfl (by decide) (by decide) rfl (fun z38 e38 l38 u38 => ?_)
                refine ev_jmp f_X12_slack (nx := 43) rfl rfl rfl ?_
                refine ev_sub (lo := [(4, .int z38), (3, .int y20_4), (2, .int w14), (0, .ref 69), (1, .int ar1)]) rfl (t_sc rfl (t_sc rfl (t_sc rfl (t_sc rfl (t_sc rfl t_sn))))) ?_
                exact ih20 _ (by omega) gi25 gl25 gr25 (z38) (y20_4) hI hX  (Int.le_trans (by decide : (1:Int) ≤ 2) l38) u38 (Int.le_trans (by decide : (0:Int) ≤ 1) l20_4) u24 ((hC25.1 70 1 rfl).1.trans c20_0) ((hC25.1 70 4 rfl).1.trans c20_1) rfl
        refine ev_sub (lo := [(4, .int 1), (3, .int 0), (2, .int w14), (0, .ref 69), (1, .int ar1)]) rfl (t_sc rfl (t_sc rfl (t_sc rfl (t_sc rfl (t_sc rfl t_sn))))) ?_
        exact L20 _ gi14 gl14 gr14 (1) (0) hI hX  (by decide : (1:Int) ≤ (1:Int32).toInt) (Int.le_trans (by decide : (1:Int32).toInt ≤ (1:Int)) (by decide : (1:Int) ≤ 61)) (by decide : (0:Int) ≤ (0:Int32).toInt) (Int.le_trans (by decide : (0:Int32).toInt ≤ (0:Int)) (by decide : (0:Int) ≤ 60)) ((hC14.1 70 1 rfl).1.trans rfl) ((hC14.1 70 4 rfl).1.trans rfl) rfl
noncomputable def wl_m_without : List (Nat × Nat) := [(69, 2), (69, 44), (69, 45), (69, 46), (69, 48), (89, 10005), (89, 610011), (90, 9999), (91, 9999), (92, 9999)]
theorem c_m_without {X : x_Ext} {d : Nat} {sh : List (Nat ⊕ (Nat × Nat))} {gi : Nat → Nat → Int32} {gl : Nat → Nat → Int64} {gr : Nat → Nat → Value} (hI : t_I sh gi gr) (ar1 : Int32) (e_p0 : 1 ≤ (gi 70 4).toInt) : x_Me X (d + 6) n_X12_without [.ref 69, .int ar1] (sh, gi, gl, gr) (t_P wl_m_without sh gi gl gr (t_Ri (-2147483648) 999999999)) := by
  have hX : t_X wl_m_without sh gi gl gr gi gl gr := t_X.rf
  refine me_i f_X12_without (hI.wf.s rfl) rfl rfl rfl ?_
  obtain ⟨l1, u1⟩ := hI.ab (by decide +kernel : t_abr 70 4 4 0 20 = true) (Nat.le_refl _) (Nat.le_refl _)
  refine ev_loc f_X12_without (nx := 1) rfl rfl rfl rfl ?_
  refine ev_loc f_X12_without (nx := 2) rfl rfl rfl rfl ?_
  refine ev_inV2 f_X12_without (nx := 5) (lo2 := [(0, .ref 69), (1, .int ar1)]) rfl rfl rfl rfl f_X12_isCart (hI.wf.s rfl) rfl rfl rfl rfl rfl ?_
  refine ev_loc f_X12_isCart (nx := 1) rfl rfl rfl rfl ?_
  refine ev_if f_X12_isCart (t1 := 18) (t2 := 4) rfl rfl rfl (fun h2 => ?_) (fun h2 => ?_)
  · have u3 : ar1.toInt ≤ (-1) := t_ltu h2 (by decide : (0:Int32).toInt ≤ (0:Int)) rfl
    refine ev_ic f_X12_isCart (nx := 19) (v := 0) rfl (by decide) rfl ?_
    refine ev_retK1 f_X12_isCart rfl rfl rfl ?_
    refine ev_t f_X12_without (t1 := 8) (t2 := 14) rfl rfl rfl (by decide) ?_
    refine ev_loc f_X12_without (nx := 9) rfl rfl rfl rfl ?_
    refine ev_ic f_X12_without (nx := 10) (v := 1) rfl (by decide) rfl ?_
    refine ev_inV2 f_X12_without (nx := 13) (lo2 := [(0, .ref 69), (1, .int 1)]) rfl rfl rfl rfl f_X12_refuse (hI.wf.s rfl) rfl rfl rfl rfl rfl ?_
    refine ev_loc f_X12_refuse (nx := 1) rfl rfl rfl rfl ?_
    refine ev_loc f_X12_refuse (nx := 2) rfl rfl rfl rfl ?_
    refine ev_putIT f_X12_refuse (nx := 5) rfl (hI.wf.s rfl) rfl rfl rfl (hI.put0 (hI.wf.s rfl) rfl rfl) (hX.upI rfl) (fun g4 e4 hI hX => ?_)
    refine ev_ic f_X12_refuse (nx := 6) (v := -1) rfl (by decide) rfl ?_
    refine ev_retK1 f_X12_refuse rfl rfl rfl ?_
    exact ev_ret f_X12_without rfl rfl rfl ⟨_, _, _, rfl, hI, hX, ⟨_, rfl, (Int.le_trans (by decide : ((-2147483648):Int) ≤ (-1)) (by decide : ((-1):Int) ≤ ((-1):Int32).toInt)), (Int.le_trans (by decide : ((-1):Int32).toInt ≤ ((-1):Int)) (by decide : ((-1):Int) ≤ 999999999))⟩⟩
  · have l5 : 0 ≤ ar1.toInt := t_lel (t_nlt h2) (by decide : (0:Int) ≤ (0:Int32).toInt)
    refine ev_loc f_X12_isCart (nx := 5) rfl rfl rfl rfl ?_
    refine ev_loc f_X12_isCart (nx := 6) rfl rfl rfl rfl ?_
    refine ev_getR f_X12_isCart (nx := 9) rfl (hI.wf.s rfl) rfl rfl (hI.wf.r rfl) rfl rfl ?_
    refine ev_ic f_X12_isCart (nx := 10) (v := 2) rfl (by decide) rfl ?_
    obtain ⟨l6, u6⟩ := hI.ab (by decide +kernel : t_abr 70 2 2 0 6 = true) (Nat.le_refl _) (Nat.le_refl _)
    refine ev_ialdv f_X12_isCart (nx := 11) (w := (gi 70 2)) rfl (hI.wf.s rfl) (by decide) (rfl : (2 : Int32).toNatClampNeg = 2) (by decide) rfl rfl ?_
    refine ev_if f_X12_isCart (t1 := 18) (t2 := 14) rfl rfl rfl (fun h7 => ?_) (fun h7 => ?_)
    · have r8 : (gi 70 2).toInt ≤ ar1.toInt := Int32.le_iff_toInt_le.mp h7
      refine ev_ic f_X12_isCart (nx := 19) (v := 0) rfl (by decide) rfl ?_
      refine ev_retK1 f_X12_isCart rfl rfl rfl ?_
      refine ev_t f_X12_without (t1 := 8) (t2 := 14) rfl rfl rfl (by decide) ?_
      refine ev_loc f_X12_without (nx := 9) rfl rfl rfl rfl ?_
      refine ev_ic f_X12_without (nx := 10) (v := 1) rfl (by decide) rfl ?_
      refine ev_inV2 f_X12_without (nx := 13) (lo2 := [(0, .ref 69), (1, .int 1)]) rfl rfl rfl rfl f_X12_refuse (hI.wf.s rfl) rfl rfl rfl rfl rfl ?_
      refine ev_loc f_X12_refuse (nx := 1) rfl rfl rfl rfl ?_
      refine ev_loc f_X12_refuse (nx := 2) rfl rfl rfl rfl ?_
      refine ev_putIT f_X12_refuse (nx := 5) rfl (hI.wf.s rfl) rfl rfl rfl (hI.put0 (hI.wf.s rfl) rfl rfl) (hX.upI rfl) (fun g9 e9 hI hX => ?_)
      refine ev_ic f_X12_refuse (nx := 6) (v := -1) rfl (by decide) rfl ?_
      refine ev_retK1 f_X12_refuse rfl rfl rfl ?_
      exact ev_ret f_X12_without rfl rfl rfl ⟨_, _, _, rfl, hI, hX, ⟨_, rfl, (Int.le_trans (by decide : ((-2147483648):Int) ≤ (-1)) (by decide : ((-1):Int) ≤ ((-1):Int32).toInt)), (Int.le_trans (by decide : ((-1):Int32).toInt ≤ ((-1):Int)) (by decide : ((-1):Int) ≤ 999999999))⟩⟩
    · have r10 : ar1.toInt < (gi 70 2).toInt := Int32.lt_iff_toInt_lt.mp (t_nle h7)
      have u11 : ar1.toInt ≤ 5 := t_ltu (t_nle h7) u6 rfl
      have l12 : 1 ≤ (gi 70 2).toInt := t_ltl (t_nle h7) l5 rfl
      refine ev_ic f_X12_isCart (nx := 15) (v := 1) rfl (by decide) rfl ?_
      refine ev_jmp f_X12_isCart (nx := 19) rfl rfl rfl ?_
      refine ev_retK1 f_X12_isCart rfl rfl rfl ?_
      refine ev_f f_X12_without (t1 := 8) (t2 := 14) rfl rfl rfl (by decide) ?_
      refine ev_loc f_X12_without (nx := 15) rfl rfl rfl rfl ?_
      refine ev_loc f_X12_without (nx := 16) rfl rfl rfl rfl ?_
      refine ev_putIT f_X12_without (nx := 19) rfl (hI.wf.s rfl) rfl rfl rfl (hI.put0 (hI.wf.s rfl) rfl rfl) (hX.upI rfl) (fun g13 e13 hI hX => ?_)
      refine ev_loc f_X12_without (nx := 20) rfl rfl rfl rfl ?_
      refine ev_ic f_X12_without (nx := 21) (v := 0) rfl (by decide) rfl ?_
      refine ev_loc f_X12_without (nx := 22) rfl rfl rfl rfl ?_
      refine ev_getR f_X12_without (nx := 25) rfl (hI.wf.s rfl) rfl rfl (hI.wf.r rfl) rfl rfl ?_
      refine ev_ic f_X12_without (nx := 26) (v := 4) rfl (by decide) rfl ?_
      refine ev_ialdv f_X12_without (nx := 27) (w := (gi 70 4)) rfl (hI.wf.s rfl) (by decide) (rfl : (4 : Int32).toNatClampNeg = 4) (by decide) ((by rw [e13]; exact x_up2_off (Or.inr (by decide)) : g13 70 4 = gi 70 4).trans rfl) rfl ?_
      refine ev_qI f_X12_without (nx := 30) (r := []) rfl rfl rfl rfl rfl rfl rfl (c_m_leastBy hI (0) ((gi 70 4)) l1 u1 (by omega)) rfl hX rfl (fun w15 gi15 gl15 gr15 l15 u15 hI hX hC15 q15 => ?_)
      have q15 : (t_pr gi15 (gi15 92) (gi15 69 48).toInt 23618 ∧ t_rk w15.toInt (t_la (gi15 92) (t_S gi15) (t_C gi15) 0 0 0 0)) ∧ (∀ j : Nat, j < 12 → 0 ≤ (gi15 89 j).toInt ∧ (gi15 89 j).toInt ≤ 300) ∧ (gi15 69 48).toInt = (gi 70 4).toInt := q15
      refine ev_loc f_X12_without (nx := 31) (lo' := [(2, .int w15), (0, .ref 69), (1, .int ar1)]) rfl rfl rfl rfl ?_
      refine ev_loc f_X12_without (nx := 32) rfl rfl rfl rfl ?_
      refine ev_ic f_X12_without (nx := 33) (v := -1) rfl (by decide) rfl ?_
      refine ev_putIT f_X12_without (nx := 36) rfl (hI.wf.s rfl) rfl rfl rfl (hI.put0 (hI.wf.s rfl) rfl rfl) (hX.upI rfl) (fun g16 e16 hI hX => ?_)
      refine ev_loc f_X12_without (nx := 37) rfl rfl rfl rfl ?_
      refine ev_loc f_X12_without (nx := 38) rfl rfl rfl rfl ?_
      refine ev_inV2 f_X12_without (nx := 41) (lo2 := [(0, .ref 69), (1, .int w15)]) rfl rfl rfl rfl f_X12_orNone (hI.wf.s rfl) rfl rfl rfl rfl rfl ?_
      refine ev_loc f_X12_orNone (nx := 1) rfl rfl rfl rfl ?_
      refine ev_ic f_X12_orNone (nx := 2) (v := -1) rfl (by decide) rfl ?_
      refine ev_if f_X12_orNone (t1 := 5) (t2 := 14) rfl rfl rfl (fun h17 => ?_) (fun h17 => ?_)
      · have u18 : w15.toInt ≤ (-1) := t_equ h17 (by decide : ((-1):Int32).toInt ≤ ((-1):Int))
        have l19 : (-1) ≤ w15.toInt := t_eql h17 (by decide : ((-1):Int) ≤ ((-1):Int32).toInt)
        refine ev_loc f_X12_orNone (nx := 6) rfl rfl rfl rfl ?_
        refine ev_bp f_X12_orNone (nx := 8) (v := 6) rfl (by decide) rfl ?_
        refine ev_inV2 f_X12_orNone (nx := 11) (lo2 := [(0, .ref 69), (1, .int 6)]) rfl rfl rfl rfl f_X12_refuse (hI.wf.s rfl) rfl rfl rfl rfl rfl ?_
        refine ev_loc f_X12_refuse (nx := 1) rfl rfl rfl rfl ?_
        refine ev_loc f_X12_refuse (nx := 2) rfl rfl rfl rfl ?_
        refine ev_putIT f_X12_refuse (nx := 5) rfl (hI.wf.s rfl) rfl rfl rfl (hI.put0 (hI.wf.s rfl) rfl rfl) (hX.upI rfl) (fun g20 e20 hI hX => ?_)
        refine ev_ic f_X12_refuse (nx := 6) (v := -1) rfl (by decide) rfl ?_
        refine ev_retK1 f_X12_refuse rfl rfl rfl ?_
        refine ev_jmp f_X12_orNone (nx := 19) rfl rfl rfl ?_
        refine ev_retK1 f_X12_orNone rfl rfl rfl ?_
        exact ev_ret f_X12_without rfl rfl rfl ⟨_, _, _, rfl, hI, hX, ⟨_, rfl, (Int.le_trans (by decide : ((-2147483648):Int) ≤ (-1)) (by decide : ((-1):Int) ≤ ((-1):Int32).toInt)), (Int.le_trans (by decide : ((-1):Int32).toInt ≤ ((-1):Int)) (by decide : ((-1):Int) ≤ 999999999))⟩⟩
      · have r21 : w15.toInt ≠ (-1) := fun e => h17 (Int32.toInt_inj.mp (e.trans (by decide : ((-1):Int) = ((-1) : Int32).toInt)))
        refine ev_loc f_X12_orNone (nx := 15) rfl rfl rfl rfl ?_
        refine ev_loc f_X12_orNone (nx := 16) rfl rfl rfl rfl ?_
        refine ev_inV2 f_X12_orNone (nx := 19) (lo2 := [(0, .ref 69), (1, .int w15)]) rfl rfl rfl rfl f_X12_gives (hI.wf.s rfl) rfl rfl rfl rfl rfl ?_
        refine ev_loc f_X12_gives (nx := 1) rfl rfl rfl rfl ?_
        refine ev_ic f_X12_gives (nx := 2) (v := 0) rfl (by decide) rfl ?_
        refine ev_putIT f_X12_gives (nx := 5) rfl (hI.wf.s rfl) rfl rfl rfl (hI.put0 (hI.wf.s rfl) rfl rfl) (hX.upI rfl) (fun g22 e22 hI hX => ?_)
        refine ev_loc f_X12_gives (nx := 6) rfl rfl rfl rfl ?_
        refine ev_retK1 f_X12_gives rfl rfl rfl ?_
        refine ev_retK1 f_X12_orNone rfl rfl rfl ?_
        exact ev_ret f_X12_without rfl rfl rfl ⟨_, _, _, rfl, hI, hX, ⟨_, rfl, l15, u15⟩⟩
noncomputable def wl_m_acts : List (Nat × Nat) := [(69, 55), (93, 9999), (94, 9999), (95, 9999)]
noncomputable def Q_m_acts (gi : Nat → Nat → Int32) (gl : Nat → Nat → Int64) (gr : Nat → Nat → Value) (ar1 : Int32) (ar2 : Int32) (ar3 : Int32) : (Nat → Nat → Int32) → (Nat → Nat → Int64) → (Nat → Nat → Value) → Prop := fun (gi2 : Nat → Nat → Int32) (gl2 : Nat → Nat → Int64) (gr2 : Nat → Nat → Value) => t_wh (gi2 69 55).toInt (gi2 93) (gi2 95) ∧ (gi2 69 55).toInt = (gi 69 55).toInt + 1
theorem c_m_acts {X : x_Ext} {d : Nat} {sh : List (Nat ⊕ (Nat × Nat))} {gi : Nat → Nat → Int32} {gl : Nat → Nat → Int64} {gr : Nat → Nat → Value} (hI : t_I sh gi gr) (ar1 : Int32) (l_a1 : 0 ≤ ar1.toInt) (u_a1 : ar1.toInt ≤ 2) (ar2 : Int32) (ar3 : Int32) (l_a3 : (-1) ≤ ar3.toInt) (u_a3 : ar3.toInt ≤ 5) (e_p0 : t_wh (gi 69 55).toInt (gi 93) (gi 95)) (e_p1 : (gi 69 55).toInt ≤ 99) (e_p2 : (ar1.toInt ≠ 2 → 0 ≤ ar3.toInt)) : x_Me X (d + 1) n_X12_acts [.ref 69, .int ar1, .int ar2, .int ar3] (sh, gi, gl, gr) (t_PN wl_m_acts sh gi gl gr (Q_m_acts gi gl gr ar1 ar2 ar3)) := by
  have hX : t_X wl_m_acts sh gi gl gr gi gl gr := t_X.rf
  refine me_i f_X12_acts (hI.wf.s rfl) rfl rfl rfl ?_
  obtain ⟨l1, u1⟩ := hI.b (hI.wf.s (k := 69) rfl) (t_bdK rfl : t_bd 11 55 = some (0, 100))
  refine ev_loc f_X12_acts (nx := 1) rfl rfl rfl rfl ?_
  refine ev_getR f_X12_acts (nx := 4) rfl (hI.wf.s rfl) rfl rfl (hI.wf.r rfl) rfl rfl ?_
  refine ev_loc f_X12_acts (nx := 5) rfl rfl rfl rfl ?_
  refine ev_gvI f_X12_acts (nx := 8) (w := (gi 69 55)) rfl (hI.wf.s rfl) rfl rfl rfl rfl ?_
  refine ev_loc f_X12_acts (nx := 9) rfl rfl rfl rfl ?_
  have u3 : (gi 69 55).toInt ≤ (99:Int) := (by omega)
  refine ev_iastT f_X12_acts (nx := 10) rfl (hI.wf.s rfl) l1 (by decide) u3 (by decide) rfl (hI.astL (hI.wf.s rfl) (by decide +kernel : t_abw 93 0 99 0 2 = true) (t_cl1 l1 (by decide)) (t_cl2 l1 u3 (by decide) (by decide)) l_a1 u_a1 rfl) (hX.upI (t_inA_ok rfl)) (fun g2 e2 hI hX => ?_)
  refine ev_loc f_X12_acts (nx := 11) rfl rfl rfl rfl ?_
  refine ev_getR f_X12_acts (nx := 14) rfl (hI.wf.s rfl) rfl rfl (hI.wf.r rfl) rfl rfl ?_
  refine ev_loc f_X12_acts (nx := 15) rfl rfl rfl rfl ?_
  refine ev_gvI f_X12_acts (nx := 18) (w := (gi 69 55)) rfl (hI.wf.s rfl) rfl rfl ((by rw [e2]; exact x_up2_off (Or.inl (by decide)) : g2 69 55 = gi 69 55).trans rfl) rfl ?_
  refine ev_loc f_X12_acts (nx := 19) rfl rfl rfl rfl ?_
  refine ev_iastT f_X12_acts (nx := 20) rfl (hI.wf.s rfl) l1 (by decide) u3 (by decide) rfl (hI.astG (hI.wf.s rfl) (fun lo hi e => absurd e (t_nob (by decide +kernel) _)) (fun k hk e => by have := hk.2.1; omega)) (hX.upI (t_inA_ok rfl)) (fun g4 e4 hI hX => ?_)
  refine ev_loc f_X12_acts (nx := 21) rfl rfl rfl rfl ?_
  refine ev_getR f_X12_acts (nx := 24) rfl (hI.wf.s rfl) rfl rfl (hI.wf.r rfl) rfl rfl ?_
  refine ev_loc f_X12_acts (nx := 25) rfl rfl rfl rfl ?_
  refine ev_gvI f_X12_acts (nx := 28) (w := (gi 69 55)) rfl (hI.wf.s rfl) rfl rfl ((by rw [e4]; exact x_up2_off (Or.inl (by decide)) : g4 69 55 = g2 69 55).trans ((by rw [e2]; exact x_up2_off (Or.inl (by decide)) : g2 69 55 = gi 69 55).trans rfl)) rfl ?_
  refine ev_loc f_X12_acts (nx := 29) rfl rfl rfl rfl ?_
  refine ev_iastT f_X12_acts (nx := 30) rfl (hI.wf.s rfl) l1 (by decide) u3 (by decide) rfl (hI.astL (hI.wf.s rfl) (by decide +kernel : t_abw 95 0 99 (-1) 5 = true) (t_cl1 l1 (by decide)) (t_cl2 l1 u3 (by decide) (by decide)) l_a3 u_a3 rfl) (hX.upI (t_inA_ok rfl)) (fun g5 e5 hI hX => ?_)
  refine ev_loc f_X12_acts (nx := 31) rfl rfl rfl rfl ?_
  refine ev_alu f_X12_acts (nx := 32) rfl rfl rfl rfl ?_
  refine ev_gvI f_X12_acts (nx := 35) (w := (gi 69 55)) rfl (hI.wf.s rfl) rfl rfl ((by rw [e5]; exact x_up2_off (Or.inl (by decide)) : g5 69 55 = g4 69 55).trans ((by rw [e4]; exact x_up2_off (Or.inl (by decide)) : g4 69 55 = g2 69 55).trans ((by rw [e2]; exact x_up2_off (Or.inl (by decide)) : g2 69 55 = gi 69 55).trans rfl))) rfl ?_
  refine ev_ic f_X12_acts (nx := 36) (v := 1) rfl (by decide) rfl ?_
  refine ev_addC f_X12_acts (nx := 37) (c := 1) (l := 1) (u := 100) rfl (by decide) l1 u3 rfl rfl (by decide) (by decide) rfl (fun z6 e6 l6 u6 => ?_)
  refine ev_putIT f_X12_acts (nx := 40) rfl (hI.wf.s rfl) rfl rfl rfl (hI.putB (hI.wf.s rfl) rfl rfl l6 (by decide) u6 (by decide)) (hX.upI rfl) (fun g7 e7 hI hX => ?_)
  exact ev_ret f_X12_acts rfl rfl rfl ⟨_, _, _, rfl, hI, hX, ⟨rfl, (show t_wh (g7 69 55).toInt (g7 93) (g7 95) ∧ (g7 69 55).toInt = (gi 69 55).toInt + 1 from (by have ff8 : (g7 69 55).toInt = z6.toInt := congrArg Int32.toInt (by rw [e7]; exact x_up2_at _ _ _ _ : g7 69 55 = z6); have hn : (g7 69 55).toInt = (gi 69 55).toInt + 1 := (by omega); refine ⟨?_, hn⟩; rw [hn]; exact t_wh_s (k := (gi 69 55).toInt.toNat) e_p0 (by omega) (t_onec (c := 93) (g := gi) (p := (gi 69 55).toInt.toNat) rfl e2 ((by rw [e7]; exact x_up2_ne (by decide) : g7 93 = g5 93).trans ((by rw [e5]; exact x_up2_ne (by decide) : g5 93 = g4 93).trans ((by rw [e4]; exact x_up2_ne (by decide) : g4 93 = g2 93)))) (by have hc := t_clamp (i := (gi 69 55)) (by omega); omega)) (t_onec (c := 95) (g := gi) (p := (gi 69 55).toInt.toNat) ((by rw [e4]; exact x_up2_ne (by decide) : g4 95 = g2 95).trans ((by rw [e2]; exact x_up2_ne (by decide) : g2 95 = gi 95))) e5 ((by rw [e7]; exact x_up2_ne (by decide) : g7 95 = g5 95)) (by have hc := t_clamp (i := (gi 69 55)) (by omega); omega)) e_p2))⟩⟩
noncomputable def wl_m_plans : List (Nat × Nat) := [(69, 44), (69, 45), (69, 48), (69, 55), (69, 57), (89, 10005), (89, 610011), (90, 9999), (91, 9999), (92, 9999), (93, 9999), (94, 9999), (95, 9999)]
noncomputable def Q_m_plans (gi : Nat → Nat → Int32) (gl : Nat → Nat → Int64) (gr : Nat → Nat → Value) : Int32 → (Nat → Nat → Int32) → (Nat → Nat → Int64) → (Nat → Nat → Value) → Prop := fun (v : Int32) (gi2 : Nat → Nat → Int32) (gl2 : Nat → Nat → Int64) (gr2 : Nat → Nat → Value) => (v.toInt = 1 → t_wh (gi2 69 55).toInt (gi2 93) (gi2 95))
theorem c_m_plans {X : x_Ext} {d : Nat} {sh : List (Nat ⊕ (Nat × Nat))} {gi : Nat → Nat → Int32} {gl : Nat → Nat → Int64} {gr : Nat → Nat → Value} (hI : t_I sh gi gr) (e_p0 : 1 ≤ (gi 70 4).toInt) : x_Me X (d + 6) n_X12_plans [.ref 69] (sh, gi, gl, gr) (t_PI wl_m_plans sh gi gl gr 0 1 (Q_m_plans gi gl gr)) := by
  have hX : t_X wl_m_plans sh gi gl gr gi gl gr := t_X.rf
  refine me_i f_X12_plans (hI.wf.s rfl) rfl rfl rfl ?_
  obtain ⟨l1, u1⟩ := hI.b (hI.wf.s (k := 69) rfl) (t_bdK rfl : t_bd 11 44 = some (0, 6))
  obtain ⟨l2, u2⟩ := hI.b (hI.wf.s (k := 69) rfl) (t_bdK rfl : t_bd 11 45 = some (0, 6))
  obtain ⟨l3, u3⟩ := hI.b (hI.wf.s (k := 69) rfl) (t_bdK rfl : t_bd 11 48 = some (0, 20))
  obtain ⟨l4, u4⟩ := hI.b (hI.wf.s (k := 69) rfl) (t_bdK rfl : t_bd 11 55 = some (0, 100))
  obtain ⟨l5, u5⟩ := hI.ab (by decide +kernel : t_abr 70 4 4 0 20 = true) (Nat.le_refl _) (Nat.le_refl _)
  refine ev_loc f_X12_plans (nx := 1) rfl rfl rfl rfl ?_
  refine ev_ic f_X12_plans (nx := 2) (v := 0) rfl (by decide) rfl ?_
  refine ev_loc f_X12_plans (nx := 3) rfl rfl rfl rfl ?_
  refine ev_getR f_X12_plans (nx := 6) rfl (hI.wf.s rfl) rfl rfl (hI.wf.r rfl) rfl rfl ?_
  refine ev_ic f_X12_plans (nx := 7) (v := 4) rfl (by decide) rfl ?_
  refine ev_ialdv f_X12_plans (nx := 8) (w := (gi 70 4)) rfl (hI.wf.s rfl) (by decide) (rfl : (4 : Int32).toNatClampNeg = 4) (by decide) rfl rfl ?_
  refine ev_qI f_X12_plans (nx := 11) (r := []) rfl rfl rfl rfl rfl rfl rfl (c_m_leastBy hI (0) ((gi 70 4)) l5 u5 (by omega)) rfl hX rfl (fun w7 gi7 gl7 gr7 l7 u7 hI hX hC7 q7 => ?_)
  have q7 : (t_pr gi7 (gi7 92) (gi7 69 48).toInt 23618 ∧ t_rk w7.toInt (t_la (gi7 92) (t_S gi7) (t_C gi7) 0 0 0 0)) ∧ (∀ j : Nat, j < 12 → 0 ≤ (gi7 89 j).toInt ∧ (gi7 89 j).toInt ≤ 300) ∧ (gi7 69 48).toInt = (gi 70 4).toInt := q7
  obtain ⟨l8, u8⟩ := hI.b (hI.wf.s (k := 69) rfl) (t_bdK rfl : t_bd 11 44 = some (0, 6))
  obtain ⟨l9, u9⟩ := hI.b (hI.wf.s (k := 69) rfl) (t_bdK rfl : t_bd 11 45 = some (0, 6))
  obtain ⟨l10, u10⟩ := hI.b (hI.wf.s (k := 69) rfl) (t_bdK rfl : t_bd 11 48 = some (0, 20))
  refine ev_ic f_X12_plans (nx := 12) (v := -1) rfl (by decide) rfl ?_
  refine ev_if f_X12_plans (t1 := 15) (t2 := 17) rfl rfl rfl (fun h11 => ?_) (fun h11 => ?_)
  · have u12 : w7.toInt ≤ (-1) := t_equ h11 (by decide : ((-1):Int32).toInt ≤ ((-1):Int))
    have l13 : (-1) ≤ w7.toInt := t_eql h11 (by decide : ((-1):Int) ≤ ((-1):Int32).toInt)
    refine ev_ic f_X12_plans (nx := 16) (v := 0) rfl (by decide) rfl ?_
    exact ev_ret f_X12_plans rfl rfl rfl ⟨_, _, _, rfl, hI, hX, ⟨_, rfl, (by decide : (0:Int) ≤ (0:Int32).toInt), (Int.le_trans (by decide : (0:Int32).toInt ≤ (0:Int)) (by decide : (0:Int) ≤ 1)), (show (0 = 1 → t_wh (gi7 69 55).toInt (gi7 93) (gi7 95)) from (fun h => absurd h (by decide)))⟩⟩
  · have r14 : w7.toInt ≠ (-1) := fun e => h11 (Int32.toInt_inj.mp (e.trans (by decide : ((-1):Int) = ((-1) : Int32).toInt)))
    refine ev_loc f_X12_plans (nx := 18) rfl rfl rfl rfl ?_
    refine ev_ic f_X12_plans (nx := 19) (v := 0) rfl (by decide) rfl ?_
    refine ev_putIT f_X12_plans (nx := 22) rfl (hI.wf.s rfl) rfl rfl rfl (hI.putB (hI.wf.s rfl) rfl rfl (by decide : (0:Int) ≤ (0:Int32).toInt) (by decide) (by decide : (0:Int32).toInt ≤ (0:Int)) (by decide)) (hX.upI rfl) (fun g15 e15 hI hX => ?_)
    refine ev_loc f_X12_plans (nx := 23) rfl rfl rfl rfl ?_
    refine ev_ic f_X12_plans (nx := 24) (v := 0) rfl (by decide) rfl ?_
    refine ev_putIT f_X12_plans (nx := 27) rfl (hI.wf.s rfl) rfl rfl rfl (hI.put0 (hI.wf.s rfl) rfl rfl) (hX.upI rfl) (fun g16 e16 hI hX => ?_)
    refine ev_ic f_X12_plans (nx := 28) (v := 0) rfl (by decide) rfl ?_
    refine ev_loc f_X12_plans (nx := 29) (lo' := [(1, .int 0), (0, .ref 69)]) rfl rfl rfl rfl ?_
    refine ev_ic f_X12_plans (nx := 30) (v := 0) rfl (by decide) rfl ?_
    refine ev_loc f_X12_plans (nx := 31) (lo' := [(2, .int 0), (1, .int 0), (0, .ref 69)]) rfl rfl rfl rfl ?_
    refine ev_ic f_X12_plans (nx := 32) (v := 0) rfl (by decide) rfl ?_
    refine ev_loc f_X12_plans (nx := 33) (lo' := [(3, .int 0), (2, .int 0), (1, .int 0), (0, .ref 69)]) rfl rfl rfl rfl ?_
    refine ev_ic f_X12_plans (nx := 34) (v := 0) rfl (by decide) rfl ?_
    refine ev_loc f_X12_plans (nx := 36) (lo' := [(4, .int 0), (3, .int 0), (2, .int 0), (1, .int 0), (0, .ref 69)]) rfl rfl rfl rfl ?_
    have L17 : ∀ (m17 : Nat) (gi17 : Nat → Nat → Int32) (gl17 : Nat → Nat → Int64) (gr17 : Nat → Nat → Value) (y17_4 : Int32) (y17_3 : Int32) (y17_2 : Int32) (y17_1 : Int32), t_I sh gi17 gr17 → t_X wl_m_plans sh gi gl gr gi17 gl17 gr17 → 0 ≤ y17_4.toInt → y17_4.toInt ≤ 6 → 0 ≤ y17_3.toInt → y17_3.toInt ≤ 6 → 0 ≤ y17_2.toInt → y17_2.toInt ≤ 1 → 0 ≤ y17_1.toInt → y17_1.toInt ≤ 280 → gi17 69 44 = (gi7 69 44) → gi17 69 45 = (gi7 69 45) → gi17 69 48 = (gi7 69 48) → gi17 69 57 = 0 → gi17 70 4 = (gi 70 4) → t_pla gi17 y17_1 y17_2 y17_3 y17_4 → (1000 * (12 - y17_3.toInt - y17_4.toInt) + (300 - y17_1.toInt)).toNat = m17 → x_Ev X (d + 6) n_X12_plans 36 [(4, .int y17_4), (3, .int y17_3), (2, .int y17_2), (1, .int y17_1), (0, .ref 69)] [] (sh, gi17, gl17, gr17) (t_PI wl_m_plans sh gi gl gr 0 1 (Q_m_plans gi gl gr)) := by
      intro m17
      induction m17 using Nat.strongRecOn with
      | _ m17 ih17 =>
      intro gi17 gl17 gr17 y17_4 y17_3 y17_2 y17_1 hI hX l17_4 u17_4 l17_3 u17_3 l17_2 u17_2 l17_1 u17_1 c17_0 c17_1 c17_2 c17_3 c17_4 j17_0 hm17
      obtain ⟨l18, u18⟩ := hI.b (hI.wf.s (k := 69) rfl) (t_bdK rfl : t_bd 11 55 = some (0, 100))
      refine ev_loc f_X12_plans (nx := 37) rfl rfl rfl rfl ?_
      refine ev_loc f_X12_plans (nx := 38) rfl rfl rfl rfl ?_
      refine ev_gvI f_X12_plans (nx := 41) (w := (gi7 69 44)) rfl (hI.wf.s rfl) rfl rfl c17_0 rfl ?_
      refine ev_if f_X12_plans (t1 := 53) (t2 := 44) rfl rfl rfl (fun h19 => ?_) (fun h19 => ?_)
      · have r20 : y17_3.toInt < (gi7 69 44).toInt := Int32.lt_iff_toInt_lt.mp h19
        have u21 : y17_3.toInt ≤ 5 := t_ltu h19 u8 rfl
        have l22 : 1 ≤ (gi7 69 44).toInt := t_ltl h19 l17_3 rfl
        refine ev_loc f_X12_plans (nx := 54) rfl rfl rfl rfl ?_
        refine ev_loc f_X12_plans (nx := 55) rfl rfl rfl rfl ?_
        refine ev_loc f_X12_plans (nx := 56) rfl rfl rfl rfl ?_
        refine ev_loc f_X12_plans (nx := 57) rfl rfl rfl rfl ?_
        refine ev_loc f_X12_plans (nx := 59) rfl rfl rfl rfl ?_
        have u23 : y17_1.toInt ≤ (240:Int) := (by have hh := t_pla_m j17_0 (by omega) (by omega) (by have ff24 : (gi17 69 44).toInt = (gi7 69 44).toInt := congrArg Int32.toInt c17_0; have ff25 : (gi17 69 45).toInt = (gi7 69 45).toInt := congrArg Int32.toInt c17_1; omega); omega)
        refine ev_qI0 f_X12_plans (nx := 62) (r := []) rfl rfl rfl rfl rfl rfl rfl (c_m_leftAt hI (y17_1) l17_1 (Int.le_trans u23 (by decide : (240:Int) ≤ 300)) (y17_2) l17_2 u17_2 (y17_3) l17_3 (Int.le_trans u21 (by decide : (5:Int) ≤ 6)) (y17_4) l17_4 u17_4) rfl (fun w26 l26 u26 q26 => ?_)
        have q26 : w26.toInt = t_la (gi17 92) (t_S gi17) (t_C gi17) y17_1.toInt.toNat y17_2.toInt.toNat y17_3.toInt.toNat y17_4.toInt.toNat := q26
        refine ev_loc f_X12_plans (nx := 64) (lo' := [(5, .int w26), (4, .int y17_4), (3, .int y17_3), (2, .int y17_2), (1, .int y17_1), (0, .ref 69)]) rfl rfl rfl rfl ?_
        refine ev_loc f_X12_plans (nx := 65) rfl rfl rfl rfl ?_
        refine ev_loc f_X12_plans (nx := 66) rfl rfl rfl rfl ?_
        refine ev_loc f_X12_plans (nx := 67) rfl rfl rfl rfl ?_
        refine ev_loc f_X12_plans (nx := 68) rfl rfl rfl rfl ?_
        refine ev_qI0 f_X12_plans (nx := 71) (r := []) rfl rfl rfl rfl rfl rfl rfl (c_m_mayShip hI (y17_1) l17_1 u23 (y17_2) l17_2 u17_2 (y17_3) l17_3 (Int.le_trans u21 (by decide : (5:Int) ≤ 6)) (j17_0.2.2.2.2.1)) rfl (fun w27 l27 u27 q27 => ?_)
        have q27 : (w27.toInt = 1 ↔ t_mayS gi17 y17_1.toInt.toNat y17_2.toInt.toNat y17_3.toInt.toNat) := q27
        refine ev_if f_X12_plans (t1 := 119) (t2 := 74) rfl rfl rfl (fun h28 => ?_) (fun h28 => ?_)
        · have u29 : w27.toInt ≤ 0 := t_equ h28 (by decide : (0:Int32).toInt ≤ (0:Int))
          refine ev_loc f_X12_plans (nx := 120) rfl rfl rfl rfl ?_
          refine ev_loc f_X12_plans (nx := 121) rfl rfl rfl rfl ?_
          refine ev_loc f_X12_plans (nx := 122) rfl rfl rfl rfl ?_
          refine ev_loc f_X12_plans (nx := 124) rfl rfl rfl rfl ?_
          refine ev_qI0 f_X12_plans (nx := 127) (r := []) rfl rfl rfl rfl rfl rfl rfl (c_m_mayCart hI (y17_1) l17_1 u23 (y17_2) l17_2 u17_2 (y17_4) l17_4 u17_4) rfl (fun w30 l30 u30 q30 => ?_)
          have q30 : (w30.toInt = 1 ↔ t_mayC gi17 y17_1.toInt.toNat y17_2.toInt.toNat y17_4.toInt.toNat) := q30
          refine ev_if f_X12_plans (t1 := 177) (t2 := 130) rfl rfl rfl (fun h31 => ?_) (fun h31 => ?_)
          · have u32 : w30.toInt ≤ 0 := t_equ h31 (by decide : (0:Int32).toInt ≤ (0:Int))
            refine ev_loc f_X12_plans (nx := 178) rfl rfl rfl rfl ?_
            refine ev_loc f_X12_plans (nx := 179) rfl rfl rfl rfl ?_
            refine ev_ic f_X12_plans (nx := 180) (v := 1) rfl (by decide) rfl ?_
            refine ev_addC f_X12_plans (nx := 181) (c := 1) (l := 1) (u := 241) rfl (by decide) l17_1 u23 rfl rfl (by decide) (by decide) rfl (fun z33 e33 l33 u33 => ?_)
            refine ev_loc f_X12_plans (nx := 182) rfl rfl rfl rfl ?_
            refine ev_loc f_X12_plans (nx := 183) rfl rfl rfl rfl ?_
            refine ev_loc f_X12_plans (nx := 185) rfl rfl rfl rfl ?_
            refine ev_qI0 f_X12_plans (nx := 188) (r := []) rfl rfl rfl rfl rfl rfl rfl (c_m_leftAt hI (z33) (Int.le_trans (by decide : (0:Int) ≤ 1) l33) (Int.le_trans u33 (by decide : (241:Int) ≤ 300)) (y17_2) l17_2 u17_2 (y17_3) l17_3 (Int.le_trans u21 (by decide : (5:Int) ≤ 6)) (y17_4) l17_4 u17_4) rfl (fun w34 l34 u34 q34 => ?_)
            have q34 : w34.toInt = t_la (gi17 92) (t_S gi17) (t_C gi17) z33.toInt.toNat y17_2.toInt.toNat y17_3.toInt.toNat y17_4.toInt.toNat := q34
            refine ev_loc f_X12_plans (nx := 190) rfl rfl rfl rfl ?_
            refine ev_if f_X12_plans (t1 := 193) (t2 := 199) rfl rfl rfl (fun h35 => ?_) (fun h35 => ?_)
            · have r36 : w34.toInt = w26.toInt := t_eqi h35
              refine ev_incR f_X12_plans (nx := 196) (c := 1) (l := 1) (u := 241) rfl rfl (by decide) (by decide) l17_1 u23 rfl rfl (by decide) (by decide) rfl (fun z37 e37 l37 u37 => ?_)
              refine ev_jmp f_X12_plans (nx := 222) rfl rfl rfl ?_
              refine ev_jmp f_X12_plans (nx := 36) rfl rfl rfl ?_
              refine ev_sub (lo := [(4, .int y17_4), (3, .int y17_3), (2, .int y17_2), (1, .int z37), (0, .ref 69)]) rfl (t_sc rfl (t_sc rfl (t_sc rfl (t_sc rfl (t_sc rfl t_sn))))) ?_
              exact ih17 _ (by omega) gi17 gl17 gr17 (y17_4) (y17_3) (y17_2) (z37) hI hX  l17_4 u17_4 l17_3 (Int.le_trans u21 (by decide : (5:Int) ≤ 6)) l17_2 u17_2 (Int.le_trans (by decide : (0:Int) ≤ 1) l37) (Int.le_trans u37 (by decide : (241:Int) ≤ 280)) c17_0 c17_1 c17_2 c17_3 c17_4 (t_pla_rest j17_0 (by omega) (by have h1 := q34; have h2 := q26; rw [show z33.toInt.toNat = y17_1.toInt.toNat + 1 by omega] at h1; omega) (by omega)) rfl
            · have r38 : w34.toInt ≠ w26.toInt := t_nei h35
              refine ev_loc f_X12_plans (nx := 200) rfl rfl rfl rfl ?_
              refine ev_ic f_X12_plans (nx := 201) (v := 2) rfl (by decide) rfl ?_
              refine ev_loc f_X12_plans (nx := 202) rfl rfl rfl rfl ?_
              refine ev_ic f_X12_plans (nx := 203) (v := -1) rfl (by decide) rfl ?_
              refine ev_qN f_X12_plans (nx := 206) (r := []) rfl rfl rfl rfl rfl rfl rfl (c_m_acts hI (2) (Int.le_trans (by decide : (0:Int) ≤ 2) (by decide : (2:Int) ≤ (2:Int32).toInt)) (by decide : (2:Int32).toInt ≤ (2:Int)) (y17_1) ((-1)) (by decide : ((-1):Int) ≤ ((-1):Int32).toInt) (Int.le_trans (by decide : ((-1):Int32).toInt ≤ ((-1):Int)) (by decide : ((-1):Int) ≤ 5)) (j17_0.2.2.2.1) (by have hn := t_pla_n j17_0 (by omega) (by omega) (hI.b (hI.wf.s (k := 69) rfl) (t_bdK rfl : t_bd 11 44 = some (0, 6))).2 (hI.b (hI.wf.s (k := 69) rfl) (t_bdK rfl : t_bd 11 45 = some (0, 6))).2; omega) (by have kf40 : ((-1) : Int32).toInt = (-1) := (by decide); have kf41 : (2 : Int32).toInt = 2 := (by decide); omega)) rfl hX rfl (fun gi39 gl39 gr39 hI hX hC39 q39 => ?_)
              have q39 : t_wh (gi39 69 55).toInt (gi39 93) (gi39 95) ∧ (gi39 69 55).toInt = (gi17 69 55).toInt + 1 := q39
              obtain ⟨l42, u42⟩ := hI.b (hI.wf.s (k := 69) rfl) (t_bdK rfl : t_bd 11 55 = some (0, 100))
              refine ev_loc f_X12_plans (nx := 207) rfl rfl rfl rfl ?_
              refine ev_loc f_X12_plans (nx := 208) rfl rfl rfl rfl ?_
              refine ev_loc f_X12_plans (nx := 209) rfl rfl rfl rfl ?_
              refine ev_loc f_X12_plans (nx := 210) rfl rfl rfl rfl ?_
              refine ev_gvI f_X12_plans (nx := 213) (w := (gi7 69 48)) rfl (hI.wf.s rfl) rfl rfl ((hC39.1 69 48 rfl).1.trans c17_2) rfl ?_
              have l43 : (1:Int) ≤ (gi7 69 48).toInt := (by have h := j17_0.2.2.2.2.2.2.2; rw [c17_2] at h; exact h)
              refine ev_qI0 f_X12_plans (nx := 216) (r := [.int y17_1]) rfl rfl rfl rfl rfl rfl rfl (c_m_turnTime hI (y17_1) l17_1 (Int.le_trans u23 (by decide : (240:Int) ≤ 300)) ((gi7 69 48)) l43 u10) rfl (fun w44 l44 u44 q44 => ?_)
              have q44 : w44.toInt = ((t_tt gi39 (gi7 69 48).toInt y17_1.toInt.toNat : Nat) : Int) := q44
              refine ev_addR f_X12_plans (nx := 217) (l := 1) (u := 280) rfl l17_1 u23 l44 u44 rfl rfl (by decide) (by decide) rfl (fun z45 e45 l45 u45 => ?_)
              refine ev_loc f_X12_plans (nx := 218) (lo' := [(1, .int z45), (5, .int w26), (4, .int y17_4), (3, .int y17_3), (2, .int y17_2), (0, .ref 69)]) rfl rfl rfl rfl ?_
              refine ev_ic f_X12_plans (nx := 219) (v := 1) rfl (by decide) rfl ?_
              refine ev_loc f_X12_plans (nx := 220) rfl rfl rfl rfl ?_
              refine ev_subK f_X12_plans (nx := 221) (c := 1) (l := 0) (u := 1) rfl (by decide) l17_2 u17_2 rfl rfl (by decide) (by decide) rfl (fun z46 e46 l46 u46 => ?_)
              refine ev_loc f_X12_plans (nx := 222) (lo' := [(2, .int z46), (1, .int z45), (5, .int w26), (4, .int y17_4), (3, .int y17_3), (0, .ref 69)]) rfl rfl rfl rfl ?_
              refine ev_jmp f_X12_plans (nx := 36) rfl rfl rfl ?_
              refine ev_sub (lo := [(4, .int y17_4), (3, .int y17_3), (2, .int z46), (1, .int z45), (0, .ref 69)]) rfl (t_sc rfl (t_sc rfl (t_sc rfl (t_sc rfl (t_sc rfl t_sn))))) ?_
              exact ih17 _ (by omega) gi39 gl39 gr39 (y17_4) (y17_3) (z46) (z45) hI hX  l17_4 u17_4 l17_3 (Int.le_trans u21 (by decide : (5:Int) ≤ 6)) l46 u46 (Int.le_trans (by decide : (0:Int) ≤ 1) l45) u45 ((hC39.1 69 44 rfl).1.trans c17_0) ((hC39.1 69 45 rfl).1.trans c17_1) ((hC39.1 69 48 rfl).1.trans c17_2) ((hC39.1 69 57 rfl).1.trans c17_3) ((hC39.1 70 4 rfl).1.trans c17_4) (by have hsp := (⟨(hC39.1 69 44 rfl).1, (hC39.1 69 45 rfl).1, (hC39.1 69 48 rfl).1, funext (fun j => (hC39.1 70 j rfl).1), funext (fun j => (hC39.1 89 j rfl).1), funext (fun j => (hC39.1 90 j rfl).1), funext (fun j => (hC39.1 91 j rfl).1)⟩ : t_sp gi17 gi39); have e1 := congrArg Int32.toInt hsp.1; have e2 := congrArg Int32.toInt hsp.2.1; have ff47 : (gi39 69 44).toInt = (gi7 69 44).toInt := congrArg Int32.toInt ((hC39.1 69 44 rfl).1.trans c17_0); have ff48 : (gi39 69 45).toInt = (gi7 69 45).toInt := congrArg Int32.toInt ((hC39.1 69 45 rfl).1.trans c17_1); have hb1 := hI.b (hI.wf.s (k := 69) rfl) (t_bdK rfl : t_bd 11 44 = some (0, 6)); have hb2 := hI.b (hI.wf.s (k := 69) rfl) (t_bdK rfl : t_bd 11 45 = some (0, 6)); exact t_pla_turn (w := w44) j17_0 (by omega) (by omega) (by omega) (by omega) (by omega) (by omega) (by omega) (by omega) (by omega) (fun h => absurd (q27.mpr h) (by omega)) (fun h => absurd (q30.mpr h) (by omega)) (by have h1 := q34; have h2 := q26; rw [show z33.toInt.toNat = y17_1.toInt.toNat + 1 by omega] at h1; omega) (by rw [← t_tt_sp hsp, congrArg Int32.toInt c17_2]; exact q44) (by omega) (by omega) hsp (funext (fun j => (hC39.1 92 j rfl).1)) q39.2 q39.1) rfl
          · have r49 : w30.toInt ≠ 0 := fun e => h31 (Int32.toInt_inj.mp (e.trans (by decide : (0:Int) = (0 : Int32).toInt)))
            have l50 : 1 ≤ w30.toInt := t_nel h31 l30 rfl rfl
            refine ev_loc f_X12_plans (nx := 131) rfl rfl rfl rfl ?_
            refine ev_loc f_X12_plans (nx := 132) rfl rfl rfl rfl ?_
            refine ev_loc f_X12_plans (nx := 133) rfl rfl rfl rfl ?_
            refine ev_loc f_X12_plans (nx := 135) rfl rfl rfl rfl ?_
            have u51 : y17_4.toInt ≤ (5:Int) := (by have ff52 : (gi17 69 45).toInt = (gi7 69 45).toInt := congrArg Int32.toInt c17_1; have hm := q30.mp (by omega); unfold t_mayC t_C at hm; omega)
            refine ev_qI0 f_X12_plans (nx := 138) (r := []) rfl rfl rfl rfl rfl rfl rfl (c_m_byCart hI (y17_1) l17_1 u23 (y17_3) l17_3 (Int.le_trans u21 (by decide : (5:Int) ≤ 6)) (y17_4) l17_4 u51 (j17_0.2.2.2.2.2.2.1) (by have hm := q30.mp (by omega); unfold t_mayC at hm; omega) (by have hm := q30.mp (by omega); unfold t_mayC at hm; have h1 := j17_0.2.2.2.2.1; have h2 := j17_0.2.2.2.2.2.1; exact t_pla_la j17_0 (by omega) (by first | omega | (unfold t_S; omega)) (by first | omega | (unfold t_C; omega)))) rfl (fun w53 l53 u53 q53 => ?_)
            have q53 : w53.toInt = t_byc gi17 (gi17 92) y17_1.toInt.toNat y17_3.toInt.toNat y17_4.toInt.toNat := q53
            refine ev_loc f_X12_plans (nx := 140) rfl rfl rfl rfl ?_
            refine ev_if f_X12_plans (t1 := 143) (t2 := 177) rfl rfl rfl (fun h54 => ?_) (fun h54 => ?_)
            · have r55 : w53.toInt = w26.toInt := t_eqi h54
              have u56 : w26.toInt ≤ 1000023760 := t_equ (Eq.symm h54) u53
              have l57 : 0 ≤ w26.toInt := t_eql (Eq.symm h54) l53
              refine ev_loc f_X12_plans (nx := 144) rfl rfl rfl rfl ?_
              refine ev_ic f_X12_plans (nx := 145) (v := 1) rfl (by decide) rfl ?_
              refine ev_loc f_X12_plans (nx := 146) rfl rfl rfl rfl ?_
              refine ev_loc f_X12_plans (nx := 147) rfl rfl rfl rfl ?_
              refine ev_getR f_X12_plans (nx := 150) rfl (hI.wf.s rfl) rfl rfl (hI.wf.r rfl) rfl rfl ?_
              refine ev_loc f_X12_plans (nx := 152) rfl rfl rfl rfl ?_
              refine ev_ialdT f_X12_plans (nx := 153) rfl (hI.wf.s rfl) l17_4 (by decide) u51 (by decide) rfl (fun w58 e58 => ?_)
              obtain ⟨l58, u58⟩ := hI.abi e58 (by decide +kernel : t_abr 91 0 5 0 5 = true) l17_4 (by decide) u51 (by decide)
              refine ev_qN f_X12_plans (nx := 156) (r := []) rfl rfl rfl rfl rfl rfl rfl (c_m_acts hI (1) (Int.le_trans (by decide : (0:Int) ≤ 1) (by decide : (1:Int) ≤ (1:Int32).toInt)) (Int.le_trans (by decide : (1:Int32).toInt ≤ (1:Int)) (by decide : (1:Int) ≤ 2)) (y17_1) (w58) (Int.le_trans (by decide : ((-1):Int) ≤ 0) l58) u58 (j17_0.2.2.2.1) (by have hn := t_pla_n j17_0 (by omega) (by omega) (hI.b (hI.wf.s (k := 69) rfl) (t_bdK rfl : t_bd 11 44 = some (0, 6))).2 (hI.b (hI.wf.s (k := 69) rfl) (t_bdK rfl : t_bd 11 45 = some (0, 6))).2; omega) (by have kf60 : (1 : Int32).toInt = 1 := (by decide); omega)) rfl hX rfl (fun gi59 gl59 gr59 hI hX hC59 q59 => ?_)
              have q59 : t_wh (gi59 69 55).toInt (gi59 93) (gi59 95) ∧ (gi59 69 55).toInt = (gi17 69 55).toInt + 1 := q59
              obtain ⟨l61, u61⟩ := hI.b (hI.wf.s (k := 69) rfl) (t_bdK rfl : t_bd 11 55 = some (0, 100))
              refine ev_loc f_X12_plans (nx := 157) rfl rfl rfl rfl ?_
              refine ev_loc f_X12_plans (nx := 158) rfl rfl rfl rfl ?_
              refine ev_loc f_X12_plans (nx := 159) rfl rfl rfl rfl ?_
              refine ev_getR f_X12_plans (nx := 162) rfl (hI.wf.s rfl) rfl rfl (hI.wf.r rfl) rfl rfl ?_
              refine ev_loc f_X12_plans (nx := 164) rfl rfl rfl rfl ?_
              refine ev_ialdT f_X12_plans (nx := 165) rfl (hI.wf.s rfl) l17_4 (by decide) u51 (by decide) rfl (fun w62 e62 => ?_)
              rw [e62.trans ((hC59.1 91 y17_4.toNatClampNeg rfl).1.trans e58.symm)]
              refine ev_ic f_X12_plans (nx := 166) (v := 1) rfl (by decide) rfl ?_
              refine ev_inV3 f_X12_plans (nx := 169) (lo2 := [(0, .ref 69), (1, .int w58), (2, .int 1)]) rfl rfl rfl rfl f_X12_ofCart (hI.wf.s rfl) rfl rfl rfl rfl rfl ?_
              refine ev_loc f_X12_ofCart (nx := 1) rfl rfl rfl rfl ?_
              refine ev_getR f_X12_ofCart (nx := 4) rfl (hI.wf.s rfl) rfl rfl (hI.wf.r rfl) rfl rfl ?_
              refine ev_bp f_X12_ofCart (nx := 6) (v := 82) rfl (by decide) rfl ?_
              refine ev_ic f_X12_ofCart (nx := 7) (v := 3) rfl (by decide) rfl ?_
              refine ev_loc f_X12_ofCart (nx := 8) rfl rfl rfl rfl ?_
              refine ev_mulL f_X12_ofCart (nx := 9) (c := 3) (l := 0) (u := 15) rfl (by decide) (by decide) l58 u58 rfl rfl (by decide) (by decide) rfl (fun z63 e63 l63 u63 => ?_)
              refine ev_addK f_X12_ofCart (nx := 10) (c := 82) (l := 82) (u := 97) rfl (by decide) l63 u63 rfl rfl (by decide) (by decide) rfl (fun z64 e64 l64 u64 => ?_)
              refine ev_loc f_X12_ofCart (nx := 11) rfl rfl rfl rfl ?_
              refine ev_addC f_X12_ofCart (nx := 12) (c := 1) (l := 83) (u := 98) rfl (by decide) l64 u64 rfl rfl (by decide) (by decide) rfl (fun z65 e65 l65 u65 => ?_)
              refine ev_ialdT f_X12_ofCart (nx := 13) rfl (hI.wf.s rfl) l65 (by decide) u65 (by decide) rfl (fun w66 e66 => ?_)
              obtain ⟨l66, u66⟩ := hI.abA (x := w58) e66 (by decide +kernel : t_aba 70 83 3 0 5 0 20 = true) (by omega) (by omega) (by omega)
              refine ev_retK1 f_X12_ofCart rfl rfl rfl ?_
              refine ev_addR f_X12_plans (nx := 170) (l := 0) (u := 260) rfl l17_1 u23 l66 u66 rfl rfl (by decide) (by decide) rfl (fun z67 e67 l67 u67 => ?_)
              refine ev_loc f_X12_plans (nx := 171) (lo' := [(1, .int z67), (5, .int w26), (4, .int y17_4), (3, .int y17_3), (2, .int y17_2), (0, .ref 69)]) rfl rfl rfl rfl ?_
              refine ev_incR f_X12_plans (nx := 174) (c := 1) (l := 1) (u := 6) rfl rfl (by decide) (by decide) l17_4 u51 rfl rfl (by decide) (by decide) rfl (fun z68 e68 l68 u68 => ?_)
              refine ev_jmp f_X12_plans (nx := 222) rfl rfl rfl ?_
              refine ev_jmp f_X12_plans (nx := 36) rfl rfl rfl ?_
              refine ev_sub (lo := [(4, .int z68), (3, .int y17_3), (2, .int y17_2), (1, .int z67), (0, .ref 69)]) rfl (t_sc rfl (t_sc rfl (t_sc rfl (t_sc rfl (t_sc rfl t_sn))))) ?_
              exact ih17 _ (by omega) gi59 gl59 gr59 (z68) (y17_3) (y17_2) (z67) hI hX  (Int.le_trans (by decide : (0:Int) ≤ 1) l68) u68 l17_3 (Int.le_trans u21 (by decide : (5:Int) ≤ 6)) l17_2 u17_2 l67 (Int.le_trans u67 (by decide : (260:Int) ≤ 280)) ((hC59.1 69 44 rfl).1.trans c17_0) ((hC59.1 69 45 rfl).1.trans c17_1) ((hC59.1 69 48 rfl).1.trans c17_2) ((hC59.1 69 57 rfl).1.trans c17_3) ((hC59.1 70 4 rfl).1.trans c17_4) (by have hsp := (⟨(hC59.1 69 44 rfl).1, (hC59.1 69 45 rfl).1, (hC59.1 69 48 rfl).1, funext (fun j => (hC59.1 70 j rfl).1), funext (fun j => (hC59.1 89 j rfl).1), funext (fun j => (hC59.1 90 j rfl).1), funext (fun j => (hC59.1 91 j rfl).1)⟩ : t_sp gi17 gi59); have htk : t_ct gi59 y17_4.toInt.toNat = w66.toInt.toNat := (by unfold t_ct; rw [t_of_eq (p := gi59) (a := 83) (b := 3) t_sp.rf (t_ci_eq t_sp.rf (i := y17_4) (((hC59.1 91 y17_4.toNatClampNeg rfl).1.trans e58.symm)).symm (by omega)) (e66.symm).symm (by omega) (by omega)]); exact t_pla_cart (w := w66) j17_0 (by omega) (by omega) (by omega) (q30.mp (by omega)) (by have h1 := q53; have h2 := q26; omega) (by rw [← t_ct_sp hsp]; exact htk) (by omega) (by omega) (by omega) (by rw [← t_cc_sp hsp]; exact t_cc0 hI (by omega)) hsp (funext (fun j => (hC59.1 92 j rfl).1)) q59.2 q59.1) rfl
            · have r69 : w53.toInt ≠ w26.toInt := t_nei h54
              refine ev_loc f_X12_plans (nx := 178) rfl rfl rfl rfl ?_
              refine ev_loc f_X12_plans (nx := 179) rfl rfl rfl rfl ?_
              refine ev_ic f_X12_plans (nx := 180) (v := 1) rfl (by decide) rfl ?_
              refine ev_addC f_X12_plans (nx := 181) (c := 1) (l := 1) (u := 241) rfl (by decide) l17_1 u23 rfl rfl (by decide) (by decide) rfl (fun z70 e70 l70 u70 => ?_)
              refine ev_loc f_X12_plans (nx := 182) rfl rfl rfl rfl ?_
              refine ev_loc f_X12_plans (nx := 183) rfl rfl rfl rfl ?_
              refine ev_loc f_X12_plans (nx := 185) rfl rfl rfl rfl ?_
              refine ev_qI0 f_X12_plans (nx := 188) (r := []) rfl rfl rfl rfl rfl rfl rfl (c_m_leftAt hI (z70) (Int.le_trans (by decide : (0:Int) ≤ 1) l70) (Int.le_trans u70 (by decide : (241:Int) ≤ 300)) (y17_2) l17_2 u17_2 (y17_3) l17_3 (Int.le_trans u21 (by decide : (5:Int) ≤ 6)) (y17_4) l17_4 (Int.le_trans u51 (by decide : (5:Int) ≤ 6))) rfl (fun w71 l71 u71 q71 => ?_)
              have q71 : w71.toInt = t_la (gi17 92) (t_S gi17) (t_C gi17) z70.toInt.toNat y17_2.toInt.toNat y17_3.toInt.toNat y17_4.toInt.toNat := q71
              refine ev_loc f_X12_plans (nx := 190) rfl rfl rfl rfl ?_
              refine ev_if f_X12_plans (t1 := 193) (t2 := 199) rfl rfl rfl (fun h72 => ?_) (fun h72 => ?_)
              · have r73 : w71.toInt = w26.toInt := t_eqi h72
                refine ev_incR f_X12_plans (nx := 196) (c := 1) (l := 1) (u := 241) rfl rfl (by decide) (by decide) l17_1 u23 rfl rfl (by decide) (by decide) rfl (fun z74 e74 l74 u74 => ?_)
                refine ev_jmp f_X12_plans (nx := 222) rfl rfl rfl ?_
                refine ev_jmp f_X12_plans (nx := 36) rfl rfl rfl ?_
                refine ev_sub (lo := [(4, .int y17_4), (3, .int y17_3), (2, .int y17_2), (1, .int z74), (0, .ref 69)]) rfl (t_sc rfl (t_sc rfl (t_sc rfl (t_sc rfl (t_sc rfl t_sn))))) ?_
                exact ih17 _ (by omega) gi17 gl17 gr17 (y17_4) (y17_3) (y17_2) (z74) hI hX  l17_4 (Int.le_trans u51 (by decide : (5:Int) ≤ 6)) l17_3 (Int.le_trans u21 (by decide : (5:Int) ≤ 6)) l17_2 u17_2 (Int.le_trans (by decide : (0:Int) ≤ 1) l74) (Int.le_trans u74 (by decide : (241:Int) ≤ 280)) c17_0 c17_1 c17_2 c17_3 c17_4 (t_pla_rest j17_0 (by omega) (by have h1 := q71; have h2 := q26; rw [show z70.toInt.toNat = y17_1.toInt.toNat + 1 by omega] at h1; omega) (by omega)) rfl
              · have r75 : w71.toInt ≠ w26.toInt := t_nei h72
                refine ev_loc f_X12_plans (nx := 200) rfl rfl rfl rfl ?_
                refine ev_ic f_X12_plans (nx := 201) (v := 2) rfl (by decide) rfl ?_
                refine ev_loc f_X12_plans (nx := 202) rfl rfl rfl rfl ?_
                refine ev_ic f_X12_plans (nx := 203) (v := -1) rfl (by decide) rfl ?_
                refine ev_qN f_X12_plans (nx := 206) (r := []) rfl rfl rfl rfl rfl rfl rfl (c_m_acts hI (2) (Int.le_trans (by decide : (0:Int) ≤ 2) (by decide : (2:Int) ≤ (2:Int32).toInt)) (by decide : (2:Int32).toInt ≤ (2:Int)) (y17_1) ((-1)) (by decide : ((-1):Int) ≤ ((-1):Int32).toInt) (Int.le_trans (by decide : ((-1):Int32).toInt ≤ ((-1):Int)) (by decide : ((-1):Int) ≤ 5)) (j17_0.2.2.2.1) (by have hn := t_pla_n j17_0 (by omega) (by omega) (hI.b (hI.wf.s (k := 69) rfl) (t_bdK rfl : t_bd 11 44 = some (0, 6))).2 (hI.b (hI.wf.s (k := 69) rfl) (t_bdK rfl : t_bd 11 45 = some (0, 6))).2; omega) (by have kf77 : ((-1) : Int32).toInt = (-1) := (by decide); have kf78 : (2 : Int32).toInt = 2 := (by decide); omega)) rfl hX rfl (fun gi76 gl76 gr76 hI hX hC76 q76 => ?_)
                have q76 : t_wh (gi76 69 55).toInt (gi76 93) (gi76 95) ∧ (gi76 69 55).toInt = (gi17 69 55).toInt + 1 := q76
                obtain ⟨l79, u79⟩ := hI.b (hI.wf.s (k := 69) rfl) (t_bdK rfl : t_bd 11 55 = some (0, 100))
                refine ev_loc f_X12_plans (nx := 207) rfl rfl rfl rfl ?_
                refine ev_loc f_X12_plans (nx := 208) rfl rfl rfl rfl ?_
                refine ev_loc f_X12_plans (nx := 209) rfl rfl rfl rfl ?_
                refine ev_loc f_X12_plans (nx := 210) rfl rfl rfl rfl ?_
                refine ev_gvI f_X12_plans (nx := 213) (w := (gi7 69 48)) rfl (hI.wf.s rfl) rfl rfl ((hC76.1 69 48 rfl).1.trans c17_2) rfl ?_
                have l80 : (1:Int) ≤ (gi7 69 48).toInt := (by have h := j17_0.2.2.2.2.2.2.2; rw [c17_2] at h; exact h)
                refine ev_qI0 f_X12_plans (nx := 216) (r := [.int y17_1]) rfl rfl rfl rfl rfl rfl rfl (c_m_turnTime hI (y17_1) l17_1 (Int.le_trans u23 (by decide : (240:Int) ≤ 300)) ((gi7 69 48)) l80 u10) rfl (fun w81 l81 u81 q81 => ?_)
                have q81 : w81.toInt = ((t_tt gi76 (gi7 69 48).toInt y17_1.toInt.toNat : Nat) : Int) := q81
                refine ev_addR f_X12_plans (nx := 217) (l := 1) (u := 280) rfl l17_1 u23 l81 u81 rfl rfl (by decide) (by decide) rfl (fun z82 e82 l82 u82 => ?_)
                refine ev_loc f_X12_plans (nx := 218) (lo' := [(1, .int z82), (5, .int w26), (4, .int y17_4), (3, .int y17_3), (2, .int y17_2), (0, .ref 69)]) rfl rfl rfl rfl ?_
                refine ev_ic f_X12_plans (nx := 219) (v := 1) rfl (by decide) rfl ?_
                refine ev_loc f_X12_plans (nx := 220) rfl rfl rfl rfl ?_
                refine ev_subK f_X12_plans (nx := 221) (c := 1) (l := 0) (u := 1) rfl (by decide) l17_2 u17_2 rfl rfl (by decide) (by decide) rfl (fun z83 e83 l83 u83 => ?_)
                refine ev_loc f_X12_plans (nx := 222) (lo' := [(2, .int z83), (1, .int z82), (5, .int w26), (4, .int y17_4), (3, .int y17_3), (0, .ref 69)]) rfl rfl rfl rfl ?_
                refine ev_jmp f_X12_plans (nx := 36) rfl rfl rfl ?_
                refine ev_sub (lo := [(4, .int y17_4), (3, .int y17_3), (2, .int z83), (1, .int z82), (0, .ref 69)]) rfl (t_sc rfl (t_sc rfl (t_sc rfl (t_sc rfl (t_sc rfl t_sn))))) ?_
                exact ih17 _ (by omega) gi76 gl76 gr76 (y17_4) (y17_3) (z83) (z82) hI hX  l17_4 (Int.le_trans u51 (by decide : (5:Int) ≤ 6)) l17_3 (Int.le_trans u21 (by decide : (5:Int) ≤ 6)) l83 u83 (Int.le_trans (by decide : (0:Int) ≤ 1) l82) u82 ((hC76.1 69 44 rfl).1.trans c17_0) ((hC76.1 69 45 rfl).1.trans c17_1) ((hC76.1 69 48 rfl).1.trans c17_2) ((hC76.1 69 57 rfl).1.trans c17_3) ((hC76.1 70 4 rfl).1.trans c17_4) (by have hsp := (⟨(hC76.1 69 44 rfl).1, (hC76.1 69 45 rfl).1, (hC76.1 69 48 rfl).1, funext (fun j => (hC76.1 70 j rfl).1), funext (fun j => (hC76.1 89 j rfl).1), funext (fun j => (hC76.1 90 j rfl).1), funext (fun j => (hC76.1 91 j rfl).1)⟩ : t_sp gi17 gi76); have e1 := congrArg Int32.toInt hsp.1; have e2 := congrArg Int32.toInt hsp.2.1; have ff84 : (gi76 69 44).toInt = (gi7 69 44).toInt := congrArg Int32.toInt ((hC76.1 69 44 rfl).1.trans c17_0); have ff85 : (gi76 69 45).toInt = (gi7 69 45).toInt := congrArg Int32.toInt ((hC76.1 69 45 rfl).1.trans c17_1); have hb1 := hI.b (hI.wf.s (k := 69) rfl) (t_bdK rfl : t_bd 11 44 = some (0, 6)); have hb2 := hI.b (hI.wf.s (k := 69) rfl) (t_bdK rfl : t_bd 11 45 = some (0, 6)); exact t_pla_turn (w := w81) j17_0 (by omega) (by omega) (by omega) (by omega) (by omega) (by omega) (by omega) (by omega) (by omega) (fun h => absurd (q27.mpr h) (by omega)) (fun _ => by have h1 := q53; have h2 := q26; omega) (by have h1 := q71; have h2 := q26; rw [show z70.toInt.toNat = y17_1.toInt.toNat + 1 by omega] at h1; omega) (by rw [← t_tt_sp hsp, congrArg Int32.toInt c17_2]; exact q81) (by omega) (by omega) hsp (funext (fun j => (hC76.1 92 j rfl).1)) q76.2 q76.1) rfl
        · have r86 : w27.toInt ≠ 0 := fun e => h28 (Int32.toInt_inj.mp (e.trans (by decide : (0:Int) = (0 : Int32).toInt)))
          have l87 : 1 ≤ w27.toInt := t_nel h28 l27 rfl rfl
          refine ev_loc f_X12_plans (nx := 75) rfl rfl rfl rfl ?_
          refine ev_loc f_X12_plans (nx := 76) rfl rfl rfl rfl ?_
          refine ev_loc f_X12_plans (nx := 77) rfl rfl rfl rfl ?_
          refine ev_loc f_X12_plans (nx := 79) rfl rfl rfl rfl ?_
          refine ev_qI0 f_X12_plans (nx := 82) (r := []) rfl rfl rfl rfl rfl rfl rfl (c_m_byShip hI (y17_1) l17_1 u23 (y17_3) l17_3 u21 (y17_4) l17_4 u17_4 (j17_0.2.2.2.2.2.2.1) (by have hm := q27.mp (by omega); unfold t_mayS at hm; omega) (by have hm := q27.mp (by omega); unfold t_mayS at hm; have h1 := j17_0.2.2.2.2.1; have h2 := j17_0.2.2.2.2.2.1; exact t_pla_la j17_0 (by omega) (by first | omega | (unfold t_S; omega)) (by first | omega | (unfold t_C; omega)))) rfl (fun w88 l88 u88 q88 => ?_)
          have q88 : w88.toInt = t_bys gi17 (gi17 92) y17_1.toInt.toNat y17_3.toInt.toNat y17_4.toInt.toNat := q88
          refine ev_loc f_X12_plans (nx := 84) rfl rfl rfl rfl ?_
          refine ev_if f_X12_plans (t1 := 87) (t2 := 119) rfl rfl rfl (fun h89 => ?_) (fun h89 => ?_)
          · have r90 : w88.toInt = w26.toInt := t_eqi h89
            have u91 : w26.toInt ≤ 1000023760 := t_equ (Eq.symm h89) u88
            have l92 : 0 ≤ w26.toInt := t_eql (Eq.symm h89) l88
            refine ev_loc f_X12_plans (nx := 88) rfl rfl rfl rfl ?_
            refine ev_ic f_X12_plans (nx := 89) (v := 0) rfl (by decide) rfl ?_
            refine ev_loc f_X12_plans (nx := 90) rfl rfl rfl rfl ?_
            refine ev_loc f_X12_plans (nx := 91) rfl rfl rfl rfl ?_
            refine ev_getR f_X12_plans (nx := 94) rfl (hI.wf.s rfl) rfl rfl (hI.wf.r rfl) rfl rfl ?_
            refine ev_loc f_X12_plans (nx := 95) rfl rfl rfl rfl ?_
            refine ev_ialdT f_X12_plans (nx := 96) rfl (hI.wf.s rfl) l17_3 (by decide) u21 (by decide) rfl (fun w93 e93 => ?_)
            obtain ⟨l93, u93⟩ := hI.abi e93 (by decide +kernel : t_abr 90 0 5 0 5 = true) l17_3 (by decide) u21 (by decide)
            refine ev_qN f_X12_plans (nx := 99) (r := []) rfl rfl rfl rfl rfl rfl rfl (c_m_acts hI (0) (by decide : (0:Int) ≤ (0:Int32).toInt) (Int.le_trans (by decide : (0:Int32).toInt ≤ (0:Int)) (by decide : (0:Int) ≤ 2)) (y17_1) (w93) (Int.le_trans (by decide : ((-1):Int) ≤ 0) l93) u93 (j17_0.2.2.2.1) (by have hn := t_pla_n j17_0 (by omega) (by omega) (hI.b (hI.wf.s (k := 69) rfl) (t_bdK rfl : t_bd 11 44 = some (0, 6))).2 (hI.b (hI.wf.s (k := 69) rfl) (t_bdK rfl : t_bd 11 45 = some (0, 6))).2; omega) (by have kf95 : (0 : Int32).toInt = 0 := (by decide); omega)) rfl hX rfl (fun gi94 gl94 gr94 hI hX hC94 q94 => ?_)
            have q94 : t_wh (gi94 69 55).toInt (gi94 93) (gi94 95) ∧ (gi94 69 55).toInt = (gi17 69 55).toInt + 1 := q94
            obtain ⟨l96, u96⟩ := hI.b (hI.wf.s (k := 69) rfl) (t_bdK rfl : t_bd 11 55 = some (0, 100))
            refine ev_loc f_X12_plans (nx := 100) rfl rfl rfl rfl ?_
            refine ev_loc f_X12_plans (nx := 101) rfl rfl rfl rfl ?_
            refine ev_loc f_X12_plans (nx := 102) rfl rfl rfl rfl ?_
            refine ev_getR f_X12_plans (nx := 105) rfl (hI.wf.s rfl) rfl rfl (hI.wf.r rfl) rfl rfl ?_
            refine ev_loc f_X12_plans (nx := 106) rfl rfl rfl rfl ?_
            refine ev_ialdT f_X12_plans (nx := 107) rfl (hI.wf.s rfl) l17_3 (by decide) u21 (by decide) rfl (fun w97 e97 => ?_)
            rw [e97.trans ((hC94.1 90 y17_3.toNatClampNeg rfl).1.trans e93.symm)]
            refine ev_ic f_X12_plans (nx := 108) (v := 2) rfl (by decide) rfl ?_
            refine ev_inV3 f_X12_plans (nx := 111) (lo2 := [(0, .ref 69), (1, .int w93), (2, .int 2)]) rfl rfl rfl rfl f_X12_ofShip (hI.wf.s rfl) rfl rfl rfl rfl rfl ?_
            refine ev_loc f_X12_ofShip (nx := 1) rfl rfl rfl rfl ?_
            refine ev_getR f_X12_ofShip (nx := 4) rfl (hI.wf.s rfl) rfl rfl (hI.wf.r rfl) rfl rfl ?_
            refine ev_bp f_X12_ofShip (nx := 6) (v := 52) rfl (by decide) rfl ?_
            refine ev_ic f_X12_ofShip (nx := 7) (v := 5) rfl (by decide) rfl ?_
            refine ev_loc f_X12_ofShip (nx := 8) rfl rfl rfl rfl ?_
            refine ev_mulL f_X12_ofShip (nx := 9) (c := 5) (l := 0) (u := 25) rfl (by decide) (by decide) l93 u93 rfl rfl (by decide) (by decide) rfl (fun z98 e98 l98 u98 => ?_)
            refine ev_addK f_X12_ofShip (nx := 10) (c := 52) (l := 52) (u := 77) rfl (by decide) l98 u98 rfl rfl (by decide) (by decide) rfl (fun z99 e99 l99 u99 => ?_)
            refine ev_loc f_X12_ofShip (nx := 11) rfl rfl rfl rfl ?_
            refine ev_addC f_X12_ofShip (nx := 12) (c := 2) (l := 54) (u := 79) rfl (by decide) l99 u99 rfl rfl (by decide) (by decide) rfl (fun z100 e100 l100 u100 => ?_)
            refine ev_ialdT f_X12_ofShip (nx := 13) rfl (hI.wf.s rfl) l100 (by decide) u100 (by decide) rfl (fun w101 e101 => ?_)
            obtain ⟨l101, u101⟩ := hI.abA (x := w93) e101 (by decide +kernel : t_aba 70 54 5 0 5 0 20 = true) (by omega) (by omega) (by omega)
            refine ev_retK1 f_X12_ofShip rfl rfl rfl ?_
            refine ev_addR f_X12_plans (nx := 112) (l := 0) (u := 260) rfl l17_1 u23 l101 u101 rfl rfl (by decide) (by decide) rfl (fun z102 e102 l102 u102 => ?_)
            refine ev_loc f_X12_plans (nx := 113) (lo' := [(1, .int z102), (5, .int w26), (4, .int y17_4), (3, .int y17_3), (2, .int y17_2), (0, .ref 69)]) rfl rfl rfl rfl ?_
            refine ev_incR f_X12_plans (nx := 116) (c := 1) (l := 1) (u := 6) rfl rfl (by decide) (by decide) l17_3 u21 rfl rfl (by decide) (by decide) rfl (fun z103 e103 l103 u103 => ?_)
            refine ev_jmp f_X12_plans (nx := 222) rfl rfl rfl ?_
            refine ev_jmp f_X12_plans (nx := 36) rfl rfl rfl ?_
            refine ev_sub (lo := [(4, .int y17_4), (3, .int z103), (2, .int y17_2), (1, .int z102), (0, .ref 69)]) rfl (t_sc rfl (t_sc rfl (t_sc rfl (t_sc rfl (t_sc rfl t_sn))))) ?_
            exact ih17 _ (by omega) gi94 gl94 gr94 (y17_4) (z103) (y17_2) (z102) hI hX  l17_4 u17_4 (Int.le_trans (by decide : (0:Int) ≤ 1) l103) u103 l17_2 u17_2 l102 (Int.le_trans u102 (by decide : (260:Int) ≤ 280)) ((hC94.1 69 44 rfl).1.trans c17_0) ((hC94.1 69 45 rfl).1.trans c17_1) ((hC94.1 69 48 rfl).1.trans c17_2) ((hC94.1 69 57 rfl).1.trans c17_3) ((hC94.1 70 4 rfl).1.trans c17_4) (by have hsp := (⟨(hC94.1 69 44 rfl).1, (hC94.1 69 45 rfl).1, (hC94.1 69 48 rfl).1, funext (fun j => (hC94.1 70 j rfl).1), funext (fun j => (hC94.1 89 j rfl).1), funext (fun j => (hC94.1 90 j rfl).1), funext (fun j => (hC94.1 91 j rfl).1)⟩ : t_sp gi17 gi94); have htk : t_st gi94 y17_3.toInt.toNat = w101.toInt.toNat := (by unfold t_st; rw [t_of_eq (p := gi94) (a := 54) (b := 5) t_sp.rf (t_si_eq t_sp.rf (i := y17_3) (((hC94.1 90 y17_3.toNatClampNeg rfl).1.trans e93.symm)).symm (by omega)) (e101.symm).symm (by omega) (by omega)]); exact t_pla_ship (w := w101) j17_0 (by omega) (by omega) (by omega) (q27.mp (by omega)) (by have h1 := q88; have h2 := q26; omega) (by rw [← t_st_sp hsp]; exact htk) (by omega) (by omega) (by omega) (by rw [← t_so_sp hsp]; exact t_so0 hI (by omega)) hsp (funext (fun j => (hC94.1 92 j rfl).1)) q94.2 q94.1) rfl
          · have r104 : w88.toInt ≠ w26.toInt := t_nei h89
            refine ev_loc f_X12_plans (nx := 120) rfl rfl rfl rfl ?_
            refine ev_loc f_X12_plans (nx := 121) rfl rfl rfl rfl ?_
            refine ev_loc f_X12_plans (nx := 122) rfl rfl rfl rfl ?_
            refine ev_loc f_X12_plans (nx := 124) rfl rfl rfl rfl ?_
            refine ev_qI0 f_X12_plans (nx := 127) (r := []) rfl rfl rfl rfl rfl rfl rfl (c_m_mayCart hI (y17_1) l17_1 u23 (y17_2) l17_2 u17_2 (y17_4) l17_4 u17_4) rfl (fun w105 l105 u105 q105 => ?_)
            have q105 : (w105.toInt = 1 ↔ t_mayC gi17 y17_1.toInt.toNat y17_2.toInt.toNat y17_4.toInt.toNat) := q105
            refine ev_if f_X12_plans (t1 := 177) (t2 := 130) rfl rfl rfl (fun h106 => ?_) (fun h106 => ?_)
            · have u107 : w105.toInt ≤ 0 := t_equ h106 (by decide : (0:Int32).toInt ≤ (0:Int))
              refine ev_loc f_X12_plans (nx := 178) rfl rfl rfl rfl ?_
              refine ev_loc f_X12_plans (nx := 179) rfl rfl rfl rfl ?_
              refine ev_ic f_X12_plans (nx := 180) (v := 1) rfl (by decide) rfl ?_
              refine ev_addC f_X12_plans (nx := 181) (c := 1) (l := 1) (u := 241) rfl (by decide) l17_1 u23 rfl rfl (by decide) (by decide) rfl (fun z108 e108 l108 u108 => ?_)
              refine ev_loc f_X12_plans (nx := 182) rfl rfl rfl rfl ?_
              refine ev_loc f_X12_plans (nx := 183) rfl rfl rfl rfl ?_
              refine ev_loc f_X12_plans (nx := 185) rfl rfl rfl rfl ?_
              refine ev_qI0 f_X12_plans (nx := 188) (r := []) rfl rfl rfl rfl rfl rfl rfl (c_m_leftAt hI (z108) (Int.le_trans (by decide : (0:Int) ≤ 1) l108) (Int.le_trans u108 (by decide : (241:Int) ≤ 300)) (y17_2) l17_2 u17_2 (y17_3) l17_3 (Int.le_trans u21 (by decide : (5:Int) ≤ 6)) (y17_4) l17_4 u17_4) rfl (fun w109 l109 u109 q109 => ?_)
              have q109 : w109.toInt = t_la (gi17 92) (t_S gi17) (t_C gi17) z108.toInt.toNat y17_2.toInt.toNat y17_3.toInt.toNat y17_4.toInt.toNat := q109
              refine ev_loc f_X12_plans (nx := 190) rfl rfl rfl rfl ?_
              refine ev_if f_X12_plans (t1 := 193) (t2 := 199) rfl rfl rfl (fun h110 => ?_) (fun h110 => ?_)
              · have r111 : w109.toInt = w26.toInt := t_eqi h110
                refine ev_incR f_X12_plans (nx := 196) (c := 1) (l := 1) (u := 241) rfl rfl (by decide) (by decide) l17_1 u23 rfl rfl (by decide) (by decide) rfl (fun z112 e112 l112 u112 => ?_)
                refine ev_jmp f_X12_plans (nx := 222) rfl rfl rfl ?_
                refine ev_jmp f_X12_plans (nx := 36) rfl rfl rfl ?_
                refine ev_sub (lo := [(4, .int y17_4), (3, .int y17_3), (2, .int y17_2), (1, .int z112), (0, .ref 69)]) rfl (t_sc rfl (t_sc rfl (t_sc rfl (t_sc rfl (t_sc rfl t_sn))))) ?_
                exact ih17 _ (by omega) gi17 gl17 gr17 (y17_4) (y17_3) (y17_2) (z112) hI hX  l17_4 u17_4 l17_3 (Int.le_trans u21 (by decide : (5:Int) ≤ 6)) l17_2 u17_2 (Int.le_trans (by decide : (0:Int) ≤ 1) l112) (Int.le_trans u112 (by decide : (241:Int) ≤ 280)) c17_0 c17_1 c17_2 c17_3 c17_4 (t_pla_rest j17_0 (by omega) (by have h1 := q109; have h2 := q26; rw [show z108.toInt.toNat = y17_1.toInt.toNat + 1 by omega] at h1; omega) (by omega)) rfl
              · have r113 : w109.toInt ≠ w26.toInt := t_nei h110
                refine ev_loc f_X12_plans (nx := 200) rfl rfl rfl rfl ?_
                refine ev_ic f_X12_plans (nx := 201) (v := 2) rfl (by decide) rfl ?_
                refine ev_loc f_X12_plans (nx := 202) rfl rfl rfl rfl ?_
                refine ev_ic f_X12_plans (nx := 203) (v := -1) rfl (by decide) rfl ?_
                refine ev_qN f_X12_plans (nx := 206) (r := []) rfl rfl rfl rfl rfl rfl rfl (c_m_acts hI (2) (Int.le_trans (by decide : (0:Int) ≤ 2) (by decide : (2:Int) ≤ (2:Int32).toInt)) (by decide : (2:Int32).toInt ≤ (2:Int)) (y17_1) ((-1)) (by decide : ((-1):Int) ≤ ((-1):Int32).toInt) (Int.le_trans (by decide : ((-1):Int32).toInt ≤ ((-1):Int)) (by decide : ((-1):Int) ≤ 5)) (j17_0.2.2.2.1) (by have hn := t_pla_n j17_0 (by omega) (by omega) (hI.b (hI.wf.s (k := 69) rfl) (t_bdK rfl : t_bd 11 44 = some (0, 6))).2 (hI.b (hI.wf.s (k := 69) rfl) (t_bdK rfl : t_bd 11 45 = some (0, 6))).2; omega) (by have kf115 : ((-1) : Int32).toInt = (-1) := (by decide); have kf116 : (2 : Int32).toInt = 2 := (by decide); omega)) rfl hX rfl (fun gi114 gl114 gr114 hI hX hC114 q114 => ?_)
                have q114 : t_wh (gi114 69 55).toInt (gi114 93) (gi114 95) ∧ (gi114 69 55).toInt = (gi17 69 55).toInt + 1 := q114
                obtain ⟨l117, u117⟩ := hI.b (hI.wf.s (k := 69) rfl) (t_bdK rfl : t_bd 11 55 = some (0, 100))
                refine ev_loc f_X12_plans (nx := 207) rfl rfl rfl rfl ?_
                refine ev_loc f_X12_plans (nx := 208) rfl rfl rfl rfl ?_
                refine ev_loc f_X12_plans (nx := 209) rfl rfl rfl rfl ?_
                refine ev_loc f_X12_plans (nx := 210) rfl rfl rfl rfl ?_
                refine ev_gvI f_X12_plans (nx := 213) (w := (gi7 69 48)) rfl (hI.wf.s rfl) rfl rfl ((hC114.1 69 48 rfl).1.trans c17_2) rfl ?_
                have l118 : (1:Int) ≤ (gi7 69 48).toInt := (by have h := j17_0.2.2.2.2.2.2.2; rw [c17_2] at h; exact h)
                refine ev_qI0 f_X12_plans (nx := 216) (r := [.int y17_1]) rfl rfl rfl rfl rfl rfl rfl (c_m_turnTime hI (y17_1) l17_1 (Int.le_trans u23 (by decide : (240:Int) ≤ 300)) ((gi7 69 48)) l118 u10) rfl (fun w119 l119 u119 q119 => ?_)
                have q119 : w119.toInt = ((t_tt gi114 (gi7 69 48).toInt y17_1.toInt.toNat : Nat) : Int) := q119
                refine ev_addR f_X12_plans (nx := 217) (l := 1) (u := 280) rfl l17_1 u23 l119 u119 rfl rfl (by decide) (by decide) rfl (fun z120 e120 l120 u120 => ?_)
                refine ev_loc f_X12_plans (nx := 218) (lo' := [(1, .int z120), (5, .int w26), (4, .int y17_4), (3, .int y17_3), (2, .int y17_2), (0, .ref 69)]) rfl rfl rfl rfl ?_
                refine ev_ic f_X12_plans (nx := 219) (v := 1) rfl (by decide) rfl ?_
                refine ev_loc f_X12_plans (nx := 220) rfl rfl rfl rfl ?_
                refine ev_subK f_X12_plans (nx := 221) (c := 1) (l := 0) (u := 1) rfl (by decide) l17_2 u17_2 rfl rfl (by decide) (by decide) rfl (fun z121 e121 l121 u121 => ?_)
                refine ev_loc f_X12_plans (nx := 222) (lo' := [(2, .int z121), (1, .int z120), (5, .int w26), (4, .int y17_4), (3, .int y17_3), (0, .ref 69)]) rfl rfl rfl rfl ?_
                refine ev_jmp f_X12_plans (nx := 36) rfl rfl rfl ?_
                refine ev_sub (lo := [(4, .int y17_4), (3, .int y17_3), (2, .int z121), (1, .int z120), (0, .ref 69)]) rfl (t_sc rfl (t_sc rfl (t_sc rfl (t_sc rfl (t_sc rfl t_sn))))) ?_
                exact ih17 _ (by omega) gi114 gl114 gr114 (y17_4) (y17_3) (z121) (z120) hI hX  l17_4 u17_4 l17_3 (Int.le_trans u21 (by decide : (5:Int) ≤ 6)) l121 u121 (Int.le_trans (by decide : (0:Int) ≤ 1) l120) u120 ((hC114.1 69 44 rfl).1.trans c17_0) ((hC114.1 69 45 rfl).1.trans c17_1) ((hC114.1 69 48 rfl).1.trans c17_2) ((hC114.1 69 57 rfl).1.trans c17_3) ((hC114.1 70 4 rfl).1.trans c17_4) (by have hsp := (⟨(hC114.1 69 44 rfl).1, (hC114.1 69 45 rfl).1, (hC114.1 69 48 rfl).1, funext (fun j => (hC114.1 70 j rfl).1), funext (fun j => (hC114.1 89 j rfl).1), funext (fun j => (hC114.1 90 j rfl).1), funext (fun j => (hC114.1 91 j rfl).1)⟩ : t_sp gi17 gi114); have e1 := congrArg Int32.toInt hsp.1; have e2 := congrArg Int32.toInt hsp.2.1; have ff122 : (gi114 69 44).toInt = (gi7 69 44).toInt := congrArg Int32.toInt ((hC114.1 69 44 rfl).1.trans c17_0); have ff123 : (gi114 69 45).toInt = (gi7 69 45).toInt := congrArg Int32.toInt ((hC114.1 69 45 rfl).1.trans c17_1); have hb1 := hI.b (hI.wf.s (k := 69) rfl) (t_bdK rfl : t_bd 11 44 = some (0, 6)); have hb2 := hI.b (hI.wf.s (k := 69) rfl) (t_bdK rfl : t_bd 11 45 = some (0, 6)); exact t_pla_turn (w := w119) j17_0 (by omega) (by omega) (by omega) (by omega) (by omega) (by omega) (by omega) (by omega) (by omega) (fun _ => by have h1 := q88; have h2 := q26; omega) (fun h => absurd (q105.mpr h) (by omega)) (by have h1 := q109; have h2 := q26; rw [show z108.toInt.toNat = y17_1.toInt.toNat + 1 by omega] at h1; omega) (by rw [← t_tt_sp hsp, congrArg Int32.toInt c17_2]; exact q119) (by omega) (by omega) hsp (funext (fun j => (hC114.1 92 j rfl).1)) q114.2 q114.1) rfl
            · have r124 : w105.toInt ≠ 0 := fun e => h106 (Int32.toInt_inj.mp (e.trans (by decide : (0:Int) = (0 : Int32).toInt)))
              have l125 : 1 ≤ w105.toInt := t_nel h106 l105 rfl rfl
              refine ev_loc f_X12_plans (nx := 131) rfl rfl rfl rfl ?_
              refine ev_loc f_X12_plans (nx := 132) rfl rfl rfl rfl ?_
              refine ev_loc f_X12_plans (nx := 133) rfl rfl rfl rfl ?_
              refine ev_loc f_X12_plans (nx := 135) rfl rfl rfl rfl ?_
              have u126 : y17_4.toInt ≤ (5:Int) := (by have ff127 : (gi17 69 45).toInt = (gi7 69 45).toInt := congrArg Int32.toInt c17_1; have hm := q105.mp (by omega); unfold t_mayC t_C at hm; omega)
              refine ev_qI0 f_X12_plans (nx := 138) (r := []) rfl rfl rfl rfl rfl rfl rfl (c_m_byCart hI (y17_1) l17_1 u23 (y17_3) l17_3 (Int.le_trans u21 (by decide : (5:Int) ≤ 6)) (y17_4) l17_4 u126 (j17_0.2.2.2.2.2.2.1) (by have hm := q105.mp (by omega); unfold t_mayC at hm; omega) (by have hm := q105.mp (by omega); unfold t_mayC at hm; have h1 := j17_0.2.2.2.2.1; have h2 := j17_0.2.2.2.2.2.1; exact t_pla_la j17_0 (by omega) (by first | omega | (unfold t_S; omega)) (by first | omega | (unfold t_C; omega)))) rfl (fun w128 l128 u128 q128 => ?_)
              have q128 : w128.toInt = t_byc gi17 (gi17 92) y17_1.toInt.toNat y17_3.toInt.toNat y17_4.toInt.toNat := q128
              refine ev_loc f_X12_plans (nx := 140) rfl rfl rfl rfl ?_
              refine ev_if f_X12_plans (t1 := 143) (t2 := 177) rfl rfl rfl (fun h129 => ?_) (fun h129 => ?_)
              · have r130 : w128.toInt = w26.toInt := t_eqi h129
                have u131 : w26.toInt ≤ 1000023760 := t_equ (Eq.symm h129) u128
                have l132 : 0 ≤ w26.toInt := t_eql (Eq.symm h129) l128
                refine ev_loc f_X12_plans (nx := 144) rfl rfl rfl rfl ?_
                refine ev_ic f_X12_plans (nx := 145) (v := 1) rfl (by decide) rfl ?_
                refine ev_loc f_X12_plans (nx := 146) rfl rfl rfl rfl ?_
                refine ev_loc f_X12_plans (nx := 147) rfl rfl rfl rfl ?_
                refine ev_getR f_X12_plans (nx := 150) rfl (hI.wf.s rfl) rfl rfl (hI.wf.r rfl) rfl rfl ?_
                refine ev_loc f_X12_plans (nx := 152) rfl rfl rfl rfl ?_
                refine ev_ialdT f_X12_plans (nx := 153) rfl (hI.wf.s rfl) l17_4 (by decide) u126 (by decide) rfl (fun w133 e133 => ?_)
                obtain ⟨l133, u133⟩ := hI.abi e133 (by decide +kernel : t_abr 91 0 5 0 5 = true) l17_4 (by decide) u126 (by decide)
                refine ev_qN f_X12_plans (nx := 156) (r := []) rfl rfl rfl rfl rfl rfl rfl (c_m_acts hI (1) (Int.le_trans (by decide : (0:Int) ≤ 1) (by decide : (1:Int) ≤ (1:Int32).toInt)) (Int.le_trans (by decide : (1:Int32).toInt ≤ (1:Int)) (by decide : (1:Int) ≤ 2)) (y17_1) (w133) (Int.le_trans (by decide : ((-1):Int) ≤ 0) l133) u133 (j17_0.2.2.2.1) (by have hn := t_pla_n j17_0 (by omega) (by omega) (hI.b (hI.wf.s (k := 69) rfl) (t_bdK rfl : t_bd 11 44 = some (0, 6))).2 (hI.b (hI.wf.s (k := 69) rfl) (t_bdK rfl : t_bd 11 45 = some (0, 6))).2; omega) (by have kf135 : (1 : Int32).toInt = 1 := (by decide); omega)) rfl hX rfl (fun gi134 gl134 gr134 hI hX hC134 q134 => ?_)
                have q134 : t_wh (gi134 69 55).toInt (gi134 93) (gi134 95) ∧ (gi134 69 55).toInt = (gi17 69 55).toInt + 1 := q134
                obtain ⟨l136, u136⟩ := hI.b (hI.wf.s (k := 69) rfl) (t_bdK rfl : t_bd 11 55 = some (0, 100))
                refine ev_loc f_X12_plans (nx := 157) rfl rfl rfl rfl ?_
                refine ev_loc f_X12_plans (nx := 158) rfl rfl rfl rfl ?_
                refine ev_loc f_X12_plans (nx := 159) rfl rfl rfl rfl ?_
                refine ev_getR f_X12_plans (nx := 162) rfl (hI.wf.s rfl) rfl rfl (hI.wf.r rfl) rfl rfl ?_
                refine ev_loc f_X12_plans (nx := 164) rfl rfl rfl rfl ?_
                refine ev_ialdT f_X12_plans (nx := 165) rfl (hI.wf.s rfl) l17_4 (by decide) u126 (by decide) rfl (fun w137 e137 => ?_)
                rw [e137.trans ((hC134.1 91 y17_4.toNatClampNeg rfl).1.trans e133.symm)]
                refine ev_ic f_X12_plans (nx := 166) (v := 1) rfl (by decide) rfl ?_
                refine ev_inV3 f_X12_plans (nx := 169) (lo2 := [(0, .ref 69), (1, .int w133), (2, .int 1)]) rfl rfl rfl rfl f_X12_ofCart (hI.wf.s rfl) rfl rfl rfl rfl rfl ?_
                refine ev_loc f_X12_ofCart (nx := 1) rfl rfl rfl rfl ?_
                refine ev_getR f_X12_ofCart (nx := 4) rfl (hI.wf.s rfl) rfl rfl (hI.wf.r rfl) rfl rfl ?_
                refine ev_bp f_X12_ofCart (nx := 6) (v := 82) rfl (by decide) rfl ?_
                refine ev_ic f_X12_ofCart (nx := 7) (v := 3) rfl (by decide) rfl ?_
                refine ev_loc f_X12_ofCart (nx := 8) rfl rfl rfl rfl ?_
                refine ev_mulL f_X12_ofCart (nx := 9) (c := 3) (l := 0) (u := 15) rfl (by decide) (by decide) l133 u133 rfl rfl (by decide) (by decide) rfl (fun z138 e138 l138 u138 => ?_)
                refine ev_addK f_X12_ofCart (nx := 10) (c := 82) (l := 82) (u := 97) rfl (by decide) l138 u138 rfl rfl (by decide) (by decide) rfl (fun z139 e139 l139 u139 => ?_)
                refine ev_loc f_X12_ofCart (nx := 11) rfl rfl rfl rfl ?_
                refine ev_addC f_X12_ofCart (nx := 12) (c := 1) (l := 83) (u := 98) rfl (by decide) l139 u139 rfl rfl (by decide) (by decide) rfl (fun z140 e140 l140 u140 => ?_)
                refine ev_ialdT f_X12_ofCart (nx := 13) rfl (hI.wf.s rfl) l140 (by decide) u140 (by decide) rfl (fun w141 e141 => ?_)
                obtain ⟨l141, u141⟩ := hI.abA (x := w133) e141 (by decide +kernel : t_aba 70 83 3 0 5 0 20 = true) (by omega) (by omega) (by omega)
                refine ev_retK1 f_X12_ofCart rfl rfl rfl ?_
                refine ev_addR f_X12_plans (nx := 170) (l := 0) (u := 260) rfl l17_1 u23 l141 u141 rfl rfl (by decide) (by decide) rfl (fun z142 e142 l142 u142 => ?_)
                refine ev_loc f_X12_plans (nx := 171) (lo' := [(1, .int z142), (5, .int w26), (4, .int y17_4), (3, .int y17_3), (2, .int y17_2), (0, .ref 69)]) rfl rfl rfl rfl ?_
                refine ev_incR f_X12_plans (nx := 174) (c := 1) (l := 1) (u := 6) rfl rfl (by decide) (by decide) l17_4 u126 rfl rfl (by decide) (by decide) rfl (fun z143 e143 l143 u143 => ?_)
                refine ev_jmp f_X12_plans (nx := 222) rfl rfl rfl ?_
                refine ev_jmp f_X12_plans (nx := 36) rfl rfl rfl ?_
                refine ev_sub (lo := [(4, .int z143), (3, .int y17_3), (2, .int y17_2), (1, .int z142), (0, .ref 69)]) rfl (t_sc rfl (t_sc rfl (t_sc rfl (t_sc rfl (t_sc rfl t_sn))))) ?_
                exact ih17 _ (by omega) gi134 gl134 gr134 (z143) (y17_3) (y17_2) (z142) hI hX  (Int.le_trans (by decide : (0:Int) ≤ 1) l143) u143 l17_3 (Int.le_trans u21 (by decide : (5:Int) ≤ 6)) l17_2 u17_2 l142 (Int.le_trans u142 (by decide : (260:Int) ≤ 280)) ((hC134.1 69 44 rfl).1.trans c17_0) ((hC134.1 69 45 rfl).1.trans c17_1) ((hC134.1 69 48 rfl).1.trans c17_2) ((hC134.1 69 57 rfl).1.trans c17_3) ((hC134.1 70 4 rfl).1.trans c17_4) (by have hsp := (⟨(hC134.1 69 44 rfl).1, (hC134.1 69 45 rfl).1, (hC134.1 69 48 rfl).1, funext (fun j => (hC134.1 70 j rfl).1), funext (fun j => (hC134.1 89 j rfl).1), funext (fun j => (hC134.1 90 j rfl).1), funext (fun j => (hC134.1 91 j rfl).1)⟩ : t_sp gi17 gi134); have htk : t_ct gi134 y17_4.toInt.toNat = w141.toInt.toNat := (by unfold t_ct; rw [t_of_eq (p := gi134) (a := 83) (b := 3) t_sp.rf (t_ci_eq t_sp.rf (i := y17_4) (((hC134.1 91 y17_4.toNatClampNeg rfl).1.trans e133.symm)).symm (by omega)) (e141.symm).symm (by omega) (by omega)]); exact t_pla_cart (w := w141) j17_0 (by omega) (by omega) (by omega) (q105.mp (by omega)) (by have h1 := q128; have h2 := q26; omega) (by rw [← t_ct_sp hsp]; exact htk) (by omega) (by omega) (by omega) (by rw [← t_cc_sp hsp]; exact t_cc0 hI (by omega)) hsp (funext (fun j => (hC134.1 92 j rfl).1)) q134.2 q134.1) rfl
              · have r144 : w128.toInt ≠ w26.toInt := t_nei h129
                refine ev_loc f_X12_plans (nx := 178) rfl rfl rfl rfl ?_
                refine ev_loc f_X12_plans (nx := 179) rfl rfl rfl rfl ?_
                refine ev_ic f_X12_plans (nx := 180) (v := 1) rfl (by decide) rfl ?_
                refine ev_addC f_X12_plans (nx := 181) (c := 1) (l := 1) (u := 241) rfl (by decide) l17_1 u23 rfl rfl (by decide) (by decide) rfl (fun z145 e145 l145 u145 => ?_)
                refine ev_loc f_X12_plans (nx := 182) rfl rfl rfl rfl ?_
                refine ev_loc f_X12_plans (nx := 183) rfl rfl rfl rfl ?_
                refine ev_loc f_X12_plans (nx := 185) rfl rfl rfl rfl ?_
                refine ev_qI0 f_X12_plans (nx := 188) (r := []) rfl rfl rfl rfl rfl rfl rfl (c_m_leftAt hI (z145) (Int.le_trans (by decide : (0:Int) ≤ 1) l145) (Int.le_trans u145 (by decide : (241:Int) ≤ 300)) (y17_2) l17_2 u17_2 (y17_3) l17_3 (Int.le_trans u21 (by decide : (5:Int) ≤ 6)) (y17_4) l17_4 (Int.le_trans u126 (by decide : (5:Int) ≤ 6))) rfl (fun w146 l146 u146 q146 => ?_)
                have q146 : w146.toInt = t_la (gi17 92) (t_S gi17) (t_C gi17) z145.toInt.toNat y17_2.toInt.toNat y17_3.toInt.toNat y17_4.toInt.toNat := q146
                refine ev_loc f_X12_plans (nx := 190) rfl rfl rfl rfl ?_
                refine ev_if f_X12_plans (t1 := 193) (t2 := 199) rfl rfl rfl (fun h147 => ?_) (fun h147 => ?_)
                · have r148 : w146.toInt = w26.toInt := t_eqi h147
                  refine ev_incR f_X12_plans (nx := 196) (c := 1) (l := 1) (u := 241) rfl rfl (by decide) (by decide) l17_1 u23 rfl rfl (by decide) (by decide) rfl (fun z149 e149 l149 u149 => ?_)
                  refine ev_jmp f_X12_plans (nx := 222) rfl rfl rfl ?_
                  refine ev_jmp f_X12_plans (nx := 36) rfl rfl rfl ?_
                  refine ev_sub (lo := [(4, .int y17_4), (3, .int y17_3), (2, .int y17_2), (1, .int z149), (0, .ref 69)]) rfl (t_sc rfl (t_sc rfl (t_sc rfl (t_sc rfl (t_sc rfl t_sn))))) ?_
                  exact ih17 _ (by omega) gi17 gl17 gr17 (y17_4) (y17_3) (y17_2) (z149) hI hX  l17_4 (Int.le_trans u126 (by decide : (5:Int) ≤ 6)) l17_3 (Int.le_trans u21 (by decide : (5:Int) ≤ 6)) l17_2 u17_2 (Int.le_trans (by decide : (0:Int) ≤ 1) l149) (Int.le_trans u149 (by decide : (241:Int) ≤ 280)) c17_0 c17_1 c17_2 c17_3 c17_4 (t_pla_rest j17_0 (by omega) (by have h1 := q146; have h2 := q26; rw [show z145.toInt.toNat = y17_1.toInt.toNat + 1 by omega] at h1; omega) (by omega)) rfl
                · have r150 : w146.toInt ≠ w26.toInt := t_nei h147
                  refine ev_loc f_X12_plans (nx := 200) rfl rfl rfl rfl ?_
                  refine ev_ic f_X12_plans (nx := 201) (v := 2) rfl (by decide) rfl ?_
                  refine ev_loc f_X12_plans (nx := 202) rfl rfl rfl rfl ?_
                  refine ev_ic f_X12_plans (nx := 203) (v := -1) rfl (by decide) rfl ?_
                  refine ev_qN f_X12_plans (nx := 206) (r := []) rfl rfl rfl rfl rfl rfl rfl (c_m_acts hI (2) (Int.le_trans (by decide : (0:Int) ≤ 2) (by decide : (2:Int) ≤ (2:Int32).toInt)) (by decide : (2:Int32).toInt ≤ (2:Int)) (y17_1) ((-1)) (by decide : ((-1):Int) ≤ ((-1):Int32).toInt) (Int.le_trans (by decide : ((-1):Int32).toInt ≤ ((-1):Int)) (by decide : ((-1):Int) ≤ 5)) (j17_0.2.2.2.1) (by have hn := t_pla_n j17_0 (by omega) (by omega) (hI.b (hI.wf.s (k := 69) rfl) (t_bdK rfl : t_bd 11 44 = some (0, 6))).2 (hI.b (hI.wf.s (k := 69) rfl) (t_bdK rfl : t_bd 11 45 = some (0, 6))).2; omega) (by have kf152 : ((-1) : Int32).toInt = (-1) := (by decide); have kf153 : (2 : Int32).toInt = 2 := (by decide); omega)) rfl hX rfl (fun gi151 gl151 gr151 hI hX hC151 q151 => ?_)
                  have q151 : t_wh (gi151 69 55).toInt (gi151 93) (gi151 95) ∧ (gi151 69 55).toInt = (gi17 69 55).toInt + 1 := q151
                  obtain ⟨l154, u154⟩ := hI.b (hI.wf.s (k := 69) rfl) (t_bdK rfl : t_bd 11 55 = some (0, 100))
                  refine ev_loc f_X12_plans (nx := 207) rfl rfl rfl rfl ?_
                  refine ev_loc f_X12_plans (nx := 208) rfl rfl rfl rfl ?_
                  refine ev_loc f_X12_plans (nx := 209) rfl rfl rfl rfl ?_
                  refine ev_loc f_X12_plans (nx := 210) rfl rfl rfl rfl ?_
                  refine ev_gvI f_X12_plans (nx := 213) (w := (gi7 69 48)) rfl (hI.wf.s rfl) rfl rfl ((hC151.1 69 48 rfl).1.trans c17_2) rfl ?_
                  have l155 : (1:Int) ≤ (gi7 69 48).toInt := (by have h := j17_0.2.2.2.2.2.2.2; rw [c17_2] at h; exact h)
                  refine ev_qI0 f_X12_plans (nx := 216) (r := [.int y17_1]) rfl rfl rfl rfl rfl rfl rfl (c_m_turnTime hI (y17_1) l17_1 (Int.le_trans u23 (by decide : (240:Int) ≤ 300)) ((gi7 69 48)) l155 u10) rfl (fun w156 l156 u156 q156 => ?_)
                  have q156 : w156.toInt = ((t_tt gi151 (gi7 69 48).toInt y17_1.toInt.toNat : Nat) : Int) := q156
                  refine ev_addR f_X12_plans (nx := 217) (l := 1) (u := 280) rfl l17_1 u23 l156 u156 rfl rfl (by decide) (by decide) rfl (fun z157 e157 l157 u157 => ?_)
                  refine ev_loc f_X12_plans (nx := 218) (lo' := [(1, .int z157), (5, .int w26), (4, .int y17_4), (3, .int y17_3), (2, .int y17_2), (0, .ref 69)]) rfl rfl rfl rfl ?_
                  refine ev_ic f_X12_plans (nx := 219) (v := 1) rfl (by decide) rfl ?_
                  refine ev_loc f_X12_plans (nx := 220) rfl rfl rfl rfl ?_
                  refine ev_subK f_X12_plans (nx := 221) (c := 1) (l := 0) (u := 1) rfl (by decide) l17_2 u17_2 rfl rfl (by decide) (by decide) rfl (fun z158 e158 l158 u158 => ?_)
                  refine ev_loc f_X12_plans (nx := 222) (lo' := [(2, .int z158), (1, .int z157), (5, .int w26), (4, .int y17_4), (3, .int y17_3), (0, .ref 69)]) rfl rfl rfl rfl ?_
                  refine ev_jmp f_X12_plans (nx := 36) rfl rfl rfl ?_
                  refine ev_sub (lo := [(4, .int y17_4), (3, .int y17_3), (2, .int z158), (1, .int z157), (0, .ref 69)]) rfl (t_sc rfl (t_sc rfl (t_sc rfl (t_sc rfl (t_sc rfl t_sn))))) ?_
                  exact ih17 _ (by omega) gi151 gl151 gr151 (y17_4) (y17_3) (z158) (z157) hI hX  l17_4 (Int.le_trans u126 (by decide : (5:Int) ≤ 6)) l17_3 (Int.le_trans u21 (by decide : (5:Int) ≤ 6)) l158 u158 (Int.le_trans (by decide : (0:Int) ≤ 1) l157) u157 ((hC151.1 69 44 rfl).1.trans c17_0) ((hC151.1 69 45 rfl).1.trans c17_1) ((hC151.1 69 48 rfl).1.trans c17_2) ((hC151.1 69 57 rfl).1.trans c17_3) ((hC151.1 70 4 rfl).1.trans c17_4) (by have hsp := (⟨(hC151.1 69 44 rfl).1, (hC151.1 69 45 rfl).1, (hC151.1 69 48 rfl).1, funext (fun j => (hC151.1 70 j rfl).1), funext (fun j => (hC151.1 89 j rfl).1), funext (fun j => (hC151.1 90 j rfl).1), funext (fun j => (hC151.1 91 j rfl).1)⟩ : t_sp gi17 gi151); have e1 := congrArg Int32.toInt hsp.1; have e2 := congrArg Int32.toInt hsp.2.1; have ff159 : (gi151 69 44).toInt = (gi7 69 44).toInt := congrArg Int32.toInt ((hC151.1 69 44 rfl).1.trans c17_0); have ff160 : (gi151 69 45).toInt = (gi7 69 45).toInt := congrArg Int32.toInt ((hC151.1 69 45 rfl).1.trans c17_1); have hb1 := hI.b (hI.wf.s (k := 69) rfl) (t_bdK rfl : t_bd 11 44 = some (0, 6)); have hb2 := hI.b (hI.wf.s (k := 69) rfl) (t_bdK rfl : t_bd 11 45 = some (0, 6)); exact t_pla_turn (w := w156) j17_0 (by omega) (by omega) (by omega) (by omega) (by omega) (by omega) (by omega) (by omega) (by omega) (fun _ => by have h1 := q88; have h2 := q26; omega) (fun _ => by have h1 := q128; have h2 := q26; omega) (by have h1 := q146; have h2 := q26; rw [show z145.toInt.toNat = y17_1.toInt.toNat + 1 by omega] at h1; omega) (by rw [← t_tt_sp hsp, congrArg Int32.toInt c17_2]; exact q156) (by omega) (by omega) hsp (funext (fun j => (hC151.1 92 j rfl).1)) q151.2 q151.1) rfl
      · have r161 : (gi7 69 44).toInt ≤ y17_3.toInt := Int32.le_iff_toInt_le.mp (t_nlt h19)
        refine ev_loc f_X12_plans (nx := 46) rfl rfl rfl rfl ?_
        refine ev_loc f_X12_plans (nx := 47) rfl rfl rfl rfl ?_
        refine ev_gvI f_X12_plans (nx := 50) (w := (gi7 69 45)) rfl (hI.wf.s rfl) rfl rfl c17_1 rfl ?_
        refine ev_if f_X12_plans (t1 := 225) (t2 := 53) rfl rfl rfl (fun h162 => ?_) (fun h162 => ?_)
        · have r163 : (gi7 69 45).toInt ≤ y17_4.toInt := Int32.le_iff_toInt_le.mp h162
          refine ev_loc f_X12_plans (nx := 226) rfl rfl rfl rfl ?_
          refine ev_loc f_X12_plans (nx := 227) rfl rfl rfl rfl ?_
          refine ev_putIT f_X12_plans (nx := 230) rfl (hI.wf.s rfl) rfl rfl rfl (hI.put0 (hI.wf.s rfl) rfl rfl) (hX.upI rfl) (fun g164 e164 hI hX => ?_)
          refine ev_ic f_X12_plans (nx := 231) (v := 1) rfl (by decide) rfl ?_
          exact ev_ret f_X12_plans rfl rfl rfl ⟨_, _, _, rfl, hI, hX, ⟨_, rfl, (Int.le_trans (by decide : (0:Int) ≤ 1) (by decide : (1:Int) ≤ (1:Int32).toInt)), (by decide : (1:Int32).toInt ≤ (1:Int)), (show (1 = 1 → t_wh (g164 69 55).toInt (g164 93) (g164 95)) from (fun _ => by rw [(((by rw [e164]; exact x_up2_off (Or.inr (by decide)) : g164 69 55 = gi17 69 55).trans rfl) : g164 69 55 = (gi17 69 55)), (((by rw [e164]; exact x_up2_ne (by decide) : g164 93 = gi17 93)) : g164 93 = gi17 93), (((by rw [e164]; exact x_up2_ne (by decide) : g164 95 = gi17 95)) : g164 95 = gi17 95)]; exact j17_0.2.2.2.1))⟩⟩
        · have r165 : y17_4.toInt < (gi7 69 45).toInt := Int32.lt_iff_toInt_lt.mp (t_nle h162)
          have u166 : y17_4.toInt ≤ 5 := t_ltu (t_nle h162) u9 rfl
          have l167 : 1 ≤ (gi7 69 45).toInt := t_ltl (t_nle h162) l17_4 rfl
          refine ev_loc f_X12_plans (nx := 54) rfl rfl rfl rfl ?_
          refine ev_loc f_X12_plans (nx := 55) rfl rfl rfl rfl ?_
          refine ev_loc f_X12_plans (nx := 56) rfl rfl rfl rfl ?_
          refine ev_loc f_X12_plans (nx := 57) rfl rfl rfl rfl ?_
          refine ev_loc f_X12_plans (nx := 59) rfl rfl rfl rfl ?_
          have u168 : y17_1.toInt ≤ (240:Int) := (by have hh := t_pla_m j17_0 (by omega) (by omega) (by have ff169 : (gi17 69 44).toInt = (gi7 69 44).toInt := congrArg Int32.toInt c17_0; have ff170 : (gi17 69 45).toInt = (gi7 69 45).toInt := congrArg Int32.toInt c17_1; omega); omega)
          refine ev_qI0 f_X12_plans (nx := 62) (r := []) rfl rfl rfl rfl rfl rfl rfl (c_m_leftAt hI (y17_1) l17_1 (Int.le_trans u168 (by decide : (240:Int) ≤ 300)) (y17_2) l17_2 u17_2 (y17_3) l17_3 u17_3 (y17_4) l17_4 (Int.le_trans u166 (by decide : (5:Int) ≤ 6))) rfl (fun w171 l171 u171 q171 => ?_)
          have q171 : w171.toInt = t_la (gi17 92) (t_S gi17) (t_C gi17) y17_1.toInt.toNat y17_2.toInt.toNat y17_3.toInt.toNat y17_4.toInt.toNat := q171
          refine ev_loc f_X12_plans (nx := 64) (lo' := [(5, .int w171), (4, .int y17_4), (3, .int y17_3), (2, .int y17_2), (1, .int y17_1), (0, .ref 69)]) rfl rfl rfl rfl ?_
          refine ev_loc f_X12_plans (nx := 65) rfl rfl rfl rfl ?_
          refine ev_loc f_X12_plans (nx := 66) rfl rfl rfl rfl ?_
          refine ev_loc f_X12_plans (nx := 67) rfl rfl rfl rfl ?_
          refine ev_loc f_X12_plans (nx := 68) rfl rfl rfl rfl ?_
          refine ev_qI0 f_X12_plans (nx := 71) (r := []) rfl rfl rfl rfl rfl rfl rfl (c_m_mayShip hI (y17_1) l17_1 u168 (y17_2) l17_2 u17_2 (y17_3) l17_3 u17_3 (j17_0.2.2.2.2.1)) rfl (fun w172 l172 u172 q172 => ?_)
          have q172 : (w172.toInt = 1 ↔ t_mayS gi17 y17_1.toInt.toNat y17_2.toInt.toNat y17_3.toInt.toNat) := q172
          refine ev_if f_X12_plans (t1 := 119) (t2 := 74) rfl rfl rfl (fun h173 => ?_) (fun h173 => ?_)
          · have u174 : w172.toInt ≤ 0 := t_equ h173 (by decide : (0:Int32).toInt ≤ (0:Int))
            refine ev_loc f_X12_plans (nx := 120) rfl rfl rfl rfl ?_
            refine ev_loc f_X12_plans (nx := 121) rfl rfl rfl rfl ?_
            refine ev_loc f_X12_plans (nx := 122) rfl rfl rfl rfl ?_
            refine ev_loc f_X12_plans (nx := 124) rfl rfl rfl rfl ?_
            refine ev_qI0 f_X12_plans (nx := 127) (r := []) rfl rfl rfl rfl rfl rfl rfl (c_m_mayCart hI (y17_1) l17_1 u168 (y17_2) l17_2 u17_2 (y17_4) l17_4 (Int.le_trans u166 (by decide : (5:Int) ≤ 6))) rfl (fun w175 l175 u175 q175 => ?_)
            have q175 : (w175.toInt = 1 ↔ t_mayC gi17 y17_1.toInt.toNat y17_2.toInt.toNat y17_4.toInt.toNat) := q175
            refine ev_if f_X12_plans (t1 := 177) (t2 := 130) rfl rfl rfl (fun h176 => ?_) (fun h176 => ?_)
            · have u177 : w175.toInt ≤ 0 := t_equ h176 (by decide : (0:Int32).toInt ≤ (0:Int))
              refine ev_loc f_X12_plans (nx := 178) rfl rfl rfl rfl ?_
              refine ev_loc f_X12_plans (nx := 179) rfl rfl rfl rfl ?_
              refine ev_ic f_X12_plans (nx := 180) (v := 1) rfl (by decide) rfl ?_
              refine ev_addC f_X12_plans (nx := 181) (c := 1) (l := 1) (u := 241) rfl (by decide) l17_1 u168 rfl rfl (by decide) (by decide) rfl (fun z178 e178 l178 u178 => ?_)
              refine ev_loc f_X12_plans (nx := 182) rfl rfl rfl rfl ?_
              refine ev_loc f_X12_plans (nx := 183) rfl rfl rfl rfl ?_
              refine ev_loc f_X12_plans (nx := 185) rfl rfl rfl rfl ?_
              refine ev_qI0 f_X12_plans (nx := 188) (r := []) rfl rfl rfl rfl rfl rfl rfl (c_m_leftAt hI (z178) (Int.le_trans (by decide : (0:Int) ≤ 1) l178) (Int.le_trans u178 (by decide : (241:Int) ≤ 300)) (y17_2) l17_2 u17_2 (y17_3) l17_3 u17_3 (y17_4) l17_4 (Int.le_trans u166 (by decide : (5:Int) ≤ 6))) rfl (fun w179 l179 u179 q179 => ?_)
              have q179 : w179.toInt = t_la (gi17 92) (t_S gi17) (t_C gi17) z178.toInt.toNat y17_2.toInt.toNat y17_3.toInt.toNat y17_4.toInt.toNat := q179
              refine ev_loc f_X12_plans (nx := 190) rfl rfl rfl rfl ?_
              refine ev_if f_X12_plans (t1 := 193) (t2 := 199) rfl rfl rfl (fun h180 => ?_) (fun h180 => ?_)
              · have r181 : w179.toInt = w171.toInt := t_eqi h180
                refine ev_incR f_X12_plans (nx := 196) (c := 1) (l := 1) (u := 241) rfl rfl (by decide) (by decide) l17_1 u168 rfl rfl (by decide) (by decide) rfl (fun z182 e182 l182 u182 => ?_)
                refine ev_jmp f_X12_plans (nx := 222) rfl rfl rfl ?_
                refine ev_jmp f_X12_plans (nx := 36) rfl rfl rfl ?_
                refine ev_sub (lo := [(4, .int y17_4), (3, .int y17_3), (2, .int y17_2), (1, .int z182), (0, .ref 69)]) rfl (t_sc rfl (t_sc rfl (t_sc rfl (t_sc rfl (t_sc rfl t_sn))))) ?_
                exact ih17 _ (by omega) gi17 gl17 gr17 (y17_4) (y17_3) (y17_2) (z182) hI hX  l17_4 (Int.le_trans u166 (by decide : (5:Int) ≤ 6)) l17_3 u17_3 l17_2 u17_2 (Int.le_trans (by decide : (0:Int) ≤ 1) l182) (Int.le_trans u182 (by decide : (241:Int) ≤ 280)) c17_0 c17_1 c17_2 c17_3 c17_4 (t_pla_rest j17_0 (by omega) (by have h1 := q179; have h2 := q171; rw [show z178.toInt.toNat = y17_1.toInt.toNat + 1 by omega] at h1; omega) (by omega)) rfl
              · have r183 : w179.toInt ≠ w171.toInt := t_nei h180
                refine ev_loc f_X12_plans (nx := 200) rfl rfl rfl rfl ?_
                refine ev_ic f_X12_plans (nx := 201) (v := 2) rfl (by decide) rfl ?_
                refine ev_loc f_X12_plans (nx := 202) rfl rfl rfl rfl ?_
                refine ev_ic f_X12_plans (nx := 203) (v := -1) rfl (by decide) rfl ?_
                refine ev_qN f_X12_plans (nx := 206) (r := []) rfl rfl rfl rfl rfl rfl rfl (c_m_acts hI (2) (Int.le_trans (by decide : (0:Int) ≤ 2) (by decide : (2:Int) ≤ (2:Int32).toInt)) (by decide : (2:Int32).toInt ≤ (2:Int)) (y17_1) ((-1)) (by decide : ((-1):Int) ≤ ((-1):Int32).toInt) (Int.le_trans (by decide : ((-1):Int32).toInt ≤ ((-1):Int)) (by decide : ((-1):Int) ≤ 5)) (j17_0.2.2.2.1) (by have hn := t_pla_n j17_0 (by omega) (by omega) (hI.b (hI.wf.s (k := 69) rfl) (t_bdK rfl : t_bd 11 44 = some (0, 6))).2 (hI.b (hI.wf.s (k := 69) rfl) (t_bdK rfl : t_bd 11 45 = some (0, 6))).2; omega) (by have kf185 : ((-1) : Int32).toInt = (-1) := (by decide); have kf186 : (2 : Int32).toInt = 2 := (by decide); omega)) rfl hX rfl (fun gi184 gl184 gr184 hI hX hC184 q184 => ?_)
                have q184 : t_wh (gi184 69 55).toInt (gi184 93) (gi184 95) ∧ (gi184 69 55).toInt = (gi17 69 55).toInt + 1 := q184
                obtain ⟨l187, u187⟩ := hI.b (hI.wf.s (k := 69) rfl) (t_bdK rfl : t_bd 11 55 = some (0, 100))
                refine ev_loc f_X12_plans (nx := 207) rfl rfl rfl rfl ?_
                refine ev_loc f_X12_plans (nx := 208) rfl rfl rfl rfl ?_
                refine ev_loc f_X12_plans (nx := 209) rfl rfl rfl rfl ?_
                refine ev_loc f_X12_plans (nx := 210) rfl rfl rfl rfl ?_
                refine ev_gvI f_X12_plans (nx := 213) (w := (gi7 69 48)) rfl (hI.wf.s rfl) rfl rfl ((hC184.1 69 48 rfl).1.trans c17_2) rfl ?_
                have l188 : (1:Int) ≤ (gi7 69 48).toInt := (by have h := j17_0.2.2.2.2.2.2.2; rw [c17_2] at h; exact h)
                refine ev_qI0 f_X12_plans (nx := 216) (r := [.int y17_1]) rfl rfl rfl rfl rfl rfl rfl (c_m_turnTime hI (y17_1) l17_1 (Int.le_trans u168 (by decide : (240:Int) ≤ 300)) ((gi7 69 48)) l188 u10) rfl (fun w189 l189 u189 q189 => ?_)
                have q189 : w189.toInt = ((t_tt gi184 (gi7 69 48).toInt y17_1.toInt.toNat : Nat) : Int) := q189
                refine ev_addR f_X12_plans (nx := 217) (l := 1) (u := 280) rfl l17_1 u168 l189 u189 rfl rfl (by decide) (by decide) rfl (fun z190 e190 l190 u190 => ?_)
                refine ev_loc f_X12_plans (nx := 218) (lo' := [(1, .int z190), (5, .int w171), (4, .int y17_4), (3, .int y17_3), (2, .int y17_2), (0, .ref 69)]) rfl rfl rfl rfl ?_
                refine ev_ic f_X12_plans (nx := 219) (v := 1) rfl (by decide) rfl ?_
                refine ev_loc f_X12_plans (nx := 220) rfl rfl rfl rfl ?_
                refine ev_subK f_X12_plans (nx := 221) (c := 1) (l := 0) (u := 1) rfl (by decide) l17_2 u17_2 rfl rfl (by decide) (by decide) rfl (fun z191 e191 l191 u191 => ?_)
                refine ev_loc f_X12_plans (nx := 222) (lo' := [(2, .int z191), (1, .int z190), (5, .int w171), (4, .int y17_4), (3, .int y17_3), (0, .ref 69)]) rfl rfl rfl rfl ?_
                refine ev_jmp f_X12_plans (nx := 36) rfl rfl rfl ?_
                refine ev_sub (lo := [(4, .int y17_4), (3, .int y17_3), (2, .int z191), (1, .int z190), (0, .ref 69)]) rfl (t_sc rfl (t_sc rfl (t_sc rfl (t_sc rfl (t_sc rfl t_sn))))) ?_
                exact ih17 _ (by omega) gi184 gl184 gr184 (y17_4) (y17_3) (z191) (z190) hI hX  l17_4 (Int.le_trans u166 (by decide : (5:Int) ≤ 6)) l17_3 u17_3 l191 u191 (Int.le_trans (by decide : (0:Int) ≤ 1) l190) u190 ((hC184.1 69 44 rfl).1.trans c17_0) ((hC184.1 69 45 rfl).1.trans c17_1) ((hC184.1 69 48 rfl).1.trans c17_2) ((hC184.1 69 57 rfl).1.trans c17_3) ((hC184.1 70 4 rfl).1.trans c17_4) (by have hsp := (⟨(hC184.1 69 44 rfl).1, (hC184.1 69 45 rfl).1, (hC184.1 69 48 rfl).1, funext (fun j => (hC184.1 70 j rfl).1), funext (fun j => (hC184.1 89 j rfl).1), funext (fun j => (hC184.1 90 j rfl).1), funext (fun j => (hC184.1 91 j rfl).1)⟩ : t_sp gi17 gi184); have e1 := congrArg Int32.toInt hsp.1; have e2 := congrArg Int32.toInt hsp.2.1; have ff192 : (gi184 69 44).toInt = (gi7 69 44).toInt := congrArg Int32.toInt ((hC184.1 69 44 rfl).1.trans c17_0); have ff193 : (gi184 69 45).toInt = (gi7 69 45).toInt := congrArg Int32.toInt ((hC184.1 69 45 rfl).1.trans c17_1); have hb1 := hI.b (hI.wf.s (k := 69) rfl) (t_bdK rfl : t_bd 11 44 = some (0, 6)); have hb2 := hI.b (hI.wf.s (k := 69) rfl) (t_bdK rfl : t_bd 11 45 = some (0, 6)); exact t_pla_turn (w := w189) j17_0 (by omega) (by omega) (by omega) (by omega) (by omega) (by omega) (by omega) (by omega) (by omega) (fun h => absurd (q172.mpr h) (by omega)) (fun h => absurd (q175.mpr h) (by omega)) (by have h1 := q179; have h2 := q171; rw [show z178.toInt.toNat = y17_1.toInt.toNat + 1 by omega] at h1; omega) (by rw [← t_tt_sp hsp, congrArg Int32.toInt c17_2]; exact q189) (by omega) (by omega) hsp (funext (fun j => (hC184.1 92 j rfl).1)) q184.2 q184.1) rfl
            · have r194 : w175.toInt ≠ 0 := fun e => h176 (Int32.toInt_inj.mp (e.trans (by decide : (0:Int) = (0 : Int32).toInt)))
              have l195 : 1 ≤ w175.toInt := t_nel h176 l175 rfl rfl
              refine ev_loc f_X12_plans (nx := 131) rfl rfl rfl rfl ?_
              refine ev_loc f_X12_plans (nx := 132) rfl rfl rfl rfl ?_
              refine ev_loc f_X12_plans (nx := 133) rfl rfl rfl rfl ?_
              refine ev_loc f_X12_plans (nx := 135) rfl rfl rfl rfl ?_
              refine ev_qI0 f_X12_plans (nx := 138) (r := []) rfl rfl rfl rfl rfl rfl rfl (c_m_byCart hI (y17_1) l17_1 u168 (y17_3) l17_3 u17_3 (y17_4) l17_4 u166 (j17_0.2.2.2.2.2.2.1) (by have hm := q175.mp (by omega); unfold t_mayC at hm; omega) (by have hm := q175.mp (by omega); unfold t_mayC at hm; have h1 := j17_0.2.2.2.2.1; have h2 := j17_0.2.2.2.2.2.1; exact t_pla_la j17_0 (by omega) (by first | omega | (unfold t_S; omega)) (by first | omega | (unfold t_C; omega)))) rfl (fun w196 l196 u196 q196 => ?_)
              have q196 : w196.toInt = t_byc gi17 (gi17 92) y17_1.toInt.toNat y17_3.toInt.toNat y17_4.toInt.toNat := q196
              refine ev_loc f_X12_plans (nx := 140) rfl rfl rfl rfl ?_
              refine ev_if f_X12_plans (t1 := 143) (t2 := 177) rfl rfl rfl (fun h197 => ?_) (fun h197 => ?_)
              · have r198 : w196.toInt = w171.toInt := t_eqi h197
                have u199 : w171.toInt ≤ 1000023760 := t_equ (Eq.symm h197) u196
                have l200 : 0 ≤ w171.toInt := t_eql (Eq.symm h197) l196
                refine ev_loc f_X12_plans (nx := 144) rfl rfl rfl rfl ?_
                refine ev_ic f_X12_plans (nx := 145) (v := 1) rfl (by decide) rfl ?_
                refine ev_loc f_X12_plans (nx := 146) rfl rfl rfl rfl ?_
                refine ev_loc f_X12_plans (nx := 147) rfl rfl rfl rfl ?_
                refine ev_getR f_X12_plans (nx := 150) rfl (hI.wf.s rfl) rfl rfl (hI.wf.r rfl) rfl rfl ?_
                refine ev_loc f_X12_plans (nx := 152) rfl rfl rfl rfl ?_
                refine ev_ialdT f_X12_plans (nx := 153) rfl (hI.wf.s rfl) l17_4 (by decide) u166 (by decide) rfl (fun w201 e201 => ?_)
                obtain ⟨l201, u201⟩ := hI.abi e201 (by decide +kernel : t_abr 91 0 5 0 5 = true) l17_4 (by decide) u166 (by decide)
                refine ev_qN f_X12_plans (nx := 156) (r := []) rfl rfl rfl rfl rfl rfl rfl (c_m_acts hI (1) (Int.le_trans (by decide : (0:Int) ≤ 1) (by decide : (1:Int) ≤ (1:Int32).toInt)) (Int.le_trans (by decide : (1:Int32).toInt ≤ (1:Int)) (by decide : (1:Int) ≤ 2)) (y17_1) (w201) (Int.le_trans (by decide : ((-1):Int) ≤ 0) l201) u201 (j17_0.2.2.2.1) (by have hn := t_pla_n j17_0 (by omega) (by omega) (hI.b (hI.wf.s (k := 69) rfl) (t_bdK rfl : t_bd 11 44 = some (0, 6))).2 (hI.b (hI.wf.s (k := 69) rfl) (t_bdK rfl : t_bd 11 45 = some (0, 6))).2; omega) (by have kf203 : (1 : Int32).toInt = 1 := (by decide); omega)) rfl hX rfl (fun gi202 gl202 gr202 hI hX hC202 q202 => ?_)
                have q202 : t_wh (gi202 69 55).toInt (gi202 93) (gi202 95) ∧ (gi202 69 55).toInt = (gi17 69 55).toInt + 1 := q202
                obtain ⟨l204, u204⟩ := hI.b (hI.wf.s (k := 69) rfl) (t_bdK rfl : t_bd 11 55 = some (0, 100))
                refine ev_loc f_X12_plans (nx := 157) rfl rfl rfl rfl ?_
                refine ev_loc f_X12_plans (nx := 158) rfl rfl rfl rfl ?_
                refine ev_loc f_X12_plans (nx := 159) rfl rfl rfl rfl ?_
                refine ev_getR f_X12_plans (nx := 162) rfl (hI.wf.s rfl) rfl rfl (hI.wf.r rfl) rfl rfl ?_
                refine ev_loc f_X12_plans (nx := 164) rfl rfl rfl rfl ?_
                refine ev_ialdT f_X12_plans (nx := 165) rfl (hI.wf.s rfl) l17_4 (by decide) u166 (by decide) rfl (fun w205 e205 => ?_)
                rw [e205.trans ((hC202.1 91 y17_4.toNatClampNeg rfl).1.trans e201.symm)]
                refine ev_ic f_X12_plans (nx := 166) (v := 1) rfl (by decide) rfl ?_
                refine ev_inV3 f_X12_plans (nx := 169) (lo2 := [(0, .ref 69), (1, .int w201), (2, .int 1)]) rfl rfl rfl rfl f_X12_ofCart (hI.wf.s rfl) rfl rfl rfl rfl rfl ?_
                refine ev_loc f_X12_ofCart (nx := 1) rfl rfl rfl rfl ?_
                refine ev_getR f_X12_ofCart (nx := 4) rfl (hI.wf.s rfl) rfl rfl (hI.wf.r rfl) rfl rfl ?_
                refine ev_bp f_X12_ofCart (nx := 6) (v := 82) rfl (by decide) rfl ?_
                refine ev_ic f_X12_ofCart (nx := 7) (v := 3) rfl (by decide) rfl ?_
                refine ev_loc f_X12_ofCart (nx := 8) rfl rfl rfl rfl ?_
                refine ev_mulL f_X12_ofCart (nx := 9) (c := 3) (l := 0) (u := 15) rfl (by decide) (by decide) l201 u201 rfl rfl (by decide) (by decide) rfl (fun z206 e206 l206 u206 => ?_)
                refine ev_addK f_X12_ofCart (nx := 10) (c := 82) (l := 82) (u := 97) rfl (by decide) l206 u206 rfl rfl (by decide) (by decide) rfl (fun z207 e207 l207 u207 => ?_)
                refine ev_loc f_X12_ofCart (nx := 11) rfl rfl rfl rfl ?_
                refine ev_addC f_X12_ofCart (nx := 12) (c := 1) (l := 83) (u := 98) rfl (by decide) l207 u207 rfl rfl (by decide) (by decide) rfl (fun z208 e208 l208 u208 => ?_)
                refine ev_ialdT f_X12_ofCart (nx := 13) rfl (hI.wf.s rfl) l208 (by decide) u208 (by decide) rfl (fun w209 e209 => ?_)
                obtain ⟨l209, u209⟩ := hI.abA (x := w201) e209 (by decide +kernel : t_aba 70 83 3 0 5 0 20 = true) (by omega) (by omega) (by omega)
                refine ev_retK1 f_X12_ofCart rfl rfl rfl ?_
                refine ev_addR f_X12_plans (nx := 170) (l := 0) (u := 260) rfl l17_1 u168 l209 u209 rfl rfl (by decide) (by decide) rfl (fun z210 e210 l210 u210 => ?_)
                refine ev_loc f_X12_plans (nx := 171) (lo' := [(1, .int z210), (5, .int w171), (4, .int y17_4), (3, .int y17_3), (2, .int y17_2), (0, .ref 69)]) rfl rfl rfl rfl ?_
                refine ev_incR f_X12_plans (nx := 174) (c := 1) (l := 1) (u := 6) rfl rfl (by decide) (by decide) l17_4 u166 rfl rfl (by decide) (by decide) rfl (fun z211 e211 l211 u211 => ?_)
                refine ev_jmp f_X12_plans (nx := 222) rfl rfl rfl ?_
                refine ev_jmp f_X12_plans (nx := 36) rfl rfl rfl ?_
                refine ev_sub (lo := [(4, .int z211), (3, .int y17_3), (2, .int y17_2), (1, .int z210), (0, .ref 69)]) rfl (t_sc rfl (t_sc rfl (t_sc rfl (t_sc rfl (t_sc rfl t_sn))))) ?_
                exact ih17 _ (by omega) gi202 gl202 gr202 (z211) (y17_3) (y17_2) (z210) hI hX  (Int.le_trans (by decide : (0:Int) ≤ 1) l211) u211 l17_3 u17_3 l17_2 u17_2 l210 (Int.le_trans u210 (by decide : (260:Int) ≤ 280)) ((hC202.1 69 44 rfl).1.trans c17_0) ((hC202.1 69 45 rfl).1.trans c17_1) ((hC202.1 69 48 rfl).1.trans c17_2) ((hC202.1 69 57 rfl).1.trans c17_3) ((hC202.1 70 4 rfl).1.trans c17_4) (by have hsp := (⟨(hC202.1 69 44 rfl).1, (hC202.1 69 45 rfl).1, (hC202.1 69 48 rfl).1, funext (fun j => (hC202.1 70 j rfl).1), funext (fun j => (hC202.1 89 j rfl).1), funext (fun j => (hC202.1 90 j rfl).1), funext (fun j => (hC202.1 91 j rfl).1)⟩ : t_sp gi17 gi202); have htk : t_ct gi202 y17_4.toInt.toNat = w209.toInt.toNat := (by unfold t_ct; rw [t_of_eq (p := gi202) (a := 83) (b := 3) t_sp.rf (t_ci_eq t_sp.rf (i := y17_4) (((hC202.1 91 y17_4.toNatClampNeg rfl).1.trans e201.symm)).symm (by omega)) (e209.symm).symm (by omega) (by omega)]); exact t_pla_cart (w := w209) j17_0 (by omega) (by omega) (by omega) (q175.mp (by omega)) (by have h1 := q196; have h2 := q171; omega) (by rw [← t_ct_sp hsp]; exact htk) (by omega) (by omega) (by omega) (by rw [← t_cc_sp hsp]; exact t_cc0 hI (by omega)) hsp (funext (fun j => (hC202.1 92 j rfl).1)) q202.2 q202.1) rfl
              · have r212 : w196.toInt ≠ w171.toInt := t_nei h197
                refine ev_loc f_X12_plans (nx := 178) rfl rfl rfl rfl ?_
                refine ev_loc f_X12_plans (nx := 179) rfl rfl rfl rfl ?_
                refine ev_ic f_X12_plans (nx := 180) (v := 1) rfl (by decide) rfl ?_
                refine ev_addC f_X12_plans (nx := 181) (c := 1) (l := 1) (u := 241) rfl (by decide) l17_1 u168 rfl rfl (by decide) (by decide) rfl (fun z213 e213 l213 u213 => ?_)
                refine ev_loc f_X12_plans (nx := 182) rfl rfl rfl rfl ?_
                refine ev_loc f_X12_plans (nx := 183) rfl rfl rfl rfl ?_
                refine ev_loc f_X12_plans (nx := 185) rfl rfl rfl rfl ?_
                refine ev_qI0 f_X12_plans (nx := 188) (r := []) rfl rfl rfl rfl rfl rfl rfl (c_m_leftAt hI (z213) (Int.le_trans (by decide : (0:Int) ≤ 1) l213) (Int.le_trans u213 (by decide : (241:Int) ≤ 300)) (y17_2) l17_2 u17_2 (y17_3) l17_3 u17_3 (y17_4) l17_4 (Int.le_trans u166 (by decide : (5:Int) ≤ 6))) rfl (fun w214 l214 u214 q214 => ?_)
                have q214 : w214.toInt = t_la (gi17 92) (t_S gi17) (t_C gi17) z213.toInt.toNat y17_2.toInt.toNat y17_3.toInt.toNat y17_4.toInt.toNat := q214
                refine ev_loc f_X12_plans (nx := 190) rfl rfl rfl rfl ?_
                refine ev_if f_X12_plans (t1 := 193) (t2 := 199) rfl rfl rfl (fun h215 => ?_) (fun h215 => ?_)
                · have r216 : w214.toInt = w171.toInt := t_eqi h215
                  refine ev_incR f_X12_plans (nx := 196) (c := 1) (l := 1) (u := 241) rfl rfl (by decide) (by decide) l17_1 u168 rfl rfl (by decide) (by decide) rfl (fun z217 e217 l217 u217 => ?_)
                  refine ev_jmp f_X12_plans (nx := 222) rfl rfl rfl ?_
                  refine ev_jmp f_X12_plans (nx := 36) rfl rfl rfl ?_
                  refine ev_sub (lo := [(4, .int y17_4), (3, .int y17_3), (2, .int y17_2), (1, .int z217), (0, .ref 69)]) rfl (t_sc rfl (t_sc rfl (t_sc rfl (t_sc rfl (t_sc rfl t_sn))))) ?_
                  exact ih17 _ (by omega) gi17 gl17 gr17 (y17_4) (y17_3) (y17_2) (z217) hI hX  l17_4 (Int.le_trans u166 (by decide : (5:Int) ≤ 6)) l17_3 u17_3 l17_2 u17_2 (Int.le_trans (by decide : (0:Int) ≤ 1) l217) (Int.le_trans u217 (by decide : (241:Int) ≤ 280)) c17_0 c17_1 c17_2 c17_3 c17_4 (t_pla_rest j17_0 (by omega) (by have h1 := q214; have h2 := q171; rw [show z213.toInt.toNat = y17_1.toInt.toNat + 1 by omega] at h1; omega) (by omega)) rfl
                · have r218 : w214.toInt ≠ w171.toInt := t_nei h215
                  refine ev_loc f_X12_plans (nx := 200) rfl rfl rfl rfl ?_
                  refine ev_ic f_X12_plans (nx := 201) (v := 2) rfl (by decide) rfl ?_
                  refine ev_loc f_X12_plans (nx := 202) rfl rfl rfl rfl ?_
                  refine ev_ic f_X12_plans (nx := 203) (v := -1) rfl (by decide) rfl ?_
                  refine ev_qN f_X12_plans (nx := 206) (r := []) rfl rfl rfl rfl rfl rfl rfl (c_m_acts hI (2) (Int.le_trans (by decide : (0:Int) ≤ 2) (by decide : (2:Int) ≤ (2:Int32).toInt)) (by decide : (2:Int32).toInt ≤ (2:Int)) (y17_1) ((-1)) (by decide : ((-1):Int) ≤ ((-1):Int32).toInt) (Int.le_trans (by decide : ((-1):Int32).toInt ≤ ((-1):Int)) (by decide : ((-1):Int) ≤ 5)) (j17_0.2.2.2.1) (by have hn := t_pla_n j17_0 (by omega) (by omega) (hI.b (hI.wf.s (k := 69) rfl) (t_bdK rfl : t_bd 11 44 = some (0, 6))).2 (hI.b (hI.wf.s (k := 69) rfl) (t_bdK rfl : t_bd 11 45 = some (0, 6))).2; omega) (by have kf220 : ((-1) : Int32).toInt = (-1) := (by decide); have kf221 : (2 : Int32).toInt = 2 := (by decide); omega)) rfl hX rfl (fun gi219 gl219 gr219 hI hX hC219 q219 => ?_)
                  have q219 : t_wh (gi219 69 55).toInt (gi219 93) (gi219 95) ∧ (gi219 69 55).toInt = (gi17 69 55).toInt + 1 := q219
                  obtain ⟨l222, u222⟩ := hI.b (hI.wf.s (k := 69) rfl) (t_bdK rfl : t_bd 11 55 = some (0, 100))
                  refine ev_loc f_X12_plans (nx := 207) rfl rfl rfl rfl ?_
                  refine ev_loc f_X12_plans (nx := 208) rfl rfl rfl rfl ?_
                  refine ev_loc f_X12_plans (nx := 209) rfl rfl rfl rfl ?_
                  refine ev_loc f_X12_plans (nx := 210) rfl rfl rfl rfl ?_
                  refine ev_gvI f_X12_plans (nx := 213) (w := (gi7 69 48)) rfl (hI.wf.s rfl) rfl rfl ((hC219.1 69 48 rfl).1.trans c17_2) rfl ?_
                  have l223 : (1:Int) ≤ (gi7 69 48).toInt := (by have h := j17_0.2.2.2.2.2.2.2; rw [c17_2] at h; exact h)
                  refine ev_qI0 f_X12_plans (nx := 216) (r := [.int y17_1]) rfl rfl rfl rfl rfl rfl rfl (c_m_turnTime hI (y17_1) l17_1 (Int.le_trans u168 (by decide : (240:Int) ≤ 300)) ((gi7 69 48)) l223 u10) rfl (fun w224 l224 u224 q224 => ?_)
                  have q224 : w224.toInt = ((t_tt gi219 (gi7 69 48).toInt y17_1.toInt.toNat : Nat) : Int) := q224
                  refine ev_addR f_X12_plans (nx := 217) (l := 1) (u := 280) rfl l17_1 u168 l224 u224 rfl rfl (by decide) (by decide) rfl (fun z225 e225 l225 u225 => ?_)
                  refine ev_loc f_X12_plans (nx := 218) (lo' := [(1, .int z225), (5, .int w171), (4, .int y17_4), (3, .int y17_3), (2, .int y17_2), (0, .ref 69)]) rfl rfl rfl rfl ?_
                  refine ev_ic f_X12_plans (nx := 219) (v := 1) rfl (by decide) rfl ?_
                  refine ev_loc f_X12_plans (nx := 220) rfl rfl rfl rfl ?_
                  refine ev_subK f_X12_plans (nx := 221) (c := 1) (l := 0) (u := 1) rfl (by decide) l17_2 u17_2 rfl rfl (by decide) (by decide) rfl (fun z226 e226 l226 u226 => ?_)
                  refine ev_loc f_X12_plans (nx := 222) (lo' := [(2, .int z226), (1, .int z225), (5, .int w171), (4, .int y17_4), (3, .int y17_3), (0, .ref 69)]) rfl rfl rfl rfl ?_
                  refine ev_jmp f_X12_plans (nx := 36) rfl rfl rfl ?_
                  refine ev_sub (lo := [(4, .int y17_4), (3, .int y17_3), (2, .int z226), (1, .int z225), (0, .ref 69)]) rfl (t_sc rfl (t_sc rfl (t_sc rfl (t_sc rfl (t_sc rfl t_sn))))) ?_
                  exact ih17 _ (by omega) gi219 gl219 gr219 (y17_4) (y17_3) (z226) (z225) hI hX  l17_4 (Int.le_trans u166 (by decide : (5:Int) ≤ 6)) l17_3 u17_3 l226 u226 (Int.le_trans (by decide : (0:Int) ≤ 1) l225) u225 ((hC219.1 69 44 rfl).1.trans c17_0) ((hC219.1 69 45 rfl).1.trans c17_1) ((hC219.1 69 48 rfl).1.trans c17_2) ((hC219.1 69 57 rfl).1.trans c17_3) ((hC219.1 70 4 rfl).1.trans c17_4) (by have hsp := (⟨(hC219.1 69 44 rfl).1, (hC219.1 69 45 rfl).1, (hC219.1 69 48 rfl).1, funext (fun j => (hC219.1 70 j rfl).1), funext (fun j => (hC219.1 89 j rfl).1), funext (fun j => (hC219.1 90 j rfl).1), funext (fun j => (hC219.1 91 j rfl).1)⟩ : t_sp gi17 gi219); have e1 := congrArg Int32.toInt hsp.1; have e2 := congrArg Int32.toInt hsp.2.1; have ff227 : (gi219 69 44).toInt = (gi7 69 44).toInt := congrArg Int32.toInt ((hC219.1 69 44 rfl).1.trans c17_0); have ff228 : (gi219 69 45).toInt = (gi7 69 45).toInt := congrArg Int32.toInt ((hC219.1 69 45 rfl).1.trans c17_1); have hb1 := hI.b (hI.wf.s (k := 69) rfl) (t_bdK rfl : t_bd 11 44 = some (0, 6)); have hb2 := hI.b (hI.wf.s (k := 69) rfl) (t_bdK rfl : t_bd 11 45 = some (0, 6)); exact t_pla_turn (w := w224) j17_0 (by omega) (by omega) (by omega) (by omega) (by omega) (by omega) (by omega) (by omega) (by omega) (fun h => absurd (q172.mpr h) (by omega)) (fun _ => by have h1 := q196; have h2 := q171; omega) (by have h1 := q214; have h2 := q171; rw [show z213.toInt.toNat = y17_1.toInt.toNat + 1 by omega] at h1; omega) (by rw [← t_tt_sp hsp, congrArg Int32.toInt c17_2]; exact q224) (by omega) (by omega) hsp (funext (fun j => (hC219.1 92 j rfl).1)) q219.2 q219.1) rfl
          · have r229 : w172.toInt ≠ 0 := fun e => h173 (Int32.toInt_inj.mp (e.trans (by decide : (0:Int) = (0 : Int32).toInt)))
            have l230 : 1 ≤ w172.toInt := t_nel h173 l172 rfl rfl
            refine ev_loc f_X12_plans (nx := 75) rfl rfl rfl rfl ?_
            refine ev_loc f_X12_plans (nx := 76) rfl rfl rfl rfl ?_
            refine ev_loc f_X12_plans (nx := 77) rfl rfl rfl rfl ?_
            refine ev_loc f_X12_plans (nx := 79) rfl rfl rfl rfl ?_
            have u231 : y17_3.toInt ≤ (5:Int) := (by have ff232 : (gi17 69 44).toInt = (gi7 69 44).toInt := congrArg Int32.toInt c17_0; have hm := q172.mp (by omega); unfold t_mayS t_S at hm; omega)
            refine ev_qI0 f_X12_plans (nx := 82) (r := []) rfl rfl rfl rfl rfl rfl rfl (c_m_byShip hI (y17_1) l17_1 u168 (y17_3) l17_3 u231 (y17_4) l17_4 (Int.le_trans u166 (by decide : (5:Int) ≤ 6)) (j17_0.2.2.2.2.2.2.1) (by have hm := q172.mp (by omega); unfold t_mayS at hm; omega) (by have hm := q172.mp (by omega); unfold t_mayS at hm; have h1 := j17_0.2.2.2.2.1; have h2 := j17_0.2.2.2.2.2.1; exact t_pla_la j17_0 (by omega) (by first | omega | (unfold t_S; omega)) (by first | omega | (unfold t_C; omega)))) rfl (fun w233 l233 u233 q233 => ?_)
            have q233 : w233.toInt = t_bys gi17 (gi17 92) y17_1.toInt.toNat y17_3.toInt.toNat y17_4.toInt.toNat := q233
            refine ev_loc f_X12_plans (nx := 84) rfl rfl rfl rfl ?_
            refine ev_if f_X12_plans (t1 := 87) (t2 := 119) rfl rfl rfl (fun h234 => ?_) (fun h234 => ?_)
            · have r235 : w233.toInt = w171.toInt := t_eqi h234
              have u236 : w171.toInt ≤ 1000023760 := t_equ (Eq.symm h234) u233
              have l237 : 0 ≤ w171.toInt := t_eql (Eq.symm h234) l233
              refine ev_loc f_X12_plans (nx := 88) rfl rfl rfl rfl ?_
              refine ev_ic f_X12_plans (nx := 89) (v := 0) rfl (by decide) rfl ?_
              refine ev_loc f_X12_plans (nx := 90) rfl rfl rfl rfl ?_
              refine ev_loc f_X12_plans (nx := 91) rfl rfl rfl rfl ?_
              refine ev_getR f_X12_plans (nx := 94) rfl (hI.wf.s rfl) rfl rfl (hI.wf.r rfl) rfl rfl ?_
              refine ev_loc f_X12_plans (nx := 95) rfl rfl rfl rfl ?_
              refine ev_ialdT f_X12_plans (nx := 96) rfl (hI.wf.s rfl) l17_3 (by decide) u231 (by decide) rfl (fun w238 e238 => ?_)
              obtain ⟨l238, u238⟩ := hI.abi e238 (by decide +kernel : t_abr 90 0 5 0 5 = true) l17_3 (by decide) u231 (by decide)
              refine ev_qN f_X12_plans (nx := 99) (r := []) rfl rfl rfl rfl rfl rfl rfl (c_m_acts hI (0) (by decide : (0:Int) ≤ (0:Int32).toInt) (Int.le_trans (by decide : (0:Int32).toInt ≤ (0:Int)) (by decide : (0:Int) ≤ 2)) (y17_1) (w238) (Int.le_trans (by decide : ((-1):Int) ≤ 0) l238) u238 (j17_0.2.2.2.1) (by have hn := t_pla_n j17_0 (by omega) (by omega) (hI.b (hI.wf.s (k := 69) rfl) (t_bdK rfl : t_bd 11 44 = some (0, 6))).2 (hI.b (hI.wf.s (k := 69) rfl) (t_bdK rfl : t_bd 11 45 = some (0, 6))).2; omega) (by have kf240 : (0 : Int32).toInt = 0 := (by decide); omega)) rfl hX rfl (fun gi239 gl239 gr239 hI hX hC239 q239 => ?_)
              have q239 : t_wh (gi239 69 55).toInt (gi239 93) (gi239 95) ∧ (gi239 69 55).toInt = (gi17 69 55).toInt + 1 := q239
              obtain ⟨l241, u241⟩ := hI.b (hI.wf.s (k := 69) rfl) (t_bdK rfl : t_bd 11 55 = some (0, 100))
              refine ev_loc f_X12_plans (nx := 100) rfl rfl rfl rfl ?_
              refine ev_loc f_X12_plans (nx := 101) rfl rfl rfl rfl ?_
              refine ev_loc f_X12_plans (nx := 102) rfl rfl rfl rfl ?_
              refine ev_getR f_X12_plans (nx := 105) rfl (hI.wf.s rfl) rfl rfl (hI.wf.r rfl) rfl rfl ?_
              refine ev_loc f_X12_plans (nx := 106) rfl rfl rfl rfl ?_
              refine ev_ialdT f_X12_plans (nx := 107) rfl (hI.wf.s rfl) l17_3 (by decide) u231 (by decide) rfl (fun w242 e242 => ?_)
              rw [e242.trans ((hC239.1 90 y17_3.toNatClampNeg rfl).1.trans e238.symm)]
              refine ev_ic f_X12_plans (nx := 108) (v := 2) rfl (by decide) rfl ?_
              refine ev_inV3 f_X12_plans (nx := 111) (lo2 := [(0, .ref 69), (1, .int w238), (2, .int 2)]) rfl rfl rfl rfl f_X12_ofShip (hI.wf.s rfl) rfl rfl rfl rfl rfl ?_
              refine ev_loc f_X12_ofShip (nx := 1) rfl rfl rfl rfl ?_
              refine ev_getR f_X12_ofShip (nx := 4) rfl (hI.wf.s rfl) rfl rfl (hI.wf.r rfl) rfl rfl ?_
              refine ev_bp f_X12_ofShip (nx := 6) (v := 52) rfl (by decide) rfl ?_
              refine ev_ic f_X12_ofShip (nx := 7) (v := 5) rfl (by decide) rfl ?_
              refine ev_loc f_X12_ofShip (nx := 8) rfl rfl rfl rfl ?_
              refine ev_mulL f_X12_ofShip (nx := 9) (c := 5) (l := 0) (u := 25) rfl (by decide) (by decide) l238 u238 rfl rfl (by decide) (by decide) rfl (fun z243 e243 l243 u243 => ?_)
              refine ev_addK f_X12_ofShip (nx := 10) (c := 52) (l := 52) (u := 77) rfl (by decide) l243 u243 rfl rfl (by decide) (by decide) rfl (fun z244 e244 l244 u244 => ?_)
              refine ev_loc f_X12_ofShip (nx := 11) rfl rfl rfl rfl ?_
              refine ev_addC f_X12_ofShip (nx := 12) (c := 2) (l := 54) (u := 79) rfl (by decide) l244 u244 rfl rfl (by decide) (by decide) rfl (fun z245 e245 l245 u245 => ?_)
              refine ev_ialdT f_X12_ofShip (nx := 13) rfl (hI.wf.s rfl) l245 (by decide) u245 (by decide) rfl (fun w246 e246 => ?_)
              obtain ⟨l246, u246⟩ := hI.abA (x := w238) e246 (by decide +kernel : t_aba 70 54 5 0 5 0 20 = true) (by omega) (by omega) (by omega)
              refine ev_retK1 f_X12_ofShip rfl rfl rfl ?_
              refine ev_addR f_X12_plans (nx := 112) (l := 0) (u := 260) rfl l17_1 u168 l246 u246 rfl rfl (by decide) (by decide) rfl (fun z247 e247 l247 u247 => ?_)
              refine ev_loc f_X12_plans (nx := 113) (lo' := [(1, .int z247), (5, .int w171), (4, .int y17_4), (3, .int y17_3), (2, .int y17_2), (0, .ref 69)]) rfl rfl rfl rfl ?_
              refine ev_incR f_X12_plans (nx := 116) (c := 1) (l := 1) (u := 6) rfl rfl (by decide) (by decide) l17_3 u231 rfl rfl (by decide) (by decide) rfl (fun z248 e248 l248 u248 => ?_)
              refine ev_jmp f_X12_plans (nx := 222) rfl rfl rfl ?_
              refine ev_jmp f_X12_plans (nx := 36) rfl rfl rfl ?_
              refine ev_sub (lo := [(4, .int y17_4), (3, .int z248), (2, .int y17_2), (1, .int z247), (0, .ref 69)]) rfl (t_sc rfl (t_sc rfl (t_sc rfl (t_sc rfl (t_sc rfl t_sn))))) ?_
              exact ih17 _ (by omega) gi239 gl239 gr239 (y17_4) (z248) (y17_2) (z247) hI hX  l17_4 (Int.le_trans u166 (by decide : (5:Int) ≤ 6)) (Int.le_trans (by decide : (0:Int) ≤ 1) l248) u248 l17_2 u17_2 l247 (Int.le_trans u247 (by decide : (260:Int) ≤ 280)) ((hC239.1 69 44 rfl).1.trans c17_0) ((hC239.1 69 45 rfl).1.trans c17_1) ((hC239.1 69 48 rfl).1.trans c17_2) ((hC239.1 69 57 rfl).1.trans c17_3) ((hC239.1 70 4 rfl).1.trans c17_4) (by have hsp := (⟨(hC239.1 69 44 rfl).1, (hC239.1 69 45 rfl).1, (hC239.1 69 48 rfl).1, funext (fun j => (hC239.1 70 j rfl).1), funext (fun j => (hC239.1 89 j rfl).1), funext (fun j => (hC239.1 90 j rfl).1), funext (fun j => (hC239.1 91 j rfl).1)⟩ : t_sp gi17 gi239); have htk : t_st gi239 y17_3.toInt.toNat = w246.toInt.toNat := (by unfold t_st; rw [t_of_eq (p := gi239) (a := 54) (b := 5) t_sp.rf (t_si_eq t_sp.rf (i := y17_3) (((hC239.1 90 y17_3.toNatClampNeg rfl).1.trans e238.symm)).symm (by omega)) (e246.symm).symm (by omega) (by omega)]); exact t_pla_ship (w := w246) j17_0 (by omega) (by omega) (by omega) (q172.mp (by omega)) (by have h1 := q233; have h2 := q171; omega) (by rw [← t_st_sp hsp]; exact htk) (by omega) (by omega) (by omega) (by rw [← t_so_sp hsp]; exact t_so0 hI (by omega)) hsp (funext (fun j => (hC239.1 92 j rfl).1)) q239.2 q239.1) rfl
            · have r249 : w233.toInt ≠ w171.toInt := t_nei h234
              refine ev_loc f_X12_plans (nx := 120) rfl rfl rfl rfl ?_
              refine ev_loc f_X12_plans (nx := 121) rfl rfl rfl rfl ?_
              refine ev_loc f_X12_plans (nx := 122) rfl rfl rfl rfl ?_
              refine ev_loc f_X12_plans (nx := 124) rfl rfl rfl rfl ?_
              refine ev_qI0 f_X12_plans (nx := 127) (r := []) rfl rfl rfl rfl rfl rfl rfl (c_m_mayCart hI (y17_1) l17_1 u168 (y17_2) l17_2 u17_2 (y17_4) l17_4 (Int.le_trans u166 (by decide : (5:Int) ≤ 6))) rfl (fun w250 l250 u250 q250 => ?_)
              have q250 : (w250.toInt = 1 ↔ t_mayC gi17 y17_1.toInt.toNat y17_2.toInt.toNat y17_4.toInt.toNat) := q250
              refine ev_if f_X12_plans (t1 := 177) (t2 := 130) rfl rfl rfl (fun h251 => ?_) (fun h251 => ?_)
              · have u252 : w250.toInt ≤ 0 := t_equ h251 (by decide : (0:Int32).toInt ≤ (0:Int))
                refine ev_loc f_X12_plans (nx := 178) rfl rfl rfl rfl ?_
                refine ev_loc f_X12_plans (nx := 179) rfl rfl rfl rfl ?_
                refine ev_ic f_X12_plans (nx := 180) (v := 1) rfl (by decide) rfl ?_
                refine ev_addC f_X12_plans (nx := 181) (c := 1) (l := 1) (u := 241) rfl (by decide) l17_1 u168 rfl rfl (by decide) (by decide) rfl (fun z253 e253 l253 u253 => ?_)
                refine ev_loc f_X12_plans (nx := 182) rfl rfl rfl rfl ?_
                refine ev_loc f_X12_plans (nx := 183) rfl rfl rfl rfl ?_
                refine ev_loc f_X12_plans (nx := 185) rfl rfl rfl rfl ?_
                refine ev_qI0 f_X12_plans (nx := 188) (r := []) rfl rfl rfl rfl rfl rfl rfl (c_m_leftAt hI (z253) (Int.le_trans (by decide : (0:Int) ≤ 1) l253) (Int.le_trans u253 (by decide : (241:Int) ≤ 300)) (y17_2) l17_2 u17_2 (y17_3) l17_3 (Int.le_trans u231 (by decide : (5:Int) ≤ 6)) (y17_4) l17_4 (Int.le_trans u166 (by decide : (5:Int) ≤ 6))) rfl (fun w254 l254 u254 q254 => ?_)
                have q254 : w254.toInt = t_la (gi17 92) (t_S gi17) (t_C gi17) z253.toInt.toNat y17_2.toInt.toNat y17_3.toInt.toNat y17_4.toInt.toNat := q254
                refine ev_loc f_X12_plans (nx := 190) rfl rfl rfl rfl ?_
                refine ev_if f_X12_plans (t1 := 193) (t2 := 199) rfl rfl rfl (fun h255 => ?_) (fun h255 => ?_)
                · have r256 : w254.toInt = w171.toInt := t_eqi h255
                  refine ev_incR f_X12_plans (nx := 196) (c := 1) (l := 1) (u := 241) rfl rfl (by decide) (by decide) l17_1 u168 rfl rfl (by decide) (by decide) rfl (fun z257 e257 l257 u257 => ?_)
                  refine ev_jmp f_X12_plans (nx := 222) rfl rfl rfl ?_
                  refine ev_jmp f_X12_plans (nx := 36) rfl rfl rfl ?_
                  refine ev_sub (lo := [(4, .int y17_4), (3, .int y17_3), (2, .int y17_2), (1, .int z257), (0, .ref 69)]) rfl (t_sc rfl (t_sc rfl (t_sc rfl (t_sc rfl (t_sc rfl t_sn))))) ?_
                  exact ih17 _ (by omega) gi17 gl17 gr17 (y17_4) (y17_3) (y17_2) (z257) hI hX  l17_4 (Int.le_trans u166 (by decide : (5:Int) ≤ 6)) l17_3 (Int.le_trans u231 (by decide : (5:Int) ≤ 6)) l17_2 u17_2 (Int.le_trans (by decide : (0:Int) ≤ 1) l257) (Int.le_trans u257 (by decide : (241:Int) ≤ 280)) c17_0 c17_1 c17_2 c17_3 c17_4 (t_pla_rest j17_0 (by omega) (by have h1 := q254; have h2 := q171; rw [show z253.toInt.toNat = y17_1.toInt.toNat + 1 by omega] at h1; omega) (by omega)) rfl
                · have r258 : w254.toInt ≠ w171.toInt := t_nei h255
                  refine ev_loc f_X12_plans (nx := 200) rfl rfl rfl rfl ?_
                  refine ev_ic f_X12_plans (nx := 201) (v := 2) rfl (by decide) rfl ?_
                  refine ev_loc f_X12_plans (nx := 202) rfl rfl rfl rfl ?_
                  refine ev_ic f_X12_plans (nx := 203) (v := -1) rfl (by decide) rfl ?_
                  refine ev_qN f_X12_plans (nx := 206) (r := []) rfl rfl rfl rfl rfl rfl rfl (c_m_acts hI (2) (Int.le_trans (by decide : (0:Int) ≤ 2) (by decide : (2:Int) ≤ (2:Int32).toInt)) (by decide : (2:Int32).toInt ≤ (2:Int)) (y17_1) ((-1)) (by decide : ((-1):Int) ≤ ((-1):Int32).toInt) (Int.le_trans (by decide : ((-1):Int32).toInt ≤ ((-1):Int)) (by decide : ((-1):Int) ≤ 5)) (j17_0.2.2.2.1) (by have hn := t_pla_n j17_0 (by omega) (by omega) (hI.b (hI.wf.s (k := 69) rfl) (t_bdK rfl : t_bd 11 44 = some (0, 6))).2 (hI.b (hI.wf.s (k := 69) rfl) (t_bdK rfl : t_bd 11 45 = some (0, 6))).2; omega) (by have kf260 : ((-1) : Int32).toInt = (-1) := (by decide); have kf261 : (2 : Int32).toInt = 2 := (by decide); omega)) rfl hX rfl (fun gi259 gl259 gr259 hI hX hC259 q259 => ?_)
                  have q259 : t_wh (gi259 69 55).toInt (gi259 93) (gi259 95) ∧ (gi259 69 55).toInt = (gi17 69 55).toInt + 1 := q259
                  obtain ⟨l262, u262⟩ := hI.b (hI.wf.s (k := 69) rfl) (t_bdK rfl : t_bd 11 55 = some (0, 100))
                  refine ev_loc f_X12_plans (nx := 207) rfl rfl rfl rfl ?_
                  refine ev_loc f_X12_plans (nx := 208) rfl rfl rfl rfl ?_
                  refine ev_loc f_X12_plans (nx := 209) rfl rfl rfl rfl ?_
                  refine ev_loc f_X12_plans (nx := 210) rfl rfl rfl rfl ?_
                  refine ev_gvI f_X12_plans (nx := 213) (w := (gi7 69 48)) rfl (hI.wf.s rfl) rfl rfl ((hC259.1 69 48 rfl).1.trans c17_2) rfl ?_
                  have l263 : (1:Int) ≤ (gi7 69 48).toInt := (by have h := j17_0.2.2.2.2.2.2.2; rw [c17_2] at h; exact h)
                  refine ev_qI0 f_X12_plans (nx := 216) (r := [.int y17_1]) rfl rfl rfl rfl rfl rfl rfl (c_m_turnTime hI (y17_1) l17_1 (Int.le_trans u168 (by decide : (240:Int) ≤ 300)) ((gi7 69 48)) l263 u10) rfl (fun w264 l264 u264 q264 => ?_)
                  have q264 : w264.toInt = ((t_tt gi259 (gi7 69 48).toInt y17_1.toInt.toNat : Nat) : Int) := q264
                  refine ev_addR f_X12_plans (nx := 217) (l := 1) (u := 280) rfl l17_1 u168 l264 u264 rfl rfl (by decide) (by decide) rfl (fun z265 e265 l265 u265 => ?_)
                  refine ev_loc f_X12_plans (nx := 218) (lo' := [(1, .int z265), (5, .int w171), (4, .int y17_4), (3, .int y17_3), (2, .int y17_2), (0, .ref 69)]) rfl rfl rfl rfl ?_
                  refine ev_ic f_X12_plans (nx := 219) (v := 1) rfl (by decide) rfl ?_
                  refine ev_loc f_X12_plans (nx := 220) rfl rfl rfl rfl ?_
                  refine ev_subK f_X12_plans (nx := 221) (c := 1) (l := 0) (u := 1) rfl (by decide) l17_2 u17_2 rfl rfl (by decide) (by decide) rfl (fun z266 e266 l266 u266 => ?_)
                  refine ev_loc f_X12_plans (nx := 222) (lo' := [(2, .int z266), (1, .int z265), (5, .int w171), (4, .int y17_4), (3, .int y17_3), (0, .ref 69)]) rfl rfl rfl rfl ?_
                  refine ev_jmp f_X12_plans (nx := 36) rfl rfl rfl ?_
                  refine ev_sub (lo := [(4, .int y17_4), (3, .int y17_3), (2, .int z266), (1, .int z265), (0, .ref 69)]) rfl (t_sc rfl (t_sc rfl (t_sc rfl (t_sc rfl (t_sc rfl t_sn))))) ?_
                  exact ih17 _ (by omega) gi259 gl259 gr259 (y17_4) (y17_3) (z266) (z265) hI hX  l17_4 (Int.le_trans u166 (by decide : (5:Int) ≤ 6)) l17_3 (Int.le_trans u231 (by decide : (5:Int) ≤ 6)) l266 u266 (Int.le_trans (by decide : (0:Int) ≤ 1) l265) u265 ((hC259.1 69 44 rfl).1.trans c17_0) ((hC259.1 69 45 rfl).1.trans c17_1) ((hC259.1 69 48 rfl).1.trans c17_2) ((hC259.1 69 57 rfl).1.trans c17_3) ((hC259.1 70 4 rfl).1.trans c17_4) (by have hsp := (⟨(hC259.1 69 44 rfl).1, (hC259.1 69 45 rfl).1, (hC259.1 69 48 rfl).1, funext (fun j => (hC259.1 70 j rfl).1), funext (fun j => (hC259.1 89 j rfl).1), funext (fun j => (hC259.1 90 j rfl).1), funext (fun j => (hC259.1 91 j rfl).1)⟩ : t_sp gi17 gi259); have e1 := congrArg Int32.toInt hsp.1; have e2 := congrArg Int32.toInt hsp.2.1; have ff267 : (gi259 69 44).toInt = (gi7 69 44).toInt := congrArg Int32.toInt ((hC259.1 69 44 rfl).1.trans c17_0); have ff268 : (gi259 69 45).toInt = (gi7 69 45).toInt := congrArg Int32.toInt ((hC259.1 69 45 rfl).1.trans c17_1); have hb1 := hI.b (hI.wf.s (k := 69) rfl) (t_bdK rfl : t_bd 11 44 = some (0, 6)); have hb2 := hI.b (hI.wf.s (k := 69) rfl) (t_bdK rfl : t_bd 11 45 = some (0, 6)); exact t_pla_turn (w := w264) j17_0 (by omega) (by omega) (by omega) (by omega) (by omega) (by omega) (by omega) (by omega) (by omega) (fun _ => by have h1 := q233; have h2 := q171; omega) (fun h => absurd (q250.mpr h) (by omega)) (by have h1 := q254; have h2 := q171; rw [show z253.toInt.toNat = y17_1.toInt.toNat + 1 by omega] at h1; omega) (by rw [← t_tt_sp hsp, congrArg Int32.toInt c17_2]; exact q264) (by omega) (by omega) hsp (funext (fun j => (hC259.1 92 j rfl).1)) q259.2 q259.1) rfl
              · have r269 : w250.toInt ≠ 0 := fun e => h251 (Int32.toInt_inj.mp (e.trans (by decide : (0:Int) = (0 : Int32).toInt)))
                have l270 : 1 ≤ w250.toInt := t_nel h251 l250 rfl rfl
                refine ev_loc f_X12_plans (nx := 131) rfl rfl rfl rfl ?_
                refine ev_loc f_X12_plans (nx := 132) rfl rfl rfl rfl ?_
                refine ev_loc f_X12_plans (nx := 133) rfl rfl rfl rfl ?_
                refine ev_loc f_X12_plans (nx := 135) rfl rfl rfl rfl ?_
                refine ev_qI0 f_X12_plans (nx := 138) (r := []) rfl rfl rfl rfl rfl rfl rfl (c_m_byCart hI (y17_1) l17_1 u168 (y17_3) l17_3 (Int.le_trans u231 (by decide : (5:Int) ≤ 6)) (y17_4) l17_4 u166 (j17_0.2.2.2.2.2.2.1) (by have hm := q250.mp (by omega); unfold t_mayC at hm; omega) (by have hm := q250.mp (by omega); unfold t_mayC at hm; have h1 := j17_0.2.2.2.2.1; have h2 := j17_0.2.2.2.2.2.1; exact t_pla_la j17_0 (by omega) (by first | omega | (unfold t_S; omega)) (by first | omega | (unfold t_C; omega)))) rfl (fun w271 l271 u271 q271 => ?_)
                have q271 : w271.toInt = t_byc gi17 (gi17 92) y17_1.toInt.toNat y17_3.toInt.toNat y17_4.toInt.toNat := q271
                refine ev_loc f_X12_plans (nx := 140) rfl rfl rfl rfl ?_
                refine ev_if f_X12_plans (t1 := 143) (t2 := 177) rfl rfl rfl (fun h272 => ?_) (fun h272 => ?_)
                · have r273 : w271.toInt = w171.toInt := t_eqi h272
                  have u274 : w171.toInt ≤ 1000023760 := t_equ (Eq.symm h272) u271
                  have l275 : 0 ≤ w171.toInt := t_eql (Eq.symm h272) l271
                  refine ev_loc f_X12_plans (nx := 144) rfl rfl rfl rfl ?_
                  refine ev_ic f_X12_plans (nx := 145) (v := 1) rfl (by decide) rfl ?_
                  refine ev_loc f_X12_plans (nx := 146) rfl rfl rfl rfl ?_
                  refine ev_loc f_X12_plans (nx := 147) rfl rfl rfl rfl ?_
                  refine ev_getR f_X12_plans (nx := 150) rfl (hI.wf.s rfl) rfl rfl (hI.wf.r rfl) rfl rfl ?_
                  refine ev_loc f_X12_plans (nx := 152) rfl rfl rfl rfl ?_
                  refine ev_ialdT f_X12_plans (nx := 153) rfl (hI.wf.s rfl) l17_4 (by decide) u166 (by decide) rfl (fun w276 e276 => ?_)
                  obtain ⟨l276, u276⟩ := hI.abi e276 (by decide +kernel : t_abr 91 0 5 0 5 = true) l17_4 (by decide) u166 (by decide)
                  refine ev_qN f_X12_plans (nx := 156) (r := []) rfl rfl rfl rfl rfl rfl rfl (c_m_acts hI (1) (Int.le_trans (by decide : (0:Int) ≤ 1) (by decide : (1:Int) ≤ (1:Int32).toInt)) (Int.le_trans (by decide : (1:Int32).toInt ≤ (1:Int)) (by decide : (1:Int) ≤ 2)) (y17_1) (w276) (Int.le_trans (by decide : ((-1):Int) ≤ 0) l276) u276 (j17_0.2.2.2.1) (by have hn := t_pla_n j17_0 (by omega) (by omega) (hI.b (hI.wf.s (k := 69) rfl) (t_bdK rfl : t_bd 11 44 = some (0, 6))).2 (hI.b (hI.wf.s (k := 69) rfl) (t_bdK rfl : t_bd 11 45 = some (0, 6))).2; omega) (by have kf278 : (1 : Int32).toInt = 1 := (by decide); omega)) rfl hX rfl (fun gi277 gl277 gr277 hI hX hC277 q277 => ?_)
                  have q277 : t_wh (gi277 69 55).toInt (gi277 93) (gi277 95) ∧ (gi277 69 55).toInt = (gi17 69 55).toInt + 1 := q277
                  obtain ⟨l279, u279⟩ := hI.b (hI.wf.s (k := 69) rfl) (t_bdK rfl : t_bd 11 55 = some (0, 100))
                  refine ev_loc f_X12_plans (nx := 157) rfl rfl rfl rfl ?_
                  refine ev_loc f_X12_plans (nx := 158) rfl rfl rfl rfl ?_
                  refine ev_loc f_X12_plans (nx := 159) rfl rfl rfl rfl ?_
                  refine ev_getR f_X12_plans (nx := 162) rfl (hI.wf.s rfl) rfl rfl (hI.wf.r rfl) rfl rfl ?_
                  refine ev_loc f_X12_plans (nx := 164) rfl rfl rfl rfl ?_
                  refine ev_ialdT f_X12_plans (nx := 165) rfl (hI.wf.s rfl) l17_4 (by decide) u166 (by decide) rfl (fun w280 e280 => ?_)
                  rw [e280.trans ((hC277.1 91 y17_4.toNatClampNeg rfl).1.trans e276.symm)]
                  refine ev_ic f_X12_plans (nx := 166) (v := 1) rfl (by decide) rfl ?_
                  refine ev_inV3 f_X12_plans (nx := 169) (lo2 := [(0, .ref 69), (1, .int w276), (2, .int 1)]) rfl rfl rfl rfl f_X12_ofCart (hI.wf.s rfl) rfl rfl rfl rfl rfl ?_
                  refine ev_loc f_X12_ofCart (nx := 1) rfl rfl rfl rfl ?_
                  refine ev_getR f_X12_ofCart (nx := 4) rfl (hI.wf.s rfl) rfl rfl (hI.wf.r rfl) rfl rfl ?_
                  refine ev_bp f_X12_ofCart (nx := 6) (v := 82) rfl (by decide) rfl ?_
                  refine ev_ic f_X12_ofCart (nx := 7) (v := 3) rfl (by decide) rfl ?_
                  refine ev_loc f_X12_ofCart (nx := 8) rfl rfl rfl rfl ?_
                  refine ev_mulL f_X12_ofCart (nx := 9) (c := 3) (l := 0) (u := 15) rfl (by decide) (by decide) l276 u276 rfl rfl (by decide) (by decide) rfl (fun z281 e281 l281 u281 => ?_)
                  refine ev_addK f_X12_ofCart (nx := 10) (c := 82) (l := 82) (u := 97) rfl (by decide) l281 u281 rfl rfl (by decide) (by decide) rfl (fun z282 e282 l282 u282 => ?_)
                  refine ev_loc f_X12_ofCart (nx := 11) rfl rfl rfl rfl ?_
                  refine ev_addC f_X12_ofCart (nx := 12) (c := 1) (l := 83) (u := 98) rfl (by decide) l282 u282 rfl rfl (by decide) (by decide) rfl (fun z283 e283 l283 u283 => ?_)
                  refine ev_ialdT f_X12_ofCart (nx := 13) rfl (hI.wf.s rfl) l283 (by decide) u283 (by decide) rfl (fun w284 e284 => ?_)
                  obtain ⟨l284, u284⟩ := hI.abA (x := w276) e284 (by decide +kernel : t_aba 70 83 3 0 5 0 20 = true) (by omega) (by omega) (by omega)
                  refine ev_retK1 f_X12_ofCart rfl rfl rfl ?_
                  refine ev_addR f_X12_plans (nx := 170) (l := 0) (u := 260) rfl l17_1 u168 l284 u284 rfl rfl (by decide) (by decide) rfl (fun z285 e285 l285 u285 => ?_)
                  refine ev_loc f_X12_plans (nx := 171) (lo' := [(1, .int z285), (5, .int w171), (4, .int y17_4), (3, .int y17_3), (2, .int y17_2), (0, .ref 69)]) rfl rfl rfl rfl ?_
                  refine ev_incR f_X12_plans (nx := 174) (c := 1) (l := 1) (u := 6) rfl rfl (by decide) (by decide) l17_4 u166 rfl rfl (by decide) (by decide) rfl (fun z286 e286 l286 u286 => ?_)
                  refine ev_jmp f_X12_plans (nx := 222) rfl rfl rfl ?_
                  refine ev_jmp f_X12_plans (nx := 36) rfl rfl rfl ?_
                  refine ev_sub (lo := [(4, .int z286), (3, .int y17_3), (2, .int y17_2), (1, .int z285), (0, .ref 69)]) rfl (t_sc rfl (t_sc rfl (t_sc rfl (t_sc rfl (t_sc rfl t_sn))))) ?_
                  exact ih17 _ (by omega) gi277 gl277 gr277 (z286) (y17_3) (y17_2) (z285) hI hX  (Int.le_trans (by decide : (0:Int) ≤ 1) l286) u286 l17_3 (Int.le_trans u231 (by decide : (5:Int) ≤ 6)) l17_2 u17_2 l285 (Int.le_trans u285 (by decide : (260:Int) ≤ 280)) ((hC277.1 69 44 rfl).1.trans c17_0) ((hC277.1 69 45 rfl).1.trans c17_1) ((hC277.1 69 48 rfl).1.trans c17_2) ((hC277.1 69 57 rfl).1.trans c17_3) ((hC277.1 70 4 rfl).1.trans c17_4) (by have hsp := (⟨(hC277.1 69 44 rfl).1, (hC277.1 69 45 rfl).1, (hC277.1 69 48 rfl).1, funext (fun j => (hC277.1 70 j rfl).1), funext (fun j => (hC277.1 89 j rfl).1), funext (fun j => (hC277.1 90 j rfl).1), funext (fun j => (hC277.1 91 j rfl).1)⟩ : t_sp gi17 gi277); have htk : t_ct gi277 y17_4.toInt.toNat = w284.toInt.toNat := (by unfold t_ct; rw [t_of_eq (p := gi277) (a := 83) (b := 3) t_sp.rf (t_ci_eq t_sp.rf (i := y17_4) (((hC277.1 91 y17_4.toNatClampNeg rfl).1.trans e276.symm)).symm (by omega)) (e284.symm).symm (by omega) (by omega)]); exact t_pla_cart (w := w284) j17_0 (by omega) (by omega) (by omega) (q250.mp (by omega)) (by have h1 := q271; have h2 := q171; omega) (by rw [← t_ct_sp hsp]; exact htk) (by omega) (by omega) (by omega) (by rw [← t_cc_sp hsp]; exact t_cc0 hI (by omega)) hsp (funext (fun j => (hC277.1 92 j rfl).1)) q277.2 q277.1) rfl
                · have r287 : w271.toInt ≠ w171.toInt := t_nei h272
                  refine ev_loc f_X12_plans (nx := 178) rfl rfl rfl rfl ?_
                  refine ev_loc f_X12_plans (nx := 179) rfl rfl rfl rfl ?_
                  refine ev_ic f_X12_plans (nx := 180) (v := 1) rfl (by decide) rfl ?_
                  refine ev_addC f_X12_plans (nx := 181) (c := 1) (l := 1) (u := 241) rfl (by decide) l17_1 u168 rfl rfl (by decide) (by decide) rfl (fun z288 e288 l288 u288 => ?_)
                  refine ev_loc f_X12_plans (nx := 182) rfl rfl rfl rfl ?_
                  refine ev_loc f_X12_plans (nx := 183) rfl rfl rfl rfl ?_
                  refine ev_loc f_X12_plans (nx := 185) rfl rfl rfl rfl ?_
                  refine ev_qI0 f_X12_plans (nx := 188) (r := []) rfl rfl rfl rfl rfl rfl rfl (c_m_leftAt hI (z288) (Int.le_trans (by decide : (0:Int) ≤ 1) l288) (Int.le_trans u288 (by decide : (241:Int) ≤ 300)) (y17_2) l17_2 u17_2 (y17_3) l17_3 (Int.le_trans u231 (by decide : (5:Int) ≤ 6)) (y17_4) l17_4 (Int.le_trans u166 (by decide : (5:Int) ≤ 6))) rfl (fun w289 l289 u289 q289 => ?_)
                  have q289 : w289.toInt = t_la (gi17 92) (t_S gi17) (t_C gi17) z288.toInt.toNat y17_2.toInt.toNat y17_3.toInt.toNat y17_4.toInt.toNat := q289
                  refine ev_loc f_X12_plans (nx := 190) rfl rfl rfl rfl ?_
                  refine ev_if f_X12_plans (t1 := 193) (t2 := 199) rfl rfl rfl (fun h290 => ?_) (fun h290 => ?_)
                  · have r291 : w289.toInt = w171.toInt := t_eqi h290
                    refine ev_incR f_X12_plans (nx := 196) (c := 1) (l := 1) (u := 241) rfl rfl (by decide) (by decide) l17_1 u168 rfl rfl (by decide) (by decide) rfl (fun z292 e292 l292 u292 => ?_)
                    refine ev_jmp f_X12_plans (nx := 222) rfl rfl rfl ?_
                    refine ev_jmp f_X12_plans (nx := 36) rfl rfl rfl ?_
                    refine ev_sub (lo := [(4, .int y17_4), (3, .int y17_3), (2, .int y17_2), (1, .int z292), (0, .ref 69)]) rfl (t_sc rfl (t_sc rfl (t_sc rfl (t_sc rfl (t_sc rfl t_sn))))) ?_
                    exact ih17 _ (by omega) gi17 gl17 gr17 (y17_4) (y17_3) (y17_2) (z292) hI hX  l17_4 (Int.le_trans u166 (by decide : (5:Int) ≤ 6)) l17_3 (Int.le_trans u231 (by decide : (5:Int) ≤ 6)) l17_2 u17_2 (Int.le_trans (by decide : (0:Int) ≤ 1) l292) (Int.le_trans u292 (by decide : (241:Int) ≤ 280)) c17_0 c17_1 c17_2 c17_3 c17_4 (t_pla_rest j17_0 (by omega) (by have h1 := q289; have h2 := q171; rw [show z288.toInt.toNat = y17_1.toInt.toNat + 1 by omega] at h1; omega) (by omega)) rfl
                  · have r293 : w289.toInt ≠ w171.toInt := t_nei h290
                    refine ev_loc f_X12_plans (nx := 200) rfl rfl rfl rfl ?_
                    refine ev_ic f_X12_plans (nx := 201) (v := 2) rfl (by decide) rfl ?_
                    refine ev_loc f_X12_plans (nx := 202) rfl rfl rfl rfl ?_
                    refine ev_ic f_X12_plans (nx := 203) (v := -1) rfl (by decide) rfl ?_
                    refine ev_qN f_X12_plans (nx := 206) (r := []) rfl rfl rfl rfl rfl rfl rfl (c_m_acts hI (2) (Int.le_trans (by decide : (0:Int) ≤ 2) (by decide : (2:Int) ≤ (2:Int32).toInt)) (by decide : (2:Int32).toInt ≤ (2:Int)) (y17_1) ((-1)) (by decide : ((-1):Int) ≤ ((-1):Int32).toInt) (Int.le_trans (by decide : ((-1):Int32).toInt ≤ ((-1):Int)) (by decide : ((-1):Int) ≤ 5)) (j17_0.2.2.2.1) (by have hn := t_pla_n j17_0 (by omega) (by omega) (hI.b (hI.wf.s (k := 69) rfl) (t_bdK rfl : t_bd 11 44 = some (0, 6))).2 (hI.b (hI.wf.s (k := 69) rfl) (t_bdK rfl : t_bd 11 45 = some (0, 6))).2; omega) (by have kf295 : ((-1) : Int32).toInt = (-1) := (by decide); have kf296 : (2 : Int32).toInt = 2 := (by decide); omega)) rfl hX rfl (fun gi294 gl294 gr294 hI hX hC294 q294 => ?_)
                    have q294 : t_wh (gi294 69 55).toInt (gi294 93) (gi294 95) ∧ (gi294 69 55).toInt = (gi17 69 55).toInt + 1 := q294
                    obtain ⟨l297, u297⟩ := hI.b (hI.wf.s (k := 69) rfl) (t_bdK rfl : t_bd 11 55 = some (0, 100))
                    refine ev_loc f_X12_plans (nx := 207) rfl rfl rfl rfl ?_
                    refine ev_loc f_X12_plans (nx := 208) rfl rfl rfl rfl ?_
                    refine ev_loc f_X12_plans (nx := 209) rfl rfl rfl rfl ?_
                    refine ev_loc f_X12_plans (nx := 210) rfl rfl rfl rfl ?_
                    refine ev_gvI f_X12_plans (nx := 213) (w := (gi7 69 48)) rfl (hI.wf.s rfl) rfl rfl ((hC294.1 69 48 rfl).1.trans c17_2) rfl ?_
                    have l298 : (1:Int) ≤ (gi7 69 48).toInt := (by have h := j17_0.2.2.2.2.2.2.2; rw [c17_2] at h; exact h)
                    refine ev_qI0 f_X12_plans (nx := 216) (r := [.int y17_1]) rfl rfl rfl rfl rfl rfl rfl (c_m_turnTime hI (y17_1) l17_1 (Int.le_trans u168 (by decide : (240:Int) ≤ 300)) ((gi7 69 48)) l298 u10) rfl (fun w299 l299 u299 q299 => ?_)
                    have q299 : w299.toInt = ((t_tt gi294 (gi7 69 48).toInt y17_1.toInt.toNat : Nat) : Int) := q299
                    refine ev_addR f_X12_plans (nx := 217) (l := 1) (u := 280) rfl l17_1 u168 l299 u299 rfl rfl (by decide) (by decide) rfl (fun z300 e300 l300 u300 => ?_)
                    refine ev_loc f_X12_plans (nx := 218) (lo' := [(1, .int z300), (5, .int w171), (4, .int y17_4), (3, .int y17_3), (2, .int y17_2), (0, .ref 69)]) rfl rfl rfl rfl ?_
                    refine ev_ic f_X12_plans (nx := 219) (v := 1) rfl (by decide) rfl ?_
                    refine ev_loc f_X12_plans (nx := 220) rfl rfl rfl rfl ?_
                    refine ev_subK f_X12_plans (nx := 221) (c := 1) (l := 0) (u := 1) rfl (by decide) l17_2 u17_2 rfl rfl (by decide) (by decide) rfl (fun z301 e301 l301 u301 => ?_)
                    refine ev_loc f_X12_plans (nx := 222) (lo' := [(2, .int z301), (1, .int z300), (5, .int w171), (4, .int y17_4), (3, .int y17_3), (0, .ref 69)]) rfl rfl rfl rfl ?_
                    refine ev_jmp f_X12_plans (nx := 36) rfl rfl rfl ?_
                    refine ev_sub (lo := [(4, .int y17_4), (3, .int y17_3), (2, .int z301), (1, .int z300), (0, .ref 69)]) rfl (t_sc rfl (t_sc rfl (t_sc rfl (t_sc rfl (t_sc rfl t_sn))))) ?_
                    exact ih17 _ (by omega) gi294 gl294 gr294 (y17_4) (y17_3) (z301) (z300) hI hX  l17_4 (Int.le_trans u166 (by decide : (5:Int) ≤ 6)) l17_3 (Int.le_trans u231 (by decide : (5:Int) ≤ 6)) l301 u301 (Int.le_trans (by decide : (0:Int) ≤ 1) l300) u300 ((hC294.1 69 44 rfl).1.trans c17_0) ((hC294.1 69 45 rfl).1.trans c17_1) ((hC294.1 69 48 rfl).1.trans c17_2) ((hC294.1 69 57 rfl).1.trans c17_3) ((hC294.1 70 4 rfl).1.trans c17_4) (by have hsp := (⟨(hC294.1 69 44 rfl).1, (hC294.1 69 45 rfl).1, (hC294.1 69 48 rfl).1, funext (fun j => (hC294.1 70 j rfl).1), funext (fun j => (hC294.1 89 j rfl).1), funext (fun j => (hC294.1 90 j rfl).1), funext (fun j => (hC294.1 91 j rfl).1)⟩ : t_sp gi17 gi294); have e1 := congrArg Int32.toInt hsp.1; have e2 := congrArg Int32.toInt hsp.2.1; have ff302 : (gi294 69 44).toInt = (gi7 69 44).toInt := congrArg Int32.toInt ((hC294.1 69 44 rfl).1.trans c17_0); have ff303 : (gi294 69 45).toInt = (gi7 69 45).toInt := congrArg Int32.toInt ((hC294.1 69 45 rfl).1.trans c17_1); have hb1 := hI.b (hI.wf.s (k := 69) rfl) (t_bdK rfl : t_bd 11 44 = some (0, 6)); have hb2 := hI.b (hI.wf.s (k := 69) rfl) (t_bdK rfl : t_bd 11 45 = some (0, 6)); exact t_pla_turn (w := w299) j17_0 (by omega) (by omega) (by omega) (by omega) (by omega) (by omega) (by omega) (by omega) (by omega) (fun _ => by have h1 := q233; have h2 := q171; omega) (fun _ => by have h1 := q271; have h2 := q171; omega) (by have h1 := q289; have h2 := q171; rw [show z288.toInt.toNat = y17_1.toInt.toNat + 1 by omega] at h1; omega) (by rw [← t_tt_sp hsp, congrArg Int32.toInt c17_2]; exact q299) (by omega) (by omega) hsp (funext (fun j => (hC294.1 92 j rfl).1)) q294.2 q294.1) rfl
    refine ev_sub (lo := [(4, .int 0), (3, .int 0), (2, .int 0), (1, .int 0), (0, .ref 69)]) rfl (t_sc rfl (t_sc rfl (t_sc rfl (t_sc rfl (t_sc rfl t_sn))))) ?_
    exact L17 _ g16 gl7 gr7 (0) (0) (0) (0) hI hX  (by decide : (0:Int) ≤ (0:Int32).toInt) (Int.le_trans (by decide : (0:Int32).toInt ≤ (0:Int)) (by decide : (0:Int) ≤ 6)) (by decide : (0:Int) ≤ (0:Int32).toInt) (Int.le_trans (by decide : (0:Int32).toInt ≤ (0:Int)) (by decide : (0:Int) ≤ 6)) (by decide : (0:Int) ≤ (0:Int32).toInt) (Int.le_trans (by decide : (0:Int32).toInt ≤ (0:Int)) (by decide : (0:Int) ≤ 1)) (by decide : (0:Int) ≤ (0:Int32).toInt) (Int.le_trans (by decide : (0:Int32).toInt ≤ (0:Int)) (by decide : (0:Int) ≤ 280)) ((by rw [e16]; exact x_up2_off (Or.inr (by decide)) : g16 69 44 = g15 69 44).trans ((by rw [e15]; exact x_up2_off (Or.inr (by decide)) : g15 69 44 = gi7 69 44).trans rfl)) ((by rw [e16]; exact x_up2_off (Or.inr (by decide)) : g16 69 45 = g15 69 45).trans ((by rw [e15]; exact x_up2_off (Or.inr (by decide)) : g15 69 45 = gi7 69 45).trans rfl)) ((by rw [e16]; exact x_up2_off (Or.inr (by decide)) : g16 69 48 = g15 69 48).trans ((by rw [e15]; exact x_up2_off (Or.inr (by decide)) : g15 69 48 = gi7 69 48).trans rfl)) (by rw [e16]; exact x_up2_at _ _ _ _ : g16 69 57 = 0) ((by rw [e16]; exact x_up2_off (Or.inr (by decide)) : g16 70 4 = g15 70 4).trans ((by rw [e15]; exact x_up2_off (Or.inr (by decide)) : g15 70 4 = gi7 70 4).trans ((hC7.1 70 4 rfl).1.trans rfl))) (by have hb1 := hI.b (hI.wf.s (k := 69) rfl) (t_bdK rfl : t_bd 11 44 = some (0, 6)); have hb2 := hI.b (hI.wf.s (k := 69) rfl) (t_bdK rfl : t_bd 11 45 = some (0, 6)); have hsp := (⟨((by rw [e16]; exact x_up2_off (Or.inr (by decide)) : g16 69 44 = g15 69 44).trans ((by rw [e15]; exact x_up2_off (Or.inr (by decide)) : g15 69 44 = gi7 69 44).trans rfl)), ((by rw [e16]; exact x_up2_off (Or.inr (by decide)) : g16 69 45 = g15 69 45).trans ((by rw [e15]; exact x_up2_off (Or.inr (by decide)) : g15 69 45 = gi7 69 45).trans rfl)), ((by rw [e16]; exact x_up2_off (Or.inr (by decide)) : g16 69 48 = g15 69 48).trans ((by rw [e15]; exact x_up2_off (Or.inr (by decide)) : g15 69 48 = gi7 69 48).trans rfl)), ((by rw [e16]; exact x_up2_ne (by decide) : g16 70 = g15 70).trans ((by rw [e15]; exact x_up2_ne (by decide) : g15 70 = gi7 70))), ((by rw [e16]; exact x_up2_ne (by decide) : g16 89 = g15 89).trans ((by rw [e15]; exact x_up2_ne (by decide) : g15 89 = gi7 89))), ((by rw [e16]; exact x_up2_ne (by decide) : g16 90 = g15 90).trans ((by rw [e15]; exact x_up2_ne (by decide) : g15 90 = gi7 90))), ((by rw [e16]; exact x_up2_ne (by decide) : g16 91 = g15 91).trans ((by rw [e15]; exact x_up2_ne (by decide) : g15 91 = gi7 91)))⟩ : t_sp gi7 g16); have e1 := congrArg Int32.toInt hsp.1; have e2 := congrArg Int32.toInt hsp.2.1; have ff304 : (g16 69 55).toInt = 0 := (congrArg Int32.toInt ((by rw [e16]; exact x_up2_off (Or.inr (by decide)) : g16 69 55 = g15 69 55).trans (by rw [e15]; exact x_up2_at _ _ _ _ : g15 69 55 = 0))).trans (by decide); exact t_pla_0 q7.1.1 (q7.1.2.1 (by omega)) q7.2.1 (by have h := q7.2.2; have h2 := e_p0; omega) (by omega) (by omega) hsp (((by rw [e16]; exact x_up2_ne (by decide) : g16 92 = g15 92).trans ((by rw [e15]; exact x_up2_ne (by decide) : g15 92 = gi7 92))) : g16 92 = gi7 92) (by omega)) rfl
noncomputable def wl_m_plan : List (Nat × Nat) := [(69, 2), (69, 44), (69, 45), (69, 48), (69, 55), (69, 56), (69, 57), (89, 10005), (89, 610011), (90, 9999), (91, 9999), (92, 9999), (93, 9999), (94, 9999), (95, 9999), (96, 9999), (97, 9999), (98, 9999)]
theorem c_m_plan {X : x_Ext} {d : Nat} {sh : List (Nat ⊕ (Nat × Nat))} {gi : Nat → Nat → Int32} {gl : Nat → Nat → Int64} {gr : Nat → Nat → Value} (hI : t_I sh gi gr) (e_p0 : 1 ≤ (gi 70 4).toInt) : x_Me X (d + 7) n_X12_plan [.ref 69] (sh, gi, gl, gr) (t_P wl_m_plan sh gi gl gr (t_Ri (-1) 100)) := by
  have hX : t_X wl_m_plan sh gi gl gr gi gl gr := t_X.rf
  refine me_i f_X12_plan (hI.wf.s rfl) rfl rfl rfl ?_
  obtain ⟨l1, u1⟩ := hI.ab (by decide +kernel : t_abr 70 4 4 0 20 = true) (Nat.le_refl _) (Nat.le_refl _)
  refine ev_loc f_X12_plan (nx := 1) rfl rfl rfl rfl ?_
  refine ev_qI f_X12_plan (nx := 4) (r := []) rfl rfl rfl rfl rfl rfl rfl (c_m_plans hI  (by omega)) rfl hX rfl (fun w2 gi2 gl2 gr2 l2 u2 hI hX hC2 q2 => ?_)
  have q2 : (w2.toInt = 1 → t_wh (gi2 69 55).toInt (gi2 93) (gi2 95)) := q2
  refine ev_if f_X12_plan (t1 := 7) (t2 := 14) rfl rfl rfl (fun h3 => ?_) (fun h3 => ?_)
  · have u4 : w2.toInt ≤ 0 := t_equ h3 (by decide : (0:Int32).toInt ≤ (0:Int))
    refine ev_loc f_X12_plan (nx := 8) rfl rfl rfl rfl ?_
    refine ev_bp f_X12_plan (nx := 10) (v := 6) rfl (by decide) rfl ?_
    refine ev_inV2 f_X12_plan (nx := 13) (lo2 := [(0, .ref 69), (1, .int 6)]) rfl rfl rfl rfl f_X12_refuse (hI.wf.s rfl) rfl rfl rfl rfl rfl ?_
    refine ev_loc f_X12_refuse (nx := 1) rfl rfl rfl rfl ?_
    refine ev_loc f_X12_refuse (nx := 2) rfl rfl rfl rfl ?_
    refine ev_putIT f_X12_refuse (nx := 5) rfl (hI.wf.s rfl) rfl rfl rfl (hI.put0 (hI.wf.s rfl) rfl rfl) (hX.upI rfl) (fun g5 e5 hI hX => ?_)
    refine ev_ic f_X12_refuse (nx := 6) (v := -1) rfl (by decide) rfl ?_
    refine ev_retK1 f_X12_refuse rfl rfl rfl ?_
    exact ev_ret f_X12_plan rfl rfl rfl ⟨_, _, _, rfl, hI, hX, ⟨_, rfl, (by decide : ((-1):Int) ≤ ((-1):Int32).toInt), (Int.le_trans (by decide : ((-1):Int32).toInt ≤ ((-1):Int)) (by decide : ((-1):Int) ≤ 100))⟩⟩
  · have r6 : w2.toInt ≠ 0 := fun e => h3 (Int32.toInt_inj.mp (e.trans (by decide : (0:Int) = (0 : Int32).toInt)))
    have l7 : 1 ≤ w2.toInt := t_nel h3 l2 rfl rfl
    refine ev_ic f_X12_plan (nx := 15) (v := 0) rfl (by decide) rfl ?_
    refine ev_loc f_X12_plan (nx := 16) (lo' := [(1, .int 0), (0, .ref 69)]) rfl rfl rfl rfl ?_
    have L8 : ∀ (m8 : Nat) (gi8 : Nat → Nat → Int32) (gl8 : Nat → Nat → Int64) (gr8 : Nat → Nat → Value) (y8_1 : Int32), t_I sh gi8 gr8 → t_X wl_m_plan sh gi gl gr gi8 gl8 gr8 → 0 ≤ y8_1.toInt → y8_1.toInt ≤ 119 → gi8 70 4 = (gi 70 4) → (119 - y8_1.toInt).toNat = m8 → x_Ev X (d + 7) n_X12_plan 16 [(1, .int y8_1), (0, .ref 69)] [] (sh, gi8, gl8, gr8) (t_P wl_m_plan sh gi gl gr (t_Ri (-1) 100)) := by
      intro m8
      induction m8 using Nat.strongRecOn with
      | _ m8 ih8 =>
      intro gi8 gl8 gr8 y8_1 hI hX l8_1 u8_1 c8_0 hm8
      refine ev_loc f_X12_plan (nx := 17) rfl rfl rfl rfl ?_
      refine ev_loc f_X12_plan (nx := 18) rfl rfl rfl rfl ?_
      refine ev_getI f_X12_plan (nx := 21) rfl (hI.wf.s rfl) rfl rfl rfl ?_
      obtain ⟨l9, u9⟩ := hI.b (hI.wf.s (k := 69) rfl) (t_bdK rfl : t_bd 11 55 = some (0, 100))
      refine ev_if f_X12_plan (t1 := 66) (t2 := 24) rfl rfl rfl (fun h10 => ?_) (fun h10 => ?_)
      · have r11 : (gi8 69 55).toInt ≤ y8_1.toInt := Int32.le_iff_toInt_le.mp h10
        refine ev_loc f_X12_plan (nx := 67) rfl rfl rfl rfl ?_
        refine ev_loc f_X12_plan (nx := 68) rfl rfl rfl rfl ?_
        refine ev_gvI f_X12_plan (nx := 71) (w := (gi8 69 55)) rfl (hI.wf.s rfl) rfl rfl rfl rfl ?_
        refine ev_putIT f_X12_plan (nx := 74) rfl (hI.wf.s rfl) rfl rfl rfl (hI.putB (hI.wf.s rfl) rfl rfl l9 (by decide) u9 (by decide)) (hX.upI rfl) (fun g12 e12 hI hX => ?_)
        refine ev_loc f_X12_plan (nx := 75) rfl rfl rfl rfl ?_
        refine ev_loc f_X12_plan (nx := 76) rfl rfl rfl rfl ?_
        refine ev_gvI f_X12_plan (nx := 79) (w := (gi8 69 55)) rfl (hI.wf.s rfl) rfl rfl ((by rw [e12]; exact x_up2_off (Or.inr (by decide)) : g12 69 55 = gi8 69 55).trans rfl) rfl ?_
        refine ev_inV2 f_X12_plan (nx := 82) (lo2 := [(0, .ref 69), (1, .int (gi8 69 55))]) rfl rfl rfl rfl f_X12_gives (hI.wf.s rfl) rfl rfl rfl rfl rfl ?_
        refine ev_loc f_X12_gives (nx := 1) rfl rfl rfl rfl ?_
        refine ev_ic f_X12_gives (nx := 2) (v := 0) rfl (by decide) rfl ?_
        refine ev_putIT f_X12_gives (nx := 5) rfl (hI.wf.s rfl) rfl rfl rfl (hI.put0 (hI.wf.s rfl) rfl rfl) (hX.upI rfl) (fun g13 e13 hI hX => ?_)
        refine ev_loc f_X12_gives (nx := 6) rfl rfl rfl rfl ?_
        refine ev_retK1 f_X12_gives rfl rfl rfl ?_
        exact ev_ret f_X12_plan rfl rfl rfl ⟨_, _, _, rfl, hI, hX, ⟨_, rfl, (Int.le_trans (by decide : ((-1):Int) ≤ 0) l9), u9⟩⟩
      · have r14 : y8_1.toInt < (gi8 69 55).toInt := Int32.lt_iff_toInt_lt.mp (t_nle h10)
        have u15 : y8_1.toInt ≤ 99 := t_ltu (t_nle h10) u9 rfl
        have l16 : 1 ≤ (gi8 69 55).toInt := t_ltl (t_nle h10) l8_1 rfl
        refine ev_loc f_X12_plan (nx := 25) rfl rfl rfl rfl ?_
        refine ev_getR f_X12_plan (nx := 28) rfl (hI.wf.s rfl) rfl rfl (hI.wf.r rfl) rfl rfl ?_
        refine ev_loc f_X12_plan (nx := 29) rfl rfl rfl rfl ?_
        refine ev_loc f_X12_plan (nx := 30) rfl rfl rfl rfl ?_
        refine ev_getR f_X12_plan (nx := 33) rfl (hI.wf.s rfl) rfl rfl (hI.wf.r rfl) rfl rfl ?_
        refine ev_loc f_X12_plan (nx := 34) rfl rfl rfl rfl ?_
        refine ev_ialdT f_X12_plan (nx := 35) rfl (hI.wf.s rfl) l8_1 (by decide) u15 (by decide) rfl (fun w17 e17 => ?_)
        obtain ⟨l17, u17⟩ := hI.abi e17 (by decide +kernel : t_abr 93 0 99 0 2 = true) l8_1 (by decide) u15 (by decide)
        refine ev_iastT f_X12_plan (nx := 36) rfl (hI.wf.s rfl) l8_1 (by decide) u15 (by decide) rfl (hI.astG (hI.wf.s rfl) (fun lo hi e => absurd e (t_nob (by decide +kernel) _)) (fun k hk e => by have := hk.2.1; omega)) (hX.upI (t_inA_ok rfl)) (fun g18 e18 hI hX => ?_)
        refine ev_loc f_X12_plan (nx := 37) rfl rfl rfl rfl ?_
        refine ev_getR f_X12_plan (nx := 40) rfl (hI.wf.s rfl) rfl rfl (hI.wf.r rfl) rfl rfl ?_
        refine ev_loc f_X12_plan (nx := 41) rfl rfl rfl rfl ?_
        refine ev_loc f_X12_plan (nx := 42) rfl rfl rfl rfl ?_
        refine ev_getR f_X12_plan (nx := 45) rfl (hI.wf.s rfl) rfl rfl (hI.wf.r rfl) rfl rfl ?_
        refine ev_loc f_X12_plan (nx := 46) rfl rfl rfl rfl ?_
        refine ev_ialdT f_X12_plan (nx := 47) rfl (hI.wf.s rfl) l8_1 (by decide) u15 (by decide) rfl (fun w19 e19 => ?_)
        refine ev_iastT f_X12_plan (nx := 48) rfl (hI.wf.s rfl) l8_1 (by decide) u15 (by decide) rfl (hI.astG (hI.wf.s rfl) (fun lo hi e => absurd e (t_nob (by decide +kernel) _)) (fun k hk e => by have := hk.2.1; omega)) (hX.upI (t_inA_ok rfl)) (fun g20 e20 hI hX => ?_)
        refine ev_loc f_X12_plan (nx := 49) rfl rfl rfl rfl ?_
        refine ev_getR f_X12_plan (nx := 52) rfl (hI.wf.s rfl) rfl rfl (hI.wf.r rfl) rfl rfl ?_
        refine ev_loc f_X12_plan (nx := 53) rfl rfl rfl rfl ?_
        refine ev_loc f_X12_plan (nx := 54) rfl rfl rfl rfl ?_
        refine ev_getR f_X12_plan (nx := 57) rfl (hI.wf.s rfl) rfl rfl (hI.wf.r rfl) rfl rfl ?_
        refine ev_loc f_X12_plan (nx := 58) rfl rfl rfl rfl ?_
        refine ev_ialdT f_X12_plan (nx := 59) rfl (hI.wf.s rfl) l8_1 (by decide) u15 (by decide) rfl (fun w21 e21 => ?_)
        obtain ⟨l21, u21⟩ := hI.abi e21 (by decide +kernel : t_abr 95 0 99 (-1) 5 = true) l8_1 (by decide) u15 (by decide)
        refine ev_iastT f_X12_plan (nx := 60) rfl (hI.wf.s rfl) l8_1 (by decide) u15 (by decide) rfl (hI.astG (hI.wf.s rfl) (fun lo hi e => absurd e (t_nob (by decide +kernel) _)) (fun k hk e => by have := hk.2.1; omega)) (hX.upI (t_inA_ok rfl)) (fun g22 e22 hI hX => ?_)
        refine ev_incR f_X12_plan (nx := 63) (c := 1) (l := 1) (u := 100) rfl rfl (by decide) (by decide) l8_1 u15 rfl rfl (by decide) (by decide) rfl (fun z23 e23 l23 u23 => ?_)
        refine ev_jmp f_X12_plan (nx := 16) rfl rfl rfl ?_
        refine ev_sub (lo := [(1, .int z23), (0, .ref 69)]) rfl (t_sc rfl (t_sc rfl t_sn)) ?_
        exact ih8 _ (by omega) g22 gl8 gr8 (z23) hI hX  (Int.le_trans (by decide : (0:Int) ≤ 1) l23) (Int.le_trans u23 (by decide : (100:Int) ≤ 119)) ((by rw [e22]; exact x_up2_off (Or.inl (by decide)) : g22 70 4 = g20 70 4).trans ((by rw [e20]; exact x_up2_off (Or.inl (by decide)) : g20 70 4 = g18 70 4).trans ((by rw [e18]; exact x_up2_off (Or.inl (by decide)) : g18 70 4 = gi8 70 4).trans c8_0))) rfl
    refine ev_sub (lo := [(1, .int 0), (0, .ref 69)]) rfl (t_sc rfl (t_sc rfl t_sn)) ?_
    exact L8 _ gi2 gl2 gr2 (0) hI hX  (by decide : (0:Int) ≤ (0:Int32).toInt) (Int.le_trans (by decide : (0:Int32).toInt ≤ (0:Int)) (by decide : (0:Int) ≤ 119)) ((hC2.1 70 4 rfl).1.trans rfl) rfl
noncomputable def wl_m_cameBy : List (Nat × Nat) := []
noncomputable def Q_m_cameBy (gi : Nat → Nat → Int32) (gl : Nat → Nat → Int64) (gr : Nat → Nat → Value) (ar1 : Int32) : Int32 → (Nat → Nat → Int32) → (Nat → Nat → Int64) → (Nat → Nat → Value) → Prop := fun (v : Int32) (gi2 : Nat → Nat → Int32) (gl2 : Nat → Nat → Int64) (gr2 : Nat → Nat → Value) => True
theorem c_m_cameBy {X : x_Ext} {d : Nat} {sh : List (Nat ⊕ (Nat × Nat))} {gi : Nat → Nat → Int32} {gl : Nat → Nat → Int64} {gr : Nat → Nat → Value} (hI : t_I sh gi gr) (ar1 : Int32) (l_a1 : 0 ≤ ar1.toInt) (u_a1 : ar1.toInt ≤ 99) (e_p0 : ((gi 93 ar1.toNatClampNeg).toInt ≠ 2 → 0 ≤ (gi 95 ar1.toNatClampNeg).toInt)) : x_Me X (d + 1) n_X12_cameBy [.ref 69, .int ar1] (sh, gi, gl, gr) (t_PI wl_m_cameBy sh gi gl gr (-2147483648) 2147483647 (Q_m_cameBy gi gl gr ar1)) := by
  have hX : t_X wl_m_cameBy sh gi gl gr gi gl gr := t_X.rf
  refine me_i f_X12_cameBy (hI.wf.s rfl) rfl rfl rfl ?_
  refine ev_loc f_X12_cameBy (nx := 1) rfl rfl rfl rfl ?_
  refine ev_getR f_X12_cameBy (nx := 4) rfl (hI.wf.s rfl) rfl rfl (hI.wf.r rfl) rfl rfl ?_
  refine ev_loc f_X12_cameBy (nx := 5) rfl rfl rfl rfl ?_
  refine ev_ialdT f_X12_cameBy (nx := 6) rfl (hI.wf.s rfl) l_a1 (by decide) u_a1 (by decide) rfl (fun w1 e1 => ?_)
  obtain ⟨l1, u1⟩ := hI.abi e1 (by decide +kernel : t_abr 93 0 99 0 2 = true) l_a1 (by decide) u_a1 (by decide)
  refine ev_if f_X12_cameBy (t1 := 9) (t2 := 23) rfl rfl rfl (fun h2 => ?_) (fun h2 => ?_)
  · have u3 : w1.toInt ≤ 0 := t_equ h2 (by decide : (0:Int32).toInt ≤ (0:Int))
    refine ev_loc f_X12_cameBy (nx := 10) rfl rfl rfl rfl ?_
    refine ev_getR f_X12_cameBy (nx := 13) rfl (hI.wf.s rfl) rfl rfl (hI.wf.r rfl) rfl rfl ?_
    refine ev_loc f_X12_cameBy (nx := 14) rfl rfl rfl rfl ?_
    refine ev_getR f_X12_cameBy (nx := 17) rfl (hI.wf.s rfl) rfl rfl (hI.wf.r rfl) rfl rfl ?_
    refine ev_loc f_X12_cameBy (nx := 18) rfl rfl rfl rfl ?_
    refine ev_ialdT f_X12_cameBy (nx := 19) rfl (hI.wf.s rfl) l_a1 (by decide) u_a1 (by decide) rfl (fun w4 e4 => ?_)
    obtain ⟨l4, u4⟩ := hI.abi e4 (by decide +kernel : t_abr 95 0 99 (-1) 5 = true) l_a1 (by decide) u_a1 (by decide)
    have l6 : (0:Int) ≤ w4.toInt := (by have h := e_p0; rw [← e1, ← e4] at h; omega)
    refine ev_ialdT f_X12_cameBy (nx := 20) rfl (hI.wf.s rfl) l6 (by decide) u4 (by decide) rfl (fun w5 e5 => ?_)
    refine ev_jmp f_X12_cameBy (nx := 37) rfl rfl rfl ?_
    exact ev_ret f_X12_cameBy rfl rfl rfl ⟨_, _, _, rfl, hI, hX, ⟨_, rfl, (t_lo w5), (t_hi w5), (show True from (by trivial))⟩⟩
  · have r7 : w1.toInt ≠ 0 := fun e => h2 (Int32.toInt_inj.mp (e.trans (by decide : (0:Int) = (0 : Int32).toInt)))
    have l8 : 1 ≤ w1.toInt := t_nel h2 l1 rfl rfl
    refine ev_loc f_X12_cameBy (nx := 24) rfl rfl rfl rfl ?_
    refine ev_getR f_X12_cameBy (nx := 27) rfl (hI.wf.s rfl) rfl rfl (hI.wf.r rfl) rfl rfl ?_
    refine ev_bp f_X12_cameBy (nx := 29) (v := 6) rfl (by decide) rfl ?_
    refine ev_loc f_X12_cameBy (nx := 30) rfl rfl rfl rfl ?_
    refine ev_getR f_X12_cameBy (nx := 33) rfl (hI.wf.s rfl) rfl rfl (hI.wf.r rfl) rfl rfl ?_
    refine ev_loc f_X12_cameBy (nx := 34) rfl rfl rfl rfl ?_
    refine ev_ialdT f_X12_cameBy (nx := 35) rfl (hI.wf.s rfl) l_a1 (by decide) u_a1 (by decide) rfl (fun w9 e9 => ?_)
    obtain ⟨l9, u9⟩ := hI.abi e9 (by decide +kernel : t_abr 95 0 99 (-1) 5 = true) l_a1 (by decide) u_a1 (by decide)
    refine ev_addK f_X12_cameBy (nx := 36) (c := 6) (l := 5) (u := 11) rfl (by decide) l9 u9 rfl rfl (by decide) (by decide) rfl (fun z10 e10 l10 u10 => ?_)
    refine ev_ialdT f_X12_cameBy (nx := 37) rfl (hI.wf.s rfl) l10 (by decide) u10 (by decide) rfl (fun w11 e11 => ?_)
    exact ev_ret f_X12_cameBy rfl rfl rfl ⟨_, _, _, rfl, hI, hX, ⟨_, rfl, (t_lo w11), (t_hi w11), (show True from (by trivial))⟩⟩
noncomputable def wl_m_costsBy : List (Nat × Nat) := []
noncomputable def Q_m_costsBy (gi : Nat → Nat → Int32) (gl : Nat → Nat → Int64) (gr : Nat → Nat → Value) (ar1 : Int32) : Int32 → (Nat → Nat → Int32) → (Nat → Nat → Int64) → (Nat → Nat → Value) → Prop := fun (v : Int32) (gi2 : Nat → Nat → Int32) (gl2 : Nat → Nat → Int64) (gr2 : Nat → Nat → Value) => True
theorem c_m_costsBy {X : x_Ext} {d : Nat} {sh : List (Nat ⊕ (Nat × Nat))} {gi : Nat → Nat → Int32} {gl : Nat → Nat → Int64} {gr : Nat → Nat → Value} (hI : t_I sh gi gr) (ar1 : Int32) (l_a1 : 0 ≤ ar1.toInt) (u_a1 : ar1.toInt ≤ 99) : x_Me X (d + 2) n_X12_costsBy [.ref 69, .int ar1] (sh, gi, gl, gr) (t_PI wl_m_costsBy sh gi gl gr (-1) 255 (Q_m_costsBy gi gl gr ar1)) := by
  have hX : t_X wl_m_costsBy sh gi gl gr gi gl gr := t_X.rf
  refine me_i f_X12_costsBy (hI.wf.s rfl) rfl rfl rfl ?_
  refine ev_loc f_X12_costsBy (nx := 1) rfl rfl rfl rfl ?_
  refine ev_getR f_X12_costsBy (nx := 4) rfl (hI.wf.s rfl) rfl rfl (hI.wf.r rfl) rfl rfl ?_
  refine ev_loc f_X12_costsBy (nx := 5) rfl rfl rfl rfl ?_
  refine ev_ialdT f_X12_costsBy (nx := 6) rfl (hI.wf.s rfl) l_a1 (by decide) u_a1 (by decide) rfl (fun w1 e1 => ?_)
  obtain ⟨l1, u1⟩ := hI.abi e1 (by decide +kernel : t_abr 93 0 99 0 2 = true) l_a1 (by decide) u_a1 (by decide)
  refine ev_if f_X12_costsBy (t1 := 9) (t2 := 23) rfl rfl rfl (fun h2 => ?_) (fun h2 => ?_)
  · have u3 : w1.toInt ≤ 0 := t_equ h2 (by decide : (0:Int32).toInt ≤ (0:Int))
    refine ev_loc f_X12_costsBy (nx := 10) rfl rfl rfl rfl ?_
    refine ev_loc f_X12_costsBy (nx := 11) rfl rfl rfl rfl ?_
    refine ev_getR f_X12_costsBy (nx := 14) rfl (hI.wf.s rfl) rfl rfl (hI.wf.r rfl) rfl rfl ?_
    refine ev_loc f_X12_costsBy (nx := 15) rfl rfl rfl rfl ?_
    refine ev_ialdT f_X12_costsBy (nx := 16) rfl (hI.wf.s rfl) l_a1 (by decide) u_a1 (by decide) rfl (fun w4 e4 => ?_)
    obtain ⟨l4, u4⟩ := hI.abi e4 (by decide +kernel : t_abr 95 0 99 (-1) 5 = true) l_a1 (by decide) u_a1 (by decide)
    refine ev_ic f_X12_costsBy (nx := 17) (v := 3) rfl (by decide) rfl ?_
    refine ev_inV3 f_X12_costsBy (nx := 20) (lo2 := [(0, .ref 69), (1, .int w4), (2, .int 3)]) rfl rfl rfl rfl f_X12_ofShip (hI.wf.s rfl) rfl rfl rfl rfl rfl ?_
    refine ev_loc f_X12_ofShip (nx := 1) rfl rfl rfl rfl ?_
    refine ev_getR f_X12_ofShip (nx := 4) rfl (hI.wf.s rfl) rfl rfl (hI.wf.r rfl) rfl rfl ?_
    refine ev_bp f_X12_ofShip (nx := 6) (v := 52) rfl (by decide) rfl ?_
    refine ev_ic f_X12_ofShip (nx := 7) (v := 5) rfl (by decide) rfl ?_
    refine ev_loc f_X12_ofShip (nx := 8) rfl rfl rfl rfl ?_
    refine ev_mulL f_X12_ofShip (nx := 9) (c := 5) (l := (-5)) (u := 25) rfl (by decide) (by decide) l4 u4 rfl rfl (by decide) (by decide) rfl (fun z5 e5 l5 u5 => ?_)
    refine ev_addK f_X12_ofShip (nx := 10) (c := 52) (l := 47) (u := 77) rfl (by decide) l5 u5 rfl rfl (by decide) (by decide) rfl (fun z6 e6 l6 u6 => ?_)
    refine ev_loc f_X12_ofShip (nx := 11) rfl rfl rfl rfl ?_
    refine ev_addC f_X12_ofShip (nx := 12) (c := 3) (l := 50) (u := 80) rfl (by decide) l6 u6 rfl rfl (by decide) (by decide) rfl (fun z7 e7 l7 u7 => ?_)
    refine ev_ialdT f_X12_ofShip (nx := 13) rfl (hI.wf.s rfl) l7 (by decide) u7 (by decide) rfl (fun w8 e8 => ?_)
    obtain ⟨l8, u8⟩ := hI.abi e8 (by decide +kernel : t_abr 70 50 80 (-1) 255 = true) l7 (by decide) u7 (by decide)
    refine ev_retK1 f_X12_ofShip rfl rfl rfl ?_
    refine ev_jmp f_X12_costsBy (nx := 34) rfl rfl rfl ?_
    exact ev_ret f_X12_costsBy rfl rfl rfl ⟨_, _, _, rfl, hI, hX, ⟨_, rfl, l8, u8, (show True from (by trivial))⟩⟩
  · have r9 : w1.toInt ≠ 0 := fun e => h2 (Int32.toInt_inj.mp (e.trans (by decide : (0:Int) = (0 : Int32).toInt)))
    have l10 : 1 ≤ w1.toInt := t_nel h2 l1 rfl rfl
    refine ev_loc f_X12_costsBy (nx := 24) rfl rfl rfl rfl ?_
    refine ev_loc f_X12_costsBy (nx := 25) rfl rfl rfl rfl ?_
    refine ev_getR f_X12_costsBy (nx := 28) rfl (hI.wf.s rfl) rfl rfl (hI.wf.r rfl) rfl rfl ?_
    refine ev_loc f_X12_costsBy (nx := 29) rfl rfl rfl rfl ?_
    refine ev_ialdT f_X12_costsBy (nx := 30) rfl (hI.wf.s rfl) l_a1 (by decide) u_a1 (by decide) rfl (fun w11 e11 => ?_)
    obtain ⟨l11, u11⟩ := hI.abi e11 (by decide +kernel : t_abr 95 0 99 (-1) 5 = true) l_a1 (by decide) u_a1 (by decide)
    refine ev_ic f_X12_costsBy (nx := 31) (v := 2) rfl (by decide) rfl ?_
    refine ev_inV3 f_X12_costsBy (nx := 34) (lo2 := [(0, .ref 69), (1, .int w11), (2, .int 2)]) rfl rfl rfl rfl f_X12_ofCart (hI.wf.s rfl) rfl rfl rfl rfl rfl ?_
    refine ev_loc f_X12_ofCart (nx := 1) rfl rfl rfl rfl ?_
    refine ev_getR f_X12_ofCart (nx := 4) rfl (hI.wf.s rfl) rfl rfl (hI.wf.r rfl) rfl rfl ?_
    refine ev_bp f_X12_ofCart (nx := 6) (v := 82) rfl (by decide) rfl ?_
    refine ev_ic f_X12_ofCart (nx := 7) (v := 3) rfl (by decide) rfl ?_
    refine ev_loc f_X12_ofCart (nx := 8) rfl rfl rfl rfl ?_
    refine ev_mulL f_X12_ofCart (nx := 9) (c := 3) (l := (-3)) (u := 15) rfl (by decide) (by decide) l11 u11 rfl rfl (by decide) (by decide) rfl (fun z12 e12 l12 u12 => ?_)
    refine ev_addK f_X12_ofCart (nx := 10) (c := 82) (l := 79) (u := 97) rfl (by decide) l12 u12 rfl rfl (by decide) (by decide) rfl (fun z13 e13 l13 u13 => ?_)
    refine ev_loc f_X12_ofCart (nx := 11) rfl rfl rfl rfl ?_
    refine ev_addC f_X12_ofCart (nx := 12) (c := 2) (l := 81) (u := 99) rfl (by decide) l13 u13 rfl rfl (by decide) (by decide) rfl (fun z14 e14 l14 u14 => ?_)
    refine ev_ialdT f_X12_ofCart (nx := 13) rfl (hI.wf.s rfl) l14 (by decide) u14 (by decide) rfl (fun w15 e15 => ?_)
    obtain ⟨l15, u15⟩ := hI.abi e15 (by decide +kernel : t_abr 70 81 99 0 120 = true) l14 (by decide) u14 (by decide)
    refine ev_retK1 f_X12_ofCart rfl rfl rfl ?_
    exact ev_ret f_X12_costsBy rfl rfl rfl ⟨_, _, _, rfl, hI, hX, ⟨_, rfl, (Int.le_trans (by decide : ((-1):Int) ≤ 0) l15), (Int.le_trans u15 (by decide : (120:Int) ≤ 255)), (show True from (by trivial))⟩⟩
noncomputable def wl_m_dearest : List (Nat × Nat) := [(69, 2), (69, 44), (69, 45), (69, 48), (69, 55), (69, 57), (89, 10005), (89, 610011), (90, 9999), (91, 9999), (92, 9999), (93, 9999), (94, 9999), (95, 9999)]
theorem c_m_dearest {X : x_Ext} {d : Nat} {sh : List (Nat ⊕ (Nat × Nat))} {gi : Nat → Nat → Int32} {gl : Nat → Nat → Int64} {gr : Nat → Nat → Value} (hI : t_I sh gi gr) (e_p0 : 1 ≤ (gi 70 4).toInt) : x_Me X (d + 7) n_X12_dearest [.ref 69] (sh, gi, gl, gr) (t_P wl_m_dearest sh gi gl gr (t_Ri (-1) 12)) := by
  have hX : t_X wl_m_dearest sh gi gl gr gi gl gr := t_X.rf
  refine me_i f_X12_dearest (hI.wf.s rfl) rfl rfl rfl ?_
  obtain ⟨l1, u1⟩ := hI.b (hI.wf.s (k := 69) rfl) (t_bdK rfl : t_bd 11 55 = some (0, 100))
  obtain ⟨l2, u2⟩ := hI.ab (by decide +kernel : t_abr 70 4 4 0 20 = true) (Nat.le_refl _) (Nat.le_refl _)
  refine ev_loc f_X12_dearest (nx := 1) rfl rfl rfl rfl ?_
  refine ev_qI f_X12_dearest (nx := 4) (r := []) rfl rfl rfl rfl rfl rfl rfl (c_m_plans hI  (by omega)) rfl hX rfl (fun w3 gi3 gl3 gr3 l3 u3 hI hX hC3 q3 => ?_)
  have q3 : (w3.toInt = 1 → t_wh (gi3 69 55).toInt (gi3 93) (gi3 95)) := q3
  obtain ⟨l4, u4⟩ := hI.b (hI.wf.s (k := 69) rfl) (t_bdK rfl : t_bd 11 55 = some (0, 100))
  refine ev_if f_X12_dearest (t1 := 7) (t2 := 14) rfl rfl rfl (fun h5 => ?_) (fun h5 => ?_)
  · have u6 : w3.toInt ≤ 0 := t_equ h5 (by decide : (0:Int32).toInt ≤ (0:Int))
    refine ev_loc f_X12_dearest (nx := 8) rfl rfl rfl rfl ?_
    refine ev_bp f_X12_dearest (nx := 10) (v := 6) rfl (by decide) rfl ?_
    refine ev_inV2 f_X12_dearest (nx := 13) (lo2 := [(0, .ref 69), (1, .int 6)]) rfl rfl rfl rfl f_X12_refuse (hI.wf.s rfl) rfl rfl rfl rfl rfl ?_
    refine ev_loc f_X12_refuse (nx := 1) rfl rfl rfl rfl ?_
    refine ev_loc f_X12_refuse (nx := 2) rfl rfl rfl rfl ?_
    refine ev_putIT f_X12_refuse (nx := 5) rfl (hI.wf.s rfl) rfl rfl rfl (hI.put0 (hI.wf.s rfl) rfl rfl) (hX.upI rfl) (fun g7 e7 hI hX => ?_)
    refine ev_ic f_X12_refuse (nx := 6) (v := -1) rfl (by decide) rfl ?_
    refine ev_retK1 f_X12_refuse rfl rfl rfl ?_
    exact ev_ret f_X12_dearest rfl rfl rfl ⟨_, _, _, rfl, hI, hX, ⟨_, rfl, (by decide : ((-1):Int) ≤ ((-1):Int32).toInt), (Int.le_trans (by decide : ((-1):Int32).toInt ≤ ((-1):Int)) (by decide : ((-1):Int) ≤ 12))⟩⟩
  · have r8 : w3.toInt ≠ 0 := fun e => h5 (Int32.toInt_inj.mp (e.trans (by decide : (0:Int) = (0 : Int32).toInt)))
    have l9 : 1 ≤ w3.toInt := t_nel h5 l3 rfl rfl
    refine ev_ic f_X12_dearest (nx := 15) (v := -1) rfl (by decide) rfl ?_
    refine ev_loc f_X12_dearest (nx := 16) (lo' := [(1, .int (-1)), (0, .ref 69)]) rfl rfl rfl rfl ?_
    refine ev_ic f_X12_dearest (nx := 17) (v := 0) rfl (by decide) rfl ?_
    refine ev_loc f_X12_dearest (nx := 18) (lo' := [(2, .int 0), (1, .int (-1)), (0, .ref 69)]) rfl rfl rfl rfl ?_
    refine ev_ic f_X12_dearest (nx := 19) (v := 0) rfl (by decide) rfl ?_
    refine ev_loc f_X12_dearest (nx := 20) (lo' := [(3, .int 0), (2, .int 0), (1, .int (-1)), (0, .ref 69)]) rfl rfl rfl rfl ?_
    have L10 : ∀ (m10 : Nat) (gi10 : Nat → Nat → Int32) (gl10 : Nat → Nat → Int64) (gr10 : Nat → Nat → Value) (y10_3 : Int32) (y10_2 : Int32) (y10_1 : Int32), t_I sh gi10 gr10 → t_X wl_m_dearest sh gi gl gr gi10 gl10 gr10 → 0 ≤ y10_3.toInt → y10_3.toInt ≤ 119 → 0 ≤ y10_2.toInt → (-1) ≤ y10_1.toInt → y10_1.toInt ≤ 12 → gi10 69 55 = (gi3 69 55) → gi10 70 4 = (gi 70 4) → t_wh (gi10 69 55).toInt (gi10 93) (gi10 95) → (119 - y10_3.toInt).toNat = m10 → x_Ev X (d + 7) n_X12_dearest 20 [(3, .int y10_3), (2, .int y10_2), (1, .int y10_1), (0, .ref 69)] [] (sh, gi10, gl10, gr10) (t_P wl_m_dearest sh gi gl gr (t_Ri (-1) 12)) := by
      intro m10
      induction m10 using Nat.strongRecOn with
      | _ m10 ih10 =>
      intro gi10 gl10 gr10 y10_3 y10_2 y10_1 hI hX l10_3 u10_3 l10_2 l10_1 u10_1 c10_0 c10_1 j10_0 hm10
      refine ev_loc f_X12_dearest (nx := 21) rfl rfl rfl rfl ?_
      refine ev_loc f_X12_dearest (nx := 22) rfl rfl rfl rfl ?_
      refine ev_gvI f_X12_dearest (nx := 25) (w := (gi3 69 55)) rfl (hI.wf.s rfl) rfl rfl c10_0 rfl ?_
      refine ev_if f_X12_dearest (t1 := 128) (t2 := 28) rfl rfl rfl (fun h11 => ?_) (fun h11 => ?_)
      · have r12 : (gi3 69 55).toInt ≤ y10_3.toInt := Int32.le_iff_toInt_le.mp h11
        refine ev_loc f_X12_dearest (nx := 129) rfl rfl rfl rfl ?_
        refine ev_loc f_X12_dearest (nx := 130) rfl rfl rfl rfl ?_
        refine ev_inV2 f_X12_dearest (nx := 133) (lo2 := [(0, .ref 69), (1, .int y10_1)]) rfl rfl rfl rfl f_X12_orNone (hI.wf.s rfl) rfl rfl rfl rfl rfl ?_
        refine ev_loc f_X12_orNone (nx := 1) rfl rfl rfl rfl ?_
        refine ev_ic f_X12_orNone (nx := 2) (v := -1) rfl (by decide) rfl ?_
        refine ev_if f_X12_orNone (t1 := 5) (t2 := 14) rfl rfl rfl (fun h13 => ?_) (fun h13 => ?_)
        · have u14 : y10_1.toInt ≤ (-1) := t_equ h13 (by decide : ((-1):Int32).toInt ≤ ((-1):Int))
          refine ev_loc f_X12_orNone (nx := 6) rfl rfl rfl rfl ?_
          refine ev_bp f_X12_orNone (nx := 8) (v := 6) rfl (by decide) rfl ?_
          refine ev_inV2 f_X12_orNone (nx := 11) (lo2 := [(0, .ref 69), (1, .int 6)]) rfl rfl rfl rfl f_X12_refuse (hI.wf.s rfl) rfl rfl rfl rfl rfl ?_
          refine ev_loc f_X12_refuse (nx := 1) rfl rfl rfl rfl ?_
          refine ev_loc f_X12_refuse (nx := 2) rfl rfl rfl rfl ?_
          refine ev_putIT f_X12_refuse (nx := 5) rfl (hI.wf.s rfl) rfl rfl rfl (hI.put0 (hI.wf.s rfl) rfl rfl) (hX.upI rfl) (fun g15 e15 hI hX => ?_)
          refine ev_ic f_X12_refuse (nx := 6) (v := -1) rfl (by decide) rfl ?_
          refine ev_retK1 f_X12_refuse rfl rfl rfl ?_
          refine ev_jmp f_X12_orNone (nx := 19) rfl rfl rfl ?_
          refine ev_retK1 f_X12_orNone rfl rfl rfl ?_
          exact ev_ret f_X12_dearest rfl rfl rfl ⟨_, _, _, rfl, hI, hX, ⟨_, rfl, (by decide : ((-1):Int) ≤ ((-1):Int32).toInt), (Int.le_trans (by decide : ((-1):Int32).toInt ≤ ((-1):Int)) (by decide : ((-1):Int) ≤ 12))⟩⟩
        · have r16 : y10_1.toInt ≠ (-1) := fun e => h13 (Int32.toInt_inj.mp (e.trans (by decide : ((-1):Int) = ((-1) : Int32).toInt)))
          have l17 : 0 ≤ y10_1.toInt := t_nel h13 l10_1 rfl rfl
          refine ev_loc f_X12_orNone (nx := 15) rfl rfl rfl rfl ?_
          refine ev_loc f_X12_orNone (nx := 16) rfl rfl rfl rfl ?_
          refine ev_inV2 f_X12_orNone (nx := 19) (lo2 := [(0, .ref 69), (1, .int y10_1)]) rfl rfl rfl rfl f_X12_gives (hI.wf.s rfl) rfl rfl rfl rfl rfl ?_
          refine ev_loc f_X12_gives (nx := 1) rfl rfl rfl rfl ?_
          refine ev_ic f_X12_gives (nx := 2) (v := 0) rfl (by decide) rfl ?_
          refine ev_putIT f_X12_gives (nx := 5) rfl (hI.wf.s rfl) rfl rfl rfl (hI.put0 (hI.wf.s rfl) rfl rfl) (hX.upI rfl) (fun g18 e18 hI hX => ?_)
          refine ev_loc f_X12_gives (nx := 6) rfl rfl rfl rfl ?_
          refine ev_retK1 f_X12_gives rfl rfl rfl ?_
          refine ev_retK1 f_X12_orNone rfl rfl rfl ?_
          exact ev_ret f_X12_dearest rfl rfl rfl ⟨_, _, _, rfl, hI, hX, ⟨_, rfl, (Int.le_trans (by decide : ((-1):Int) ≤ 0) l17), u10_1⟩⟩
      · have r19 : y10_3.toInt < (gi3 69 55).toInt := Int32.lt_iff_toInt_lt.mp (t_nle h11)
        have u20 : y10_3.toInt ≤ 99 := t_ltu (t_nle h11) u4 rfl
        have l21 : 1 ≤ (gi3 69 55).toInt := t_ltl (t_nle h11) l10_3 rfl
        refine ev_loc f_X12_dearest (nx := 29) rfl rfl rfl rfl ?_
        refine ev_getR f_X12_dearest (nx := 32) rfl (hI.wf.s rfl) rfl rfl (hI.wf.r rfl) rfl rfl ?_
        refine ev_loc f_X12_dearest (nx := 33) rfl rfl rfl rfl ?_
        refine ev_ialdT f_X12_dearest (nx := 34) rfl (hI.wf.s rfl) l10_3 (by decide) u20 (by decide) rfl (fun w22 e22 => ?_)
        obtain ⟨l22, u22⟩ := hI.abi e22 (by decide +kernel : t_abr 93 0 99 0 2 = true) l10_3 (by decide) u20 (by decide)
        refine ev_ic f_X12_dearest (nx := 35) (v := 2) rfl (by decide) rfl ?_
        refine ev_if f_X12_dearest (t1 := 38) (t2 := 41) rfl rfl rfl (fun h23 => ?_) (fun h23 => ?_)
        · have l24 : 2 ≤ w22.toInt := t_eql h23 (by decide : (2:Int) ≤ (2:Int32).toInt)
          refine ev_jmp f_X12_dearest (nx := 122) rfl rfl rfl ?_
          refine ev_incR f_X12_dearest (nx := 125) (c := 1) (l := 1) (u := 100) rfl rfl (by decide) (by decide) l10_3 u20 rfl rfl (by decide) (by decide) rfl (fun z25 e25 l25 u25 => ?_)
          refine ev_jmp f_X12_dearest (nx := 20) rfl rfl rfl ?_
          refine ev_sub (lo := [(3, .int z25), (2, .int y10_2), (1, .int y10_1), (0, .ref 69)]) rfl (t_sc rfl (t_sc rfl (t_sc rfl (t_sc rfl t_sn)))) ?_
          exact ih10 _ (by omega) gi10 gl10 gr10 (z25) (y10_2) (y10_1) hI hX  (Int.le_trans (by decide : (0:Int) ≤ 1) l25) (Int.le_trans u25 (by decide : (100:Int) ≤ 119)) l10_2 l10_1 u10_1 c10_0 c10_1 j10_0 rfl
        · have r26 : w22.toInt ≠ 2 := fun e => h23 (Int32.toInt_inj.mp (e.trans (by decide : (2:Int) = (2 : Int32).toInt)))
          have u27 : w22.toInt ≤ 1 := t_neu h23 u22 rfl rfl
          refine ev_loc f_X12_dearest (nx := 42) rfl rfl rfl rfl ?_
          refine ev_getR f_X12_dearest (nx := 45) rfl (hI.wf.s rfl) rfl rfl (hI.wf.r rfl) rfl rfl ?_
          refine ev_loc f_X12_dearest (nx := 46) rfl rfl rfl rfl ?_
          refine ev_ialdT f_X12_dearest (nx := 47) rfl (hI.wf.s rfl) l10_3 (by decide) u20 (by decide) rfl (fun w28 e28 => ?_)
          rw [e28.trans e22.symm]
          refine ev_if f_X12_dearest (t1 := 50) (t2 := 59) rfl rfl rfl (fun h29 => ?_) (fun h29 => ?_)
          · have u30 : w22.toInt ≤ 0 := t_equ h29 (by decide : (0:Int32).toInt ≤ (0:Int))
            refine ev_loc f_X12_dearest (nx := 51) rfl rfl rfl rfl ?_
            refine ev_getR f_X12_dearest (nx := 54) rfl (hI.wf.s rfl) rfl rfl (hI.wf.r rfl) rfl rfl ?_
            refine ev_loc f_X12_dearest (nx := 55) rfl rfl rfl rfl ?_
            refine ev_ialdT f_X12_dearest (nx := 56) rfl (hI.wf.s rfl) l10_3 (by decide) u20 (by decide) rfl (fun w31 e31 => ?_)
            obtain ⟨l31, u31⟩ := hI.abi e31 (by decide +kernel : t_abr 95 0 99 (-1) 5 = true) l10_3 (by decide) u20 (by decide)
            refine ev_jmp f_X12_dearest (nx := 68) rfl rfl rfl ?_
            refine ev_loc f_X12_dearest (nx := 70) (lo' := [(4, .int w31), (3, .int y10_3), (2, .int y10_2), (1, .int y10_1), (0, .ref 69)]) rfl rfl rfl rfl ?_
            refine ev_loc f_X12_dearest (nx := 71) rfl rfl rfl rfl ?_
            refine ev_getR f_X12_dearest (nx := 74) rfl (hI.wf.s rfl) rfl rfl (hI.wf.r rfl) rfl rfl ?_
            refine ev_loc f_X12_dearest (nx := 75) rfl rfl rfl rfl ?_
            refine ev_ialdT f_X12_dearest (nx := 76) rfl (hI.wf.s rfl) l10_3 (by decide) u20 (by decide) rfl (fun w32 e32 => ?_)
            refine ev_loc f_X12_dearest (nx := 77) rfl rfl rfl rfl ?_
            refine ev_loc f_X12_dearest (nx := 78) rfl rfl rfl rfl ?_
            refine ev_qI0 f_X12_dearest (nx := 81) (r := [.int w32]) rfl rfl rfl rfl rfl rfl rfl (c_m_cameBy hI (y10_3) l10_3 u20 (fun h => j10_0 y10_3.toNatClampNeg (by have hc := t_clamp (i := y10_3) (by omega); have ff34 : (gi10 69 55).toInt = (gi3 69 55).toInt := congrArg Int32.toInt c10_0; omega) h)) rfl (fun w33 l33 u33 q33 => ?_)
            have q33 : True := q33
            refine ev_anyI f_X12_dearest (nx := 82) rfl rfl rfl rfl (fun z35 => ?_)
            refine ev_loc f_X12_dearest (nx := 83) rfl rfl rfl rfl ?_
            refine ev_loc f_X12_dearest (nx := 84) rfl rfl rfl rfl ?_
            refine ev_qI0 f_X12_dearest (nx := 87) (r := [.int z35]) rfl rfl rfl rfl rfl rfl rfl (c_m_costsBy hI (y10_3) l10_3 u20) rfl (fun w36 l36 u36 q36 => ?_)
            have q36 : True := q36
            refine ev_anyI f_X12_dearest (nx := 88) rfl rfl rfl rfl (fun z37 => ?_)
            refine ev_loc f_X12_dearest (nx := 90) (lo' := [(5, .int z37), (4, .int w31), (3, .int y10_3), (2, .int y10_2), (1, .int y10_1), (0, .ref 69)]) rfl rfl rfl rfl ?_
            refine ev_loc f_X12_dearest (nx := 92) rfl rfl rfl rfl ?_
            refine ev_loc f_X12_dearest (nx := 93) rfl rfl rfl rfl ?_
            refine ev_if f_X12_dearest (t1 := 122) (t2 := 96) rfl rfl rfl (fun h38 => ?_) (fun h38 => ?_)
            · have r39 : z37.toInt < y10_2.toInt := Int32.lt_iff_toInt_lt.mp h38
              have u40 : z37.toInt ≤ 2147483646 := t_ltu h38 (t_hi y10_2) rfl
              refine ev_incR f_X12_dearest (nx := 125) (c := 1) (l := 1) (u := 100) rfl rfl (by decide) (by decide) l10_3 u20 rfl rfl (by decide) (by decide) rfl (fun z41 e41 l41 u41 => ?_)
              refine ev_jmp f_X12_dearest (nx := 20) rfl rfl rfl ?_
              refine ev_sub (lo := [(3, .int z41), (2, .int y10_2), (1, .int y10_1), (0, .ref 69)]) rfl (t_sc rfl (t_sc rfl (t_sc rfl (t_sc rfl t_sn)))) ?_
              exact ih10 _ (by omega) gi10 gl10 gr10 (z41) (y10_2) (y10_1) hI hX  (Int.le_trans (by decide : (0:Int) ≤ 1) l41) (Int.le_trans u41 (by decide : (100:Int) ≤ 119)) l10_2 l10_1 u10_1 c10_0 c10_1 j10_0 rfl
            · have r42 : y10_2.toInt ≤ z37.toInt := Int32.le_iff_toInt_le.mp (t_nlt h38)
              have l43 : 0 ≤ z37.toInt := t_lel (t_nlt h38) l10_2
              refine ev_loc f_X12_dearest (nx := 98) rfl rfl rfl rfl ?_
              refine ev_if f_X12_dearest (t1 := 122) (t2 := 101) rfl rfl rfl (fun h44 => ?_) (fun h44 => ?_)
              · have u45 : z37.toInt ≤ 0 := t_equ h44 (by decide : (0:Int32).toInt ≤ (0:Int))
                refine ev_incR f_X12_dearest (nx := 125) (c := 1) (l := 1) (u := 100) rfl rfl (by decide) (by decide) l10_3 u20 rfl rfl (by decide) (by decide) rfl (fun z46 e46 l46 u46 => ?_)
                refine ev_jmp f_X12_dearest (nx := 20) rfl rfl rfl ?_
                refine ev_sub (lo := [(3, .int z46), (2, .int y10_2), (1, .int y10_1), (0, .ref 69)]) rfl (t_sc rfl (t_sc rfl (t_sc rfl (t_sc rfl t_sn)))) ?_
                exact ih10 _ (by omega) gi10 gl10 gr10 (z46) (y10_2) (y10_1) hI hX  (Int.le_trans (by decide : (0:Int) ≤ 1) l46) (Int.le_trans u46 (by decide : (100:Int) ≤ 119)) l10_2 l10_1 u10_1 c10_0 c10_1 j10_0 rfl
              · have r47 : z37.toInt ≠ 0 := fun e => h44 (Int32.toInt_inj.mp (e.trans (by decide : (0:Int) = (0 : Int32).toInt)))
                have l48 : 1 ≤ z37.toInt := t_nel h44 l43 rfl rfl
                refine ev_loc f_X12_dearest (nx := 103) rfl rfl rfl rfl ?_
                refine ev_loc f_X12_dearest (nx := 104) rfl rfl rfl rfl ?_
                refine ev_if f_X12_dearest (t1 := 107) (t2 := 116) rfl rfl rfl (fun h49 => ?_) (fun h49 => ?_)
                · have r50 : z37.toInt = y10_2.toInt := t_eqi h49
                  have l51 : 1 ≤ y10_2.toInt := t_eql (Eq.symm h49) l48
                  refine ev_loc f_X12_dearest (nx := 109) rfl rfl rfl rfl ?_
                  refine ev_loc f_X12_dearest (nx := 110) rfl rfl rfl rfl ?_
                  refine ev_if f_X12_dearest (t1 := 116) (t2 := 113) rfl rfl rfl (fun h52 => ?_) (fun h52 => ?_)
                  · have r53 : w31.toInt ≤ y10_1.toInt := Int32.le_iff_toInt_le.mp h52
                    refine ev_loc f_X12_dearest (nx := 118) rfl rfl rfl rfl ?_
                    refine ev_loc f_X12_dearest (nx := 119) (lo' := [(2, .int z37), (5, .int z37), (4, .int w31), (3, .int y10_3), (1, .int y10_1), (0, .ref 69)]) rfl rfl rfl rfl ?_
                    refine ev_loc f_X12_dearest (nx := 121) rfl rfl rfl rfl ?_
                    refine ev_loc f_X12_dearest (nx := 122) (lo' := [(1, .int w31), (2, .int z37), (5, .int z37), (4, .int w31), (3, .int y10_3), (0, .ref 69)]) rfl rfl rfl rfl ?_
                    refine ev_incR f_X12_dearest (nx := 125) (c := 1) (l := 1) (u := 100) rfl rfl (by decide) (by decide) l10_3 u20 rfl rfl (by decide) (by decide) rfl (fun z54 e54 l54 u54 => ?_)
                    refine ev_jmp f_X12_dearest (nx := 20) rfl rfl rfl ?_
                    refine ev_sub (lo := [(3, .int z54), (2, .int z37), (1, .int w31), (0, .ref 69)]) rfl (t_sc rfl (t_sc rfl (t_sc rfl (t_sc rfl t_sn)))) ?_
                    exact ih10 _ (by omega) gi10 gl10 gr10 (z54) (z37) (w31) hI hX  (Int.le_trans (by decide : (0:Int) ≤ 1) l54) (Int.le_trans u54 (by decide : (100:Int) ≤ 119)) (Int.le_trans (by decide : (0:Int) ≤ 1) l48) l31 (Int.le_trans u31 (by decide : (5:Int) ≤ 12)) c10_0 c10_1 j10_0 rfl
                  · have r55 : y10_1.toInt < w31.toInt := Int32.lt_iff_toInt_lt.mp (t_nle h52)
                    have u56 : y10_1.toInt ≤ 4 := t_ltu (t_nle h52) u31 rfl
                    have l57 : 0 ≤ w31.toInt := t_ltl (t_nle h52) l10_1 rfl
                    refine ev_jmp f_X12_dearest (nx := 122) rfl rfl rfl ?_
                    refine ev_incR f_X12_dearest (nx := 125) (c := 1) (l := 1) (u := 100) rfl rfl (by decide) (by decide) l10_3 u20 rfl rfl (by decide) (by decide) rfl (fun z58 e58 l58 u58 => ?_)
                    refine ev_jmp f_X12_dearest (nx := 20) rfl rfl rfl ?_
                    refine ev_sub (lo := [(3, .int z58), (2, .int y10_2), (1, .int y10_1), (0, .ref 69)]) rfl (t_sc rfl (t_sc rfl (t_sc rfl (t_sc rfl t_sn)))) ?_
                    exact ih10 _ (by omega) gi10 gl10 gr10 (z58) (y10_2) (y10_1) hI hX  (Int.le_trans (by decide : (0:Int) ≤ 1) l58) (Int.le_trans u58 (by decide : (100:Int) ≤ 119)) (Int.le_trans (by decide : (0:Int) ≤ 1) l51) l10_1 (Int.le_trans u56 (by decide : (4:Int) ≤ 12)) c10_0 c10_1 j10_0 rfl
                · have r59 : z37.toInt ≠ y10_2.toInt := t_nei h49
                  refine ev_loc f_X12_dearest (nx := 118) rfl rfl rfl rfl ?_
                  refine ev_loc f_X12_dearest (nx := 119) (lo' := [(2, .int z37), (5, .int z37), (4, .int w31), (3, .int y10_3), (1, .int y10_1), (0, .ref 69)]) rfl rfl rfl rfl ?_
                  refine ev_loc f_X12_dearest (nx := 121) rfl rfl rfl rfl ?_
                  refine ev_loc f_X12_dearest (nx := 122) (lo' := [(1, .int w31), (2, .int z37), (5, .int z37), (4, .int w31), (3, .int y10_3), (0, .ref 69)]) rfl rfl rfl rfl ?_
                  refine ev_incR f_X12_dearest (nx := 125) (c := 1) (l := 1) (u := 100) rfl rfl (by decide) (by decide) l10_3 u20 rfl rfl (by decide) (by decide) rfl (fun z60 e60 l60 u60 => ?_)
                  refine ev_jmp f_X12_dearest (nx := 20) rfl rfl rfl ?_
                  refine ev_sub (lo := [(3, .int z60), (2, .int z37), (1, .int w31), (0, .ref 69)]) rfl (t_sc rfl (t_sc rfl (t_sc rfl (t_sc rfl t_sn)))) ?_
                  exact ih10 _ (by omega) gi10 gl10 gr10 (z60) (z37) (w31) hI hX  (Int.le_trans (by decide : (0:Int) ≤ 1) l60) (Int.le_trans u60 (by decide : (100:Int) ≤ 119)) (Int.le_trans (by decide : (0:Int) ≤ 1) l48) l31 (Int.le_trans u31 (by decide : (5:Int) ≤ 12)) c10_0 c10_1 j10_0 rfl
          · have r61 : w22.toInt ≠ 0 := fun e => h29 (Int32.toInt_inj.mp (e.trans (by decide : (0:Int) = (0 : Int32).toInt)))
            have l62 : 1 ≤ w22.toInt := t_nel h29 l22 rfl rfl
            refine ev_bp f_X12_dearest (nx := 61) (v := 6) rfl (by decide) rfl ?_
            refine ev_loc f_X12_dearest (nx := 62) rfl rfl rfl rfl ?_
            refine ev_getR f_X12_dearest (nx := 65) rfl (hI.wf.s rfl) rfl rfl (hI.wf.r rfl) rfl rfl ?_
            refine ev_loc f_X12_dearest (nx := 66) rfl rfl rfl rfl ?_
            refine ev_ialdT f_X12_dearest (nx := 67) rfl (hI.wf.s rfl) l10_3 (by decide) u20 (by decide) rfl (fun w63 e63 => ?_)
            obtain ⟨l63, u63⟩ := hI.abi e63 (by decide +kernel : t_abr 95 0 99 (-1) 5 = true) l10_3 (by decide) u20 (by decide)
            refine ev_addK f_X12_dearest (nx := 68) (c := 6) (l := 5) (u := 11) rfl (by decide) l63 u63 rfl rfl (by decide) (by decide) rfl (fun z64 e64 l64 u64 => ?_)
            refine ev_loc f_X12_dearest (nx := 70) (lo' := [(4, .int z64), (3, .int y10_3), (2, .int y10_2), (1, .int y10_1), (0, .ref 69)]) rfl rfl rfl rfl ?_
            refine ev_loc f_X12_dearest (nx := 71) rfl rfl rfl rfl ?_
            refine ev_getR f_X12_dearest (nx := 74) rfl (hI.wf.s rfl) rfl rfl (hI.wf.r rfl) rfl rfl ?_
            refine ev_loc f_X12_dearest (nx := 75) rfl rfl rfl rfl ?_
            refine ev_ialdT f_X12_dearest (nx := 76) rfl (hI.wf.s rfl) l10_3 (by decide) u20 (by decide) rfl (fun w65 e65 => ?_)
            refine ev_loc f_X12_dearest (nx := 77) rfl rfl rfl rfl ?_
            refine ev_loc f_X12_dearest (nx := 78) rfl rfl rfl rfl ?_
            refine ev_qI0 f_X12_dearest (nx := 81) (r := [.int w65]) rfl rfl rfl rfl rfl rfl rfl (c_m_cameBy hI (y10_3) l10_3 u20 (fun h => j10_0 y10_3.toNatClampNeg (by have hc := t_clamp (i := y10_3) (by omega); have ff67 : (gi10 69 55).toInt = (gi3 69 55).toInt := congrArg Int32.toInt c10_0; omega) h)) rfl (fun w66 l66 u66 q66 => ?_)
            have q66 : True := q66
            refine ev_anyI f_X12_dearest (nx := 82) rfl rfl rfl rfl (fun z68 => ?_)
            refine ev_loc f_X12_dearest (nx := 83) rfl rfl rfl rfl ?_
            refine ev_loc f_X12_dearest (nx := 84) rfl rfl rfl rfl ?_
            refine ev_qI0 f_X12_dearest (nx := 87) (r := [.int z68]) rfl rfl rfl rfl rfl rfl rfl (c_m_costsBy hI (y10_3) l10_3 u20) rfl (fun w69 l69 u69 q69 => ?_)
            have q69 : True := q69
            refine ev_anyI f_X12_dearest (nx := 88) rfl rfl rfl rfl (fun z70 => ?_)
            refine ev_loc f_X12_dearest (nx := 90) (lo' := [(5, .int z70), (4, .int z64), (3, .int y10_3), (2, .int y10_2), (1, .int y10_1), (0, .ref 69)]) rfl rfl rfl rfl ?_
            refine ev_loc f_X12_dearest (nx := 92) rfl rfl rfl rfl ?_
            refine ev_loc f_X12_dearest (nx := 93) rfl rfl rfl rfl ?_
            refine ev_if f_X12_dearest (t1 := 122) (t2 := 96) rfl rfl rfl (fun h71 => ?_) (fun h71 => ?_)
            · have r72 : z70.toInt < y10_2.toInt := Int32.lt_iff_toInt_lt.mp h71
              have u73 : z70.toInt ≤ 2147483646 := t_ltu h71 (t_hi y10_2) rfl
              refine ev_incR f_X12_dearest (nx := 125) (c := 1) (l := 1) (u := 100) rfl rfl (by decide) (by decide) l10_3 u20 rfl rfl (by decide) (by decide) rfl (fun z74 e74 l74 u74 => ?_)
              refine ev_jmp f_X12_dearest (nx := 20) rfl rfl rfl ?_
              refine ev_sub (lo := [(3, .int z74), (2, .int y10_2), (1, .int y10_1), (0, .ref 69)]) rfl (t_sc rfl (t_sc rfl (t_sc rfl (t_sc rfl t_sn)))) ?_
              exact ih10 _ (by omega) gi10 gl10 gr10 (z74) (y10_2) (y10_1) hI hX  (Int.le_trans (by decide : (0:Int) ≤ 1) l74) (Int.le_trans u74 (by decide : (100:Int) ≤ 119)) l10_2 l10_1 u10_1 c10_0 c10_1 j10_0 rfl
            · have r75 : y10_2.toInt ≤ z70.toInt := Int32.le_iff_toInt_le.mp (t_nlt h71)
              have l76 : 0 ≤ z70.toInt := t_lel (t_nlt h71) l10_2
              refine ev_loc f_X12_dearest (nx := 98) rfl rfl rfl rfl ?_
              refine ev_if f_X12_dearest (t1 := 122) (t2 := 101) rfl rfl rfl (fun h77 => ?_) (fun h77 => ?_)
              · have u78 : z70.toInt ≤ 0 := t_equ h77 (by decide : (0:Int32).toInt ≤ (0:Int))
                refine ev_incR f_X12_dearest (nx := 125) (c := 1) (l := 1) (u := 100) rfl rfl (by decide) (by decide) l10_3 u20 rfl rfl (by decide) (by decide) rfl (fun z79 e79 l79 u79 => ?_)
                refine ev_jmp f_X12_dearest (nx := 20) rfl rfl rfl ?_
                refine ev_sub (lo := [(3, .int z79), (2, .int y10_2), (1, .int y10_1), (0, .ref 69)]) rfl (t_sc rfl (t_sc rfl (t_sc rfl (t_sc rfl t_sn)))) ?_
                exact ih10 _ (by omega) gi10 gl10 gr10 (z79) (y10_2) (y10_1) hI hX  (Int.le_trans (by decide : (0:Int) ≤ 1) l79) (Int.le_trans u79 (by decide : (100:Int) ≤ 119)) l10_2 l10_1 u10_1 c10_0 c10_1 j10_0 rfl
              · have r80 : z70.toInt ≠ 0 := fun e => h77 (Int32.toInt_inj.mp (e.trans (by decide : (0:Int) = (0 : Int32).toInt)))
                have l81 : 1 ≤ z70.toInt := t_nel h77 l76 rfl rfl
                refine ev_loc f_X12_dearest (nx := 103) rfl rfl rfl rfl ?_
                refine ev_loc f_X12_dearest (nx := 104) rfl rfl rfl rfl ?_
                refine ev_if f_X12_dearest (t1 := 107) (t2 := 116) rfl rfl rfl (fun h82 => ?_) (fun h82 => ?_)
                · have r83 : z70.toInt = y10_2.toInt := t_eqi h82
                  have l84 : 1 ≤ y10_2.toInt := t_eql (Eq.symm h82) l81
                  refine ev_loc f_X12_dearest (nx := 109) rfl rfl rfl rfl ?_
                  refine ev_loc f_X12_dearest (nx := 110) rfl rfl rfl rfl ?_
                  refine ev_if f_X12_dearest (t1 := 116) (t2 := 113) rfl rfl rfl (fun h85 => ?_) (fun h85 => ?_)
                  · have r86 : z64.toInt ≤ y10_1.toInt := Int32.le_iff_toInt_le.mp h85
                    have l87 : 5 ≤ y10_1.toInt := t_lel h85 l64
                    refine ev_loc f_X12_dearest (nx := 118) rfl rfl rfl rfl ?_
                    refine ev_loc f_X12_dearest (nx := 119) (lo' := [(2, .int z70), (5, .int z70), (4, .int z64), (3, .int y10_3), (1, .int y10_1), (0, .ref 69)]) rfl rfl rfl rfl ?_
                    refine ev_loc f_X12_dearest (nx := 121) rfl rfl rfl rfl ?_
                    refine ev_loc f_X12_dearest (nx := 122) (lo' := [(1, .int z64), (2, .int z70), (5, .int z70), (4, .int z64), (3, .int y10_3), (0, .ref 69)]) rfl rfl rfl rfl ?_
                    refine ev_incR f_X12_dearest (nx := 125) (c := 1) (l := 1) (u := 100) rfl rfl (by decide) (by decide) l10_3 u20 rfl rfl (by decide) (by decide) rfl (fun z88 e88 l88 u88 => ?_)
                    refine ev_jmp f_X12_dearest (nx := 20) rfl rfl rfl ?_
                    refine ev_sub (lo := [(3, .int z88), (2, .int z70), (1, .int z64), (0, .ref 69)]) rfl (t_sc rfl (t_sc rfl (t_sc rfl (t_sc rfl t_sn)))) ?_
                    exact ih10 _ (by omega) gi10 gl10 gr10 (z88) (z70) (z64) hI hX  (Int.le_trans (by decide : (0:Int) ≤ 1) l88) (Int.le_trans u88 (by decide : (100:Int) ≤ 119)) (Int.le_trans (by decide : (0:Int) ≤ 1) l81) (Int.le_trans (by decide : ((-1):Int) ≤ 5) l64) (Int.le_trans u64 (by decide : (11:Int) ≤ 12)) c10_0 c10_1 j10_0 rfl
                  · have r89 : y10_1.toInt < z64.toInt := Int32.lt_iff_toInt_lt.mp (t_nle h85)
                    have u90 : y10_1.toInt ≤ 10 := t_ltu (t_nle h85) u64 rfl
                    refine ev_jmp f_X12_dearest (nx := 122) rfl rfl rfl ?_
                    refine ev_incR f_X12_dearest (nx := 125) (c := 1) (l := 1) (u := 100) rfl rfl (by decide) (by decide) l10_3 u20 rfl rfl (by decide) (by decide) rfl (fun z91 e91 l91 u91 => ?_)
                    refine ev_jmp f_X12_dearest (nx := 20) rfl rfl rfl ?_
                    refine ev_sub (lo := [(3, .int z91), (2, .int y10_2), (1, .int y10_1), (0, .ref 69)]) rfl (t_sc rfl (t_sc rfl (t_sc rfl (t_sc rfl t_sn)))) ?_
                    exact ih10 _ (by omega) gi10 gl10 gr10 (z91) (y10_2) (y10_1) hI hX  (Int.le_trans (by decide : (0:Int) ≤ 1) l91) (Int.le_trans u91 (by decide : (100:Int) ≤ 119)) (Int.le_trans (by decide : (0:Int) ≤ 1) l84) l10_1 (Int.le_trans u90 (by decide : (10:Int) ≤ 12)) c10_0 c10_1 j10_0 rfl
                · have r92 : z70.toInt ≠ y10_2.toInt := t_nei h82
                  refine ev_loc f_X12_dearest (nx := 118) rfl rfl rfl rfl ?_
                  refine ev_loc f_X12_dearest (nx := 119) (lo' := [(2, .int z70), (5, .int z70), (4, .int z64), (3, .int y10_3), (1, .int y10_1), (0, .ref 69)]) rfl rfl rfl rfl ?_
                  refine ev_loc f_X12_dearest (nx := 121) rfl rfl rfl rfl ?_
                  refine ev_loc f_X12_dearest (nx := 122) (lo' := [(1, .int z64), (2, .int z70), (5, .int z70), (4, .int z64), (3, .int y10_3), (0, .ref 69)]) rfl rfl rfl rfl ?_
                  refine ev_incR f_X12_dearest (nx := 125) (c := 1) (l := 1) (u := 100) rfl rfl (by decide) (by decide) l10_3 u20 rfl rfl (by decide) (by decide) rfl (fun z93 e93 l93 u93 => ?_)
                  refine ev_jmp f_X12_dearest (nx := 20) rfl rfl rfl ?_
                  refine ev_sub (lo := [(3, .int z93), (2, .int z70), (1, .int z64), (0, .ref 69)]) rfl (t_sc rfl (t_sc rfl (t_sc rfl (t_sc rfl t_sn)))) ?_
                  exact ih10 _ (by omega) gi10 gl10 gr10 (z93) (z70) (z64) hI hX  (Int.le_trans (by decide : (0:Int) ≤ 1) l93) (Int.le_trans u93 (by decide : (100:Int) ≤ 119)) (Int.le_trans (by decide : (0:Int) ≤ 1) l81) (Int.le_trans (by decide : ((-1):Int) ≤ 5) l64) (Int.le_trans u64 (by decide : (11:Int) ≤ 12)) c10_0 c10_1 j10_0 rfl
    refine ev_sub (lo := [(3, .int 0), (2, .int 0), (1, .int (-1)), (0, .ref 69)]) rfl (t_sc rfl (t_sc rfl (t_sc rfl (t_sc rfl t_sn)))) ?_
    exact L10 _ gi3 gl3 gr3 (0) (0) ((-1)) hI hX  (by decide : (0:Int) ≤ (0:Int32).toInt) (Int.le_trans (by decide : (0:Int32).toInt ≤ (0:Int)) (by decide : (0:Int) ≤ 119)) (by decide : (0:Int) ≤ (0:Int32).toInt) (by decide : ((-1):Int) ≤ ((-1):Int32).toInt) (Int.le_trans (by decide : ((-1):Int32).toInt ≤ ((-1):Int)) (by decide : ((-1):Int) ≤ 12)) rfl ((hC3.1 70 4 rfl).1.trans rfl) (q3 (by omega)) rfl
noncomputable def wl_m_opened : List (Nat × Nat) := [(69, 2), (69, 44), (69, 45), (69, 48), (69, 55), (69, 57), (89, 10005), (89, 610011), (90, 9999), (91, 9999), (92, 9999), (93, 9999), (94, 9999), (95, 9999)]
theorem c_m_opened {X : x_Ext} {d : Nat} {sh : List (Nat ⊕ (Nat × Nat))} {gi : Nat → Nat → Int32} {gl : Nat → Nat → Int64} {gr : Nat → Nat → Value} (hI : t_I sh gi gr) (e_p0 : 1 ≤ (gi 70 4).toInt) : x_Me X (d + 7) n_X12_opened [.ref 69] (sh, gi, gl, gr) (t_P wl_m_opened sh gi gl gr (t_Ri (-2147483648) 2147483647)) := by
  have hX : t_X wl_m_opened sh gi gl gr gi gl gr := t_X.rf
  refine me_i f_X12_opened (hI.wf.s rfl) rfl rfl rfl ?_
  obtain ⟨l1, u1⟩ := hI.ab (by decide +kernel : t_abr 70 4 4 0 20 = true) (Nat.le_refl _) (Nat.le_refl _)
  refine ev_loc f_X12_opened (nx := 1) rfl rfl rfl rfl ?_
  refine ev_qI f_X12_opened (nx := 4) (r := []) rfl rfl rfl rfl rfl rfl rfl (c_m_plans hI  (by omega)) rfl hX rfl (fun w2 gi2 gl2 gr2 l2 u2 hI hX hC2 q2 => ?_)
  have q2 : (w2.toInt = 1 → t_wh (gi2 69 55).toInt (gi2 93) (gi2 95)) := q2
  refine ev_if f_X12_opened (t1 := 7) (t2 := 14) rfl rfl rfl (fun h3 => ?_) (fun h3 => ?_)
  · have u4 : w2.toInt ≤ 0 := t_equ h3 (by decide : (0:Int32).toInt ≤ (0:Int))
    refine ev_loc f_X12_opened (nx := 8) rfl rfl rfl rfl ?_
    refine ev_bp f_X12_opened (nx := 10) (v := 6) rfl (by decide) rfl ?_
    refine ev_inV2 f_X12_opened (nx := 13) (lo2 := [(0, .ref 69), (1, .int 6)]) rfl rfl rfl rfl f_X12_refuse (hI.wf.s rfl) rfl rfl rfl rfl rfl ?_
    refine ev_loc f_X12_refuse (nx := 1) rfl rfl rfl rfl ?_
    refine ev_loc f_X12_refuse (nx := 2) rfl rfl rfl rfl ?_
    refine ev_putIT f_X12_refuse (nx := 5) rfl (hI.wf.s rfl) rfl rfl rfl (hI.put0 (hI.wf.s rfl) rfl rfl) (hX.upI rfl) (fun g5 e5 hI hX => ?_)
    refine ev_ic f_X12_refuse (nx := 6) (v := -1) rfl (by decide) rfl ?_
    refine ev_retK1 f_X12_refuse rfl rfl rfl ?_
    exact ev_ret f_X12_opened rfl rfl rfl ⟨_, _, _, rfl, hI, hX, ⟨_, rfl, (Int.le_trans (by decide : ((-2147483648):Int) ≤ (-1)) (by decide : ((-1):Int) ≤ ((-1):Int32).toInt)), (Int.le_trans (by decide : ((-1):Int32).toInt ≤ ((-1):Int)) (by decide : ((-1):Int) ≤ 2147483647))⟩⟩
  · have r6 : w2.toInt ≠ 0 := fun e => h3 (Int32.toInt_inj.mp (e.trans (by decide : (0:Int) = (0 : Int32).toInt)))
    have l7 : 1 ≤ w2.toInt := t_nel h3 l2 rfl rfl
    refine ev_ic f_X12_opened (nx := 15) (v := 0) rfl (by decide) rfl ?_
    refine ev_loc f_X12_opened (nx := 16) (lo' := [(1, .int 0), (0, .ref 69)]) rfl rfl rfl rfl ?_
    refine ev_ic f_X12_opened (nx := 17) (v := -1) rfl (by decide) rfl ?_
    refine ev_loc f_X12_opened (nx := 18) (lo' := [(2, .int (-1)), (1, .int 0), (0, .ref 69)]) rfl rfl rfl rfl ?_
    refine ev_ic f_X12_opened (nx := 19) (v := 0) rfl (by decide) rfl ?_
    refine ev_loc f_X12_opened (nx := 20) (lo' := [(3, .int 0), (2, .int (-1)), (1, .int 0), (0, .ref 69)]) rfl rfl rfl rfl ?_
    have L8 : ∀ (m8 : Nat) (gi8 : Nat → Nat → Int32) (gl8 : Nat → Nat → Int64) (gr8 : Nat → Nat → Value) (y8_3 : Int32) (y8_2 : Int32) (y8_1 : Int32), t_I sh gi8 gr8 → t_X wl_m_opened sh gi gl gr gi8 gl8 gr8 → 0 ≤ y8_3.toInt → y8_3.toInt ≤ 119 → gi8 70 4 = (gi 70 4) → (119 - y8_3.toInt).toNat = m8 → x_Ev X (d + 7) n_X12_opened 20 [(3, .int y8_3), (2, .int y8_2), (1, .int y8_1), (0, .ref 69)] [] (sh, gi8, gl8, gr8) (t_P wl_m_opened sh gi gl gr (t_Ri (-2147483648) 2147483647)) := by
      intro m8
      induction m8 using Nat.strongRecOn with
      | _ m8 ih8 =>
      intro gi8 gl8 gr8 y8_3 y8_2 y8_1 hI hX l8_3 u8_3 c8_0 hm8
      refine ev_loc f_X12_opened (nx := 21) rfl rfl rfl rfl ?_
      refine ev_loc f_X12_opened (nx := 22) rfl rfl rfl rfl ?_
      refine ev_getI f_X12_opened (nx := 25) rfl (hI.wf.s rfl) rfl rfl rfl ?_
      obtain ⟨l9, u9⟩ := hI.b (hI.wf.s (k := 69) rfl) (t_bdK rfl : t_bd 11 55 = some (0, 100))
      refine ev_if f_X12_opened (t1 := 92) (t2 := 28) rfl rfl rfl (fun h10 => ?_) (fun h10 => ?_)
      · have r11 : (gi8 69 55).toInt ≤ y8_3.toInt := Int32.le_iff_toInt_le.mp h10
        refine ev_loc f_X12_opened (nx := 93) rfl rfl rfl rfl ?_
        refine ev_loc f_X12_opened (nx := 94) rfl rfl rfl rfl ?_
        refine ev_ic f_X12_opened (nx := 95) (v := -1) rfl (by decide) rfl ?_
        refine ev_if f_X12_opened (t1 := 98) (t2 := 102) rfl rfl rfl (fun h12 => ?_) (fun h12 => ?_)
        · have u13 : y8_2.toInt ≤ (-1) := t_equ h12 (by decide : ((-1):Int32).toInt ≤ ((-1):Int))
          have l14 : (-1) ≤ y8_2.toInt := t_eql h12 (by decide : ((-1):Int) ≤ ((-1):Int32).toInt)
          refine ev_loc f_X12_opened (nx := 99) rfl rfl rfl rfl ?_
          refine ev_jmp f_X12_opened (nx := 110) rfl rfl rfl ?_
          refine ev_inV2 f_X12_opened (nx := 113) (lo2 := [(0, .ref 69), (1, .int y8_1)]) rfl rfl rfl rfl f_X12_gives (hI.wf.s rfl) rfl rfl rfl rfl rfl ?_
          refine ev_loc f_X12_gives (nx := 1) rfl rfl rfl rfl ?_
          refine ev_ic f_X12_gives (nx := 2) (v := 0) rfl (by decide) rfl ?_
          refine ev_putIT f_X12_gives (nx := 5) rfl (hI.wf.s rfl) rfl rfl rfl (hI.put0 (hI.wf.s rfl) rfl rfl) (hX.upI rfl) (fun g15 e15 hI hX => ?_)
          refine ev_loc f_X12_gives (nx := 6) rfl rfl rfl rfl ?_
          refine ev_retK1 f_X12_gives rfl rfl rfl ?_
          exact ev_ret f_X12_opened rfl rfl rfl ⟨_, _, _, rfl, hI, hX, ⟨_, rfl, (t_lo y8_1), (t_hi y8_1)⟩⟩
        · have r16 : y8_2.toInt ≠ (-1) := fun e => h12 (Int32.toInt_inj.mp (e.trans (by decide : ((-1):Int) = ((-1) : Int32).toInt)))
          refine ev_loc f_X12_opened (nx := 103) rfl rfl rfl rfl ?_
          refine ev_loc f_X12_opened (nx := 104) rfl rfl rfl rfl ?_
          refine ev_getI f_X12_opened (nx := 107) rfl (hI.wf.s rfl) rfl rfl rfl ?_
          refine ev_anyI f_X12_opened (nx := 108) rfl rfl rfl rfl (fun z17 => ?_)
          refine ev_loc f_X12_opened (nx := 109) rfl rfl rfl rfl ?_
          refine ev_anyI f_X12_opened (nx := 110) rfl rfl rfl rfl (fun z18 => ?_)
          refine ev_inV2 f_X12_opened (nx := 113) (lo2 := [(0, .ref 69), (1, .int z18)]) rfl rfl rfl rfl f_X12_gives (hI.wf.s rfl) rfl rfl rfl rfl rfl ?_
          refine ev_loc f_X12_gives (nx := 1) rfl rfl rfl rfl ?_
          refine ev_ic f_X12_gives (nx := 2) (v := 0) rfl (by decide) rfl ?_
          refine ev_putIT f_X12_gives (nx := 5) rfl (hI.wf.s rfl) rfl rfl rfl (hI.put0 (hI.wf.s rfl) rfl rfl) (hX.upI rfl) (fun g19 e19 hI hX => ?_)
          refine ev_loc f_X12_gives (nx := 6) rfl rfl rfl rfl ?_
          refine ev_retK1 f_X12_gives rfl rfl rfl ?_
          exact ev_ret f_X12_opened rfl rfl rfl ⟨_, _, _, rfl, hI, hX, ⟨_, rfl, (t_lo z18), (t_hi z18)⟩⟩
      · have r20 : y8_3.toInt < (gi8 69 55).toInt := Int32.lt_iff_toInt_lt.mp (t_nle h10)
        have u21 : y8_3.toInt ≤ 99 := t_ltu (t_nle h10) u9 rfl
        have l22 : 1 ≤ (gi8 69 55).toInt := t_ltl (t_nle h10) l8_3 rfl
        refine ev_loc f_X12_opened (nx := 29) rfl rfl rfl rfl ?_
        refine ev_getR f_X12_opened (nx := 32) rfl (hI.wf.s rfl) rfl rfl (hI.wf.r rfl) rfl rfl ?_
        refine ev_loc f_X12_opened (nx := 33) rfl rfl rfl rfl ?_
        refine ev_ialdT f_X12_opened (nx := 34) rfl (hI.wf.s rfl) l8_3 (by decide) u21 (by decide) rfl (fun w23 e23 => ?_)
        obtain ⟨l23, u23⟩ := hI.abi e23 (by decide +kernel : t_abr 93 0 99 0 2 = true) l8_3 (by decide) u21 (by decide)
        refine ev_ic f_X12_opened (nx := 35) (v := 2) rfl (by decide) rfl ?_
        refine ev_if f_X12_opened (t1 := 41) (t2 := 38) rfl rfl rfl (fun h24 => ?_) (fun h24 => ?_)
        · have l25 : 2 ≤ w23.toInt := t_eql h24 (by decide : (2:Int) ≤ (2:Int32).toInt)
          refine ev_loc f_X12_opened (nx := 42) rfl rfl rfl rfl ?_
          refine ev_ic f_X12_opened (nx := 43) (v := -1) rfl (by decide) rfl ?_
          refine ev_if f_X12_opened (t1 := 46) (t2 := 73) rfl rfl rfl (fun h26 => ?_) (fun h26 => ?_)
          · have u27 : y8_2.toInt ≤ (-1) := t_equ h26 (by decide : ((-1):Int32).toInt ≤ ((-1):Int))
            have l28 : (-1) ≤ y8_2.toInt := t_eql h26 (by decide : ((-1):Int) ≤ ((-1):Int32).toInt)
            refine ev_loc f_X12_opened (nx := 47) rfl rfl rfl rfl ?_
            refine ev_getR f_X12_opened (nx := 50) rfl (hI.wf.s rfl) rfl rfl (hI.wf.r rfl) rfl rfl ?_
            refine ev_loc f_X12_opened (nx := 51) rfl rfl rfl rfl ?_
            refine ev_ialdT f_X12_opened (nx := 52) rfl (hI.wf.s rfl) l8_3 (by decide) u21 (by decide) rfl (fun w29 e29 => ?_)
            refine ev_loc f_X12_opened (nx := 53) rfl rfl rfl rfl ?_
            refine ev_loc f_X12_opened (nx := 54) rfl rfl rfl rfl ?_
            refine ev_getR f_X12_opened (nx := 57) rfl (hI.wf.s rfl) rfl rfl (hI.wf.r rfl) rfl rfl ?_
            refine ev_loc f_X12_opened (nx := 58) rfl rfl rfl rfl ?_
            refine ev_ialdT f_X12_opened (nx := 59) rfl (hI.wf.s rfl) l8_3 (by decide) u21 (by decide) rfl (fun w30 e30 => ?_)
            rw [e30.trans e29.symm]
            refine ev_loc f_X12_opened (nx := 60) rfl rfl rfl rfl ?_
            refine ev_getR f_X12_opened (nx := 63) rfl (hI.wf.s rfl) rfl rfl (hI.wf.r rfl) rfl rfl ?_
            refine ev_ic f_X12_opened (nx := 64) (v := 4) rfl (by decide) rfl ?_
            refine ev_ialdv f_X12_opened (nx := 65) (w := (gi 70 4)) rfl (hI.wf.s rfl) (by decide) (rfl : (4 : Int32).toNatClampNeg = 4) (by decide) c8_0 rfl ?_
            refine ev_inV3 f_X12_opened (nx := 68) (lo2 := [(0, .ref 69), (1, .int w29), (2, .int (gi 70 4))]) rfl rfl rfl rfl f_X12_turnTime (hI.wf.s rfl) rfl rfl rfl rfl rfl ?_
            refine ev_loc f_X12_turnTime (nx := 1) rfl rfl rfl rfl ?_
            refine ev_loc f_X12_turnTime (nx := 2) rfl rfl rfl rfl ?_
            refine ev_getR f_X12_turnTime (nx := 5) rfl (hI.wf.s rfl) rfl rfl (hI.wf.r rfl) rfl rfl ?_
            refine ev_ic f_X12_turnTime (nx := 6) (v := 5) rfl (by decide) rfl ?_
            obtain ⟨l32, u32⟩ := hI.ab (by decide +kernel : t_abr 70 5 5 0 20 = true) (Nat.le_refl _) (Nat.le_refl _)
            refine ev_ialdv f_X12_turnTime (nx := 7) (w := (gi8 70 5)) rfl (hI.wf.s rfl) (by decide) (rfl : (5 : Int32).toNatClampNeg = 5) (by decide) rfl rfl ?_
            refine ev_if f_X12_turnTime (t1 := 30) (t2 := 10) rfl rfl rfl (fun h33 => ?_) (fun h33 => ?_)
            · have u34 : (gi8 70 5).toInt ≤ 0 := t_leu h33 (by decide : (0:Int32).toInt ≤ (0:Int))
              refine ev_ic f_X12_turnTime (nx := 31) (v := 0) rfl (by decide) rfl ?_
              refine ev_addC f_X12_turnTime (nx := 32) (c := 0) (l := 0) (u := 20) rfl (by decide) l1 u1 rfl rfl (by decide) (by decide) rfl (fun z35 e35 l35 u35 => ?_)
              refine ev_retK1 f_X12_turnTime rfl rfl rfl ?_
              refine ev_anyI f_X12_opened (nx := 69) rfl rfl rfl rfl (fun z36 => ?_)
              refine ev_loc f_X12_opened (nx := 70) (lo' := [(2, .int z36), (3, .int y8_3), (1, .int y8_1), (0, .ref 69)]) rfl rfl rfl rfl ?_
              refine ev_jmp f_X12_opened (nx := 86) rfl rfl rfl ?_
              refine ev_incR f_X12_opened (nx := 89) (c := 1) (l := 1) (u := 100) rfl rfl (by decide) (by decide) l8_3 u21 rfl rfl (by decide) (by decide) rfl (fun z37 e37 l37 u37 => ?_)
              refine ev_jmp f_X12_opened (nx := 20) rfl rfl rfl ?_
              refine ev_sub (lo := [(3, .int z37), (2, .int z36), (1, .int y8_1), (0, .ref 69)]) rfl (t_sc rfl (t_sc rfl (t_sc rfl (t_sc rfl t_sn)))) ?_
              exact ih8 _ (by omega) gi8 gl8 gr8 (z37) (z36) (y8_1) hI hX  (Int.le_trans (by decide : (0:Int) ≤ 1) l37) (Int.le_trans u37 (by decide : (100:Int) ≤ 119)) c8_0 rfl
            · have l38 : 1 ≤ (gi8 70 5).toInt := t_ltl (t_nle h33) (by decide : (0:Int) ≤ (0:Int32).toInt) rfl
              refine ev_loc f_X12_turnTime (nx := 11) rfl rfl rfl rfl ?_
              refine ev_loc f_X12_turnTime (nx := 12) rfl rfl rfl rfl ?_
              refine ev_getR f_X12_turnTime (nx := 15) rfl (hI.wf.s rfl) rfl rfl (hI.wf.r rfl) rfl rfl ?_
              refine ev_bp f_X12_turnTime (nx := 17) (v := 6) rfl (by decide) rfl ?_
              obtain ⟨l39, u39⟩ := hI.ab (by decide +kernel : t_abr 70 6 6 0 200 = true) (Nat.le_refl _) (Nat.le_refl _)
              refine ev_ialdv f_X12_turnTime (nx := 18) (w := (gi8 70 6)) rfl (hI.wf.s rfl) (by decide) (rfl : (6 : Int32).toNatClampNeg = 6) (by decide) rfl rfl ?_
              refine ev_if f_X12_turnTime (t1 := 30) (t2 := 21) rfl rfl rfl (fun h40 => ?_) (fun h40 => ?_)
              · have r41 : w29.toInt < (gi8 70 6).toInt := Int32.lt_iff_toInt_lt.mp h40
                have u42 : w29.toInt ≤ 199 := t_ltu h40 u39 rfl
                refine ev_ic f_X12_turnTime (nx := 31) (v := 0) rfl (by decide) rfl ?_
                refine ev_addC f_X12_turnTime (nx := 32) (c := 0) (l := 0) (u := 20) rfl (by decide) l1 u1 rfl rfl (by decide) (by decide) rfl (fun z43 e43 l43 u43 => ?_)
                refine ev_retK1 f_X12_turnTime rfl rfl rfl ?_
                refine ev_addR f_X12_opened (nx := 69) (l := (-2147483648)) (u := 219) rfl (t_lo w29) u42 l43 u43 rfl rfl (by decide) (by decide) rfl (fun z44 e44 l44 u44 => ?_)
                refine ev_loc f_X12_opened (nx := 70) (lo' := [(2, .int z44), (3, .int y8_3), (1, .int y8_1), (0, .ref 69)]) rfl rfl rfl rfl ?_
                refine ev_jmp f_X12_opened (nx := 86) rfl rfl rfl ?_
                refine ev_incR f_X12_opened (nx := 89) (c := 1) (l := 1) (u := 100) rfl rfl (by decide) (by decide) l8_3 u21 rfl rfl (by decide) (by decide) rfl (fun z45 e45 l45 u45 => ?_)
                refine ev_jmp f_X12_opened (nx := 20) rfl rfl rfl ?_
                refine ev_sub (lo := [(3, .int z45), (2, .int z44), (1, .int y8_1), (0, .ref 69)]) rfl (t_sc rfl (t_sc rfl (t_sc rfl (t_sc rfl t_sn)))) ?_
                exact ih8 _ (by omega) gi8 gl8 gr8 (z45) (z44) (y8_1) hI hX  (Int.le_trans (by decide : (0:Int) ≤ 1) l45) (Int.le_trans u45 (by decide : (100:Int) ≤ 119)) c8_0 rfl
              · have r46 : (gi8 70 6).toInt ≤ w29.toInt := Int32.le_iff_toInt_le.mp (t_nlt h40)
                have l47 : 0 ≤ w29.toInt := t_lel (t_nlt h40) l39
                refine ev_loc f_X12_turnTime (nx := 22) rfl rfl rfl rfl ?_
                refine ev_getR f_X12_turnTime (nx := 25) rfl (hI.wf.s rfl) rfl rfl (hI.wf.r rfl) rfl rfl ?_
                refine ev_ic f_X12_turnTime (nx := 26) (v := 5) rfl (by decide) rfl ?_
                refine ev_ialdv f_X12_turnTime (nx := 27) (w := (gi8 70 5)) rfl (hI.wf.s rfl) (by decide) (rfl : (5 : Int32).toNatClampNeg = 5) (by decide) rfl rfl ?_
                refine ev_jmp f_X12_turnTime (nx := 31) rfl rfl rfl ?_
                refine ev_addR f_X12_turnTime (nx := 32) (l := 1) (u := 40) rfl l1 u1 l38 u32 rfl rfl (by decide) (by decide) rfl (fun z49 e49 l49 u49 => ?_)
                refine ev_retK1 f_X12_turnTime rfl rfl rfl ?_
                refine ev_anyI f_X12_opened (nx := 69) rfl rfl rfl rfl (fun z50 => ?_)
                refine ev_loc f_X12_opened (nx := 70) (lo' := [(2, .int z50), (3, .int y8_3), (1, .int y8_1), (0, .ref 69)]) rfl rfl rfl rfl ?_
                refine ev_jmp f_X12_opened (nx := 86) rfl rfl rfl ?_
                refine ev_incR f_X12_opened (nx := 89) (c := 1) (l := 1) (u := 100) rfl rfl (by decide) (by decide) l8_3 u21 rfl rfl (by decide) (by decide) rfl (fun z51 e51 l51 u51 => ?_)
                refine ev_jmp f_X12_opened (nx := 20) rfl rfl rfl ?_
                refine ev_sub (lo := [(3, .int z51), (2, .int z50), (1, .int y8_1), (0, .ref 69)]) rfl (t_sc rfl (t_sc rfl (t_sc rfl (t_sc rfl t_sn)))) ?_
                exact ih8 _ (by omega) gi8 gl8 gr8 (z51) (z50) (y8_1) hI hX  (Int.le_trans (by decide : (0:Int) ≤ 1) l51) (Int.le_trans u51 (by decide : (100:Int) ≤ 119)) c8_0 rfl
          · have r52 : y8_2.toInt ≠ (-1) := fun e => h26 (Int32.toInt_inj.mp (e.trans (by decide : ((-1):Int) = ((-1) : Int32).toInt)))
            refine ev_loc f_X12_opened (nx := 74) rfl rfl rfl rfl ?_
            refine ev_loc f_X12_opened (nx := 75) rfl rfl rfl rfl ?_
            refine ev_getR f_X12_opened (nx := 78) rfl (hI.wf.s rfl) rfl rfl (hI.wf.r rfl) rfl rfl ?_
            refine ev_loc f_X12_opened (nx := 79) rfl rfl rfl rfl ?_
            refine ev_ialdT f_X12_opened (nx := 80) rfl (hI.wf.s rfl) l8_3 (by decide) u21 (by decide) rfl (fun w53 e53 => ?_)
            refine ev_loc f_X12_opened (nx := 81) rfl rfl rfl rfl ?_
            refine ev_anyI f_X12_opened (nx := 82) rfl rfl rfl rfl (fun z54 => ?_)
            refine ev_anyI f_X12_opened (nx := 83) rfl rfl rfl rfl (fun z55 => ?_)
            refine ev_loc f_X12_opened (nx := 84) (lo' := [(1, .int z55), (3, .int y8_3), (2, .int y8_2), (0, .ref 69)]) rfl rfl rfl rfl ?_
            refine ev_ic f_X12_opened (nx := 85) (v := -1) rfl (by decide) rfl ?_
            refine ev_loc f_X12_opened (nx := 86) (lo' := [(2, .int (-1)), (1, .int z55), (3, .int y8_3), (0, .ref 69)]) rfl rfl rfl rfl ?_
            refine ev_incR f_X12_opened (nx := 89) (c := 1) (l := 1) (u := 100) rfl rfl (by decide) (by decide) l8_3 u21 rfl rfl (by decide) (by decide) rfl (fun z56 e56 l56 u56 => ?_)
            refine ev_jmp f_X12_opened (nx := 20) rfl rfl rfl ?_
            refine ev_sub (lo := [(3, .int z56), (2, .int (-1)), (1, .int z55), (0, .ref 69)]) rfl (t_sc rfl (t_sc rfl (t_sc rfl (t_sc rfl t_sn)))) ?_
            exact ih8 _ (by omega) gi8 gl8 gr8 (z56) ((-1)) (z55) hI hX  (Int.le_trans (by decide : (0:Int) ≤ 1) l56) (Int.le_trans u56 (by decide : (100:Int) ≤ 119)) c8_0 rfl
        · have r57 : w23.toInt ≠ 2 := fun e => h24 (Int32.toInt_inj.mp (e.trans (by decide : (2:Int) = (2 : Int32).toInt)))
          have u58 : w23.toInt ≤ 1 := t_neu h24 u23 rfl rfl
          refine ev_jmp f_X12_opened (nx := 86) rfl rfl rfl ?_
          refine ev_incR f_X12_opened (nx := 89) (c := 1) (l := 1) (u := 100) rfl rfl (by decide) (by decide) l8_3 u21 rfl rfl (by decide) (by decide) rfl (fun z59 e59 l59 u59 => ?_)
          refine ev_jmp f_X12_opened (nx := 20) rfl rfl rfl ?_
          refine ev_sub (lo := [(3, .int z59), (2, .int y8_2), (1, .int y8_1), (0, .ref 69)]) rfl (t_sc rfl (t_sc rfl (t_sc rfl (t_sc rfl t_sn)))) ?_
          exact ih8 _ (by omega) gi8 gl8 gr8 (z59) (y8_2) (y8_1) hI hX  (Int.le_trans (by decide : (0:Int) ≤ 1) l59) (Int.le_trans u59 (by decide : (100:Int) ≤ 119)) c8_0 rfl
    refine ev_sub (lo := [(3, .int 0), (2, .int (-1)), (1, .int 0), (0, .ref 69)]) rfl (t_sc rfl (t_sc rfl (t_sc rfl (t_sc rfl t_sn)))) ?_
    exact L8 _ gi2 gl2 gr2 (0) ((-1)) (0) hI hX  (by decide : (0:Int) ≤ (0:Int32).toInt) (Int.le_trans (by decide : (0:Int32).toInt ≤ (0:Int)) (by decide : (0:Int) ≤ 119)) ((hC2.1 70 4 rfl).1.trans rfl) rfl
noncomputable def wl_m_busiest : List (Nat × Nat) := [(69, 2), (69, 44), (69, 45), (69, 48), (69, 55), (69, 57), (89, 10005), (89, 610011), (90, 9999), (91, 9999), (92, 9999), (93, 9999), (94, 9999), (95, 9999)]
theorem c_m_busiest {X : x_Ext} {d : Nat} {sh : List (Nat ⊕ (Nat × Nat))} {gi : Nat → Nat → Int32} {gl : Nat → Nat → Int64} {gr : Nat → Nat → Value} (hI : t_I sh gi gr) (e_p0 : 1 ≤ (gi 70 4).toInt) : x_Me X (d + 7) n_X12_busiest [.ref 69] (sh, gi, gl, gr) (t_P wl_m_busiest sh gi gl gr (t_Ri (-1) 240)) := by
  have hX : t_X wl_m_busiest sh gi gl gr gi gl gr := t_X.rf
  refine me_i f_X12_busiest (hI.wf.s rfl) rfl rfl rfl ?_
  obtain ⟨l1, u1⟩ := hI.b (hI.wf.s (k := 69) rfl) (t_bdK rfl : t_bd 11 55 = some (0, 100))
  obtain ⟨l2, u2⟩ := hI.ab (by decide +kernel : t_abr 70 4 4 0 20 = true) (Nat.le_refl _) (Nat.le_refl _)
  refine ev_loc f_X12_busiest (nx := 1) rfl rfl rfl rfl ?_
  refine ev_qI f_X12_busiest (nx := 4) (r := []) rfl rfl rfl rfl rfl rfl rfl (c_m_plans hI  (by omega)) rfl hX rfl (fun w3 gi3 gl3 gr3 l3 u3 hI hX hC3 q3 => ?_)
  have q3 : (w3.toInt = 1 → t_wh (gi3 69 55).toInt (gi3 93) (gi3 95)) := q3
  obtain ⟨l4, u4⟩ := hI.b (hI.wf.s (k := 69) rfl) (t_bdK rfl : t_bd 11 55 = some (0, 100))
  refine ev_if f_X12_busiest (t1 := 7) (t2 := 14) rfl rfl rfl (fun h5 => ?_) (fun h5 => ?_)
  · have u6 : w3.toInt ≤ 0 := t_equ h5 (by decide : (0:Int32).toInt ≤ (0:Int))
    refine ev_loc f_X12_busiest (nx := 8) rfl rfl rfl rfl ?_
    refine ev_bp f_X12_busiest (nx := 10) (v := 6) rfl (by decide) rfl ?_
    refine ev_inV2 f_X12_busiest (nx := 13) (lo2 := [(0, .ref 69), (1, .int 6)]) rfl rfl rfl rfl f_X12_refuse (hI.wf.s rfl) rfl rfl rfl rfl rfl ?_
    refine ev_loc f_X12_refuse (nx := 1) rfl rfl rfl rfl ?_
    refine ev_loc f_X12_refuse (nx := 2) rfl rfl rfl rfl ?_
    refine ev_putIT f_X12_refuse (nx := 5) rfl (hI.wf.s rfl) rfl rfl rfl (hI.put0 (hI.wf.s rfl) rfl rfl) (hX.upI rfl) (fun g7 e7 hI hX => ?_)
    refine ev_ic f_X12_refuse (nx := 6) (v := -1) rfl (by decide) rfl ?_
    refine ev_retK1 f_X12_refuse rfl rfl rfl ?_
    exact ev_ret f_X12_busiest rfl rfl rfl ⟨_, _, _, rfl, hI, hX, ⟨_, rfl, (by decide : ((-1):Int) ≤ ((-1):Int32).toInt), (Int.le_trans (by decide : ((-1):Int32).toInt ≤ ((-1):Int)) (by decide : ((-1):Int) ≤ 240))⟩⟩
  · have r8 : w3.toInt ≠ 0 := fun e => h5 (Int32.toInt_inj.mp (e.trans (by decide : (0:Int) = (0 : Int32).toInt)))
    have l9 : 1 ≤ w3.toInt := t_nel h5 l3 rfl rfl
    refine ev_ic f_X12_busiest (nx := 15) (v := -1) rfl (by decide) rfl ?_
    refine ev_loc f_X12_busiest (nx := 16) (lo' := [(1, .int (-1)), (0, .ref 69)]) rfl rfl rfl rfl ?_
    refine ev_ic f_X12_busiest (nx := 17) (v := 0) rfl (by decide) rfl ?_
    refine ev_loc f_X12_busiest (nx := 18) (lo' := [(2, .int 0), (1, .int (-1)), (0, .ref 69)]) rfl rfl rfl rfl ?_
    refine ev_ic f_X12_busiest (nx := 19) (v := 0) rfl (by decide) rfl ?_
    refine ev_loc f_X12_busiest (nx := 20) (lo' := [(3, .int 0), (2, .int 0), (1, .int (-1)), (0, .ref 69)]) rfl rfl rfl rfl ?_
    have L10 : ∀ (m10 : Nat) (gi10 : Nat → Nat → Int32) (gl10 : Nat → Nat → Int64) (gr10 : Nat → Nat → Value) (y10_3 : Int32) (y10_2 : Int32) (y10_1 : Int32), t_I sh gi10 gr10 → t_X wl_m_busiest sh gi gl gr gi10 gl10 gr10 → 0 ≤ y10_3.toInt → y10_3.toInt ≤ 241 → 0 ≤ y10_2.toInt → y10_2.toInt ≤ 100 → (-1) ≤ y10_1.toInt → y10_1.toInt ≤ 240 → gi10 69 55 = (gi3 69 55) → gi10 70 4 = (gi 70 4) → t_wh (gi10 69 55).toInt (gi10 93) (gi10 95) → (241 - y10_3.toInt).toNat = m10 → x_Ev X (d + 7) n_X12_busiest 20 [(3, .int y10_3), (2, .int y10_2), (1, .int y10_1), (0, .ref 69)] [] (sh, gi10, gl10, gr10) (t_P wl_m_busiest sh gi gl gr (t_Ri (-1) 240)) := by
      intro m10
      induction m10 using Nat.strongRecOn with
      | _ m10 ih10 =>
      intro gi10 gl10 gr10 y10_3 y10_2 y10_1 hI hX l10_3 u10_3 l10_2 u10_2 l10_1 u10_1 c10_0 c10_1 j10_0 hm10
      refine ev_loc f_X12_busiest (nx := 21) rfl rfl rfl rfl ?_
      refine ev_sp f_X12_busiest (nx := 24) (v := 240) rfl (by decide) rfl ?_
      refine ev_if f_X12_busiest (t1 := 110) (t2 := 27) rfl rfl rfl (fun h11 => ?_) (fun h11 => ?_)
      · have l12 : 241 ≤ y10_3.toInt := t_ltl h11 (by decide : (240:Int) ≤ (240:Int32).toInt) rfl
        refine ev_loc f_X12_busiest (nx := 111) rfl rfl rfl rfl ?_
        refine ev_loc f_X12_busiest (nx := 112) rfl rfl rfl rfl ?_
        refine ev_inV2 f_X12_busiest (nx := 115) (lo2 := [(0, .ref 69), (1, .int y10_1)]) rfl rfl rfl rfl f_X12_orNone (hI.wf.s rfl) rfl rfl rfl rfl rfl ?_
        refine ev_loc f_X12_orNone (nx := 1) rfl rfl rfl rfl ?_
        refine ev_ic f_X12_orNone (nx := 2) (v := -1) rfl (by decide) rfl ?_
        refine ev_if f_X12_orNone (t1 := 5) (t2 := 14) rfl rfl rfl (fun h13 => ?_) (fun h13 => ?_)
        · have u14 : y10_1.toInt ≤ (-1) := t_equ h13 (by decide : ((-1):Int32).toInt ≤ ((-1):Int))
          refine ev_loc f_X12_orNone (nx := 6) rfl rfl rfl rfl ?_
          refine ev_bp f_X12_orNone (nx := 8) (v := 6) rfl (by decide) rfl ?_
          refine ev_inV2 f_X12_orNone (nx := 11) (lo2 := [(0, .ref 69), (1, .int 6)]) rfl rfl rfl rfl f_X12_refuse (hI.wf.s rfl) rfl rfl rfl rfl rfl ?_
          refine ev_loc f_X12_refuse (nx := 1) rfl rfl rfl rfl ?_
          refine ev_loc f_X12_refuse (nx := 2) rfl rfl rfl rfl ?_
          refine ev_putIT f_X12_refuse (nx := 5) rfl (hI.wf.s rfl) rfl rfl rfl (hI.put0 (hI.wf.s rfl) rfl rfl) (hX.upI rfl) (fun g15 e15 hI hX => ?_)
          refine ev_ic f_X12_refuse (nx := 6) (v := -1) rfl (by decide) rfl ?_
          refine ev_retK1 f_X12_refuse rfl rfl rfl ?_
          refine ev_jmp f_X12_orNone (nx := 19) rfl rfl rfl ?_
          refine ev_retK1 f_X12_orNone rfl rfl rfl ?_
          exact ev_ret f_X12_busiest rfl rfl rfl ⟨_, _, _, rfl, hI, hX, ⟨_, rfl, (by decide : ((-1):Int) ≤ ((-1):Int32).toInt), (Int.le_trans (by decide : ((-1):Int32).toInt ≤ ((-1):Int)) (by decide : ((-1):Int) ≤ 240))⟩⟩
        · have r16 : y10_1.toInt ≠ (-1) := fun e => h13 (Int32.toInt_inj.mp (e.trans (by decide : ((-1):Int) = ((-1) : Int32).toInt)))
          have l17 : 0 ≤ y10_1.toInt := t_nel h13 l10_1 rfl rfl
          refine ev_loc f_X12_orNone (nx := 15) rfl rfl rfl rfl ?_
          refine ev_loc f_X12_orNone (nx := 16) rfl rfl rfl rfl ?_
          refine ev_inV2 f_X12_orNone (nx := 19) (lo2 := [(0, .ref 69), (1, .int y10_1)]) rfl rfl rfl rfl f_X12_gives (hI.wf.s rfl) rfl rfl rfl rfl rfl ?_
          refine ev_loc f_X12_gives (nx := 1) rfl rfl rfl rfl ?_
          refine ev_ic f_X12_gives (nx := 2) (v := 0) rfl (by decide) rfl ?_
          refine ev_putIT f_X12_gives (nx := 5) rfl (hI.wf.s rfl) rfl rfl rfl (hI.put0 (hI.wf.s rfl) rfl rfl) (hX.upI rfl) (fun g18 e18 hI hX => ?_)
          refine ev_loc f_X12_gives (nx := 6) rfl rfl rfl rfl ?_
          refine ev_retK1 f_X12_gives rfl rfl rfl ?_
          refine ev_retK1 f_X12_orNone rfl rfl rfl ?_
          exact ev_ret f_X12_busiest rfl rfl rfl ⟨_, _, _, rfl, hI, hX, ⟨_, rfl, (Int.le_trans (by decide : ((-1):Int) ≤ 0) l17), u10_1⟩⟩
      · have u19 : y10_3.toInt ≤ 240 := t_leu (t_nlt h11) (by decide : (240:Int32).toInt ≤ (240:Int))
        refine ev_ic f_X12_busiest (nx := 28) (v := 0) rfl (by decide) rfl ?_
        refine ev_loc f_X12_busiest (nx := 30) (lo' := [(4, .int 0), (3, .int y10_3), (2, .int y10_2), (1, .int y10_1), (0, .ref 69)]) rfl rfl rfl rfl ?_
        refine ev_ic f_X12_busiest (nx := 31) (v := 0) rfl (by decide) rfl ?_
        refine ev_loc f_X12_busiest (nx := 33) (lo' := [(5, .int 0), (4, .int 0), (3, .int y10_3), (2, .int y10_2), (1, .int y10_1), (0, .ref 69)]) rfl rfl rfl rfl ?_
        have L20 : ∀ (m20 : Nat) (gi20 : Nat → Nat → Int32) (gl20 : Nat → Nat → Int64) (gr20 : Nat → Nat → Value) (y20_5 : Int32) (y20_4 : Int32), t_I sh gi20 gr20 → t_X wl_m_busiest sh gi gl gr gi20 gl20 gr20 → 0 ≤ y20_5.toInt → y20_5.toInt ≤ 119 → 0 ≤ y20_4.toInt → y20_4.toInt ≤ 100 → gi20 69 55 = (gi3 69 55) → gi20 70 4 = (gi 70 4) → t_wh (gi20 69 55).toInt (gi20 93) (gi20 95) → y20_4.toInt ≤ y20_5.toInt → (119 - y20_5.toInt).toNat = m20 → x_Ev X (d + 7) n_X12_busiest 33 [(5, .int y20_5), (4, .int y20_4), (3, .int y10_3), (2, .int y10_2), (1, .int y10_1), (0, .ref 69)] [] (sh, gi20, gl20, gr20) (t_P wl_m_busiest sh gi gl gr (t_Ri (-1) 240)) := by
          intro m20
          induction m20 using Nat.strongRecOn with
          | _ m20 ih20 =>
          intro gi20 gl20 gr20 y20_5 y20_4 hI hX l20_5 u20_5 l20_4 u20_4 c20_0 c20_1 j20_0 j20_1 hm20
          refine ev_loc f_X12_busiest (nx := 35) rfl rfl rfl rfl ?_
          refine ev_loc f_X12_busiest (nx := 36) rfl rfl rfl rfl ?_
          refine ev_gvI f_X12_busiest (nx := 39) (w := (gi3 69 55)) rfl (hI.wf.s rfl) rfl rfl c20_0 rfl ?_
          refine ev_if f_X12_busiest (t1 := 90) (t2 := 42) rfl rfl rfl (fun h21 => ?_) (fun h21 => ?_)
          · have r22 : (gi3 69 55).toInt ≤ y20_5.toInt := Int32.le_iff_toInt_le.mp h21
            refine ev_loc f_X12_busiest (nx := 92) rfl rfl rfl rfl ?_
            refine ev_loc f_X12_busiest (nx := 93) rfl rfl rfl rfl ?_
            refine ev_if f_X12_busiest (t1 := 99) (t2 := 96) rfl rfl rfl (fun h23 => ?_) (fun h23 => ?_)
            · have r24 : y10_2.toInt < y20_4.toInt := Int32.lt_iff_toInt_lt.mp h23
              have u25 : y10_2.toInt ≤ 99 := t_ltu h23 u20_4 rfl
              have l26 : 1 ≤ y20_4.toInt := t_ltl h23 l10_2 rfl
              refine ev_loc f_X12_busiest (nx := 101) rfl rfl rfl rfl ?_
              refine ev_loc f_X12_busiest (nx := 102) (lo' := [(2, .int y20_4), (5, .int y20_5), (4, .int y20_4), (3, .int y10_3), (1, .int y10_1), (0, .ref 69)]) rfl rfl rfl rfl ?_
              refine ev_loc f_X12_busiest (nx := 103) rfl rfl rfl rfl ?_
              refine ev_loc f_X12_busiest (nx := 104) (lo' := [(1, .int y10_3), (2, .int y20_4), (5, .int y20_5), (4, .int y20_4), (3, .int y10_3), (0, .ref 69)]) rfl rfl rfl rfl ?_
              refine ev_incR f_X12_busiest (nx := 107) (c := 1) (l := 1) (u := 241) rfl rfl (by decide) (by decide) l10_3 u19 rfl rfl (by decide) (by decide) rfl (fun z27 e27 l27 u27 => ?_)
              refine ev_jmp f_X12_busiest (nx := 20) rfl rfl rfl ?_
              refine ev_sub (lo := [(3, .int z27), (2, .int y20_4), (1, .int y10_3), (0, .ref 69)]) rfl (t_sc rfl (t_sc rfl (t_sc rfl (t_sc rfl t_sn)))) ?_
              exact ih10 _ (by omega) gi20 gl20 gr20 (z27) (y20_4) (y10_3) hI hX  (Int.le_trans (by decide : (0:Int) ≤ 1) l27) u27 (Int.le_trans (by decide : (0:Int) ≤ 1) l26) u20_4 (Int.le_trans (by decide : ((-1):Int) ≤ 0) l10_3) u19 c20_0 c20_1 j20_0 rfl
            · have r28 : y20_4.toInt ≤ y10_2.toInt := Int32.le_iff_toInt_le.mp (t_nlt h23)
              refine ev_jmp f_X12_busiest (nx := 104) rfl rfl rfl ?_
              refine ev_incR f_X12_busiest (nx := 107) (c := 1) (l := 1) (u := 241) rfl rfl (by decide) (by decide) l10_3 u19 rfl rfl (by decide) (by decide) rfl (fun z29 e29 l29 u29 => ?_)
              refine ev_jmp f_X12_busiest (nx := 20) rfl rfl rfl ?_
              refine ev_sub (lo := [(3, .int z29), (2, .int y10_2), (1, .int y10_1), (0, .ref 69)]) rfl (t_sc rfl (t_sc rfl (t_sc rfl (t_sc rfl t_sn)))) ?_
              exact ih10 _ (by omega) gi20 gl20 gr20 (z29) (y10_2) (y10_1) hI hX  (Int.le_trans (by decide : (0:Int) ≤ 1) l29) u29 l10_2 u10_2 l10_1 u10_1 c20_0 c20_1 j20_0 rfl
          · have r30 : y20_5.toInt < (gi3 69 55).toInt := Int32.lt_iff_toInt_lt.mp (t_nle h21)
            have u31 : y20_5.toInt ≤ 99 := t_ltu (t_nle h21) u4 rfl
            have l32 : 1 ≤ (gi3 69 55).toInt := t_ltl (t_nle h21) l20_5 rfl
            refine ev_loc f_X12_busiest (nx := 44) rfl rfl rfl rfl ?_
            refine ev_loc f_X12_busiest (nx := 45) rfl rfl rfl rfl ?_
            refine ev_getR f_X12_busiest (nx := 48) rfl (hI.wf.s rfl) rfl rfl (hI.wf.r rfl) rfl rfl ?_
            refine ev_loc f_X12_busiest (nx := 50) rfl rfl rfl rfl ?_
            refine ev_ialdT f_X12_busiest (nx := 51) rfl (hI.wf.s rfl) l20_5 (by decide) u31 (by decide) rfl (fun w33 e33 => ?_)
            obtain ⟨l33, u33⟩ := hI.abi e33 (by decide +kernel : t_abr 93 0 99 0 2 = true) l20_5 (by decide) u31 (by decide)
            refine ev_ic f_X12_busiest (nx := 52) (v := 2) rfl (by decide) rfl ?_
            refine ev_if f_X12_busiest (t1 := 80) (t2 := 55) rfl rfl rfl (fun h34 => ?_) (fun h34 => ?_)
            · have l35 : 2 ≤ w33.toInt := t_eql h34 (by decide : (2:Int) ≤ (2:Int32).toInt)
              refine ev_ic f_X12_busiest (nx := 81) (v := 0) rfl (by decide) rfl ?_
              refine ev_addC f_X12_busiest (nx := 82) (c := 0) (l := 0) (u := 100) rfl (by decide) l20_4 u20_4 rfl rfl (by decide) (by decide) rfl (fun z36 e36 l36 u36 => ?_)
              refine ev_loc f_X12_busiest (nx := 84) (lo' := [(4, .int z36), (5, .int y20_5), (3, .int y10_3), (2, .int y10_2), (1, .int y10_1), (0, .ref 69)]) rfl rfl rfl rfl ?_
              refine ev_incR f_X12_busiest (nx := 87) (c := 1) (l := 1) (u := 100) rfl rfl (by decide) (by decide) l20_5 u31 rfl rfl (by decide) (by decide) rfl (fun z37 e37 l37 u37 => ?_)
              refine ev_jmp f_X12_busiest (nx := 33) rfl rfl rfl ?_
              refine ev_sub (lo := [(5, .int z37), (4, .int z36), (3, .int y10_3), (2, .int y10_2), (1, .int y10_1), (0, .ref 69)]) rfl (t_sc rfl (t_sc rfl (t_sc rfl (t_sc rfl (t_sc rfl (t_sc rfl t_sn)))))) ?_
              exact ih20 _ (by omega) gi20 gl20 gr20 (z37) (z36) hI hX  (Int.le_trans (by decide : (0:Int) ≤ 1) l37) (Int.le_trans u37 (by decide : (100:Int) ≤ 119)) l36 u36 c20_0 c20_1 j20_0 (by omega) rfl
            · have r38 : w33.toInt ≠ 2 := fun e => h34 (Int32.toInt_inj.mp (e.trans (by decide : (2:Int) = (2 : Int32).toInt)))
              have u39 : w33.toInt ≤ 1 := t_neu h34 u33 rfl rfl
              refine ev_loc f_X12_busiest (nx := 56) rfl rfl rfl rfl ?_
              refine ev_loc f_X12_busiest (nx := 58) rfl rfl rfl rfl ?_
              refine ev_qI0 f_X12_busiest (nx := 61) (r := [.int y20_4]) rfl rfl rfl rfl rfl rfl rfl (c_m_cameBy hI (y20_5) l20_5 u31 (fun h => j20_0 y20_5.toNatClampNeg (by have hc := t_clamp (i := y20_5) (by omega); have ff41 : (gi20 69 55).toInt = (gi3 69 55).toInt := congrArg Int32.toInt c20_0; omega) h)) rfl (fun w40 l40 u40 q40 => ?_)
              have q40 : True := q40
              refine ev_loc f_X12_busiest (nx := 62) rfl rfl rfl rfl ?_
              refine ev_if f_X12_busiest (t1 := 80) (t2 := 65) rfl rfl rfl (fun h42 => ?_) (fun h42 => ?_)
              · have r43 : y10_3.toInt < w40.toInt := Int32.lt_iff_toInt_lt.mp h42
                have l44 : 1 ≤ w40.toInt := t_ltl h42 l10_3 rfl
                refine ev_ic f_X12_busiest (nx := 81) (v := 0) rfl (by decide) rfl ?_
                refine ev_addC f_X12_busiest (nx := 82) (c := 0) (l := 0) (u := 100) rfl (by decide) l20_4 u20_4 rfl rfl (by decide) (by decide) rfl (fun z45 e45 l45 u45 => ?_)
                refine ev_loc f_X12_busiest (nx := 84) (lo' := [(4, .int z45), (5, .int y20_5), (3, .int y10_3), (2, .int y10_2), (1, .int y10_1), (0, .ref 69)]) rfl rfl rfl rfl ?_
                refine ev_incR f_X12_busiest (nx := 87) (c := 1) (l := 1) (u := 100) rfl rfl (by decide) (by decide) l20_5 u31 rfl rfl (by decide) (by decide) rfl (fun z46 e46 l46 u46 => ?_)
                refine ev_jmp f_X12_busiest (nx := 33) rfl rfl rfl ?_
                refine ev_sub (lo := [(5, .int z46), (4, .int z45), (3, .int y10_3), (2, .int y10_2), (1, .int y10_1), (0, .ref 69)]) rfl (t_sc rfl (t_sc rfl (t_sc rfl (t_sc rfl (t_sc rfl (t_sc rfl t_sn)))))) ?_
                exact ih20 _ (by omega) gi20 gl20 gr20 (z46) (z45) hI hX  (Int.le_trans (by decide : (0:Int) ≤ 1) l46) (Int.le_trans u46 (by decide : (100:Int) ≤ 119)) l45 u45 c20_0 c20_1 j20_0 (by omega) rfl
              · have r47 : w40.toInt ≤ y10_3.toInt := Int32.le_iff_toInt_le.mp (t_nlt h42)
                have u48 : w40.toInt ≤ 240 := t_leu (t_nlt h42) u19
                refine ev_loc f_X12_busiest (nx := 66) rfl rfl rfl rfl ?_
                refine ev_getR f_X12_busiest (nx := 69) rfl (hI.wf.s rfl) rfl rfl (hI.wf.r rfl) rfl rfl ?_
                refine ev_loc f_X12_busiest (nx := 71) rfl rfl rfl rfl ?_
                refine ev_ialdT f_X12_busiest (nx := 72) rfl (hI.wf.s rfl) l20_5 (by decide) u31 (by decide) rfl (fun w49 e49 => ?_)
                refine ev_loc f_X12_busiest (nx := 73) rfl rfl rfl rfl ?_
                refine ev_if f_X12_busiest (t1 := 80) (t2 := 76) rfl rfl rfl (fun h50 => ?_) (fun h50 => ?_)
                · have r51 : w49.toInt ≤ y10_3.toInt := Int32.le_iff_toInt_le.mp h50
                  have u52 : w49.toInt ≤ 240 := t_leu h50 u19
                  refine ev_ic f_X12_busiest (nx := 81) (v := 0) rfl (by decide) rfl ?_
                  refine ev_addC f_X12_busiest (nx := 82) (c := 0) (l := 0) (u := 100) rfl (by decide) l20_4 u20_4 rfl rfl (by decide) (by decide) rfl (fun z53 e53 l53 u53 => ?_)
                  refine ev_loc f_X12_busiest (nx := 84) (lo' := [(4, .int z53), (5, .int y20_5), (3, .int y10_3), (2, .int y10_2), (1, .int y10_1), (0, .ref 69)]) rfl rfl rfl rfl ?_
                  refine ev_incR f_X12_busiest (nx := 87) (c := 1) (l := 1) (u := 100) rfl rfl (by decide) (by decide) l20_5 u31 rfl rfl (by decide) (by decide) rfl (fun z54 e54 l54 u54 => ?_)
                  refine ev_jmp f_X12_busiest (nx := 33) rfl rfl rfl ?_
                  refine ev_sub (lo := [(5, .int z54), (4, .int z53), (3, .int y10_3), (2, .int y10_2), (1, .int y10_1), (0, .ref 69)]) rfl (t_sc rfl (t_sc rfl (t_sc rfl (t_sc rfl (t_sc rfl (t_sc rfl t_sn)))))) ?_
                  exact ih20 _ (by omega) gi20 gl20 gr20 (z54) (z53) hI hX  (Int.le_trans (by decide : (0:Int) ≤ 1) l54) (Int.le_trans u54 (by decide : (100:Int) ≤ 119)) l53 u53 c20_0 c20_1 j20_0 (by omega) rfl
                · have r55 : y10_3.toInt < w49.toInt := Int32.lt_iff_toInt_lt.mp (t_nle h50)
                  have l56 : 1 ≤ w49.toInt := t_ltl (t_nle h50) l10_3 rfl
                  refine ev_ic f_X12_busiest (nx := 77) (v := 1) rfl (by decide) rfl ?_
                  refine ev_jmp f_X12_busiest (nx := 81) rfl rfl rfl ?_
                  refine ev_addC f_X12_busiest (nx := 82) (c := 1) (l := 1) (u := 101) rfl (by decide) l20_4 u20_4 rfl rfl (by decide) (by decide) rfl (fun z57 e57 l57 u57 => ?_)
                  refine ev_loc f_X12_busiest (nx := 84) (lo' := [(4, .int z57), (5, .int y20_5), (3, .int y10_3), (2, .int y10_2), (1, .int y10_1), (0, .ref 69)]) rfl rfl rfl rfl ?_
                  refine ev_incR f_X12_busiest (nx := 87) (c := 1) (l := 1) (u := 100) rfl rfl (by decide) (by decide) l20_5 u31 rfl rfl (by decide) (by decide) rfl (fun z58 e58 l58 u58 => ?_)
                  refine ev_jmp f_X12_busiest (nx := 33) rfl rfl rfl ?_
                  refine ev_sub (lo := [(5, .int z58), (4, .int z57), (3, .int y10_3), (2, .int y10_2), (1, .int y10_1), (0, .ref 69)]) rfl (t_sc rfl (t_sc rfl (t_sc rfl (t_sc rfl (t_sc rfl (t_sc rfl t_sn)))))) ?_
                  exact ih20 _ (by omega) gi20 gl20 gr20 (z58) (z57) hI hX  (Int.le_trans (by decide : (0:Int) ≤ 1) l58) (Int.le_trans u58 (by decide : (100:Int) ≤ 119)) (Int.le_trans (by decide : (0:Int) ≤ 1) l57) (by omega : z57.toInt ≤ (100:Int)) c20_0 c20_1 j20_0 (by omega) rfl
        refine ev_sub (lo := [(5, .int 0), (4, .int 0), (3, .int y10_3), (2, .int y10_2), (1, .int y10_1), (0, .ref 69)]) rfl (t_sc rfl (t_sc rfl (t_sc rfl (t_sc rfl (t_sc rfl (t_sc rfl t_sn)))))) ?_
        exact L20 _ gi10 gl10 gr10 (0) (0) hI hX  (by decide : (0:Int) ≤ (0:Int32).toInt) (Int.le_trans (by decide : (0:Int32).toInt ≤ (0:Int)) (by decide : (0:Int) ≤ 119)) (by decide : (0:Int) ≤ (0:Int32).toInt) (Int.le_trans (by decide : (0:Int32).toInt ≤ (0:Int)) (by decide : (0:Int) ≤ 100)) c10_0 c10_1 j10_0 (by have kf59 : (0 : Int32).toInt = 0 := (by decide); omega) rfl
    refine ev_sub (lo := [(3, .int 0), (2, .int 0), (1, .int (-1)), (0, .ref 69)]) rfl (t_sc rfl (t_sc rfl (t_sc rfl (t_sc rfl t_sn)))) ?_
    exact L10 _ gi3 gl3 gr3 (0) (0) ((-1)) hI hX  (by decide : (0:Int) ≤ (0:Int32).toInt) (Int.le_trans (by decide : (0:Int32).toInt ≤ (0:Int)) (by decide : (0:Int) ≤ 241)) (by decide : (0:Int) ≤ (0:Int32).toInt) (Int.le_trans (by decide : (0:Int32).toInt ≤ (0:Int)) (by decide : (0:Int) ≤ 100)) (by decide : ((-1):Int) ≤ ((-1):Int32).toInt) (Int.le_trans (by decide : ((-1):Int32).toInt ≤ ((-1):Int)) (by decide : ((-1):Int) ≤ 240)) rfl ((hC3.1 70 4 rfl).1.trans rfl) (q3 (by omega)) rfl
