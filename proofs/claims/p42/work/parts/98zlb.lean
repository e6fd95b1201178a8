/-! ===== printed by riv.py: busiest: the class ===== -/
noncomputable def wl_d_waitingIn_29 : List (Nat × Nat) := []
noncomputable def Q_d_waitingIn_29 (gi : Nat → Nat → Int32) (gl : Nat → Nat → Int64) (gr : Nat → Nat → Value) (ar2 : Int32) : Int32 → (Nat → Nat → Int32) → (Nat → Nat → Int64) → (Nat → Nat → Value) → Prop := fun (v : Int32) (gi2 : Nat → Nat → Int32) (gl2 : Nat → Nat → Int64) (gr2 : Nat → Nat → Value) => v.toInt = s_wn (fun j => (gi 31 j).toInt) (fun j => (gi 43 j).toInt) ar2.toInt (gi 29 0).toInt.toNat
theorem c_d_waitingIn_29 {X : x_Ext} {d : Nat} {sh : List (Nat ⊕ (Nat × Nat))} {gi : Nat → Nat → Int32} {gl : Nat → Nat → Int64} {gr : Nat → Nat → Value} (hI : t_I sh gi gr) (ar2 : Int32) : x_Me X (d + 1) n_X1_waitingIn [.ref 29, .ref 43, .int ar2] (sh, gi, gl, gr) (t_PI wl_d_waitingIn_29 sh gi gl gr 0 6 (Q_d_waitingIn_29 gi gl gr ar2)) := by
  have hX : t_X wl_d_waitingIn_29 sh gi gl gr gi gl gr := t_X.rf
  refine me_s f_X1_waitingIn rfl rfl ?_
  obtain ⟨l1, u1⟩ := hI.b (hI.wf.s (k := 29) rfl) (t_bdK rfl : t_bd 3 0 = some (0, 6))
  refine ev_ic f_X1_waitingIn (nx := 1) (v := 0) rfl (by decide) rfl ?_
  refine ev_loc f_X1_waitingIn (nx := 2) (lo' := [(3, .int 0), (0, .ref 29), (1, .ref 43), (2, .int ar2)]) rfl rfl rfl rfl ?_
  refine ev_ic f_X1_waitingIn (nx := 3) (v := 0) rfl (by decide) rfl ?_
  refine ev_loc f_X1_waitingIn (nx := 5) (lo' := [(4, .int 0), (3, .int 0), (0, .ref 29), (1, .ref 43), (2, .int ar2)]) rfl rfl rfl rfl ?_
  have L2 : ∀ (m2 : Nat) (y2_4 : Int32) (y2_3 : Int32), 0 ≤ y2_4.toInt → y2_4.toInt ≤ 6 → 0 ≤ y2_3.toInt → y2_3.toInt ≤ 6 → y2_3.toInt ≤ y2_4.toInt → y2_3.toInt = s_wn (fun j => (gi 31 j).toInt) (fun j => (gi 43 j).toInt) ar2.toInt y2_4.toNatClampNeg ∧ y2_4.toInt ≤ (gi 29 0).toInt → (6 - y2_4.toInt).toNat = m2 → x_Ev X (d + 1) n_X1_waitingIn 5 [(4, .int y2_4), (3, .int y2_3), (0, .ref 29), (1, .ref 43), (2, .int ar2)] [] (sh, gi, gl, gr) (t_PI wl_d_waitingIn_29 sh gi gl gr 0 6 (Q_d_waitingIn_29 gi gl gr ar2)) := by
    intro m2
    induction m2 using Nat.strongRecOn with
    | _ m2 ih2 =>
    intro y2_4 y2_3 l2_4 u2_4 l2_3 u2_3 j2_0 j2_1 hm2
    refine ev_loc f_X1_waitingIn (nx := 7) rfl rfl rfl rfl ?_
    refine ev_loc f_X1_waitingIn (nx := 8) rfl rfl rfl rfl ?_
    refine ev_gvI f_X1_waitingIn (nx := 11) (w := (gi 29 0)) rfl (hI.wf.s rfl) rfl rfl rfl rfl ?_
    refine ev_if f_X1_waitingIn (t1 := 49) (t2 := 14) rfl rfl rfl (fun h3 => ?_) (fun h3 => ?_)
    · have r4 : (gi 29 0).toInt ≤ y2_4.toInt := Int32.le_iff_toInt_le.mp h3
      refine ev_loc f_X1_waitingIn (nx := 50) rfl rfl rfl rfl ?_
      exact ev_ret f_X1_waitingIn rfl rfl rfl ⟨_, _, _, rfl, hI, hX, ⟨_, rfl, l2_3, u2_3, (show y2_3.toInt = s_wn (fun j => (gi 31 j).toInt) (fun j => (gi 43 j).toInt) ar2.toInt (gi 29 0).toInt.toNat from (by
                                                            obtain ⟨g1, g2⟩ := j2_1
                                                            have ck := t_clamp (i := y2_4) (by omega)
                                                            rw [show (gi 29 0).toInt.toNat = y2_4.toNatClampNeg by omega]; exact g1))⟩⟩
    · have r5 : y2_4.toInt < (gi 29 0).toInt := Int32.lt_iff_toInt_lt.mp (t_nle h3)
      have u6 : y2_4.toInt ≤ 5 := t_ltu (t_nle h3) u1 rfl
      have l7 : 1 ≤ (gi 29 0).toInt := t_ltl (t_nle h3) l2_4 rfl
      refine ev_loc f_X1_waitingIn (nx := 16) rfl rfl rfl rfl ?_
      refine ev_loc f_X1_waitingIn (nx := 17) rfl rfl rfl rfl ?_
      refine ev_alenv f_X1_waitingIn (nx := 18) (w := 6) rfl (hI.wf.s rfl) rfl (by decide) rfl ?_
      refine ev_f f_X1_waitingIn (t1 := 49) (t2 := 21) rfl rfl rfl (t_leF u6 (by decide : (6:Int) ≤ (6:Int32).toInt) (by decide)) ?_
      refine ev_loc f_X1_waitingIn (nx := 22) rfl rfl rfl rfl ?_
      refine ev_getR f_X1_waitingIn (nx := 25) rfl (hI.wf.s rfl) rfl rfl (hI.wf.r rfl) rfl rfl ?_
      refine ev_loc f_X1_waitingIn (nx := 27) rfl rfl rfl rfl ?_
      refine ev_ialdT f_X1_waitingIn (nx := 28) rfl (hI.wf.s rfl) l2_4 (by decide) u6 (by decide) rfl (fun w8 e8 => ?_)
      refine ev_loc f_X1_waitingIn (nx := 29) rfl rfl rfl rfl ?_
      refine ev_if f_X1_waitingIn (t1 := 43) (t2 := 32) rfl rfl rfl (fun h9 => ?_) (fun h9 => ?_)
      · have r10 : ar2.toInt < w8.toInt := Int32.lt_iff_toInt_lt.mp h9
        have u11 : ar2.toInt ≤ 2147483646 := t_ltu h9 (t_hi w8) rfl
        have l12 : (-2147483647) ≤ w8.toInt := t_ltl h9 (t_lo ar2) rfl
        refine ev_incR f_X1_waitingIn (nx := 46) (c := 1) (l := 1) (u := 6) rfl rfl (by decide) (by decide) l2_4 u6 rfl rfl (by decide) (by decide) rfl (fun z13 e13 l13 u13 => ?_)
        refine ev_jmp f_X1_waitingIn (nx := 5) rfl rfl rfl ?_
        refine ev_sub (lo := [(4, .int z13), (3, .int y2_3), (0, .ref 29), (1, .ref 43), (2, .int ar2)]) rfl (t_sc rfl (t_sc rfl (t_sc rfl (t_sc rfl (t_sc rfl t_sn))))) ?_
        exact ih2 _ (by omega) (z13) (y2_3) (Int.le_trans (by decide : (0:Int) ≤ 1) l13) u13 l2_3 u2_3 (by omega) (by
                                                            obtain ⟨g1, g2⟩ := j2_1
                                                            have ek := s_cp (y := y2_4) (z := z13) (by omega) (by omega)
                                                            have ea : w8.toInt = (gi 31 y2_4.toNatClampNeg).toInt := by rw [e8]
                                                            rw [ek, s_wn_n (fun hh => by have h1 := hh.1; have h2 := hh.2; omega)]
                                                            exact ⟨g1, by omega⟩) rfl
      · have r14 : w8.toInt ≤ ar2.toInt := Int32.le_iff_toInt_le.mp (t_nlt h9)
        refine ev_loc f_X1_waitingIn (nx := 33) rfl rfl rfl rfl ?_
        refine ev_loc f_X1_waitingIn (nx := 35) rfl rfl rfl rfl ?_
        refine ev_ialdT f_X1_waitingIn (nx := 36) rfl (hI.wf.s rfl) l2_4 (by decide) u6 (by decide) rfl (fun w15 e15 => ?_)
        refine ev_loc f_X1_waitingIn (nx := 37) rfl rfl rfl rfl ?_
        refine ev_if f_X1_waitingIn (t1 := 43) (t2 := 40) rfl rfl rfl (fun h16 => ?_) (fun h16 => ?_)
        · have r17 : w15.toInt ≤ ar2.toInt := Int32.le_iff_toInt_le.mp h16
          refine ev_incR f_X1_waitingIn (nx := 46) (c := 1) (l := 1) (u := 6) rfl rfl (by decide) (by decide) l2_4 u6 rfl rfl (by decide) (by decide) rfl (fun z18 e18 l18 u18 => ?_)
          refine ev_jmp f_X1_waitingIn (nx := 5) rfl rfl rfl ?_
          refine ev_sub (lo := [(4, .int z18), (3, .int y2_3), (0, .ref 29), (1, .ref 43), (2, .int ar2)]) rfl (t_sc rfl (t_sc rfl (t_sc rfl (t_sc rfl (t_sc rfl t_sn))))) ?_
          exact ih2 _ (by omega) (z18) (y2_3) (Int.le_trans (by decide : (0:Int) ≤ 1) l18) u18 l2_3 u2_3 (by omega) (by
                                                            obtain ⟨g1, g2⟩ := j2_1
                                                            have ek := s_cp (y := y2_4) (z := z18) (by omega) (by omega)
                                                            have ea : w8.toInt = (gi 31 y2_4.toNatClampNeg).toInt := by rw [e8]
                                                            have eb : w15.toInt = (gi 43 y2_4.toNatClampNeg).toInt := by rw [e15]
                                                            rw [ek, s_wn_n (fun hh => by have h1 := hh.1; have h2 := hh.2; omega)]
                                                            exact ⟨g1, by omega⟩) rfl
        · have r19 : ar2.toInt < w15.toInt := Int32.lt_iff_toInt_lt.mp (t_nle h16)
          have u20 : ar2.toInt ≤ 2147483646 := t_ltu (t_nle h16) (t_hi w15) rfl
          have l21 : (-2147483647) ≤ w15.toInt := t_ltl (t_nle h16) (t_lo ar2) rfl
          refine ev_incR f_X1_waitingIn (nx := 43) (c := 1) (l := 1) (u := 7) rfl rfl (by decide) (by decide) l2_3 u2_3 rfl rfl (by decide) (by decide) rfl (fun z22 e22 l22 u22 => ?_)
          refine ev_incR f_X1_waitingIn (nx := 46) (c := 1) (l := 1) (u := 6) rfl rfl (by decide) (by decide) l2_4 u6 rfl rfl (by decide) (by decide) rfl (fun z23 e23 l23 u23 => ?_)
          refine ev_jmp f_X1_waitingIn (nx := 5) rfl rfl rfl ?_
          refine ev_sub (lo := [(4, .int z23), (3, .int z22), (0, .ref 29), (1, .ref 43), (2, .int ar2)]) rfl (t_sc rfl (t_sc rfl (t_sc rfl (t_sc rfl (t_sc rfl t_sn))))) ?_
          exact ih2 _ (by omega) (z23) (z22) (Int.le_trans (by decide : (0:Int) ≤ 1) l23) u23 (Int.le_trans (by decide : (0:Int) ≤ 1) l22) (by omega : z22.toInt ≤ (6:Int)) (by omega) (by
                                                            obtain ⟨g1, g2⟩ := j2_1
                                                            have ek := s_cp (y := y2_4) (z := z23) (by omega) (by omega)
                                                            have ea : w8.toInt = (gi 31 y2_4.toNatClampNeg).toInt := by rw [e8]
                                                            have eb : w15.toInt = (gi 43 y2_4.toNatClampNeg).toInt := by rw [e15]
                                                            rw [ek, s_wn_y ⟨by omega, by omega⟩]
                                                            exact ⟨by omega, by omega⟩) rfl
  refine ev_sub (lo := [(4, .int 0), (3, .int 0), (0, .ref 29), (1, .ref 43), (2, .int ar2)]) rfl (t_sc rfl (t_sc rfl (t_sc rfl (t_sc rfl (t_sc rfl t_sn))))) ?_
  exact L2 _ (0) (0) (by decide : (0:Int) ≤ (0:Int32).toInt) (Int.le_trans (by decide : (0:Int32).toInt ≤ (0:Int)) (by decide : (0:Int) ≤ 6)) (by decide : (0:Int) ≤ (0:Int32).toInt) (Int.le_trans (by decide : (0:Int32).toInt ≤ (0:Int)) (by decide : (0:Int) ≤ 6)) (by have kf24 : (0 : Int32).toInt = 0 := (by decide); omega) (by
                                                            have z0 : (0 : Int32).toInt = 0 := rfl
                                                            exact ⟨rfl, by omega⟩) rfl
noncomputable def wl_d_waitingIn_35 : List (Nat × Nat) := []
noncomputable def Q_d_waitingIn_35 (gi : Nat → Nat → Int32) (gl : Nat → Nat → Int64) (gr : Nat → Nat → Value) (ar2 : Int32) : Int32 → (Nat → Nat → Int32) → (Nat → Nat → Int64) → (Nat → Nat → Value) → Prop := fun (v : Int32) (gi2 : Nat → Nat → Int32) (gl2 : Nat → Nat → Int64) (gr2 : Nat → Nat → Value) => v.toInt = s_wn (fun j => (gi 37 j).toInt) (fun j => (gi 44 j).toInt) ar2.toInt (gi 35 0).toInt.toNat
theorem c_d_waitingIn_35 {X : x_Ext} {d : Nat} {sh : List (Nat ⊕ (Nat × Nat))} {gi : Nat → Nat → Int32} {gl : Nat → Nat → Int64} {gr : Nat → Nat → Value} (hI : t_I sh gi gr) (ar2 : Int32) : x_Me X (d + 1) n_X1_waitingIn [.ref 35, .ref 44, .int ar2] (sh, gi, gl, gr) (t_PI wl_d_waitingIn_35 sh gi gl gr 0 6 (Q_d_waitingIn_35 gi gl gr ar2)) := by
  have hX : t_X wl_d_waitingIn_35 sh gi gl gr gi gl gr := t_X.rf
  refine me_s f_X1_waitingIn rfl rfl ?_
  obtain ⟨l1, u1⟩ := hI.b (hI.wf.s (k := 35) rfl) (t_bdK rfl : t_bd 3 0 = some (0, 6))
  refine ev_ic f_X1_waitingIn (nx := 1) (v := 0) rfl (by decide) rfl ?_
  refine ev_loc f_X1_waitingIn (nx := 2) (lo' := [(3, .int 0), (0, .ref 35), (1, .ref 44), (2, .int ar2)]) rfl rfl rfl rfl ?_
  refine ev_ic f_X1_waitingIn (nx := 3) (v := 0) rfl (by decide) rfl ?_
  refine ev_loc f_X1_waitingIn (nx := 5) (lo' := [(4, .int 0), (3, .int 0), (0, .ref 35), (1, .ref 44), (2, .int ar2)]) rfl rfl rfl rfl ?_
  have L2 : ∀ (m2 : Nat) (y2_4 : Int32) (y2_3 : Int32), 0 ≤ y2_4.toInt → y2_4.toInt ≤ 6 → 0 ≤ y2_3.toInt → y2_3.toInt ≤ 6 → y2_3.toInt ≤ y2_4.toInt → y2_3.toInt = s_wn (fun j => (gi 37 j).toInt) (fun j => (gi 44 j).toInt) ar2.toInt y2_4.toNatClampNeg ∧ y2_4.toInt ≤ (gi 35 0).toInt → (6 - y2_4.toInt).toNat = m2 → x_Ev X (d + 1) n_X1_waitingIn 5 [(4, .int y2_4), (3, .int y2_3), (0, .ref 35), (1, .ref 44), (2, .int ar2)] [] (sh, gi, gl, gr) (t_PI wl_d_waitingIn_35 sh gi gl gr 0 6 (Q_d_waitingIn_35 gi gl gr ar2)) := by
    intro m2
    induction m2 using Nat.strongRecOn with
    | _ m2 ih2 =>
    intro y2_4 y2_3 l2_4 u2_4 l2_3 u2_3 j2_0 j2_1 hm2
    refine ev_loc f_X1_waitingIn (nx := 7) rfl rfl rfl rfl ?_
    refine ev_loc f_X1_waitingIn (nx := 8) rfl rfl rfl rfl ?_
    refine ev_gvI f_X1_waitingIn (nx := 11) (w := (gi 35 0)) rfl (hI.wf.s rfl) rfl rfl rfl rfl ?_
    refine ev_if f_X1_waitingIn (t1 := 49) (t2 := 14) rfl rfl rfl (fun h3 => ?_) (fun h3 => ?_)
    · have r4 : (gi 35 0).toInt ≤ y2_4.toInt := Int32.le_iff_toInt_le.mp h3
      refine ev_loc f_X1_waitingIn (nx := 50) rfl rfl rfl rfl ?_
      exact ev_ret f_X1_waitingIn rfl rfl rfl ⟨_, _, _, rfl, hI, hX, ⟨_, rfl, l2_3, u2_3, (show y2_3.toInt = s_wn (fun j => (gi 37 j).toInt) (fun j => (gi 44 j).toInt) ar2.toInt (gi 35 0).toInt.toNat from (by
                                                            obtain ⟨g1, g2⟩ := j2_1
                                                            have ck := t_clamp (i := y2_4) (by omega)
                                                            rw [show (gi 35 0).toInt.toNat = y2_4.toNatClampNeg by omega]; exact g1))⟩⟩
    · have r5 : y2_4.toInt < (gi 35 0).toInt := Int32.lt_iff_toInt_lt.mp (t_nle h3)
      have u6 : y2_4.toInt ≤ 5 := t_ltu (t_nle h3) u1 rfl
      have l7 : 1 ≤ (gi 35 0).toInt := t_ltl (t_nle h3) l2_4 rfl
      refine ev_loc f_X1_waitingIn (nx := 16) rfl rfl rfl rfl ?_
      refine ev_loc f_X1_waitingIn (nx := 17) rfl rfl rfl rfl ?_
      refine ev_alenv f_X1_waitingIn (nx := 18) (w := 6) rfl (hI.wf.s rfl) rfl (by decide) rfl ?_
      refine ev_f f_X1_waitingIn (t1 := 49) (t2 := 21) rfl rfl rfl (t_leF u6 (by decide : (6:Int) ≤ (6:Int32).toInt) (by decide)) ?_
      refine ev_loc f_X1_waitingIn (nx := 22) rfl rfl rfl rfl ?_
      refine ev_getR f_X1_waitingIn (nx := 25) rfl (hI.wf.s rfl) rfl rfl (hI.wf.r rfl) rfl rfl ?_
      refine ev_loc f_X1_waitingIn (nx := 27) rfl rfl rfl rfl ?_
      refine ev_ialdT f_X1_waitingIn (nx := 28) rfl (hI.wf.s rfl) l2_4 (by decide) u6 (by decide) rfl (fun w8 e8 => ?_)
      refine ev_loc f_X1_waitingIn (nx := 29) rfl rfl rfl rfl ?_
      refine ev_if f_X1_waitingIn (t1 := 43) (t2 := 32) rfl rfl rfl (fun h9 => ?_) (fun h9 => ?_)
      · have r10 : ar2.toInt < w8.toInt := Int32.lt_iff_toInt_lt.mp h9
        have u11 : ar2.toInt ≤ 2147483646 := t_ltu h9 (t_hi w8) rfl
        have l12 : (-2147483647) ≤ w8.toInt := t_ltl h9 (t_lo ar2) rfl
        refine ev_incR f_X1_waitingIn (nx := 46) (c := 1) (l := 1) (u := 6) rfl rfl (by decide) (by decide) l2_4 u6 rfl rfl (by decide) (by decide) rfl (fun z13 e13 l13 u13 => ?_)
        refine ev_jmp f_X1_waitingIn (nx := 5) rfl rfl rfl ?_
        refine ev_sub (lo := [(4, .int z13), (3, .int y2_3), (0, .ref 35), (1, .ref 44), (2, .int ar2)]) rfl (t_sc rfl (t_sc rfl (t_sc rfl (t_sc rfl (t_sc rfl t_sn))))) ?_
        exact ih2 _ (by omega) (z13) (y2_3) (Int.le_trans (by decide : (0:Int) ≤ 1) l13) u13 l2_3 u2_3 (by omega) (by
                                                            obtain ⟨g1, g2⟩ := j2_1
                                                            have ek := s_cp (y := y2_4) (z := z13) (by omega) (by omega)
                                                            have ea : w8.toInt = (gi 37 y2_4.toNatClampNeg).toInt := by rw [e8]
                                                            rw [ek, s_wn_n (fun hh => by have h1 := hh.1; have h2 := hh.2; omega)]
                                                            exact ⟨g1, by omega⟩) rfl
      · have r14 : w8.toInt ≤ ar2.toInt := Int32.le_iff_toInt_le.mp (t_nlt h9)
        refine ev_loc f_X1_waitingIn (nx := 33) rfl rfl rfl rfl ?_
        refine ev_loc f_X1_waitingIn (nx := 35) rfl rfl rfl rfl ?_
        refine ev_ialdT f_X1_waitingIn (nx := 36) rfl (hI.wf.s rfl) l2_4 (by decide) u6 (by decide) rfl (fun w15 e15 => ?_)
        refine ev_loc f_X1_waitingIn (nx := 37) rfl rfl rfl rfl ?_
        refine ev_if f_X1_waitingIn (t1 := 43) (t2 := 40) rfl rfl rfl (fun h16 => ?_) (fun h16 => ?_)
        · have r17 : w15.toInt ≤ ar2.toInt := Int32.le_iff_toInt_le.mp h16
          refine ev_incR f_X1_waitingIn (nx := 46) (c := 1) (l := 1) (u := 6) rfl rfl (by decide) (by decide) l2_4 u6 rfl rfl (by decide) (by decide) rfl (fun z18 e18 l18 u18 => ?_)
          refine ev_jmp f_X1_waitingIn (nx := 5) rfl rfl rfl ?_
          refine ev_sub (lo := [(4, .int z18), (3, .int y2_3), (0, .ref 35), (1, .ref 44), (2, .int ar2)]) rfl (t_sc rfl (t_sc rfl (t_sc rfl (t_sc rfl (t_sc rfl t_sn))))) ?_
          exact ih2 _ (by omega) (z18) (y2_3) (Int.le_trans (by decide : (0:Int) ≤ 1) l18) u18 l2_3 u2_3 (by omega) (by
                                                            obtain ⟨g1, g2⟩ := j2_1
                                                            have ek := s_cp (y := y2_4) (z := z18) (by omega) (by omega)
                                                            have ea : w8.toInt = (gi 37 y2_4.toNatClampNeg).toInt := by rw [e8]
                                                            have eb : w15.toInt = (gi 44 y2_4.toNatClampNeg).toInt := by rw [e15]
                                                            rw [ek, s_wn_n (fun hh => by have h1 := hh.1; have h2 := hh.2; omega)]
                                                            exact ⟨g1, by omega⟩) rfl
        · have r19 : ar2.toInt < w15.toInt := Int32.lt_iff_toInt_lt.mp (t_nle h16)
          have u20 : ar2.toInt ≤ 2147483646 := t_ltu (t_nle h16) (t_hi w15) rfl
          have l21 : (-2147483647) ≤ w15.toInt := t_ltl (t_nle h16) (t_lo ar2) rfl
          refine ev_incR f_X1_waitingIn (nx := 43) (c := 1) (l := 1) (u := 7) rfl rfl (by decide) (by decide) l2_3 u2_3 rfl rfl (by decide) (by decide) rfl (fun z22 e22 l22 u22 => ?_)
          refine ev_incR f_X1_waitingIn (nx := 46) (c := 1) (l := 1) (u := 6) rfl rfl (by decide) (by decide) l2_4 u6 rfl rfl (by decide) (by decide) rfl (fun z23 e23 l23 u23 => ?_)
          refine ev_jmp f_X1_waitingIn (nx := 5) rfl rfl rfl ?_
          refine ev_sub (lo := [(4, .int z23), (3, .int z22), (0, .ref 35), (1, .ref 44), (2, .int ar2)]) rfl (t_sc rfl (t_sc rfl (t_sc rfl (t_sc rfl (t_sc rfl t_sn))))) ?_
          exact ih2 _ (by omega) (z23) (z22) (Int.le_trans (by decide : (0:Int) ≤ 1) l23) u23 (Int.le_trans (by decide : (0:Int) ≤ 1) l22) (by omega : z22.toInt ≤ (6:Int)) (by omega) (by
                                                            obtain ⟨g1, g2⟩ := j2_1
                                                            have ek := s_cp (y := y2_4) (z := z23) (by omega) (by omega)
                                                            have ea : w8.toInt = (gi 37 y2_4.toNatClampNeg).toInt := by rw [e8]
                                                            have eb : w15.toInt = (gi 44 y2_4.toNatClampNeg).toInt := by rw [e15]
                                                            rw [ek, s_wn_y ⟨by omega, by omega⟩]
                                                            exact ⟨by omega, by omega⟩) rfl
  refine ev_sub (lo := [(4, .int 0), (3, .int 0), (0, .ref 35), (1, .ref 44), (2, .int ar2)]) rfl (t_sc rfl (t_sc rfl (t_sc rfl (t_sc rfl (t_sc rfl t_sn))))) ?_
  exact L2 _ (0) (0) (by decide : (0:Int) ≤ (0:Int32).toInt) (Int.le_trans (by decide : (0:Int32).toInt ≤ (0:Int)) (by decide : (0:Int) ≤ 6)) (by decide : (0:Int) ≤ (0:Int32).toInt) (Int.le_trans (by decide : (0:Int32).toInt ≤ (0:Int)) (by decide : (0:Int) ≤ 6)) (by have kf24 : (0 : Int32).toInt = 0 := (by decide); omega) (by
                                                            have z0 : (0 : Int32).toInt = 0 := rfl
                                                            exact ⟨rfl, by omega⟩) rfl
noncomputable def wl_d_busiestByPlan : List (Nat × Nat) := []
noncomputable def Q_d_busiestByPlan (gi : Nat → Nat → Int32) (gl : Nat → Nat → Int64) (gr : Nat → Nat → Value) : Int32 → (Nat → Nat → Int32) → (Nat → Nat → Int64) → (Nat → Nat → Value) → Prop := fun (v : Int32) (gi2 : Nat → Nat → Int32) (gl2 : Nat → Nat → Int64) (gr2 : Nat → Nat → Value) => v.toInt = (s_bq (fun x => s_wn (fun j => (gi 31 j).toInt) (fun j => (gi 43 j).toInt) x (gi 29 0).toInt.toNat + s_wn (fun j => (gi 37 j).toInt) (fun j => (gi 44 j).toInt) x (gi 35 0).toInt.toNat) 241).2
theorem c_d_busiestByPlan {X : x_Ext} {d : Nat} {sh : List (Nat ⊕ (Nat × Nat))} {gi : Nat → Nat → Int32} {gl : Nat → Nat → Int64} {gr : Nat → Nat → Value} (hI : t_I sh gi gr) : x_Me X (d + 2) n_X1_busiestByPlan [.ref 28] (sh, gi, gl, gr) (t_PI wl_d_busiestByPlan sh gi gl gr (-1) 240 (Q_d_busiestByPlan gi gl gr)) := by
  have hX : t_X wl_d_busiestByPlan sh gi gl gr gi gl gr := t_X.rf
  refine me_i f_X1_busiestByPlan (hI.wf.s rfl) rfl rfl rfl ?_
  obtain ⟨l1, u1⟩ := hI.b (hI.wf.s (k := 29) rfl) (t_bdK rfl : t_bd 3 0 = some (0, 6))
  obtain ⟨l2, u2⟩ := hI.b (hI.wf.s (k := 35) rfl) (t_bdK rfl : t_bd 3 0 = some (0, 6))
  refine ev_ic f_X1_busiestByPlan (nx := 1) (v := 0) rfl (by decide) rfl ?_
  refine ev_loc f_X1_busiestByPlan (nx := 2) (lo' := [(1, .int 0), (0, .ref 28)]) rfl rfl rfl rfl ?_
  refine ev_ic f_X1_busiestByPlan (nx := 3) (v := -1) rfl (by decide) rfl ?_
  refine ev_loc f_X1_busiestByPlan (nx := 4) (lo' := [(2, .int (-1)), (1, .int 0), (0, .ref 28)]) rfl rfl rfl rfl ?_
  refine ev_ic f_X1_busiestByPlan (nx := 5) (v := 0) rfl (by decide) rfl ?_
  refine ev_loc f_X1_busiestByPlan (nx := 6) (lo' := [(3, .int 0), (2, .int (-1)), (1, .int 0), (0, .ref 28)]) rfl rfl rfl rfl ?_
  have L3 : ∀ (m3 : Nat) (y3_3 : Int32) (y3_2 : Int32) (y3_1 : Int32), 0 ≤ y3_3.toInt → y3_3.toInt ≤ 241 → (-1) ≤ y3_2.toInt → y3_2.toInt ≤ 240 → 0 ≤ y3_1.toInt → y3_1.toInt ≤ 12 → (y3_1.toInt, y3_2.toInt) = s_bq (fun x => s_wn (fun j => (gi 31 j).toInt) (fun j => (gi 43 j).toInt) x (gi 29 0).toInt.toNat + s_wn (fun j => (gi 37 j).toInt) (fun j => (gi 44 j).toInt) x (gi 35 0).toInt.toNat) y3_3.toNatClampNeg → (241 - y3_3.toInt).toNat = m3 → x_Ev X (d + 2) n_X1_busiestByPlan 6 [(3, .int y3_3), (2, .int y3_2), (1, .int y3_1), (0, .ref 28)] [] (sh, gi, gl, gr) (t_PI wl_d_busiestByPlan sh gi gl gr (-1) 240 (Q_d_busiestByPlan gi gl gr)) := by
    intro m3
    induction m3 using Nat.strongRecOn with
    | _ m3 ih3 =>
    intro y3_3 y3_2 y3_1 l3_3 u3_3 l3_2 u3_2 l3_1 u3_1 j3_0 hm3
    refine ev_loc f_X1_busiestByPlan (nx := 7) rfl rfl rfl rfl ?_
    refine ev_sp f_X1_busiestByPlan (nx := 10) (v := 240) rfl (by decide) rfl ?_
    refine ev_if f_X1_busiestByPlan (t1 := 57) (t2 := 13) rfl rfl rfl (fun h4 => ?_) (fun h4 => ?_)
    · have l5 : 241 ≤ y3_3.toInt := t_ltl h4 (by decide : (240:Int) ≤ (240:Int32).toInt) rfl
      refine ev_loc f_X1_busiestByPlan (nx := 58) rfl rfl rfl rfl ?_
      exact ev_ret f_X1_busiestByPlan rfl rfl rfl ⟨_, _, _, rfl, hI, hX, ⟨_, rfl, l3_2, u3_2, (show y3_2.toInt = (s_bq (fun x => s_wn (fun j => (gi 31 j).toInt) (fun j => (gi 43 j).toInt) x (gi 29 0).toInt.toNat + s_wn (fun j => (gi 37 j).toInt) (fun j => (gi 44 j).toInt) x (gi 35 0).toInt.toNat) 241).2 from (by
                                                            have g1 := congrArg Prod.snd j3_0
                                                            have ck := t_clamp (i := y3_3) (by omega)
                                                            rw [show y3_3.toNatClampNeg = 241 by omega] at g1
                                                            exact g1))⟩⟩
    · have u6 : y3_3.toInt ≤ 240 := t_leu (t_nlt h4) (by decide : (240:Int32).toInt ≤ (240:Int))
      refine ev_loc f_X1_busiestByPlan (nx := 14) rfl rfl rfl rfl ?_
      refine ev_getR f_X1_busiestByPlan (nx := 17) rfl (hI.wf.s rfl) rfl rfl (hI.wf.r rfl) rfl rfl ?_
      refine ev_loc f_X1_busiestByPlan (nx := 18) rfl rfl rfl rfl ?_
      refine ev_getR f_X1_busiestByPlan (nx := 21) rfl (hI.wf.s rfl) rfl rfl (hI.wf.r rfl) rfl rfl ?_
      refine ev_loc f_X1_busiestByPlan (nx := 22) rfl rfl rfl rfl ?_
      refine ev_qI0 f_X1_busiestByPlan (nx := 25) (r := []) rfl rfl rfl rfl rfl rfl rfl (c_d_waitingIn_29 hI (y3_3)) rfl (fun w7 l7 u7 q7 => ?_)
      have q7 : w7.toInt = s_wn (fun j => (gi 31 j).toInt) (fun j => (gi 43 j).toInt) y3_3.toInt (gi 29 0).toInt.toNat := q7
      refine ev_loc f_X1_busiestByPlan (nx := 26) rfl rfl rfl rfl ?_
      refine ev_getR f_X1_busiestByPlan (nx := 29) rfl (hI.wf.s rfl) rfl rfl (hI.wf.r rfl) rfl rfl ?_
      refine ev_loc f_X1_busiestByPlan (nx := 30) rfl rfl rfl rfl ?_
      refine ev_getR f_X1_busiestByPlan (nx := 33) rfl (hI.wf.s rfl) rfl rfl (hI.wf.r rfl) rfl rfl ?_
      refine ev_loc f_X1_busiestByPlan (nx := 34) rfl rfl rfl rfl ?_
      refine ev_qI0 f_X1_busiestByPlan (nx := 37) (r := [.int w7]) rfl rfl rfl rfl rfl rfl rfl (c_d_waitingIn_35 hI (y3_3)) rfl (fun w8 l8 u8 q8 => ?_)
      have q8 : w8.toInt = s_wn (fun j => (gi 37 j).toInt) (fun j => (gi 44 j).toInt) y3_3.toInt (gi 35 0).toInt.toNat := q8
      refine ev_addR f_X1_busiestByPlan (nx := 38) (l := 0) (u := 12) rfl l7 u7 l8 u8 rfl rfl (by decide) (by decide) rfl (fun z9 e9 l9 u9 => ?_)
      refine ev_loc f_X1_busiestByPlan (nx := 40) (lo' := [(4, .int z9), (3, .int y3_3), (2, .int y3_2), (1, .int y3_1), (0, .ref 28)]) rfl rfl rfl rfl ?_
      refine ev_loc f_X1_busiestByPlan (nx := 42) rfl rfl rfl rfl ?_
      refine ev_loc f_X1_busiestByPlan (nx := 43) rfl rfl rfl rfl ?_
      refine ev_if f_X1_busiestByPlan (t1 := 51) (t2 := 46) rfl rfl rfl (fun h10 => ?_) (fun h10 => ?_)
      · have r11 : z9.toInt ≤ y3_1.toInt := Int32.le_iff_toInt_le.mp h10
        refine ev_incR f_X1_busiestByPlan (nx := 54) (c := 1) (l := 1) (u := 241) rfl rfl (by decide) (by decide) l3_3 u6 rfl rfl (by decide) (by decide) rfl (fun z12 e12 l12 u12 => ?_)
        refine ev_jmp f_X1_busiestByPlan (nx := 6) rfl rfl rfl ?_
        refine ev_sub (lo := [(3, .int z12), (2, .int y3_2), (1, .int y3_1), (0, .ref 28)]) rfl (t_sc rfl (t_sc rfl (t_sc rfl (t_sc rfl t_sn)))) ?_
        exact ih3 _ (by omega) (z12) (y3_2) (y3_1) (Int.le_trans (by decide : (0:Int) ≤ 1) l12) u12 l3_2 u3_2 l3_1 u3_1 (by
                                                            have g1 := j3_0
                                                            have ek := s_cp (y := y3_3) (z := z12) (by omega) (by omega)
                                                            have ck := t_clamp (i := y3_3) (by omega)
                                                            have q1 := q7
                                                            have q2 := q8
                                                            rw [← ck] at q1 q2
                                                            have g2 := congrArg Prod.fst g1
                                                            have g3 : _ = (s_bq (fun x => s_wn (fun j => (gi 31 j).toInt) (fun j => (gi 43 j).toInt) x (gi 29 0).toInt.toNat + s_wn (fun j => (gi 37 j).toInt) (fun j => (gi 44 j).toInt) x (gi 35 0).toInt.toNat) y3_3.toNatClampNeg).1 := g2
                                                            rw [ek]
                                                            rw [s_bq_n (by rw [← g3]; show ¬ _ < _ + _; omega)]
                                                            exact g1) rfl
      · have r13 : y3_1.toInt < z9.toInt := Int32.lt_iff_toInt_lt.mp (t_nle h10)
        have u14 : y3_1.toInt ≤ 11 := t_ltu (t_nle h10) u9 rfl
        have l15 : 1 ≤ z9.toInt := t_ltl (t_nle h10) l3_1 rfl
        refine ev_loc f_X1_busiestByPlan (nx := 48) rfl rfl rfl rfl ?_
        refine ev_loc f_X1_busiestByPlan (nx := 49) (lo' := [(1, .int z9), (4, .int z9), (3, .int y3_3), (2, .int y3_2), (0, .ref 28)]) rfl rfl rfl rfl ?_
        refine ev_loc f_X1_busiestByPlan (nx := 50) rfl rfl rfl rfl ?_
        refine ev_loc f_X1_busiestByPlan (nx := 51) (lo' := [(2, .int y3_3), (1, .int z9), (4, .int z9), (3, .int y3_3), (0, .ref 28)]) rfl rfl rfl rfl ?_
        refine ev_incR f_X1_busiestByPlan (nx := 54) (c := 1) (l := 1) (u := 241) rfl rfl (by decide) (by decide) l3_3 u6 rfl rfl (by decide) (by decide) rfl (fun z16 e16 l16 u16 => ?_)
        refine ev_jmp f_X1_busiestByPlan (nx := 6) rfl rfl rfl ?_
        refine ev_sub (lo := [(3, .int z16), (2, .int y3_3), (1, .int z9), (0, .ref 28)]) rfl (t_sc rfl (t_sc rfl (t_sc rfl (t_sc rfl t_sn)))) ?_
        exact ih3 _ (by omega) (z16) (y3_3) (z9) (Int.le_trans (by decide : (0:Int) ≤ 1) l16) u16 (Int.le_trans (by decide : ((-1):Int) ≤ 0) l3_3) u6 (Int.le_trans (by decide : (0:Int) ≤ 1) l15) u9 (by
                                                            have g1 := j3_0
                                                            have ek := s_cp (y := y3_3) (z := z16) (by omega) (by omega)
                                                            have ck := t_clamp (i := y3_3) (by omega)
                                                            have q1 := q7
                                                            have q2 := q8
                                                            rw [← ck] at q1 q2
                                                            have g2 := congrArg Prod.fst g1
                                                            have g3 : _ = (s_bq (fun x => s_wn (fun j => (gi 31 j).toInt) (fun j => (gi 43 j).toInt) x (gi 29 0).toInt.toNat + s_wn (fun j => (gi 37 j).toInt) (fun j => (gi 44 j).toInt) x (gi 35 0).toInt.toNat) y3_3.toNatClampNeg).1 := g2
                                                            rw [ek]
                                                            rw [s_bq_y (by rw [← g3]; show _ < _ + _; omega)]
                                                            exact Prod.ext (show _ = _ + _ by omega) (show _ = _ by omega)) rfl
  refine ev_sub (lo := [(3, .int 0), (2, .int (-1)), (1, .int 0), (0, .ref 28)]) rfl (t_sc rfl (t_sc rfl (t_sc rfl (t_sc rfl t_sn)))) ?_
  exact L3 _ (0) ((-1)) (0) (by decide : (0:Int) ≤ (0:Int32).toInt) (Int.le_trans (by decide : (0:Int32).toInt ≤ (0:Int)) (by decide : (0:Int) ≤ 241)) (by decide : ((-1):Int) ≤ ((-1):Int32).toInt) (Int.le_trans (by decide : ((-1):Int32).toInt ≤ ((-1):Int)) (by decide : ((-1):Int) ≤ 240)) (by decide : (0:Int) ≤ (0:Int32).toInt) (Int.le_trans (by decide : (0:Int32).toInt ≤ (0:Int)) (by decide : (0:Int) ≤ 12)) rfl rfl
noncomputable def wl_d_busiest : List (Nat × Nat) := [(0, 0), (28, 0), (28, 1), (28, 4), (28, 5), (28, 6), (29, 0), (30, 9999), (31, 9999), (32, 9999), (33, 9999), (34, 9999), (35, 0), (36, 9999), (37, 9999), (38, 9999), (39, 9999), (40, 9999), (41, 9999), (43, 9999), (44, 9999)]
noncomputable def Q_d_busiest (gi : Nat → Nat → Int32) (gl : Nat → Nat → Int64) (gr : Nat → Nat → Value) : Int32 → (Nat → Nat → Int32) → (Nat → Nat → Int64) → (Nat → Nat → Value) → Prop := fun (v : Int32) (gi2 : Nat → Nat → Int32) (gl2 : Nat → Nat → Int64) (gr2 : Nat → Nat → Value) => ∀ (u : Nat) (D : s_D), gr 0 6 = .ref u → t_VL gr u → t_CV gi gl u D → t_Cb D → (u = 3 ∨ 102 ≤ u) → (∀ s : Nat, (s : Int) < D 1 → 0 ≤ D (56 + 5 * s) ∧ D (56 + 5 * s) ≤ 1) → s_DB D → s_tk D → (s_LS (s_PD D (D 4)) 0 0 0 0 < 1000000000 → v.toInt = (s_bq (s_FW D) 241).2) ∧ (¬ s_LS (s_PD D (D 4)) 0 0 0 0 < 1000000000 → v.toInt = -1)
theorem c_d_busiest {X : x_Ext} {d : Nat} {sh : List (Nat ⊕ (Nat × Nat))} {gi : Nat → Nat → Int32} {gl : Nat → Nat → Int64} {gr : Nat → Nat → Value} (hI : t_I sh gi gr) : x_Me X (d + 20) n_X11_busiest [.ref 0] (sh, gi, gl, gr) (t_PI wl_d_busiest sh gi gl gr (-1) 240 (Q_d_busiest gi gl gr)) := by
  have hX : t_X wl_d_busiest sh gi gl gr gi gl gr := t_X.rf
  refine me_i f_X11_busiest (hI.wf.s rfl) rfl rfl rfl ?_
  refine ev_loc f_X11_busiest (nx := 1) rfl rfl rfl rfl ?_
  refine ev_getR f_X11_busiest (nx := 4) rfl (hI.wf.s rfl) rfl rfl (hI.wf.r rfl) rfl rfl ?_
  refine ev_loc f_X11_busiest (nx := 5) rfl rfl rfl rfl ?_
  obtain ⟨a1, e1, p1⟩ := hI.2.2.2.1.1
  refine ev_getR f_X11_busiest (nx := 8) rfl (hI.wf.s rfl) rfl rfl e1 rfl rfl ?_
  refine ev_qN f_X11_busiest (nx := 11) (r := []) rfl rfl rfl rfl rfl rfl rfl (c_d_takeAll2 hI (a1) p1) rfl hX rfl (fun gi2 gl2 gr2 hI hX hC2 q2 => ?_)
  have q2 : ∀ D : s_D, t_VL gr a1 → t_CV gi gl a1 D → (a1 = 3 ∨ 102 ≤ a1) → t_Cb D → (∀ s : Nat, (s : Int) < D 1 → 0 ≤ D (56 + 5 * s) ∧ D (56 + 5 * s) ≤ 1) → s_CP (s_PD D (D 4)) gi2 gr2 ∧ s_W1 gi2 (s_PD D (D 4)) (s_WD D) := q2
  replace p1 := p1.ext hC2.2
  refine ev_loc f_X11_busiest (nx := 12) rfl rfl rfl rfl ?_
  refine ev_getR f_X11_busiest (nx := 15) rfl (hI.wf.s rfl) rfl rfl (hI.wf.r rfl) rfl rfl ?_
  refine ev_qI f_X11_busiest (nx := 18) (r := []) rfl rfl rfl rfl rfl rfl rfl (c_d_layPlan hI ) rfl hX rfl (fun w3 gi3 gl3 gr3 l3 u3 hI hX hC3 q3 => ?_)
  have q3 : ∀ (P W : Nat → Nat → Int), s_CP P gi2 gr2 → s_PB P → s_PO P → s_T1 P → s_W1 gi2 P W → (w3.toInt = 1 ↔ s_LS P 0 0 0 0 < 1000000000) ∧ (w3.toInt = 1 → s_C1 gi3 (P 0 0).toNat (P 0 1).toNat (s_pl P W 241 0 0 0 0)) := q3
  replace p1 := p1.ext hC3.2
  refine ev_if f_X11_busiest (t1 := 31) (t2 := 21) rfl rfl rfl (fun h4 => ?_) (fun h4 => ?_)
  · have u5 : w3.toInt ≤ 0 := t_equ h4 (by decide : (0:Int32).toInt ≤ (0:Int))
    refine ev_ic f_X11_busiest (nx := 32) (v := -1) rfl (by decide) rfl ?_
    refine ev_loc f_X11_busiest (nx := 33) (lo' := [(1, .int (-1)), (0, .ref 0)]) rfl rfl rfl rfl ?_
    refine ev_loc f_X11_busiest (nx := 34) rfl rfl rfl rfl ?_
    refine ev_ic f_X11_busiest (nx := 35) (v := -1) rfl (by decide) rfl ?_
    refine ev_t f_X11_busiest (t1 := 38) (t2 := 47) rfl rfl rfl (by decide) ?_
    refine ev_loc f_X11_busiest (nx := 39) rfl rfl rfl rfl ?_
    refine ev_bp f_X11_busiest (nx := 41) (v := 6) rfl (by decide) rfl ?_
    refine ev_inV2 f_X11_busiest (nx := 44) (lo2 := [(0, .ref 0), (1, .int 6)]) rfl rfl rfl rfl f_X11_refuse (hI.wf.s rfl) rfl rfl rfl rfl rfl ?_
    refine ev_loc f_X11_refuse (nx := 1) rfl rfl rfl rfl ?_
    refine ev_loc f_X11_refuse (nx := 2) rfl rfl rfl rfl ?_
    refine ev_putIT f_X11_refuse (nx := 5) rfl (hI.wf.s rfl) rfl rfl rfl (hI.put0 (hI.wf.s rfl) rfl rfl) (hX.upI rfl) (fun g6 e6 hI hX => ?_)
    refine ev_ic f_X11_refuse (nx := 6) (v := -1) rfl (by decide) rfl ?_
    refine ev_retK1 f_X11_refuse rfl rfl rfl ?_
    refine ev_jmp f_X11_busiest (nx := 52) rfl rfl rfl ?_
    exact ev_ret f_X11_busiest rfl rfl rfl ⟨_, _, _, rfl, hI, hX, ⟨_, rfl, (by decide : ((-1):Int) ≤ ((-1):Int32).toInt), (Int.le_trans (by decide : ((-1):Int32).toInt ≤ ((-1):Int)) (by decide : ((-1):Int) ≤ 240)), (show ∀ (u : Nat) (D : s_D), gr 0 6 = .ref u → t_VL gr u → t_CV gi gl u D → t_Cb D → (u = 3 ∨ 102 ≤ u) → (∀ s : Nat, (s : Int) < D 1 → 0 ≤ D (56 + 5 * s) ∧ D (56 + 5 * s) ≤ 1) → s_DB D → s_tk D → (s_LS (s_PD D (D 4)) 0 0 0 0 < 1000000000 → ((-1) : Int) = (s_bq (s_FW D) 241).2) ∧ (¬ s_LS (s_PD D (D 4)) 0 0 0 0 < 1000000000 → ((-1) : Int) = -1) from (by
                                                            intro u D hu hl hc hb hv hsl hd htk
                                                            have ha : a1 = u := Value.ref.inj (e1.symm.trans hu)
                                                            subst ha
                                                            have hq := q2 D hl hc hv hb hsl
                                                            have hO := s_PD_O (q := D 4) hb hd hd.2.2.1.1
                                                            have hB := s_PD_B (q := D 4) hb hd ⟨hd.2.2.1.1, hd.2.2.1.2⟩
                                                            have hq2 := q3 _ _ hq.1 hB hO (s_T1_of htk hb) hq.2
                                                            have z0 : (0 : Int32).toInt = 0 := rfl
                                                            have z1 : (1 : Int32).toInt = 1 := rfl
                                                            have hno : ¬ s_LS (s_PD D (D 4)) 0 0 0 0 < 1000000000 := fun hh => by have h9 := hq2.1.mpr hh; omega
                                                            exact ⟨fun h => absurd h hno, fun _ => rfl⟩))⟩⟩
  · have r7 : w3.toInt ≠ 0 := fun e => h4 (Int32.toInt_inj.mp (e.trans (by decide : (0:Int) = (0 : Int32).toInt)))
    have l8 : 1 ≤ w3.toInt := t_nel h4 l3 rfl rfl
    refine ev_loc f_X11_busiest (nx := 22) rfl rfl rfl rfl ?_
    refine ev_getR f_X11_busiest (nx := 25) rfl (hI.wf.s rfl) rfl rfl (hI.wf.r rfl) rfl rfl ?_
    refine ev_qI0 f_X11_busiest (nx := 28) (r := []) rfl rfl rfl rfl rfl rfl rfl (c_d_busiestByPlan hI ) rfl (fun w9 l9 u9 q9 => ?_)
    have q9 : w9.toInt = (s_bq (fun x => s_wn (fun j => (gi3 31 j).toInt) (fun j => (gi3 43 j).toInt) x (gi3 29 0).toInt.toNat + s_wn (fun j => (gi3 37 j).toInt) (fun j => (gi3 44 j).toInt) x (gi3 35 0).toInt.toNat) 241).2 := q9
    refine ev_jmp f_X11_busiest (nx := 32) rfl rfl rfl ?_
    refine ev_loc f_X11_busiest (nx := 33) (lo' := [(1, .int w9), (0, .ref 0)]) rfl rfl rfl rfl ?_
    refine ev_loc f_X11_busiest (nx := 34) rfl rfl rfl rfl ?_
    refine ev_ic f_X11_busiest (nx := 35) (v := -1) rfl (by decide) rfl ?_
    refine ev_if f_X11_busiest (t1 := 38) (t2 := 47) rfl rfl rfl (fun h10 => ?_) (fun h10 => ?_)
    · have u11 : w9.toInt ≤ (-1) := t_equ h10 (by decide : ((-1):Int32).toInt ≤ ((-1):Int))
      refine ev_loc f_X11_busiest (nx := 39) rfl rfl rfl rfl ?_
      refine ev_bp f_X11_busiest (nx := 41) (v := 6) rfl (by decide) rfl ?_
      refine ev_inV2 f_X11_busiest (nx := 44) (lo2 := [(0, .ref 0), (1, .int 6)]) rfl rfl rfl rfl f_X11_refuse (hI.wf.s rfl) rfl rfl rfl rfl rfl ?_
      refine ev_loc f_X11_refuse (nx := 1) rfl rfl rfl rfl ?_
      refine ev_loc f_X11_refuse (nx := 2) rfl rfl rfl rfl ?_
      refine ev_putIT f_X11_refuse (nx := 5) rfl (hI.wf.s rfl) rfl rfl rfl (hI.put0 (hI.wf.s rfl) rfl rfl) (hX.upI rfl) (fun g12 e12 hI hX => ?_)
      refine ev_ic f_X11_refuse (nx := 6) (v := -1) rfl (by decide) rfl ?_
      refine ev_retK1 f_X11_refuse rfl rfl rfl ?_
      refine ev_jmp f_X11_busiest (nx := 52) rfl rfl rfl ?_
      exact ev_ret f_X11_busiest rfl rfl rfl ⟨_, _, _, rfl, hI, hX, ⟨_, rfl, (by decide : ((-1):Int) ≤ ((-1):Int32).toInt), (Int.le_trans (by decide : ((-1):Int32).toInt ≤ ((-1):Int)) (by decide : ((-1):Int) ≤ 240)), (show ∀ (u : Nat) (D : s_D), gr 0 6 = .ref u → t_VL gr u → t_CV gi gl u D → t_Cb D → (u = 3 ∨ 102 ≤ u) → (∀ s : Nat, (s : Int) < D 1 → 0 ≤ D (56 + 5 * s) ∧ D (56 + 5 * s) ≤ 1) → s_DB D → s_tk D → (s_LS (s_PD D (D 4)) 0 0 0 0 < 1000000000 → ((-1) : Int) = (s_bq (s_FW D) 241).2) ∧ (¬ s_LS (s_PD D (D 4)) 0 0 0 0 < 1000000000 → ((-1) : Int) = -1) from (by
                                                            intro u D hu hl hc hb hv hsl hd htk
                                                            have ha : a1 = u := Value.ref.inj (e1.symm.trans hu)
                                                            subst ha
                                                            have hq := q2 D hl hc hv hb hsl
                                                            have hO := s_PD_O (q := D 4) hb hd hd.2.2.1.1
                                                            have hB := s_PD_B (q := D 4) hb hd ⟨hd.2.2.1.1, hd.2.2.1.2⟩
                                                            have hq2 := q3 _ _ hq.1 hB hO (s_T1_of htk hb) hq.2
                                                            have z0 : (0 : Int32).toInt = 0 := rfl
                                                            have z1 : (1 : Int32).toInt = 1 := rfl
                                                            have hyes : s_LS (s_PD D (D 4)) 0 0 0 0 < 1000000000 := hq2.1.mp (by omega)
                                                            have hl2 := hq2.2 (by omega)
                                                            have hcp := hq.1.fr hC3 rfl rfl
                                                            have hq5 := q9
                                                            have e0 : s_PD D (D 4) 0 0 = (((D 1).toNat : Nat) : Int) := rfl
                                                            have e1 : s_PD D (D 4) 0 1 = (((D 2).toNat : Nat) : Int) := rfl
                                                            have n0 := hcp.1.1
                                                            have n1 := hcp.1.2
                                                            have hF : ∀ x : Int, (fun x => s_wn (fun j => (gi3 31 j).toInt) (fun j => (gi3 43 j).toInt) x (gi3 29 0).toInt.toNat + s_wn (fun j => (gi3 37 j).toInt) (fun j => (gi3 44 j).toInt) x (gi3 35 0).toInt.toNat) x = s_FW D x := by
                                                              intro x
                                                              show s_wn _ _ x _ + s_wn _ _ x _ = _
                                                              unfold s_FW
                                                              rw [show (gi3 29 0).toInt.toNat = (D 1).toNat by omega, show (gi3 35 0).toInt.toNat = (D 2).toNat by omega]
                                                              rw [s_wn_cg (D 1).toNat (fun j hj => ⟨(hcp.2.1 j (by omega)).1, hl2.2.2.1 j (by omega)⟩), s_wn_cg (D 2).toNat (fun j hj => ⟨(hcp.2.2.1 j (by omega)).1, hl2.2.2.2 j (by omega)⟩)]
                                                              rfl
                                                            rw [s_bq_cg hF 241] at hq5
                                                            exact ⟨fun _ => by omega, fun h => absurd hyes h⟩))⟩⟩
    · have r13 : w9.toInt ≠ (-1) := fun e => h10 (Int32.toInt_inj.mp (e.trans (by decide : ((-1):Int) = ((-1) : Int32).toInt)))
      have l14 : 0 ≤ w9.toInt := t_nel h10 l9 rfl rfl
      refine ev_loc f_X11_busiest (nx := 48) rfl rfl rfl rfl ?_
      refine ev_loc f_X11_busiest (nx := 49) rfl rfl rfl rfl ?_
      refine ev_inV2 f_X11_busiest (nx := 52) (lo2 := [(0, .ref 0), (1, .int w9)]) rfl rfl rfl rfl f_X11_answer (hI.wf.s rfl) rfl rfl rfl rfl rfl ?_
      refine ev_loc f_X11_answer (nx := 1) rfl rfl rfl rfl ?_
      refine ev_ic f_X11_answer (nx := 2) (v := 0) rfl (by decide) rfl ?_
      refine ev_putIT f_X11_answer (nx := 5) rfl (hI.wf.s rfl) rfl rfl rfl (hI.put0 (hI.wf.s rfl) rfl rfl) (hX.upI rfl) (fun g15 e15 hI hX => ?_)
      refine ev_loc f_X11_answer (nx := 6) rfl rfl rfl rfl ?_
      refine ev_retK1 f_X11_answer rfl rfl rfl ?_
      exact ev_ret f_X11_busiest rfl rfl rfl ⟨_, _, _, rfl, hI, hX, ⟨_, rfl, (Int.le_trans (by decide : ((-1):Int) ≤ 0) l14), u9, (show ∀ (u : Nat) (D : s_D), gr 0 6 = .ref u → t_VL gr u → t_CV gi gl u D → t_Cb D → (u = 3 ∨ 102 ≤ u) → (∀ s : Nat, (s : Int) < D 1 → 0 ≤ D (56 + 5 * s) ∧ D (56 + 5 * s) ≤ 1) → s_DB D → s_tk D → (s_LS (s_PD D (D 4)) 0 0 0 0 < 1000000000 → w9.toInt = (s_bq (s_FW D) 241).2) ∧ (¬ s_LS (s_PD D (D 4)) 0 0 0 0 < 1000000000 → w9.toInt = -1) from (by
                                                            intro u D hu hl hc hb hv hsl hd htk
                                                            have ha : a1 = u := Value.ref.inj (e1.symm.trans hu)
                                                            subst ha
                                                            have hq := q2 D hl hc hv hb hsl
                                                            have hO := s_PD_O (q := D 4) hb hd hd.2.2.1.1
                                                            have hB := s_PD_B (q := D 4) hb hd ⟨hd.2.2.1.1, hd.2.2.1.2⟩
                                                            have hq2 := q3 _ _ hq.1 hB hO (s_T1_of htk hb) hq.2
                                                            have z0 : (0 : Int32).toInt = 0 := rfl
                                                            have z1 : (1 : Int32).toInt = 1 := rfl
                                                            have hyes : s_LS (s_PD D (D 4)) 0 0 0 0 < 1000000000 := hq2.1.mp (by omega)
                                                            have hl2 := hq2.2 (by omega)
                                                            have hcp := hq.1.fr hC3 rfl rfl
                                                            have hq5 := q9
                                                            have e0 : s_PD D (D 4) 0 0 = (((D 1).toNat : Nat) : Int) := rfl
                                                            have e1 : s_PD D (D 4) 0 1 = (((D 2).toNat : Nat) : Int) := rfl
                                                            have n0 := hcp.1.1
                                                            have n1 := hcp.1.2
                                                            have hF : ∀ x : Int, (fun x => s_wn (fun j => (gi3 31 j).toInt) (fun j => (gi3 43 j).toInt) x (gi3 29 0).toInt.toNat + s_wn (fun j => (gi3 37 j).toInt) (fun j => (gi3 44 j).toInt) x (gi3 35 0).toInt.toNat) x = s_FW D x := by
                                                              intro x
                                                              show s_wn _ _ x _ + s_wn _ _ x _ = _
                                                              unfold s_FW
                                                              rw [show (gi3 29 0).toInt.toNat = (D 1).toNat by omega, show (gi3 35 0).toInt.toNat = (D 2).toNat by omega]
                                                              rw [s_wn_cg (D 1).toNat (fun j hj => ⟨(hcp.2.1 j (by omega)).1, hl2.2.2.1 j (by omega)⟩), s_wn_cg (D 2).toNat (fun j hj => ⟨(hcp.2.2.1 j (by omega)).1, hl2.2.2.2 j (by omega)⟩)]
                                                              rfl
                                                            rw [s_bq_cg hF 241] at hq5
                                                            exact ⟨fun _ => hq5, fun h => absurd hyes h⟩))⟩⟩
/-! ===== printed by riv.py: busiest: the other side ===== -/
noncomputable def wl_l_cameBy : List (Nat × Nat) := []
noncomputable def Q_l_cameBy (gi : Nat → Nat → Int32) (gl : Nat → Nat → Int64) (gr : Nat → Nat → Value) (ar1 : Int32) : Int32 → (Nat → Nat → Int32) → (Nat → Nat → Int64) → (Nat → Nat → Value) → Prop := fun (v : Int32) (gi2 : Nat → Nat → Int32) (gl2 : Nat → Nat → Int64) (gr2 : Nat → Nat → Value) => ((gi 93 ar1.toNatClampNeg).toInt = 0 → v.toInt = (gi 89 (gi 95 ar1.toNatClampNeg).toNatClampNeg).toInt) ∧ ((gi 93 ar1.toNatClampNeg).toInt = 1 → v.toInt = (gi 89 (6 + (gi 95 ar1.toNatClampNeg).toNatClampNeg)).toInt)
theorem c_l_cameBy {X : x_Ext} {d : Nat} {sh : List (Nat ⊕ (Nat × Nat))} {gi : Nat → Nat → Int32} {gl : Nat → Nat → Int64} {gr : Nat → Nat → Value} (hI : t_I sh gi gr) (ar1 : Int32) (l_a1 : 0 ≤ ar1.toInt) (u_a1 : ar1.toInt ≤ 99) (e_p0 : ((gi 93 ar1.toNatClampNeg).toInt ≠ 2 → 0 ≤ (gi 95 ar1.toNatClampNeg).toInt)) : x_Me X (d + 1) n_X12_cameBy [.ref 69, .int ar1] (sh, gi, gl, gr) (t_PI wl_l_cameBy sh gi gl gr (-2147483648) 2147483647 (Q_l_cameBy gi gl gr ar1)) := by
  have hX : t_X wl_l_cameBy sh gi gl gr gi gl gr := t_X.rf
  refine me_i f_X12_cameBy (hI.wf.s rfl) rfl rfl rfl ?_
  refine ev_loc f_X12_cameBy (nx := 1) rfl rfl rfl rfl ?_
  refine ev_getR f_X12_cameBy (nx := 4) rfl (hI.wf.s rfl) rfl rfl (hI.wf.r rfl) rfl rfl ?_
  refine ev_loc f_X12_cameBy (nx := 5) rfl rfl rfl rfl ?_
  refine ev_ialdT f_X12_cameBy (nx := 6) rfl (hI.wf.s rfl) l_a1 (by decide) u_a1 (by decide) rfl (fun w1 e1 => ?_)
  obtain ⟨l1, u1⟩ := hI.abi e1 (by decide +kernel : t_abr 93 0 99 0 2 = true) l_a1 (by decide) u_a1 (by decide)
  refine ev_if f_X12_cameBy (t1 := 9) (t2 := 23) rfl rfl rfl (fun h2 => ?_) (fun h2 => ?_)
  · have u3 : w1.toInt ≤ 0 := t_equ h2 (by decide : (0:Int32).toInt ≤ (0:Int))
    refine ev_loc f_X12_cameBy (nx := 10) rfl rfl rfl rfl ?_
    refine ev_getR f_X12_cameBy (nx := 13) rfl (hI.wf.s rfl) rfl rfl (hI.wf.r rfl) rfl rfl ?_
    refine ev_loc f_X12_cameBy (nx := 14) rfl rfl rfl rfl ?_
    refine ev_getR f_X12_cameBy (nx := 17) rfl (hI.wf.s rfl) rfl rfl (hI.wf.r rfl) rfl rfl ?_
    refine ev_loc f_X12_cameBy (nx := 18) rfl rfl rfl rfl ?_
    refine ev_ialdT f_X12_cameBy (nx := 19) rfl (hI.wf.s rfl) l_a1 (by decide) u_a1 (by decide) rfl (fun w4 e4 => ?_)
    obtain ⟨l4, u4⟩ := hI.abi e4 (by decide +kernel : t_abr 95 0 99 (-1) 5 = true) l_a1 (by decide) u_a1 (by decide)
    have l6 : (0:Int) ≤ w4.toInt := (by have h := e_p0; rw [← e1, ← e4] at h; omega)
    refine ev_ialdT f_X12_cameBy (nx := 20) rfl (hI.wf.s rfl) l6 (by decide) u4 (by decide) rfl (fun w5 e5 => ?_)
    refine ev_jmp f_X12_cameBy (nx := 37) rfl rfl rfl ?_
    exact ev_ret f_X12_cameBy rfl rfl rfl ⟨_, _, _, rfl, hI, hX, ⟨_, rfl, (t_lo w5), (t_hi w5), (show ((gi 93 ar1.toNatClampNeg).toInt = 0 → w5.toInt = (gi 89 (gi 95 ar1.toNatClampNeg).toNatClampNeg).toInt) ∧ ((gi 93 ar1.toNatClampNeg).toInt = 1 → w5.toInt = (gi 89 (6 + (gi 95 ar1.toNatClampNeg).toNatClampNeg)).toInt) from (by
                                                            have ek : w1.toInt = (gi 93 ar1.toNatClampNeg).toInt := by rw [e1]
                                                            exact ⟨fun _ => by rw [e5, e4], fun h => absurd h (by omega)⟩))⟩⟩
  · have r7 : w1.toInt ≠ 0 := fun e => h2 (Int32.toInt_inj.mp (e.trans (by decide : (0:Int) = (0 : Int32).toInt)))
    have l8 : 1 ≤ w1.toInt := t_nel h2 l1 rfl rfl
    refine ev_loc f_X12_cameBy (nx := 24) rfl rfl rfl rfl ?_
    refine ev_getR f_X12_cameBy (nx := 27) rfl (hI.wf.s rfl) rfl rfl (hI.wf.r rfl) rfl rfl ?_
    refine ev_bp f_X12_cameBy (nx := 29) (v := 6) rfl (by decide) rfl ?_
    refine ev_loc f_X12_cameBy (nx := 30) rfl rfl rfl rfl ?_
    refine ev_getR f_X12_cameBy (nx := 33) rfl (hI.wf.s rfl) rfl rfl (hI.wf.r rfl) rfl rfl ?_
    refine ev_loc f_X12_cameBy (nx := 34) rfl rfl rfl rfl ?_
    refine ev_ialdT f_X12_cameBy (nx := 35) rfl (hI.wf.s rfl) l_a1 (by decide) u_a1 (by decide) rfl (fun w9 e9 => ?_)
    obtain ⟨l9, u9⟩ := hI.abi e9 (by decide +kernel : t_abr 95 0 99 (-1) 5 = true) l_a1 (by decide) u_a1 (by decide)
    refine ev_addK f_X12_cameBy (nx := 36) (c := 6) (l := 5) (u := 11) rfl (by decide) l9 u9 rfl rfl (by decide) (by decide) rfl (fun z10 e10 l10 u10 => ?_)
    refine ev_ialdT f_X12_cameBy (nx := 37) rfl (hI.wf.s rfl) l10 (by decide) u10 (by decide) rfl (fun w11 e11 => ?_)
    exact ev_ret f_X12_cameBy rfl rfl rfl ⟨_, _, _, rfl, hI, hX, ⟨_, rfl, (t_lo w11), (t_hi w11), (show ((gi 93 ar1.toNatClampNeg).toInt = 0 → w11.toInt = (gi 89 (gi 95 ar1.toNatClampNeg).toNatClampNeg).toInt) ∧ ((gi 93 ar1.toNatClampNeg).toInt = 1 → w11.toInt = (gi 89 (6 + (gi 95 ar1.toNatClampNeg).toNatClampNeg)).toInt) from (by
                                                            have ek : w1.toInt = (gi 93 ar1.toNatClampNeg).toInt := by rw [e1]
                                                            refine ⟨fun h => absurd h (by omega), fun h1 => ?_⟩
                                                            have h0 := e_p0 (by omega)
                                                            rw [← e9] at h0
                                                            have cw := t_clamp (i := w9) (by omega)
                                                            have ci := t_clamp (i := z10) (by omega)
                                                            rw [e11, show z10.toNatClampNeg = 6 + w9.toNatClampNeg by omega, e9]))⟩⟩
noncomputable def wl_e_busiest : List (Nat × Nat) := [(69, 2), (69, 44), (69, 45), (69, 48), (69, 55), (69, 57), (89, 10005), (89, 610011), (90, 9999), (91, 9999), (92, 9999), (93, 9999), (94, 9999), (95, 9999)]
noncomputable def Q_e_busiest (gi : Nat → Nat → Int32) (gl : Nat → Nat → Int64) (gr : Nat → Nat → Value) : Int32 → (Nat → Nat → Int32) → (Nat → Nat → Int64) → (Nat → Nat → Value) → Prop := fun (v : Int32) (gi2 : Nat → Nat → Int32) (gl2 : Nat → Nat → Int64) (gr2 : Nat → Nat → Value) => ∀ D : s_D, t_ME 0 gi D → t_Cb D → s_DB D → (gi 69 46).toInt = -1 → s_tk D → (s_LS (s_PD D (D 4)) 0 0 0 0 < 1000000000 → v.toInt = (s_bq (s_FW D) 241).2) ∧ (¬ s_LS (s_PD D (D 4)) 0 0 0 0 < 1000000000 → v.toInt = -1)
theorem c_e_busiest {X : x_Ext} {d : Nat} {sh : List (Nat ⊕ (Nat × Nat))} {gi : Nat → Nat → Int32} {gl : Nat → Nat → Int64} {gr : Nat → Nat → Value} (hI : t_I sh gi gr) (e_p0 : 1 ≤ (gi 70 4).toInt) : x_Me X (d + 7) n_X12_busiest [.ref 69] (sh, gi, gl, gr) (t_PI wl_e_busiest sh gi gl gr (-1) 240 (Q_e_busiest gi gl gr)) := by
  have hX : t_X wl_e_busiest sh gi gl gr gi gl gr := t_X.rf
  refine me_i f_X12_busiest (hI.wf.s rfl) rfl rfl rfl ?_
  obtain ⟨l2, u2⟩ := hI.ab (by decide +kernel : t_abr 70 4 4 0 20 = true) (Nat.le_refl _) (Nat.le_refl _)
  refine ev_loc f_X12_busiest (nx := 1) rfl rfl rfl rfl ?_
  refine ev_qI f_X12_busiest (nx := 4) (r := []) rfl rfl rfl rfl rfl rfl rfl (c_l_plans hI  (by omega)) rfl hX rfl (fun w3 gi3 gl3 gr3 l3 u3 hI hX hC3 q3 => ?_)
  have q3 : (∀ D : s_D, t_ME 0 gi D → t_Cb D → s_DB D → (gi 69 46).toInt = -1 → s_tk D → (w3.toInt = 1 ↔ s_LS (s_PD D (D 4)) 0 0 0 0 < 1000000000) ∧ (w3.toInt = 1 → s_P4 gi3 (s_PL D) ∧ s_FE D (gi3 69 57).toInt ∧ s_FX gi3 D)) ∧ (w3.toInt = 1 → t_wh (gi3 69 55).toInt (gi3 93) (gi3 95)) := q3
  refine ev_if f_X12_busiest (t1 := 7) (t2 := 14) rfl rfl rfl (fun h4 => ?_) (fun h4 => ?_)
  · have u5 : w3.toInt ≤ 0 := t_equ h4 (by decide : (0:Int32).toInt ≤ (0:Int))
    refine ev_loc f_X12_busiest (nx := 8) rfl rfl rfl rfl ?_
    refine ev_bp f_X12_busiest (nx := 10) (v := 6) rfl (by decide) rfl ?_
    refine ev_inV2 f_X12_busiest (nx := 13) (lo2 := [(0, .ref 69), (1, .int 6)]) rfl rfl rfl rfl f_X12_refuse (hI.wf.s rfl) rfl rfl rfl rfl rfl ?_
    refine ev_loc f_X12_refuse (nx := 1) rfl rfl rfl rfl ?_
    refine ev_loc f_X12_refuse (nx := 2) rfl rfl rfl rfl ?_
    refine ev_putIT f_X12_refuse (nx := 5) rfl (hI.wf.s rfl) rfl rfl rfl (hI.put0 (hI.wf.s rfl) rfl rfl) (hX.upI rfl) (fun g6 e6 hI hX => ?_)
    refine ev_ic f_X12_refuse (nx := 6) (v := -1) rfl (by decide) rfl ?_
    refine ev_retK1 f_X12_refuse rfl rfl rfl ?_
    exact ev_ret f_X12_busiest rfl rfl rfl ⟨_, _, _, rfl, hI, hX, ⟨_, rfl, (by decide : ((-1):Int) ≤ ((-1):Int32).toInt), (Int.le_trans (by decide : ((-1):Int32).toInt ≤ ((-1):Int)) (by decide : ((-1):Int) ≤ 240)), (show ∀ D : s_D, t_ME 0 gi D → t_Cb D → s_DB D → (gi 69 46).toInt = -1 → s_tk D → (s_LS (s_PD D (D 4)) 0 0 0 0 < 1000000000 → ((-1) : Int) = (s_bq (s_FW D) 241).2) ∧ (¬ s_LS (s_PD D (D 4)) 0 0 0 0 < 1000000000 → ((-1) : Int) = -1) from (by
                                                            intro D hm hb hd h46 ht
                                                            have hq := q3.1 D hm hb hd h46 ht
                                                            have z0 : (0 : Int32).toInt = 0 := rfl
                                                            have hno : ¬ s_LS (s_PD D (D 4)) 0 0 0 0 < 1000000000 := fun hh => by have h9 := hq.1.mpr hh; omega
                                                            exact ⟨fun h => absurd h hno, fun _ => rfl⟩))⟩⟩
  · have r7 : w3.toInt ≠ 0 := fun e => h4 (Int32.toInt_inj.mp (e.trans (by decide : (0:Int) = (0 : Int32).toInt)))
    have l8 : 1 ≤ w3.toInt := t_nel h4 l3 rfl rfl
    refine ev_ic f_X12_busiest (nx := 15) (v := -1) rfl (by decide) rfl ?_
    refine ev_loc f_X12_busiest (nx := 16) (lo' := [(1, .int (-1)), (0, .ref 69)]) rfl rfl rfl rfl ?_
    refine ev_ic f_X12_busiest (nx := 17) (v := 0) rfl (by decide) rfl ?_
    refine ev_loc f_X12_busiest (nx := 18) (lo' := [(2, .int 0), (1, .int (-1)), (0, .ref 69)]) rfl rfl rfl rfl ?_
    refine ev_ic f_X12_busiest (nx := 19) (v := 0) rfl (by decide) rfl ?_
    refine ev_loc f_X12_busiest (nx := 20) (lo' := [(3, .int 0), (2, .int 0), (1, .int (-1)), (0, .ref 69)]) rfl rfl rfl rfl ?_
    have L9 : ∀ (m9 : Nat) (y9_3 : Int32) (y9_2 : Int32) (y9_1 : Int32), 0 ≤ y9_3.toInt → y9_3.toInt ≤ 241 → 0 ≤ y9_2.toInt → y9_2.toInt ≤ 100 → (-1) ≤ y9_1.toInt → y9_1.toInt ≤ 240 → (∀ D : s_D, t_ME 0 gi D → t_Cb D → s_DB D → (gi 69 46).toInt = -1 → s_tk D → (y9_2.toInt, y9_1.toInt) = s_bq (s_FW D) y9_3.toNatClampNeg ∧ s_LS (s_PD D (D 4)) 0 0 0 0 < 1000000000 ∧ s_P4 gi3 (s_PL D) ∧ s_FX gi3 D) → (241 - y9_3.toInt).toNat = m9 → x_Ev X (d + 7) n_X12_busiest 20 [(3, .int y9_3), (2, .int y9_2), (1, .int y9_1), (0, .ref 69)] [] (sh, gi3, gl3, gr3) (t_PI wl_e_busiest sh gi gl gr (-1) 240 (Q_e_busiest gi gl gr)) := by
      intro m9
      induction m9 using Nat.strongRecOn with
      | _ m9 ih9 =>
      intro y9_3 y9_2 y9_1 l9_3 u9_3 l9_2 u9_2 l9_1 u9_1 j9_0 hm9
      refine ev_loc f_X12_busiest (nx := 21) rfl rfl rfl rfl ?_
      refine ev_sp f_X12_busiest (nx := 24) (v := 240) rfl (by decide) rfl ?_
      refine ev_if f_X12_busiest (t1 := 110) (t2 := 27) rfl rfl rfl (fun h10 => ?_) (fun h10 => ?_)
      · have l11 : 241 ≤ y9_3.toInt := t_ltl h10 (by decide : (240:Int) ≤ (240:Int32).toInt) rfl
        refine ev_loc f_X12_busiest (nx := 111) rfl rfl rfl rfl ?_
        refine ev_loc f_X12_busiest (nx := 112) rfl rfl rfl rfl ?_
        refine ev_inV2 f_X12_busiest (nx := 115) (lo2 := [(0, .ref 69), (1, .int y9_1)]) rfl rfl rfl rfl f_X12_orNone (hI.wf.s rfl) rfl rfl rfl rfl rfl ?_
        refine ev_loc f_X12_orNone (nx := 1) rfl rfl rfl rfl ?_
        refine ev_ic f_X12_orNone (nx := 2) (v := -1) rfl (by decide) rfl ?_
        refine ev_if f_X12_orNone (t1 := 5) (t2 := 14) rfl rfl rfl (fun h12 => ?_) (fun h12 => ?_)
        · have u13 : y9_1.toInt ≤ (-1) := t_equ h12 (by decide : ((-1):Int32).toInt ≤ ((-1):Int))
          refine ev_loc f_X12_orNone (nx := 6) rfl rfl rfl rfl ?_
          refine ev_bp f_X12_orNone (nx := 8) (v := 6) rfl (by decide) rfl ?_
          refine ev_inV2 f_X12_orNone (nx := 11) (lo2 := [(0, .ref 69), (1, .int 6)]) rfl rfl rfl rfl f_X12_refuse (hI.wf.s rfl) rfl rfl rfl rfl rfl ?_
          refine ev_loc f_X12_refuse (nx := 1) rfl rfl rfl rfl ?_
          refine ev_loc f_X12_refuse (nx := 2) rfl rfl rfl rfl ?_
          refine ev_putIT f_X12_refuse (nx := 5) rfl (hI.wf.s rfl) rfl rfl rfl (hI.put0 (hI.wf.s rfl) rfl rfl) (hX.upI rfl) (fun g14 e14 hI hX => ?_)
          refine ev_ic f_X12_refuse (nx := 6) (v := -1) rfl (by decide) rfl ?_
          refine ev_retK1 f_X12_refuse rfl rfl rfl ?_
          refine ev_jmp f_X12_orNone (nx := 19) rfl rfl rfl ?_
          refine ev_retK1 f_X12_orNone rfl rfl rfl ?_
          exact ev_ret f_X12_busiest rfl rfl rfl ⟨_, _, _, rfl, hI, hX, ⟨_, rfl, (by decide : ((-1):Int) ≤ ((-1):Int32).toInt), (Int.le_trans (by decide : ((-1):Int32).toInt ≤ ((-1):Int)) (by decide : ((-1):Int) ≤ 240)), (show ∀ D : s_D, t_ME 0 gi D → t_Cb D → s_DB D → (gi 69 46).toInt = -1 → s_tk D → (s_LS (s_PD D (D 4)) 0 0 0 0 < 1000000000 → ((-1) : Int) = (s_bq (s_FW D) 241).2) ∧ (¬ s_LS (s_PD D (D 4)) 0 0 0 0 < 1000000000 → ((-1) : Int) = -1) from (by
                                                            intro D hm hb hd h46 ht
                                                            obtain ⟨g1, hyes, hp, hx⟩ := j9_0 D hm hb hd h46 ht
                                                            have ck := t_clamp (i := y9_3) (by omega)
                                                            rw [show y9_3.toNatClampNeg = 241 by omega] at g1
                                                            have g2 : _ = (s_bq (s_FW D) 241).2 := congrArg Prod.snd g1
                                                            have zm : (-1 : Int32).toInt = -1 := rfl
                                                            refine ⟨fun _ => ?_, fun h => absurd hyes h⟩
                                                            rw [← g2]
                                                            show _ = _
                                                            omega))⟩⟩
        · have r15 : y9_1.toInt ≠ (-1) := fun e => h12 (Int32.toInt_inj.mp (e.trans (by decide : ((-1):Int) = ((-1) : Int32).toInt)))
          have l16 : 0 ≤ y9_1.toInt := t_nel h12 l9_1 rfl rfl
          refine ev_loc f_X12_orNone (nx := 15) rfl rfl rfl rfl ?_
          refine ev_loc f_X12_orNone (nx := 16) rfl rfl rfl rfl ?_
          refine ev_inV2 f_X12_orNone (nx := 19) (lo2 := [(0, .ref 69), (1, .int y9_1)]) rfl rfl rfl rfl f_X12_gives (hI.wf.s rfl) rfl rfl rfl rfl rfl ?_
          refine ev_loc f_X12_gives (nx := 1) rfl rfl rfl rfl ?_
          refine ev_ic f_X12_gives (nx := 2) (v := 0) rfl (by decide) rfl ?_
          refine ev_putIT f_X12_gives (nx := 5) rfl (hI.wf.s rfl) rfl rfl rfl (hI.put0 (hI.wf.s rfl) rfl rfl) (hX.upI rfl) (fun g17 e17 hI hX => ?_)
          refine ev_loc f_X12_gives (nx := 6) rfl rfl rfl rfl ?_
          refine ev_retK1 f_X12_gives rfl rfl rfl ?_
          refine ev_retK1 f_X12_orNone rfl rfl rfl ?_
          exact ev_ret f_X12_busiest rfl rfl rfl ⟨_, _, _, rfl, hI, hX, ⟨_, rfl, (Int.le_trans (by decide : ((-1):Int) ≤ 0) l16), u9_1, (show ∀ D : s_D, t_ME 0 gi D → t_Cb D → s_DB D → (gi 69 46).toInt = -1 → s_tk D → (s_LS (s_PD D (D 4)) 0 0 0 0 < 1000000000 → y9_1.toInt = (s_bq (s_FW D) 241).2) ∧ (¬ s_LS (s_PD D (D 4)) 0 0 0 0 < 1000000000 → y9_1.toInt = -1) from (by
                                                            intro D hm hb hd h46 ht
                                                            obtain ⟨g1, hyes, hp, hx⟩ := j9_0 D hm hb hd h46 ht
                                                            have ck := t_clamp (i := y9_3) (by omega)
                                                            rw [show y9_3.toNatClampNeg = 241 by omega] at g1
                                                            have g2 : _ = (s_bq (s_FW D) 241).2 := congrArg Prod.snd g1
                                                            exact ⟨fun _ => g2, fun h => absurd hyes h⟩))⟩⟩
      · have u18 : y9_3.toInt ≤ 240 := t_leu (t_nlt h10) (by decide : (240:Int32).toInt ≤ (240:Int))
        refine ev_ic f_X12_busiest (nx := 28) (v := 0) rfl (by decide) rfl ?_
        refine ev_loc f_X12_busiest (nx := 30) (lo' := [(4, .int 0), (3, .int y9_3), (2, .int y9_2), (1, .int y9_1), (0, .ref 69)]) rfl rfl rfl rfl ?_
        refine ev_ic f_X12_busiest (nx := 31) (v := 0) rfl (by decide) rfl ?_
        refine ev_loc f_X12_busiest (nx := 33) (lo' := [(5, .int 0), (4, .int 0), (3, .int y9_3), (2, .int y9_2), (1, .int y9_1), (0, .ref 69)]) rfl rfl rfl rfl ?_
        have L19 : ∀ (m19 : Nat) (y19_5 : Int32) (y19_4 : Int32), 0 ≤ y19_5.toInt → y19_5.toInt ≤ 100 → 0 ≤ y19_4.toInt → y19_4.toInt ≤ 100 → y19_4.toInt ≤ y19_5.toInt → (∀ D : s_D, t_ME 0 gi D → t_Cb D → s_DB D → (gi 69 46).toInt = -1 → s_tk D → y19_4.toInt = s_wL D y9_3.toInt ((s_PL D).take y19_5.toNatClampNeg) ∧ y19_5.toInt ≤ ((s_PL D).length : Int)) → (100 - y19_5.toInt).toNat = m19 → x_Ev X (d + 7) n_X12_busiest 33 [(5, .int y19_5), (4, .int y19_4), (3, .int y9_3), (2, .int y9_2), (1, .int y9_1), (0, .ref 69)] [] (sh, gi3, gl3, gr3) (t_PI wl_e_busiest sh gi gl gr (-1) 240 (Q_e_busiest gi gl gr)) := by
          intro m19
          induction m19 using Nat.strongRecOn with
          | _ m19 ih19 =>
          intro y19_5 y19_4 l19_5 u19_5 l19_4 u19_4 j19_0 j19_1 hm19
          refine ev_loc f_X12_busiest (nx := 35) rfl rfl rfl rfl ?_
          refine ev_loc f_X12_busiest (nx := 36) rfl rfl rfl rfl ?_
          refine ev_getI f_X12_busiest (nx := 39) rfl (hI.wf.s rfl) rfl rfl rfl ?_
          obtain ⟨l20, u20⟩ := hI.b (hI.wf.s (k := 69) rfl) (t_bdK rfl : t_bd 11 55 = some (0, 100))
          refine ev_if f_X12_busiest (t1 := 90) (t2 := 42) rfl rfl rfl (fun h21 => ?_) (fun h21 => ?_)
          · have r22 : (gi3 69 55).toInt ≤ y19_5.toInt := Int32.le_iff_toInt_le.mp h21
            refine ev_loc f_X12_busiest (nx := 92) rfl rfl rfl rfl ?_
            refine ev_loc f_X12_busiest (nx := 93) rfl rfl rfl rfl ?_
            refine ev_if f_X12_busiest (t1 := 99) (t2 := 96) rfl rfl rfl (fun h23 => ?_) (fun h23 => ?_)
            · have r24 : y9_2.toInt < y19_4.toInt := Int32.lt_iff_toInt_lt.mp h23
              have u25 : y9_2.toInt ≤ 99 := t_ltu h23 u19_4 rfl
              have l26 : 1 ≤ y19_4.toInt := t_ltl h23 l9_2 rfl
              refine ev_loc f_X12_busiest (nx := 101) rfl rfl rfl rfl ?_
              refine ev_loc f_X12_busiest (nx := 102) (lo' := [(2, .int y19_4), (5, .int y19_5), (4, .int y19_4), (3, .int y9_3), (1, .int y9_1), (0, .ref 69)]) rfl rfl rfl rfl ?_
              refine ev_loc f_X12_busiest (nx := 103) rfl rfl rfl rfl ?_
              refine ev_loc f_X12_busiest (nx := 104) (lo' := [(1, .int y9_3), (2, .int y19_4), (5, .int y19_5), (4, .int y19_4), (3, .int y9_3), (0, .ref 69)]) rfl rfl rfl rfl ?_
              refine ev_incR f_X12_busiest (nx := 107) (c := 1) (l := 1) (u := 241) rfl rfl (by decide) (by decide) l9_3 u18 rfl rfl (by decide) (by decide) rfl (fun z27 e27 l27 u27 => ?_)
              refine ev_jmp f_X12_busiest (nx := 20) rfl rfl rfl ?_
              refine ev_sub (lo := [(3, .int z27), (2, .int y19_4), (1, .int y9_3), (0, .ref 69)]) rfl (t_sc rfl (t_sc rfl (t_sc rfl (t_sc rfl t_sn)))) ?_
              exact ih9 _ (by omega) (z27) (y19_4) (y9_3) (Int.le_trans (by decide : (0:Int) ≤ 1) l27) u27 (Int.le_trans (by decide : (0:Int) ≤ 1) l26) u19_4 (Int.le_trans (by decide : ((-1):Int) ≤ 0) l9_3) u18 (by
                                                            intro D hm hb hd h46 ht
                                                            obtain ⟨g1, hyes, hp, hx⟩ := j9_0 D hm hb hd h46 ht
                                                            obtain ⟨g4, g5⟩ := j19_1 D hm hb hd h46 ht
                                                            have ck := t_clamp (i := y9_3) (by omega)
                                                            have ckk := t_clamp (i := y19_5) (by omega)
                                                            have hn := hp.1
                                                            have ek := s_cp (y := y9_3) (z := z27) (by omega) (by omega)
                                                            rw [show (s_PL D).take y19_5.toNatClampNeg = s_PL D from List.take_of_length_le (by omega), s_wL_FW hx.2.1 hx.2.2, ← ck] at g4
                                                            have g2 := congrArg Prod.fst g1
                                                            have g3 : _ = (s_bq (s_FW D) y9_3.toNatClampNeg).1 := g2
                                                            rw [ek]
                                                            rw [s_bq_y (by rw [← g3, ← g4]; show _ < _; omega)]
                                                            exact ⟨Prod.ext g4 (show _ = _ by omega), hyes, hp, hx⟩) rfl
            · have r28 : y19_4.toInt ≤ y9_2.toInt := Int32.le_iff_toInt_le.mp (t_nlt h23)
              refine ev_jmp f_X12_busiest (nx := 104) rfl rfl rfl ?_
              refine ev_incR f_X12_busiest (nx := 107) (c := 1) (l := 1) (u := 241) rfl rfl (by decide) (by decide) l9_3 u18 rfl rfl (by decide) (by decide) rfl (fun z29 e29 l29 u29 => ?_)
              refine ev_jmp f_X12_busiest (nx := 20) rfl rfl rfl ?_
              refine ev_sub (lo := [(3, .int z29), (2, .int y9_2), (1, .int y9_1), (0, .ref 69)]) rfl (t_sc rfl (t_sc rfl (t_sc rfl (t_sc rfl t_sn)))) ?_
              exact ih9 _ (by omega) (z29) (y9_2) (y9_1) (Int.le_trans (by decide : (0:Int) ≤ 1) l29) u29 l9_2 u9_2 l9_1 u9_1 (by
                                                            intro D hm hb hd h46 ht
                                                            obtain ⟨g1, hyes, hp, hx⟩ := j9_0 D hm hb hd h46 ht
                                                            obtain ⟨g4, g5⟩ := j19_1 D hm hb hd h46 ht
                                                            have ck := t_clamp (i := y9_3) (by omega)
                                                            have ckk := t_clamp (i := y19_5) (by omega)
                                                            have hn := hp.1
                                                            have ek := s_cp (y := y9_3) (z := z29) (by omega) (by omega)
                                                            rw [show (s_PL D).take y19_5.toNatClampNeg = s_PL D from List.take_of_length_le (by omega), s_wL_FW hx.2.1 hx.2.2, ← ck] at g4
                                                            have g2 := congrArg Prod.fst g1
                                                            have g3 : _ = (s_bq (s_FW D) y9_3.toNatClampNeg).1 := g2
                                                            rw [ek]
                                                            rw [s_bq_n (by rw [← g3, ← g4]; show ¬ _ < _; omega)]
                                                            exact ⟨g1, hyes, hp, hx⟩) rfl
          · have r30 : y19_5.toInt < (gi3 69 55).toInt := Int32.lt_iff_toInt_lt.mp (t_nle h21)
            have u31 : y19_5.toInt ≤ 99 := t_ltu (t_nle h21) u20 rfl
            have l32 : 1 ≤ (gi3 69 55).toInt := t_ltl (t_nle h21) l19_5 rfl
            refine ev_loc f_X12_busiest (nx := 44) rfl rfl rfl rfl ?_
            refine ev_loc f_X12_busiest (nx := 45) rfl rfl rfl rfl ?_
            refine ev_getR f_X12_busiest (nx := 48) rfl (hI.wf.s rfl) rfl rfl (hI.wf.r rfl) rfl rfl ?_
            refine ev_loc f_X12_busiest (nx := 50) rfl rfl rfl rfl ?_
            refine ev_ialdT f_X12_busiest (nx := 51) rfl (hI.wf.s rfl) l19_5 (by decide) u31 (by decide) rfl (fun w33 e33 => ?_)
            obtain ⟨l33, u33⟩ := hI.abi e33 (by decide +kernel : t_abr 93 0 99 0 2 = true) l19_5 (by decide) u31 (by decide)
            refine ev_ic f_X12_busiest (nx := 52) (v := 2) rfl (by decide) rfl ?_
            refine ev_if f_X12_busiest (t1 := 80) (t2 := 55) rfl rfl rfl (fun h34 => ?_) (fun h34 => ?_)
            · have l35 : 2 ≤ w33.toInt := t_eql h34 (by decide : (2:Int) ≤ (2:Int32).toInt)
              refine ev_ic f_X12_busiest (nx := 81) (v := 0) rfl (by decide) rfl ?_
              refine ev_addC f_X12_busiest (nx := 82) (c := 0) (l := 0) (u := 100) rfl (by decide) l19_4 u19_4 rfl rfl (by decide) (by decide) rfl (fun z36 e36 l36 u36 => ?_)
              refine ev_loc f_X12_busiest (nx := 84) (lo' := [(4, .int z36), (5, .int y19_5), (3, .int y9_3), (2, .int y9_2), (1, .int y9_1), (0, .ref 69)]) rfl rfl rfl rfl ?_
              refine ev_incR f_X12_busiest (nx := 87) (c := 1) (l := 1) (u := 100) rfl rfl (by decide) (by decide) l19_5 u31 rfl rfl (by decide) (by decide) rfl (fun z37 e37 l37 u37 => ?_)
              refine ev_jmp f_X12_busiest (nx := 33) rfl rfl rfl ?_
              refine ev_sub (lo := [(5, .int z37), (4, .int z36), (3, .int y9_3), (2, .int y9_2), (1, .int y9_1), (0, .ref 69)]) rfl (t_sc rfl (t_sc rfl (t_sc rfl (t_sc rfl (t_sc rfl (t_sc rfl t_sn)))))) ?_
              exact ih19 _ (by omega) (z37) (z36) (Int.le_trans (by decide : (0:Int) ≤ 1) l37) u37 l36 u36 (by omega) (by
                                                            intro D hm hb hd h46 ht
                                                            obtain ⟨g1, hyes, hp, hx⟩ := j9_0 D hm hb hd h46 ht
                                                            obtain ⟨g4, g5⟩ := j19_1 D hm hb hd h46 ht
                                                            have ck := t_clamp (i := y19_5) (by omega)
                                                            have hn := hp.1
                                                            obtain ⟨t, ht9⟩ := s_pd_g (L := s_PL D) (k := y19_5.toNatClampNeg) (by omega)
                                                            obtain ⟨v1, v2, v3⟩ := hp.2 _ t ht9
                                                            have ek := s_cp (y := y19_5) (z := z37) (by omega) (by omega)
                                                            have e50 : w33.toInt = t.1 := by rw [e33]; exact v1
                                                            rw [ek, s_wL_k ht9]
                                                            unfold s_w0
                                                            rw [if_pos (by omega)]
                                                            exact ⟨by omega, by omega⟩) rfl
            · have r38 : w33.toInt ≠ 2 := fun e => h34 (Int32.toInt_inj.mp (e.trans (by decide : (2:Int) = (2 : Int32).toInt)))
              have u39 : w33.toInt ≤ 1 := t_neu h34 u33 rfl rfl
              refine ev_loc f_X12_busiest (nx := 56) rfl rfl rfl rfl ?_
              refine ev_loc f_X12_busiest (nx := 58) rfl rfl rfl rfl ?_
              refine ev_qI0 f_X12_busiest (nx := 61) (r := [.int y19_4]) rfl rfl rfl rfl rfl rfl rfl (c_l_cameBy hI (y19_5) l19_5 u31 (fun h => q3.2 (by omega) y19_5.toNatClampNeg (by have hc := t_clamp (i := y19_5) (by omega); omega) h)) rfl (fun w40 l40 u40 q40 => ?_)
              have q40 : ((gi3 93 y19_5.toNatClampNeg).toInt = 0 → w40.toInt = (gi3 89 (gi3 95 y19_5.toNatClampNeg).toNatClampNeg).toInt) ∧ ((gi3 93 y19_5.toNatClampNeg).toInt = 1 → w40.toInt = (gi3 89 (6 + (gi3 95 y19_5.toNatClampNeg).toNatClampNeg)).toInt) := q40
              refine ev_loc f_X12_busiest (nx := 62) rfl rfl rfl rfl ?_
              refine ev_if f_X12_busiest (t1 := 80) (t2 := 65) rfl rfl rfl (fun h41 => ?_) (fun h41 => ?_)
              · have r42 : y9_3.toInt < w40.toInt := Int32.lt_iff_toInt_lt.mp h41
                have l43 : 1 ≤ w40.toInt := t_ltl h41 l9_3 rfl
                refine ev_ic f_X12_busiest (nx := 81) (v := 0) rfl (by decide) rfl ?_
                refine ev_addC f_X12_busiest (nx := 82) (c := 0) (l := 0) (u := 100) rfl (by decide) l19_4 u19_4 rfl rfl (by decide) (by decide) rfl (fun z44 e44 l44 u44 => ?_)
                refine ev_loc f_X12_busiest (nx := 84) (lo' := [(4, .int z44), (5, .int y19_5), (3, .int y9_3), (2, .int y9_2), (1, .int y9_1), (0, .ref 69)]) rfl rfl rfl rfl ?_
                refine ev_incR f_X12_busiest (nx := 87) (c := 1) (l := 1) (u := 100) rfl rfl (by decide) (by decide) l19_5 u31 rfl rfl (by decide) (by decide) rfl (fun z45 e45 l45 u45 => ?_)
                refine ev_jmp f_X12_busiest (nx := 33) rfl rfl rfl ?_
                refine ev_sub (lo := [(5, .int z45), (4, .int z44), (3, .int y9_3), (2, .int y9_2), (1, .int y9_1), (0, .ref 69)]) rfl (t_sc rfl (t_sc rfl (t_sc rfl (t_sc rfl (t_sc rfl (t_sc rfl t_sn)))))) ?_
                exact ih19 _ (by omega) (z45) (z44) (Int.le_trans (by decide : (0:Int) ≤ 1) l45) u45 l44 u44 (by omega) (by
                                                            intro D hm hb hd h46 ht
                                                            obtain ⟨g1, hyes, hp, hx⟩ := j9_0 D hm hb hd h46 ht
                                                            obtain ⟨g4, g5⟩ := j19_1 D hm hb hd h46 ht
                                                            have ck := t_clamp (i := y19_5) (by omega)
                                                            have hn := hp.1
                                                            obtain ⟨t, ht9⟩ := s_pd_g (L := s_PL D) (k := y19_5.toNatClampNeg) (by omega)
                                                            obtain ⟨v1, v2, v3⟩ := hp.2 _ t ht9
                                                            have ek := s_cp (y := y19_5) (z := z45) (by omega) (by omega)
                                                            have e50 : w33.toInt = t.1 := by rw [e33]; exact v1
                                                            rw [ek, s_wL_k ht9]
                                                            unfold s_w0
                                                            have hk012 := s_PL_LP _ t ht9
                                                            have hq9 := q40
                                                            have hcm : w40.toInt = s_cwm D t := by
                                                              rcases (show t.1 = 0 ∨ t.1 = 1 by rcases hk012 with ⟨h, -⟩ | ⟨h | h, -⟩ <;> omega) with h9 | h9
                                                              · exact (hq9.1 (by omega)).trans (s_cm_S hx hp ht9 h9)
                                                              · exact (hq9.2 (by omega)).trans (s_cm_C hx hp ht9 h9)
                                                            rw [if_neg (by omega), ← hcm]
                                                            unfold s_wi
                                                            rw [if_neg (fun hh => by have h1 := hh.1; have h2 := hh.2; omega)]
                                                            exact ⟨by omega, by omega⟩) rfl
              · have r46 : w40.toInt ≤ y9_3.toInt := Int32.le_iff_toInt_le.mp (t_nlt h41)
                have u47 : w40.toInt ≤ 240 := t_leu (t_nlt h41) u18
                refine ev_loc f_X12_busiest (nx := 66) rfl rfl rfl rfl ?_
                refine ev_getR f_X12_busiest (nx := 69) rfl (hI.wf.s rfl) rfl rfl (hI.wf.r rfl) rfl rfl ?_
                refine ev_loc f_X12_busiest (nx := 71) rfl rfl rfl rfl ?_
                refine ev_ialdT f_X12_busiest (nx := 72) rfl (hI.wf.s rfl) l19_5 (by decide) u31 (by decide) rfl (fun w48 e48 => ?_)
                refine ev_loc f_X12_busiest (nx := 73) rfl rfl rfl rfl ?_
                refine ev_if f_X12_busiest (t1 := 80) (t2 := 76) rfl rfl rfl (fun h49 => ?_) (fun h49 => ?_)
                · have r50 : w48.toInt ≤ y9_3.toInt := Int32.le_iff_toInt_le.mp h49
                  have u51 : w48.toInt ≤ 240 := t_leu h49 u18
                  refine ev_ic f_X12_busiest (nx := 81) (v := 0) rfl (by decide) rfl ?_
                  refine ev_addC f_X12_busiest (nx := 82) (c := 0) (l := 0) (u := 100) rfl (by decide) l19_4 u19_4 rfl rfl (by decide) (by decide) rfl (fun z52 e52 l52 u52 => ?_)
                  refine ev_loc f_X12_busiest (nx := 84) (lo' := [(4, .int z52), (5, .int y19_5), (3, .int y9_3), (2, .int y9_2), (1, .int y9_1), (0, .ref 69)]) rfl rfl rfl rfl ?_
                  refine ev_incR f_X12_busiest (nx := 87) (c := 1) (l := 1) (u := 100) rfl rfl (by decide) (by decide) l19_5 u31 rfl rfl (by decide) (by decide) rfl (fun z53 e53 l53 u53 => ?_)
                  refine ev_jmp f_X12_busiest (nx := 33) rfl rfl rfl ?_
                  refine ev_sub (lo := [(5, .int z53), (4, .int z52), (3, .int y9_3), (2, .int y9_2), (1, .int y9_1), (0, .ref 69)]) rfl (t_sc rfl (t_sc rfl (t_sc rfl (t_sc rfl (t_sc rfl (t_sc rfl t_sn)))))) ?_
                  exact ih19 _ (by omega) (z53) (z52) (Int.le_trans (by decide : (0:Int) ≤ 1) l53) u53 l52 u52 (by omega) (by
                                                            intro D hm hb hd h46 ht
                                                            obtain ⟨g1, hyes, hp, hx⟩ := j9_0 D hm hb hd h46 ht
                                                            obtain ⟨g4, g5⟩ := j19_1 D hm hb hd h46 ht
                                                            have ck := t_clamp (i := y19_5) (by omega)
                                                            have hn := hp.1
                                                            obtain ⟨t, ht9⟩ := s_pd_g (L := s_PL D) (k := y19_5.toNatClampNeg) (by omega)
                                                            obtain ⟨v1, v2, v3⟩ := hp.2 _ t ht9
                                                            have ek := s_cp (y := y19_5) (z := z53) (by omega) (by omega)
                                                            have e50 : w33.toInt = t.1 := by rw [e33]; exact v1
                                                            rw [ek, s_wL_k ht9]
                                                            unfold s_w0
                                                            have hk012 := s_PL_LP _ t ht9
                                                            have hq9 := q40
                                                            have hcm : w40.toInt = s_cwm D t := by
                                                              rcases (show t.1 = 0 ∨ t.1 = 1 by rcases hk012 with ⟨h, -⟩ | ⟨h | h, -⟩ <;> omega) with h9 | h9
                                                              · exact (hq9.1 (by omega)).trans (s_cm_S hx hp ht9 h9)
                                                              · exact (hq9.2 (by omega)).trans (s_cm_C hx hp ht9 h9)
                                                            rw [if_neg (by omega), ← hcm]
                                                            unfold s_wi
                                                            have e71 : w48.toInt = t.2.1 := by rw [e48]; exact v2
                                                            rw [if_neg (fun hh => by have h1 := hh.1; have h2 := hh.2; omega)]
                                                            exact ⟨by omega, by omega⟩) rfl
                · have r54 : y9_3.toInt < w48.toInt := Int32.lt_iff_toInt_lt.mp (t_nle h49)
                  have l55 : 1 ≤ w48.toInt := t_ltl (t_nle h49) l9_3 rfl
                  refine ev_ic f_X12_busiest (nx := 77) (v := 1) rfl (by decide) rfl ?_
                  refine ev_jmp f_X12_busiest (nx := 81) rfl rfl rfl ?_
                  refine ev_addC f_X12_busiest (nx := 82) (c := 1) (l := 1) (u := 101) rfl (by decide) l19_4 u19_4 rfl rfl (by decide) (by decide) rfl (fun z56 e56 l56 u56 => ?_)
                  refine ev_loc f_X12_busiest (nx := 84) (lo' := [(4, .int z56), (5, .int y19_5), (3, .int y9_3), (2, .int y9_2), (1, .int y9_1), (0, .ref 69)]) rfl rfl rfl rfl ?_
                  refine ev_incR f_X12_busiest (nx := 87) (c := 1) (l := 1) (u := 100) rfl rfl (by decide) (by decide) l19_5 u31 rfl rfl (by decide) (by decide) rfl (fun z57 e57 l57 u57 => ?_)
                  refine ev_jmp f_X12_busiest (nx := 33) rfl rfl rfl ?_
                  refine ev_sub (lo := [(5, .int z57), (4, .int z56), (3, .int y9_3), (2, .int y9_2), (1, .int y9_1), (0, .ref 69)]) rfl (t_sc rfl (t_sc rfl (t_sc rfl (t_sc rfl (t_sc rfl (t_sc rfl t_sn)))))) ?_
                  exact ih19 _ (by omega) (z57) (z56) (Int.le_trans (by decide : (0:Int) ≤ 1) l57) u57 (Int.le_trans (by decide : (0:Int) ≤ 1) l56) (by omega : z56.toInt ≤ (100:Int)) (by omega) (by
                                                            intro D hm hb hd h46 ht
                                                            obtain ⟨g1, hyes, hp, hx⟩ := j9_0 D hm hb hd h46 ht
                                                            obtain ⟨g4, g5⟩ := j19_1 D hm hb hd h46 ht
                                                            have ck := t_clamp (i := y19_5) (by omega)
                                                            have hn := hp.1
                                                            obtain ⟨t, ht9⟩ := s_pd_g (L := s_PL D) (k := y19_5.toNatClampNeg) (by omega)
                                                            obtain ⟨v1, v2, v3⟩ := hp.2 _ t ht9
                                                            have ek := s_cp (y := y19_5) (z := z57) (by omega) (by omega)
                                                            have e50 : w33.toInt = t.1 := by rw [e33]; exact v1
                                                            rw [ek, s_wL_k ht9]
                                                            unfold s_w0
                                                            have hk012 := s_PL_LP _ t ht9
                                                            have hq9 := q40
                                                            have hcm : w40.toInt = s_cwm D t := by
                                                              rcases (show t.1 = 0 ∨ t.1 = 1 by rcases hk012 with ⟨h, -⟩ | ⟨h | h, -⟩ <;> omega) with h9 | h9
                                                              · exact (hq9.1 (by omega)).trans (s_cm_S hx hp ht9 h9)
                                                              · exact (hq9.2 (by omega)).trans (s_cm_C hx hp ht9 h9)
                                                            rw [if_neg (by omega), ← hcm]
                                                            unfold s_wi
                                                            have e71 : w48.toInt = t.2.1 := by rw [e48]; exact v2
                                                            rw [if_pos ⟨by omega, by omega⟩]
                                                            exact ⟨by omega, by omega⟩) rfl
        refine ev_sub (lo := [(5, .int 0), (4, .int 0), (3, .int y9_3), (2, .int y9_2), (1, .int y9_1), (0, .ref 69)]) rfl (t_sc rfl (t_sc rfl (t_sc rfl (t_sc rfl (t_sc rfl (t_sc rfl t_sn)))))) ?_
        exact L19 _ (0) (0) (by decide : (0:Int) ≤ (0:Int32).toInt) (Int.le_trans (by decide : (0:Int32).toInt ≤ (0:Int)) (by decide : (0:Int) ≤ 100)) (by decide : (0:Int) ≤ (0:Int32).toInt) (Int.le_trans (by decide : (0:Int32).toInt ≤ (0:Int)) (by decide : (0:Int) ≤ 100)) (by have kf58 : (0 : Int32).toInt = 0 := (by decide); omega) (by
                                                            intro D hm hb hd h46 ht
                                                            exact ⟨by rw [show (0 : Int32).toNatClampNeg = 0 from rfl, List.take_zero]; rfl, by have z0 : (0 : Int32).toInt = 0 := rfl; omega⟩) rfl
    refine ev_sub (lo := [(3, .int 0), (2, .int 0), (1, .int (-1)), (0, .ref 69)]) rfl (t_sc rfl (t_sc rfl (t_sc rfl (t_sc rfl t_sn)))) ?_
    exact L9 _ (0) (0) ((-1)) (by decide : (0:Int) ≤ (0:Int32).toInt) (Int.le_trans (by decide : (0:Int32).toInt ≤ (0:Int)) (by decide : (0:Int) ≤ 241)) (by decide : (0:Int) ≤ (0:Int32).toInt) (Int.le_trans (by decide : (0:Int32).toInt ≤ (0:Int)) (by decide : (0:Int) ≤ 100)) (by decide : ((-1):Int) ≤ ((-1):Int32).toInt) (Int.le_trans (by decide : ((-1):Int32).toInt ≤ ((-1):Int)) (by decide : ((-1):Int) ≤ 240)) (by
                                                            intro D hm hb hd h46 ht
                                                            have hq := q3.1 D hm hb hd h46 ht
                                                            have z1 : (1 : Int32).toInt = 1 := rfl
                                                            obtain ⟨hp, -, hx⟩ := hq.2 (by omega)
                                                            exact ⟨rfl, hq.1.mp (by omega), hp, hx⟩) rfl
/-! ===== busiest: the answers are alike ===== -/
section BSYL
variable {sh : List (Nat ⊕ (Nat × Nat))} {gi g1 g2 : Nat → Nat → Int32} {gl l1 l2 : Nat → Nat → Int64} {gr r1 r2 : Nat → Nat → Value} {w1 : List (Nat × Nat)} {x1 x2 : Int32}
theorem t_L_busiest (hI : t_I sh gi gr) (hD : t_DR sh.length gi gl gr) (hK : t_KQ gi) (f1 : t_F w1 gi gl gr g1 l1 r1) (h70 : t_nc w1 70 = true) (hN1 : (g1 69 46).toInt = -1) (h4 : 1 ≤ (g1 70 4).toInt) (q1 : Q_d_busiest gi gl gr x1 g1 l1 r1) (q2 : Q_e_busiest g1 l1 r1 x2 g2 l2 r2) : x1 = x2 := by
  obtain ⟨u, D, hu, hl, hc, hb, hv, hsl, hd, htk, hm2⟩ := t_P_h hI hD hK f1 h70 h4
  have k1 := q1 u D hu hl hc hb hv hsl hd htk
  have k2 := q2 D hm2 hb hd hN1 htk
  apply Int32.toInt_inj.mp
  by_cases hy : s_LS (s_PD D (D 4)) 0 0 0 0 < 1000000000
  · rw [k1.1 hy, k2.1 hy]
  · rw [k1.2 hy, k2.2 hy]
end BSYL
/-! ===== who WAITS the most, minutes times COST ===== -/
/-- what it costs, as an act of the PLAN tells; its number; what it WAITS -/
noncomputable def s_ctw (D : s_D) (t : Int × Int × Int) : Int := if t.1 = 0 then D (55 + 5 * t.2.2.toNat) else D (84 + 3 * t.2.2.toNat)
noncomputable def s_nb (t : Int × Int × Int) : Int := if t.1 = 0 then t.2.2 else 6 + t.2.2
noncomputable def s_vl (D : s_D) (t : Int × Int × Int) : Int := (t.2.1 - s_cwm D t) * s_ctw D t
/-- among the first k acts -/
noncomputable def s_EN (D : s_D) (L : s_RL) (k : Nat) (n x : Int) : Prop := ∃ (j : Nat) (t : Int × Int × Int), j < k ∧ L[j]? = some t ∧ ¬ t.1 = 2 ∧ n = s_nb t ∧ x = s_vl D t
/-- the best of those that E tells -/
noncomputable def s_DA (E : Int → Int → Prop) (v X : Int) : Prop := (v = -1 ∧ X = 0 ∧ ∀ n x, E n x → x ≤ 0) ∨ (0 < X ∧ E v X ∧ ∀ n x, E n x → x ≤ X ∧ (x = X → v ≤ n))
section DEA
variable {n' : Int} {D : s_D} {L : s_RL} {t : Int × Int × Int} {k : Nat} {E E' : Int → Int → Prop} {v v' X X' n x y : Int} {P W : Nat → Nat → Int}
theorem s_DA_u (h : s_DA E v X) (h2 : s_DA E v' X') : v = v' := by
  rcases h with ⟨e, eX, h⟩ | ⟨hX, hE, h⟩
  · rcases h2 with ⟨e2, -, -⟩ | ⟨hX2, hE2, -⟩
    · rw [e, e2]
    · have := h _ _ hE2; omega
  · rcases h2 with ⟨e2, -, h2⟩ | ⟨hX2, hE2, h2⟩
    · have := h2 _ _ hE; omega
    · have a := h _ _ hE2
      have b := h2 _ _ hE
      have c : X = X' := by omega
      have d := a.2 c.symm
      have e := b.2 c
      omega
theorem s_DA_cg (h : s_DA E v X) (e : ∀ n x, E n x ↔ E' n x) : s_DA E' v X := by
  rcases h with ⟨e1, eX, h⟩ | ⟨hX, hE, h⟩
  · exact Or.inl ⟨e1, eX, fun n x hh => h n x ((e n x).mpr hh)⟩
  · exact Or.inr ⟨hX, (e _ _).mp hE, fun n x hh => h n x ((e n x).mpr hh)⟩
theorem s_DA_0 (h : ∀ n x, ¬ E n x) : s_DA E (-1) 0 := Or.inl ⟨rfl, rfl, fun n x hh => absurd hh (h n x)⟩
theorem s_DA_X (h : s_DA E v X) : 0 ≤ X := by rcases h with ⟨-, h, -⟩ | ⟨h, -, -⟩ <;> omega
/-- one more, that is better; one more, that is not -/
theorem s_DA_y (h : s_DA E v X) (he : ∀ n x, E' n x ↔ (E n x ∨ (n = n' ∧ x = y))) (h1 : 0 < y) (h2 : X < y ∨ (X = y ∧ n' ≤ v)) : s_DA E' n' y := by
  refine Or.inr ⟨h1, (he _ _).mpr (Or.inr ⟨rfl, rfl⟩), fun n x hh => ?_⟩
  rcases (he n x).mp hh with hE | ⟨rfl, rfl⟩
  · rcases h with ⟨e1, eX, h⟩ | ⟨hX, hE2, h⟩
    · have := h n x hE; omega
    · have h3 := h n x hE
      refine ⟨by omega, fun hx => ?_⟩
      rcases h2 with h2 | ⟨h2, h4⟩
      · omega
      · have := h3.2 (by omega); omega
  · exact ⟨Int.le_refl _, fun _ => Int.le_refl _⟩
theorem s_DA_n (h : s_DA E v X) (he : ∀ n x, E' n x → (E n x ∨ (n = n' ∧ x = y))) (he2 : ∀ n x, E n x → E' n x) (h1 : y ≤ X) (h2 : y = X → 0 < X → v ≤ n') : s_DA E' v X := by
  rcases h with ⟨e1, eX, h⟩ | ⟨hX, hE, h⟩
  · refine Or.inl ⟨e1, eX, fun n x hh => ?_⟩
    rcases he n x hh with hE | ⟨rfl, rfl⟩
    · exact h n x hE
    · omega
  · refine Or.inr ⟨hX, he2 _ _ hE, fun n x hh => ?_⟩
    rcases he n x hh with hE | ⟨rfl, rfl⟩
    · exact h n x hE
    · exact ⟨h1, fun e => h2 e hX⟩
/-- along the acts -/
theorem s_EN_0 : ∀ n x, ¬ s_EN D L 0 n x := fun n x ⟨j, t, h, _⟩ => absurd h (Nat.not_lt_zero j)
theorem s_EN_s (h : L[k]? = some t) (h2 : ¬ t.1 = 2) (n x : Int) : s_EN D L (k + 1) n x ↔ (s_EN D L k n x ∨ (n = s_nb t ∧ x = s_vl D t)) := by
  constructor
  · rintro ⟨j, u, a, b, c, d, e⟩
    by_cases hj : j = k
    · subst hj
      rw [h] at b
      cases Option.some.inj b
      exact Or.inr ⟨d, e⟩
    · exact Or.inl ⟨j, u, by omega, b, c, d, e⟩
  · rintro (⟨j, u, a, b, c, d, e⟩ | ⟨rfl, rfl⟩)
    · exact ⟨j, u, by omega, b, c, d, e⟩
    · exact ⟨k, t, Nat.lt_succ_self k, h, h2, rfl, rfl⟩
theorem s_EN_t (h : L[k]? = some t) (h2 : t.1 = 2) (n x : Int) : s_EN D L (k + 1) n x ↔ s_EN D L k n x := by
  constructor
  · rintro ⟨j, u, a, b, c, d, e⟩
    by_cases hj : j = k
    · subst hj
      rw [h] at b
      cases Option.some.inj b
      exact absurd h2 c
    · exact ⟨j, u, by omega, b, c, d, e⟩
  · rintro ⟨j, u, a, b, c, d, e⟩
    exact ⟨j, u, by omega, b, c, d, e⟩
/-- nobody begins ahead of its minute -/
theorem s_pl_B : ∀ (n : Nat) (m : Int) (o s c : Nat), (∀ (j : Nat) (t : Int × Int × Int), (s_kd 0 (s_pl P W n m o s c))[j]? = some t → P 1 (s + j) ≤ t.2.1) ∧ ∀ (j : Nat) (t : Int × Int × Int), (s_kd 1 (s_pl P W n m o s c))[j]? = some t → P 5 (c + j) ≤ t.2.1
  | 0, _, _, _, _ => ⟨fun j t h => absurd h (by intro h2; cases h2), fun j t h => absurd h (by intro h2; cases h2)⟩
  | n + 1, m, o, s, c => by
    have nil : ∀ (d : Int) (j : Nat) (t : Int × Int × Int), (s_kd d ([] : s_RL))[j]? = some t → False := fun d j t h => by cases h
    have cy : ∀ (d : Int) (t : Int × Int × Int) (L : s_RL), t.1 = d → s_kd d (t :: L) = t :: s_kd d L := fun d t L h => by unfold s_kd; rw [List.filter_cons]; simp [h]
    have cn : ∀ (d : Int) (t : Int × Int × Int) (L : s_RL), ¬ t.1 = d → s_kd d (t :: L) = s_kd d L := fun d t L h => by unfold s_kd; rw [List.filter_cons]; simp [h]
    show (∀ (j : Nat) (t : Int × Int × Int), (s_kd 0 (s_if (s_gn P s c) _ _))[j]? = some t → P 1 (s + j) ≤ t.2.1) ∧ ∀ (j : Nat) (t : Int × Int × Int), (s_kd 1 (s_if (s_gn P s c) _ _))[j]? = some t → P 5 (c + j) ≤ t.2.1
    by_cases hd : s_gn P s c
    · rw [s_ifT hd]; exact ⟨fun j t h => (nil _ j t h).elim, fun j t h => (nil _ j t h).elim⟩
    rw [s_ifF hd]
    by_cases hS : s_yS P m o s c
    · rw [s_ifT hS, cy 0 _ _ rfl, cn 1 _ _ (show ¬ (0 : Int) = 1 by decide)]
      obtain ⟨i1, i2⟩ := s_pl_B n (m + P 2 s) 1 (s + 1) c
      refine ⟨fun j t h => ?_, i2⟩
      cases j with
      | zero => rw [← Option.some.inj h]; exact hS.2.2.2.1
      | succ j => have := i1 j t h; rw [show s + (j + 1) = s + 1 + j by omega]; exact this
    rw [s_ifF hS]
    by_cases hC : s_yC P m o s c
    · rw [s_ifT hC, cn 0 _ _ (show ¬ (1 : Int) = 0 by decide), cy 1 _ _ rfl]
      obtain ⟨i1, i2⟩ := s_pl_B n (m + P 6 c) 0 s (c + 1)
      refine ⟨i1, fun j t h => ?_⟩
      cases j with
      | zero => rw [← Option.some.inj h]; exact hC.2.2.2.1
      | succ j => have := i2 j t h; rw [show c + (j + 1) = c + 1 + j by omega]; exact this
    rw [s_ifF hC]
    by_cases hr : s_LS P (m + 1) o s c = s_LS P m o s c
    · rw [s_ifT hr]; exact s_pl_B n _ _ _ _
    · rw [s_ifF hr, cn 0 _ _ (show ¬ (2 : Int) = 0 by decide), cn 1 _ _ (show ¬ (2 : Int) = 1 by decide)]
      exact s_pl_B n _ _ _ _
/-- an act of a SHIP, of a CART: all that is told -/
theorem s_PL_S {j : Nat} (h : (s_kd 0 (s_PL D))[j]? = some t) : (t.1 = 0 ∧ s_nb t = ((s_or (s_A D) (D 1).toNat j : Nat) : Int)) ∧ s_vl D t = (s_mnu (s_kd 0 (s_PL D)) j - s_PD D (D 4) 1 j) * s_PD D (D 4) 3 j ∧ s_PD D (D 4) 1 j ≤ s_mnu (s_kd 0 (s_PL D)) j := by
  obtain ⟨h1, h2, h3⟩ := s_PL_0 h
  have hb := (s_pl_B 241 0 0 0 0).1 j t h
  rw [Nat.zero_add] at hb
  rw [s_mnu_g h]
  refine ⟨⟨h1, by unfold s_nb; rw [if_pos h1, h2]⟩, ?_, hb⟩
  unfold s_vl s_ctw
  rw [h3, if_pos h1, h2, Int.toNat_natCast]
  rfl
theorem s_PL_C {j : Nat} (h : (s_kd 1 (s_PL D))[j]? = some t) : (t.1 = 1 ∧ s_nb t = 6 + ((s_or (s_B D) (D 2).toNat j : Nat) : Int)) ∧ s_vl D t = (s_mnu (s_kd 1 (s_PL D)) j - s_PD D (D 4) 5 j) * s_PD D (D 4) 7 j ∧ s_PD D (D 4) 5 j ≤ s_mnu (s_kd 1 (s_PL D)) j := by
  obtain ⟨h1, h2, h3⟩ := s_PL_1 h
  have hb := (s_pl_B 241 0 0 0 0).2 j t h
  rw [Nat.zero_add] at hb
  rw [s_mnu_g h]
  refine ⟨⟨h1, by unfold s_nb; rw [if_neg (by omega), h2]⟩, ?_, hb⟩
  unfold s_vl s_ctw
  rw [h3, if_neg (by omega), h2, Int.toNat_natCast]
  rfl
/-- the order leaves nobody twice -/
theorem s_or_inj (A : Nat → Int) : ∀ i j k : Nat, j < i → k < i → s_or A i j = s_or A i k → j = k
  | 0, j, _, h, _, _ => absurd h (Nat.not_lt_zero j)
  | i + 1, j, k, hj, hk, e => by
    have e2 : s_ins (s_or A i) i (s_pk (fun j => A (s_or A i j)) (A i) i) j = s_ins (s_or A i) i (s_pk (fun j => A (s_or A i j)) (A i) i) k := e
    have hp := s_pk_le (fun j => A (s_or A i j)) (A i) i
    generalize s_pk (fun j => A (s_or A i j)) (A i) i = p at e2 hp
    have ih := s_or_inj A i
    have lt := s_or_lt A i
    unfold s_ins at e2
    by_cases h1 : j < p
    · rw [if_pos h1] at e2
      by_cases h2 : k < p
      · rw [if_pos h2] at e2; exact ih j k (by omega) (by omega) e2
      · rw [if_neg h2] at e2
        by_cases h3 : k = p
        · rw [if_pos h3] at e2; have := lt j (by omega); omega
        · rw [if_neg h3] at e2; have := ih j (k - 1) (by omega) (by omega) e2; omega
    · rw [if_neg h1] at e2
      by_cases h4 : j = p
      · rw [if_pos h4] at e2
        by_cases h2 : k < p
        · rw [if_pos h2] at e2; have := lt k (by omega); omega
        · rw [if_neg h2] at e2
          by_cases h3 : k = p
          · omega
          · rw [if_neg h3] at e2; have := lt (k - 1) (by omega); omega
      · rw [if_neg h4] at e2
        by_cases h2 : k < p
        · rw [if_pos h2] at e2; have := ih (j - 1) k (by omega) (by omega) e2; omega
        · rw [if_neg h2] at e2
          by_cases h3 : k = p
          · rw [if_pos h3] at e2; have := lt (j - 1) (by omega); omega
          · rw [if_neg h3] at e2; have := ih (j - 1) (k - 1) (by omega) (by omega) e2; omega
/-- all acts, by places -/
theorem s_EN_p (h0 : (s_kd 0 (s_PL D)).length = (D 1).toNat) (h1 : (s_kd 1 (s_PL D)).length = (D 2).toNat) (n x : Int) : s_EN D (s_PL D) (s_PL D).length n x ↔ ((∃ s : Nat, s < (D 1).toNat ∧ n = ((s_or (s_A D) (D 1).toNat s : Nat) : Int) ∧ x = (s_mnu (s_kd 0 (s_PL D)) s - s_PD D (D 4) 1 s) * s_PD D (D 4) 3 s) ∨ ∃ c : Nat, c < (D 2).toNat ∧ n = 6 + ((s_or (s_B D) (D 2).toNat c : Nat) : Int) ∧ x = (s_mnu (s_kd 1 (s_PL D)) c - s_PD D (D 4) 5 c) * s_PD D (D 4) 7 c) := by
  constructor
  · rintro ⟨j, t, a, b, c, d, e⟩
    rcases s_PL_LP j t b with ⟨h, -⟩ | ⟨h | h, -⟩
    · exact absurd h c
    · have g := s_kd_at b h
      obtain ⟨⟨-, p1⟩, p2, -⟩ := s_PL_S g
      exact Or.inl ⟨_, h0 ▸ s_get_lt g, d.trans p1, e.trans p2⟩
    · have g := s_kd_at b h
      obtain ⟨⟨-, p1⟩, p2, -⟩ := s_PL_C g
      exact Or.inr ⟨_, h1 ▸ s_get_lt g, d.trans p1, e.trans p2⟩
  · rintro (⟨s, a, b, c⟩ | ⟨s, a, b, c⟩)
    · obtain ⟨t, ht⟩ := s_pd_g (L := s_kd 0 (s_PL D)) (k := s) (by omega)
      obtain ⟨⟨p0, p1⟩, p2, -⟩ := s_PL_S ht
      obtain ⟨j, hj⟩ := List.getElem?_of_mem (List.mem_filter.mp (List.mem_of_getElem? ht)).1
      exact ⟨j, t, s_get_lt hj, hj, by omega, b.trans p1.symm, c.trans p2.symm⟩
    · obtain ⟨t, ht⟩ := s_pd_g (L := s_kd 1 (s_PL D)) (k := s) (by omega)
      obtain ⟨⟨p0, p1⟩, p2, -⟩ := s_PL_C ht
      obtain ⟨j, hj⟩ := List.getElem?_of_mem (List.mem_filter.mp (List.mem_of_getElem? ht)).1
      exact ⟨j, t, s_get_lt hj, hj, by omega, b.trans p1.symm, c.trans p2.symm⟩
end DEA
/-- what a search by number tells (a name for it: so that nothing else looks into it) -/
noncomputable def s_wbn (n : Int) (w b a c : Nat → Int32) (i v : Int) : Prop := (∃ k : Nat, (k : Int) < n ∧ (w k).toInt = i ∧ s_wts (k : Int) n (b k).toInt (a k).toInt (c k).toInt v) ∨ (v = 0 ∧ ∀ k : Nat, (k : Int) < n → (w k).toInt ≠ i)
section DEC
variable {g : Nat → Nat → Int32} {r : Nat → Nat → Value} {D : s_D} {t : Int × Int × Int} {k : Nat} {i y : Int}
/-- the class, by numbers: a SHIP, a CART -/
theorem s_dwS (hcp : s_CP (s_PD D (D 4)) g r) (hw : s_W1 g (s_PD D (D 4)) (s_WD D)) (hO : s_PO (s_PD D (D 4))) (hB : s_PB (s_PD D (D 4))) (hm : s_Lm (s_PL D)) (hC : s_C1 g (D 1).toNat (D 2).toNat (s_PL D)) (h6 : i < 6)
    (q : s_wbn (g 29 0).toInt (g 30) (g 43) (g 31) (g 33) i y) : (∀ x, s_EN D (s_PL D) (s_PL D).length i x → x = y) ∧ (0 < y → s_EN D (s_PL D) (s_PL D).length i y) := by
  have e0 : s_PD D (D 4) 0 0 = (((D 1).toNat : Nat) : Int) := rfl
  have n0 := hcp.1.1
  have hp := fun x => s_EN_p (D := D) hC.2.1.1 hC.2.1.2 i x
  rcases q with ⟨k, a, b, c⟩ | ⟨hy, hn⟩
  · have hk : k < (D 1).toNat := by omega
    have hwk : (g 30 k).toInt = ((s_or (s_A D) (D 1).toNat k : Nat) : Int) := hw.1 k (by omega)
    obtain ⟨p1, p2, p3, p4⟩ := hcp.2.1 k (by omega)
    obtain ⟨t, ht⟩ := s_pd_g (L := s_kd 0 (s_PL D)) (k := k) (by rw [hC.2.1.1]; exact hk)
    have hle := (s_PL_S ht).2.2
    have hmb := s_mnu_b hm 0 k
    have ho := hO.1 k (by omega)
    have hb := hB.2.1 k (by omega)
    have hg := hC.2.2.1 k hk
    unfold s_wts at c
    rw [p1, p3, hg] at c
    have hv := (c (by omega) a hle (by omega) ho.2.2 hb.2.2).1
    refine ⟨fun x hx => ?_, fun _ => (hp y).mpr (Or.inl ⟨k, hk, by omega, hv⟩)⟩
    rcases (hp x).mp hx with ⟨s, s1, s2, s3⟩ | ⟨s, s1, s2, s3⟩
    · have hs : s = k := s_or_inj (s_A D) _ _ _ s1 hk (by omega)
      rw [s3, hs, hv]
    · omega
  · refine ⟨fun x hx => ?_, fun h => absurd h (by omega)⟩
    rcases (hp x).mp hx with ⟨s, s1, s2, s3⟩ | ⟨s, s1, s2, s3⟩
    · have h1 := hn s (by omega)
      have h2 : (g 30 s).toInt = ((s_or (s_A D) (D 1).toNat s : Nat) : Int) := hw.1 s (by omega)
      omega
    · omega
theorem s_dwC (hcp : s_CP (s_PD D (D 4)) g r) (hw : s_W1 g (s_PD D (D 4)) (s_WD D)) (hO : s_PO (s_PD D (D 4))) (hB : s_PB (s_PD D (D 4))) (hm : s_Lm (s_PL D)) (hC : s_C1 g (D 1).toNat (D 2).toNat (s_PL D)) (hD1 : D 1 ≤ 6) (h6 : 0 ≤ i)
    (q : s_wbn (g 35 0).toInt (g 36) (g 44) (g 37) (g 39) i y) : (∀ x, s_EN D (s_PL D) (s_PL D).length (6 + i) x → x = y) ∧ (0 < y → s_EN D (s_PL D) (s_PL D).length (6 + i) y) := by
  have e0 : s_PD D (D 4) 0 1 = (((D 2).toNat : Nat) : Int) := rfl
  have n0 := hcp.1.2
  have hp := fun x => s_EN_p (D := D) hC.2.1.1 hC.2.1.2 (6 + i) x
  rcases q with ⟨k, a, b, c⟩ | ⟨hy, hn⟩
  · have hk : k < (D 2).toNat := by omega
    have hwk : (g 36 k).toInt = ((s_or (s_B D) (D 2).toNat k : Nat) : Int) := hw.2 k (by omega)
    obtain ⟨p1, p2, p3, p4⟩ := hcp.2.2.1 k (by omega)
    obtain ⟨t, ht⟩ := s_pd_g (L := s_kd 1 (s_PL D)) (k := k) (by rw [hC.2.1.2]; exact hk)
    have hle := (s_PL_C ht).2.2
    have hmb := s_mnu_b hm 1 k
    have ho := hO.2.1 k (by omega)
    have hb := hB.2.2.1 k (by omega)
    have hg := hC.2.2.2 k hk
    unfold s_wts at c
    rw [p1, p3, hg] at c
    have hv := (c (by omega) a hle (by omega) ho.2.2 hb.2.2).1
    refine ⟨fun x hx => ?_, fun _ => (hp y).mpr (Or.inr ⟨k, hk, by omega, hv⟩)⟩
    rcases (hp x).mp hx with ⟨s, s1, s2, s3⟩ | ⟨s, s1, s2, s3⟩
    · have hlt := s_or_lt (s_A D) _ _ s1
      omega
    · have hs : s = k := s_or_inj (s_B D) _ _ _ s1 hk (by omega)
      rw [s3, hs, hv]
  · refine ⟨fun x hx => ?_, fun h => absurd h (by omega)⟩
    rcases (hp x).mp hx with ⟨s, s1, s2, s3⟩ | ⟨s, s1, s2, s3⟩
    · have hlt := s_or_lt (s_A D) _ _ s1
      omega
    · have h1 := hn s (by omega)
      have h2 : (g 36 s).toInt = ((s_or (s_B D) (D 2).toNat s : Nat) : Int) := hw.2 s (by omega)
      omega
/-- those below a number -/
noncomputable def s_EK (E : Int → Int → Prop) (k n x : Int) : Prop := E n x ∧ n < k
theorem s_EK_y {E : Int → Int → Prop} {v X k k' y : Int} (h : s_DA (s_EK E k) v X) (hk : k' = k + 1) (hu : ∀ x, E k x → x = y) (hE : 0 < y → E k y) (h1 : X < y) : s_DA (s_EK E k') k y := by
  have h0 := s_DA_X h
  have hy : 0 < y := by omega
  refine s_DA_y (n' := k) (y := y) h (fun n x => ⟨fun hh => ?_, fun hh => ?_⟩) hy (Or.inl h1)
  · by_cases hn : n < k
    · exact Or.inl ⟨hh.1, hn⟩
    · have e : n = k := by have := hh.2; omega
      rw [e] at hh
      exact Or.inr ⟨e, hu x hh.1⟩
  · rcases hh with ⟨a, b⟩ | ⟨rfl, rfl⟩
    · exact ⟨a, by omega⟩
    · exact ⟨hE hy, by omega⟩
theorem s_EK_n {E : Int → Int → Prop} {v X k k' y : Int} (h : s_DA (s_EK E k) v X) (hk : k' = k + 1) (hu : ∀ x, E k x → x = y) (h1 : y ≤ X) : s_DA (s_EK E k') v X := by
  refine s_DA_n (n' := k) (y := y) h (fun n x hh => ?_) (fun n x hh => ⟨hh.1, by have := hh.2; omega⟩) h1 (fun _ hX => ?_)
  · by_cases hn : n < k
    · exact Or.inl ⟨hh.1, hn⟩
    · have e : n = k := by have := hh.2; omega
      rw [e] at hh
      exact Or.inr ⟨e, hu x hh.1⟩
  · rcases h with ⟨-, e, -⟩ | ⟨-, hE, -⟩
    · omega
    · have := hE.2; omega
/-- what it costs, as the other side keeps it -/
theorem s_ct_S (hX : s_FX g D) (hp : s_P4 g (s_PL D)) (h : (s_PL D)[k]? = some t) (h0 : t.1 = 0) : (g 70 (55 + 5 * (g 95 k).toNatClampNeg)).toInt = s_ctw D t := by
  have hat := s_kd_at h h0
  obtain ⟨-, h2, -⟩ := s_PL_0 hat
  obtain ⟨⟨hT, hW⟩, l0, l1⟩ := hX
  have hj := s_get_lt hat
  have e00 : s_PD D (D 4) 0 0 = (((D 1).toNat : Nat) : Int) := rfl
  have hS := hT.1.1
  have hj2 : (s_kd 0 ((s_PL D).take k)).length < t_S g := by omega
  have p1 := (hT.2.1 _ hj2).2.2.1
  have w := hW.2.1 _ hj2
  have hw : (g 95 k).toInt = t.2.2 := (hp.2 k t h).2.2
  have e : (g 95 k).toNatClampNeg = t_si g (s_kd 0 ((s_PL D).take k)).length := by
    have c := t_clamp (i := g 95 k) (by rw [hw, h2]; omega)
    unfold t_si
    have w2 : (g 90 (s_kd 0 ((s_PL D).take k)).length).toInt = ((s_or (s_A D) (D 1).toNat (s_kd 0 ((s_PL D).take k)).length : Nat) : Int) := w
    omega
  unfold s_ctw
  rw [if_pos h0, h2, Int.toNat_natCast, e]
  exact p1.symm
theorem s_ct_C (hX : s_FX g D) (hp : s_P4 g (s_PL D)) (h : (s_PL D)[k]? = some t) (h0 : t.1 = 1) : (g 70 (84 + 3 * (g 95 k).toNatClampNeg)).toInt = s_ctw D t := by
  have hat := s_kd_at h h0
  obtain ⟨-, h2, -⟩ := s_PL_1 hat
  obtain ⟨⟨hT, hW⟩, l0, l1⟩ := hX
  have hj := s_get_lt hat
  have e00 : s_PD D (D 4) 0 1 = (((D 2).toNat : Nat) : Int) := rfl
  have hS := hT.1.2
  have hj2 : (s_kd 1 ((s_PL D).take k)).length < t_C g := by omega
  have p1 := (hT.2.2.1 _ hj2).2.2
  have w := hW.2.2 _ hj2
  have hw : (g 95 k).toInt = t.2.2 := (hp.2 k t h).2.2
  have e : (g 95 k).toNatClampNeg = t_ci g (s_kd 1 ((s_PL D).take k)).length := by
    have c := t_clamp (i := g 95 k) (by rw [hw, h2]; omega)
    unfold t_ci
    have w2 : (g 91 (s_kd 1 ((s_PL D).take k)).length).toInt = ((s_or (s_B D) (D 2).toNat (s_kd 1 ((s_PL D).take k)).length : Nat) : Int) := w
    omega
  unfold s_ctw
  rw [if_neg (by omega), h2, Int.toNat_natCast, e]
  exact p1.symm
/-- the bounds of an act -/
theorem s_ac_b (hO : s_PO (s_PD D (D 4))) (hB : s_PB (s_PD D (D 4))) (l0 : (s_kd 0 (s_PL D)).length = (D 1).toNat) (l1 : (s_kd 1 (s_PL D)).length = (D 2).toNat) (h : (s_PL D)[k]? = some t) (h2 : t.1 = 0 ∨ t.1 = 1) : (0 ≤ s_cwm D t ∧ s_cwm D t ≤ t.2.1) ∧ 0 ≤ s_ctw D t ∧ s_ctw D t ≤ 1000 := by
  have e00 : s_PD D (D 4) 0 0 = (((D 1).toNat : Nat) : Int) := rfl
  have e01 : s_PD D (D 4) 0 1 = (((D 2).toNat : Nat) : Int) := rfl
  rcases h2 with h0 | h0
  · have hat := s_kd_at h h0
    have hj := s_get_lt hat
    have a := hO.1 (s_kd 0 ((s_PL D).take k)).length (by omega)
    have b := hB.2.1 (s_kd 0 ((s_PL D).take k)).length (by omega)
    have c := (s_PL_S hat).2.2
    have d := s_PL_0 hat
    have e : s_ctw D t = s_PD D (D 4) 3 (s_kd 0 ((s_PL D).take k)).length := by
      unfold s_ctw; rw [if_pos h0, d.2.1, Int.toNat_natCast]; rfl
    rw [s_mnu_g hat] at c
    rw [d.2.2, e]; omega
  · have hat := s_kd_at h h0
    have hj := s_get_lt hat
    have a := hO.2.1 (s_kd 1 ((s_PL D).take k)).length (by omega)
    have b := hB.2.2.1 (s_kd 1 ((s_PL D).take k)).length (by omega)
    have c := (s_PL_C hat).2.2
    have d := s_PL_1 hat
    have e : s_ctw D t = s_PD D (D 4) 7 (s_kd 1 ((s_PL D).take k)).length := by
      unfold s_ctw; rw [if_neg (by omega), d.2.1, Int.toNat_natCast]; rfl
    rw [s_mnu_g hat] at c
    rw [d.2.2, e]; omega
end DEC
/-! ===== printed by riv.py: dearest: the class ===== -/
noncomputable def wl_d_waitsByNumber_29 : List (Nat × Nat) := []
noncomputable def Q_d_waitsByNumber_29 (gi : Nat → Nat → Int32) (gl : Nat → Nat → Int64) (gr : Nat → Nat → Value) (ar2 : Int32) : Int32 → (Nat → Nat → Int32) → (Nat → Nat → Int64) → (Nat → Nat → Value) → Prop := fun (v : Int32) (gi2 : Nat → Nat → Int32) (gl2 : Nat → Nat → Int64) (gr2 : Nat → Nat → Value) => s_wbn (gi 29 0).toInt (gi 30) (gi 43) (gi 31) (gi 33) ar2.toInt v.toInt
theorem c_d_waitsByNumber_29 {X : x_Ext} {d : Nat} {sh : List (Nat ⊕ (Nat × Nat))} {gi : Nat → Nat → Int32} {gl : Nat → Nat → Int64} {gr : Nat → Nat → Value} (hI : t_I sh gi gr) (ar2 : Int32) : x_Me X (d + 2) n_X1_waitsByNumber [.ref 29, .ref 43, .int ar2] (sh, gi, gl, gr) (t_PI wl_d_waitsByNumber_29 sh gi gl gr (-2147483648) 2147483647 (Q_d_waitsByNumber_29 gi gl gr ar2)) := by
  have hX : t_X wl_d_waitsByNumber_29 sh gi gl gr gi gl gr := t_X.rf
  refine me_s f_X1_waitsByNumber rfl rfl ?_
  obtain ⟨l1, u1⟩ := hI.b (hI.wf.s (k := 29) rfl) (t_bdK rfl : t_bd 3 0 = some (0, 6))
  refine ev_ic f_X1_waitsByNumber (nx := 1) (v := 0) rfl (by decide) rfl ?_
  refine ev_loc f_X1_waitsByNumber (nx := 2) (lo' := [(3, .int 0), (0, .ref 29), (1, .ref 43), (2, .int ar2)]) rfl rfl rfl rfl ?_
  have L2 : ∀ (m2 : Nat) (y2_3 : Int32), 0 ≤ y2_3.toInt → y2_3.toInt ≤ 6 → (∀ k : Nat, (k : Int) < y2_3.toInt → (gi 30 k).toInt ≠ ar2.toInt) ∧ y2_3.toInt ≤ (gi 29 0).toInt → (6 - y2_3.toInt).toNat = m2 → x_Ev X (d + 2) n_X1_waitsByNumber 2 [(3, .int y2_3), (0, .ref 29), (1, .ref 43), (2, .int ar2)] [] (sh, gi, gl, gr) (t_PI wl_d_waitsByNumber_29 sh gi gl gr (-2147483648) 2147483647 (Q_d_waitsByNumber_29 gi gl gr ar2)) := by
    intro m2
    induction m2 using Nat.strongRecOn with
    | _ m2 ih2 =>
    intro y2_3 l2_3 u2_3 j2_0 hm2
    refine ev_loc f_X1_waitsByNumber (nx := 3) rfl rfl rfl rfl ?_
    refine ev_loc f_X1_waitsByNumber (nx := 4) rfl rfl rfl rfl ?_
    refine ev_gvI f_X1_waitsByNumber (nx := 7) (w := (gi 29 0)) rfl (hI.wf.s rfl) rfl rfl rfl rfl ?_
    refine ev_if f_X1_waitsByNumber (t1 := 41) (t2 := 10) rfl rfl rfl (fun h3 => ?_) (fun h3 => ?_)
    · have r4 : (gi 29 0).toInt ≤ y2_3.toInt := Int32.le_iff_toInt_le.mp h3
      refine ev_ic f_X1_waitsByNumber (nx := 42) (v := 0) rfl (by decide) rfl ?_
      exact ev_ret f_X1_waitsByNumber rfl rfl rfl ⟨_, _, _, rfl, hI, hX, ⟨_, rfl, (Int.le_trans (by decide : ((-2147483648):Int) ≤ 0) (by decide : (0:Int) ≤ (0:Int32).toInt)), (Int.le_trans (by decide : (0:Int32).toInt ≤ (0:Int)) (by decide : (0:Int) ≤ 2147483647)), (show s_wbn (gi 29 0).toInt (gi 30) (gi 43) (gi 31) (gi 33) ar2.toInt (0 : Int) from (by
                                                            obtain ⟨g1, g2⟩ := j2_0
                                                            have cy := t_clamp (i := y2_3) (by omega)
                                                            unfold s_wbn
                                                            exact Or.inr ⟨rfl, fun k hk => g1 k (by omega)⟩))⟩⟩
    · have r5 : y2_3.toInt < (gi 29 0).toInt := Int32.lt_iff_toInt_lt.mp (t_nle h3)
      have u6 : y2_3.toInt ≤ 5 := t_ltu (t_nle h3) u1 rfl
      have l7 : 1 ≤ (gi 29 0).toInt := t_ltl (t_nle h3) l2_3 rfl
      refine ev_loc f_X1_waitsByNumber (nx := 11) rfl rfl rfl rfl ?_
      refine ev_loc f_X1_waitsByNumber (nx := 12) rfl rfl rfl rfl ?_
      refine ev_alenv f_X1_waitsByNumber (nx := 13) (w := 6) rfl (hI.wf.s rfl) rfl (by decide) rfl ?_
      refine ev_f f_X1_waitsByNumber (t1 := 41) (t2 := 16) rfl rfl rfl (t_leF u6 (by decide : (6:Int) ≤ (6:Int32).toInt) (by decide)) ?_
      refine ev_loc f_X1_waitsByNumber (nx := 17) rfl rfl rfl rfl ?_
      refine ev_getR f_X1_waitsByNumber (nx := 20) rfl (hI.wf.s rfl) rfl rfl (hI.wf.r rfl) rfl rfl ?_
      refine ev_loc f_X1_waitsByNumber (nx := 21) rfl rfl rfl rfl ?_
      refine ev_ialdT f_X1_waitsByNumber (nx := 22) rfl (hI.wf.s rfl) l2_3 (by decide) u6 (by decide) rfl (fun w8 e8 => ?_)
      refine ev_loc f_X1_waitsByNumber (nx := 23) rfl rfl rfl rfl ?_
      refine ev_if f_X1_waitsByNumber (t1 := 26) (t2 := 35) rfl rfl rfl (fun h9 => ?_) (fun h9 => ?_)
      · have r10 : w8.toInt = ar2.toInt := t_eqi h9
        refine ev_loc f_X1_waitsByNumber (nx := 27) rfl rfl rfl rfl ?_
        refine ev_loc f_X1_waitsByNumber (nx := 28) rfl rfl rfl rfl ?_
        refine ev_loc f_X1_waitsByNumber (nx := 29) rfl rfl rfl rfl ?_
        refine ev_loc f_X1_waitsByNumber (nx := 30) rfl rfl rfl rfl ?_
        refine ev_ialdT f_X1_waitsByNumber (nx := 31) rfl (hI.wf.s rfl) l2_3 (by decide) u6 (by decide) rfl (fun w11 e11 => ?_)
        refine ev_qI0 f_X1_waitsByNumber (nx := 34) (r := []) rfl rfl rfl rfl rfl rfl rfl (c_d_waitsOf_29 hI (y2_3) (w11)) rfl (fun w12 l12 u12 q12 => ?_)
        have q12 : s_wts y2_3.toInt (gi 29 0).toInt w11.toInt (gi 31 y2_3.toNatClampNeg).toInt (gi 33 y2_3.toNatClampNeg).toInt w12.toInt := q12
        exact ev_ret f_X1_waitsByNumber rfl rfl rfl ⟨_, _, _, rfl, hI, hX, ⟨_, rfl, l12, u12, (show s_wbn (gi 29 0).toInt (gi 30) (gi 43) (gi 31) (gi 33) ar2.toInt w12.toInt from (by
                                                            obtain ⟨g1, g2⟩ := j2_0
                                                            have cy := t_clamp (i := y2_3) (by omega)
                                                            have ew : w8.toInt = (gi 30 y2_3.toNatClampNeg).toInt := by rw [e8]
                                                            have hq := q12
                                                            have eb := e11
                                                            rw [eb, ← cy] at hq
                                                            unfold s_wbn
                                                            exact Or.inl ⟨y2_3.toNatClampNeg, by omega, by omega, hq⟩))⟩⟩
      · have r13 : w8.toInt ≠ ar2.toInt := t_nei h9
        refine ev_incR f_X1_waitsByNumber (nx := 38) (c := 1) (l := 1) (u := 6) rfl rfl (by decide) (by decide) l2_3 u6 rfl rfl (by decide) (by decide) rfl (fun z14 e14 l14 u14 => ?_)
        refine ev_jmp f_X1_waitsByNumber (nx := 2) rfl rfl rfl ?_
        refine ev_sub (lo := [(3, .int z14), (0, .ref 29), (1, .ref 43), (2, .int ar2)]) rfl (t_sc rfl (t_sc rfl (t_sc rfl (t_sc rfl t_sn)))) ?_
        exact ih2 _ (by omega) (z14) (Int.le_trans (by decide : (0:Int) ≤ 1) l14) u14 (by
                                                            obtain ⟨g1, g2⟩ := j2_0
                                                            have cy := t_clamp (i := y2_3) (by omega)
                                                            have ew : w8.toInt = (gi 30 y2_3.toNatClampNeg).toInt := by rw [e8]
                                                            refine ⟨fun k hk => ?_, by omega⟩
                                                            by_cases hky : k = y2_3.toNatClampNeg
                                                            · rw [hky]; omega
                                                            · exact g1 k (by omega)) rfl
  refine ev_sub (lo := [(3, .int 0), (0, .ref 29), (1, .ref 43), (2, .int ar2)]) rfl (t_sc rfl (t_sc rfl (t_sc rfl (t_sc rfl t_sn)))) ?_
  exact L2 _ (0) (by decide : (0:Int) ≤ (0:Int32).toInt) (Int.le_trans (by decide : (0:Int32).toInt ≤ (0:Int)) (by decide : (0:Int) ≤ 6)) (by
                                                            have z0 : (0 : Int32).toInt = 0 := rfl
                                                            exact ⟨fun k hk => absurd hk (by omega), by omega⟩) rfl
noncomputable def wl_d_waitsByNumber_35 : List (Nat × Nat) := []
noncomputable def Q_d_waitsByNumber_35 (gi : Nat → Nat → Int32) (gl : Nat → Nat → Int64) (gr : Nat → Nat → Value) (ar2 : Int32) : Int32 → (Nat → Nat → Int32) → (Nat → Nat → Int64) → (Nat → Nat → Value) → Prop := fun (v : Int32) (gi2 : Nat → Nat → Int32) (gl2 : Nat → Nat → Int64) (gr2 : Nat → Nat → Value) => s_wbn (gi 35 0).toInt (gi 36) (gi 44) (gi 37) (gi 39) ar2.toInt v.toInt
theorem c_d_waitsByNumber_35 {X : x_Ext} {d : Nat} {sh : List (Nat ⊕ (Nat × Nat))} {gi : Nat → Nat → Int32} {gl : Nat → Nat → Int64} {gr : Nat → Nat → Value} (hI : t_I sh gi gr) (ar2 : Int32) : x_Me X (d + 2) n_X1_waitsByNumber [.ref 35, .ref 44, .int ar2] (sh, gi, gl, gr) (t_PI wl_d_waitsByNumber_35 sh gi gl gr (-2147483648) 2147483647 (Q_d_waitsByNumber_35 gi gl gr ar2)) := by
  have hX : t_X wl_d_waitsByNumber_35 sh gi gl gr gi gl gr := t_X.rf
  refine me_s f_X1_waitsByNumber rfl rfl ?_
  obtain ⟨l1, u1⟩ := hI.b (hI.wf.s (k := 35) rfl) (t_bdK rfl : t_bd 3 0 = some (0, 6))
  refine ev_ic f_X1_waitsByNumber (nx := 1) (v := 0) rfl (by decide) rfl ?_
  refine ev_loc f_X1_waitsByNumber (nx := 2) (lo' := [(3, .int 0), (0, .ref 35), (1, .ref 44), (2, .int ar2)]) rfl rfl rfl rfl ?_
  have L2 : ∀ (m2 : Nat) (y2_3 : Int32), 0 ≤ y2_3.toInt → y2_3.toInt ≤ 6 → (∀ k : Nat, (k : Int) < y2_3.toInt → (gi 36 k).toInt ≠ ar2.toInt) ∧ y2_3.toInt ≤ (gi 35 0).toInt → (6 - y2_3.toInt).toNat = m2 → x_Ev X (d + 2) n_X1_waitsByNumber 2 [(3, .int y2_3), (0, .ref 35), (1, .ref 44), (2, .int ar2)] [] (sh, gi, gl, gr) (t_PI wl_d_waitsByNumber_35 sh gi gl gr (-2147483648) 2147483647 (Q_d_waitsByNumber_35 gi gl gr ar2)) := by
    intro m2
    induction m2 using Nat.strongRecOn with
    | _ m2 ih2 =>
    intro y2_3 l2_3 u2_3 j2_0 hm2
    refine ev_loc f_X1_waitsByNumber (nx := 3) rfl rfl rfl rfl ?_
    refine ev_loc f_X1_waitsByNumber (nx := 4) rfl rfl rfl rfl ?_
    refine ev_gvI f_X1_waitsByNumber (nx := 7) (w := (gi 35 0)) rfl (hI.wf.s rfl) rfl rfl rfl rfl ?_
    refine ev_if f_X1_waitsByNumber (t1 := 41) (t2 := 10) rfl rfl rfl (fun h3 => ?_) (fun h3 => ?_)
    · have r4 : (gi 35 0).toInt ≤ y2_3.toInt := Int32.le_iff_toInt_le.mp h3
      refine ev_ic f_X1_waitsByNumber (nx := 42) (v := 0) rfl (by decide) rfl ?_
      exact ev_ret f_X1_waitsByNumber rfl rfl rfl ⟨_, _, _, rfl, hI, hX, ⟨_, rfl, (Int.le_trans (by decide : ((-2147483648):Int) ≤ 0) (by decide : (0:Int) ≤ (0:Int32).toInt)), (Int.le_trans (by decide : (0:Int32).toInt ≤ (0:Int)) (by decide : (0:Int) ≤ 2147483647)), (show s_wbn (gi 35 0).toInt (gi 36) (gi 44) (gi 37) (gi 39) ar2.toInt (0 : Int) from (by
                                                            obtain ⟨g1, g2⟩ := j2_0
                                                            have cy := t_clamp (i := y2_3) (by omega)
                                                            unfold s_wbn
                                                            exact Or.inr ⟨rfl, fun k hk => g1 k (by omega)⟩))⟩⟩
    · have r5 : y2_3.toInt < (gi 35 0).toInt := Int32.lt_iff_toInt_lt.mp (t_nle h3)
      have u6 : y2_3.toInt ≤ 5 := t_ltu (t_nle h3) u1 rfl
      have l7 : 1 ≤ (gi 35 0).toInt := t_ltl (t_nle h3) l2_3 rfl
      refine ev_loc f_X1_waitsByNumber (nx := 11) rfl rfl rfl rfl ?_
      refine ev_loc f_X1_waitsByNumber (nx := 12) rfl rfl rfl rfl ?_
      refine ev_alenv f_X1_waitsByNumber (nx := 13) (w := 6) rfl (hI.wf.s rfl) rfl (by decide) rfl ?_
      refine ev_f f_X1_waitsByNumber (t1 := 41) (t2 := 16) rfl rfl rfl (t_leF u6 (by decide : (6:Int) ≤ (6:Int32).toInt) (by decide)) ?_
      refine ev_loc f_X1_waitsByNumber (nx := 17) rfl rfl rfl rfl ?_
      refine ev_getR f_X1_waitsByNumber (nx := 20) rfl (hI.wf.s rfl) rfl rfl (hI.wf.r rfl) rfl rfl ?_
      refine ev_loc f_X1_waitsByNumber (nx := 21) rfl rfl rfl rfl ?_
      refine ev_ialdT f_X1_waitsByNumber (nx := 22) rfl (hI.wf.s rfl) l2_3 (by decide) u6 (by decide) rfl (fun w8 e8 => ?_)
      refine ev_loc f_X1_waitsByNumber (nx := 23) rfl rfl rfl rfl ?_
      refine ev_if f_X1_waitsByNumber (t1 := 26) (t2 := 35) rfl rfl rfl (fun h9 => ?_) (fun h9 => ?_)
      · have r10 : w8.toInt = ar2.toInt := t_eqi h9
        refine ev_loc f_X1_waitsByNumber (nx := 27) rfl rfl rfl rfl ?_
        refine ev_loc f_X1_waitsByNumber (nx := 28) rfl rfl rfl rfl ?_
        refine ev_loc f_X1_waitsByNumber (nx := 29) rfl rfl rfl rfl ?_
        refine ev_loc f_X1_waitsByNumber (nx := 30) rfl rfl rfl rfl ?_
        refine ev_ialdT f_X1_waitsByNumber (nx := 31) rfl (hI.wf.s rfl) l2_3 (by decide) u6 (by decide) rfl (fun w11 e11 => ?_)
        refine ev_qI0 f_X1_waitsByNumber (nx := 34) (r := []) rfl rfl rfl rfl rfl rfl rfl (c_d_waitsOf_35 hI (y2_3) (w11)) rfl (fun w12 l12 u12 q12 => ?_)
        have q12 : s_wts y2_3.toInt (gi 35 0).toInt w11.toInt (gi 37 y2_3.toNatClampNeg).toInt (gi 39 y2_3.toNatClampNeg).toInt w12.toInt := q12
        exact ev_ret f_X1_waitsByNumber rfl rfl rfl ⟨_, _, _, rfl, hI, hX, ⟨_, rfl, l12, u12, (show s_wbn (gi 35 0).toInt (gi 36) (gi 44) (gi 37) (gi 39) ar2.toInt w12.toInt from (by
                                                            obtain ⟨g1, g2⟩ := j2_0
                                                            have cy := t_clamp (i := y2_3) (by omega)
                                                            have ew : w8.toInt = (gi 36 y2_3.toNatClampNeg).toInt := by rw [e8]
                                                            have hq := q12
                                                            have eb := e11
                                                            rw [eb, ← cy] at hq
                                                            unfold s_wbn
                                                            exact Or.inl ⟨y2_3.toNatClampNeg, by omega, by omega, hq⟩))⟩⟩
      · have r13 : w8.toInt ≠ ar2.toInt := t_nei h9
        refine ev_incR f_X1_waitsByNumber (nx := 38) (c := 1) (l := 1) (u := 6) rfl rfl (by decide) (by decide) l2_3 u6 rfl rfl (by decide) (by decide) rfl (fun z14 e14 l14 u14 => ?_)
        refine ev_jmp f_X1_waitsByNumber (nx := 2) rfl rfl rfl ?_
        refine ev_sub (lo := [(3, .int z14), (0, .ref 35), (1, .ref 44), (2, .int ar2)]) rfl (t_sc rfl (t_sc rfl (t_sc rfl (t_sc rfl t_sn)))) ?_
        exact ih2 _ (by omega) (z14) (Int.le_trans (by decide : (0:Int) ≤ 1) l14) u14 (by
                                                            obtain ⟨g1, g2⟩ := j2_0
                                                            have cy := t_clamp (i := y2_3) (by omega)
                                                            have ew : w8.toInt = (gi 36 y2_3.toNatClampNeg).toInt := by rw [e8]
                                                            refine ⟨fun k hk => ?_, by omega⟩
                                                            by_cases hky : k = y2_3.toNatClampNeg
                                                            · rw [hky]; omega
                                                            · exact g1 k (by omega)) rfl
  refine ev_sub (lo := [(3, .int 0), (0, .ref 35), (1, .ref 44), (2, .int ar2)]) rfl (t_sc rfl (t_sc rfl (t_sc rfl (t_sc rfl t_sn)))) ?_
  exact L2 _ (0) (by decide : (0:Int) ≤ (0:Int32).toInt) (Int.le_trans (by decide : (0:Int32).toInt ≤ (0:Int)) (by decide : (0:Int) ≤ 6)) (by
                                                            have z0 : (0 : Int32).toInt = 0 := rfl
                                                            exact ⟨fun k hk => absurd hk (by omega), by omega⟩) rfl
noncomputable def wl_d_dearestByPlan : List (Nat × Nat) := []
noncomputable def Q_d_dearestByPlan (gi : Nat → Nat → Int32) (gl : Nat → Nat → Int64) (gr : Nat → Nat → Value) (ar1 : Nat) : Int32 → (Nat → Nat → Int32) → (Nat → Nat → Int64) → (Nat → Nat → Value) → Prop := fun (v : Int32) (gi2 : Nat → Nat → Int32) (gl2 : Nat → Nat → Int64) (gr2 : Nat → Nat → Value) => ∀ D : s_D, t_VL gr ar1 → t_CV gi gl ar1 D → t_Cb D → s_CP (s_PD D (D 4)) gi gr → s_W1 gi (s_PD D (D 4)) (s_WD D) → s_PO (s_PD D (D 4)) → s_PB (s_PD D (D 4)) → s_Lm (s_PL D) → s_C1 gi (D 1).toNat (D 2).toNat (s_PL D) → ∃ X, s_DA (s_EN D (s_PL D) (s_PL D).length) v.toInt X
theorem c_d_dearestByPlan {X : x_Ext} {d : Nat} {sh : List (Nat ⊕ (Nat × Nat))} {gi : Nat → Nat → Int32} {gl : Nat → Nat → Int64} {gr : Nat → Nat → Value} (hI : t_I sh gi gr) (ar1 : Nat) (p_a1 : t_Rv sh gr ar1) : x_Me X (d + 3) n_X1_dearestByPlan [.ref 28, .ref ar1] (sh, gi, gl, gr) (t_PI wl_d_dearestByPlan sh gi gl gr (-1) 11 (Q_d_dearestByPlan gi gl gr ar1)) := by
  have hX : t_X wl_d_dearestByPlan sh gi gl gr gi gl gr := t_X.rf
  refine me_i f_X1_dearestByPlan (hI.wf.s rfl) rfl rfl rfl ?_
  refine ev_ic f_X1_dearestByPlan (nx := 1) (v := 0) rfl (by decide) rfl ?_
  refine ev_loc f_X1_dearestByPlan (nx := 2) (lo' := [(2, .int 0), (0, .ref 28), (1, .ref ar1)]) rfl rfl rfl rfl ?_
  refine ev_ic f_X1_dearestByPlan (nx := 3) (v := -1) rfl (by decide) rfl ?_
  refine ev_loc f_X1_dearestByPlan (nx := 4) (lo' := [(3, .int (-1)), (2, .int 0), (0, .ref 28), (1, .ref ar1)]) rfl rfl rfl rfl ?_
  refine ev_ic f_X1_dearestByPlan (nx := 5) (v := 0) rfl (by decide) rfl ?_
  refine ev_loc f_X1_dearestByPlan (nx := 7) (lo' := [(4, .int 0), (3, .int (-1)), (2, .int 0), (0, .ref 28), (1, .ref ar1)]) rfl rfl rfl rfl ?_
  have L1 : ∀ (m1 : Nat) (y1_4 : Int32) (y1_3 : Int32) (y1_2 : Int32), 0 ≤ y1_4.toInt → y1_4.toInt ≤ 6 → (-1) ≤ y1_3.toInt → y1_3.toInt ≤ 11 → 0 ≤ y1_2.toInt → (∀ D : s_D, t_VL gr ar1 → t_CV gi gl ar1 D → t_Cb D → s_CP (s_PD D (D 4)) gi gr → s_W1 gi (s_PD D (D 4)) (s_WD D) → s_PO (s_PD D (D 4)) → s_PB (s_PD D (D 4)) → s_Lm (s_PL D) → s_C1 gi (D 1).toNat (D 2).toNat (s_PL D) → s_DA (s_EK (s_EN D (s_PL D) (s_PL D).length) y1_4.toInt) y1_3.toInt y1_2.toInt) → (6 - y1_4.toInt).toNat = m1 → x_Ev X (d + 3) n_X1_dearestByPlan 7 [(4, .int y1_4), (3, .int y1_3), (2, .int y1_2), (0, .ref 28), (1, .ref ar1)] [] (sh, gi, gl, gr) (t_PI wl_d_dearestByPlan sh gi gl gr (-1) 11 (Q_d_dearestByPlan gi gl gr ar1)) := by
    intro m1
    induction m1 using Nat.strongRecOn with
    | _ m1 ih1 =>
    intro y1_4 y1_3 y1_2 l1_4 u1_4 l1_3 u1_3 l1_2 j1_0 hm1
    refine ev_loc f_X1_dearestByPlan (nx := 9) rfl rfl rfl rfl ?_
    refine ev_loc f_X1_dearestByPlan (nx := 10) rfl rfl rfl rfl ?_
    obtain ⟨a2, e2, p2⟩ := p_a1.2.2.2.2.1
    refine ev_getR f_X1_dearestByPlan (nx := 13) rfl p_a1.1 rfl rfl e2 rfl rfl ?_
    refine ev_getI f_X1_dearestByPlan (nx := 16) rfl p2.1 rfl rfl rfl ?_
    obtain ⟨l3, u3⟩ := hI.b p2.1 (t_bdK rfl : t_bd 3 0 = some (0, 6))
    refine ev_if f_X1_dearestByPlan (t1 := 52) (t2 := 19) rfl rfl rfl (fun h4 => ?_) (fun h4 => ?_)
    · have r5 : (gi a2 0).toInt ≤ y1_4.toInt := Int32.le_iff_toInt_le.mp h4
      refine ev_ic f_X1_dearestByPlan (nx := 53) (v := 0) rfl (by decide) rfl ?_
      refine ev_loc f_X1_dearestByPlan (nx := 55) (lo' := [(4, .int 0), (3, .int y1_3), (2, .int y1_2), (0, .ref 28), (1, .ref ar1)]) rfl rfl rfl rfl ?_
      have L6 : ∀ (m6 : Nat) (y6_4 : Int32) (y6_3 : Int32) (y6_2 : Int32), 0 ≤ y6_4.toInt → y6_4.toInt ≤ 6 → (-1) ≤ y6_3.toInt → y6_3.toInt ≤ 11 → 0 ≤ y6_2.toInt → (∀ D : s_D, t_VL gr ar1 → t_CV gi gl ar1 D → t_Cb D → s_CP (s_PD D (D 4)) gi gr → s_W1 gi (s_PD D (D 4)) (s_WD D) → s_PO (s_PD D (D 4)) → s_PB (s_PD D (D 4)) → s_Lm (s_PL D) → s_C1 gi (D 1).toNat (D 2).toNat (s_PL D) → s_DA (s_EK (s_EN D (s_PL D) (s_PL D).length) (6 + y6_4.toInt)) y6_3.toInt y6_2.toInt) → (6 - y6_4.toInt).toNat = m6 → x_Ev X (d + 3) n_X1_dearestByPlan 55 [(4, .int y6_4), (3, .int y6_3), (2, .int y6_2), (0, .ref 28), (1, .ref ar1)] [] (sh, gi, gl, gr) (t_PI wl_d_dearestByPlan sh gi gl gr (-1) 11 (Q_d_dearestByPlan gi gl gr ar1)) := by
        intro m6
        induction m6 using Nat.strongRecOn with
        | _ m6 ih6 =>
        intro y6_4 y6_3 y6_2 l6_4 u6_4 l6_3 u6_3 l6_2 j6_0 hm6
        refine ev_loc f_X1_dearestByPlan (nx := 57) rfl rfl rfl rfl ?_
        refine ev_loc f_X1_dearestByPlan (nx := 58) rfl rfl rfl rfl ?_
        obtain ⟨a7, e7, p7⟩ := p_a1.2.2.2.2.2
        refine ev_getR f_X1_dearestByPlan (nx := 61) rfl p_a1.1 rfl rfl e7 rfl rfl ?_
        refine ev_getI f_X1_dearestByPlan (nx := 64) rfl p7.1 rfl rfl rfl ?_
        obtain ⟨l8, u8⟩ := hI.b p7.1 (t_bdK rfl : t_bd 3 0 = some (0, 6))
        refine ev_if f_X1_dearestByPlan (t1 := 103) (t2 := 67) rfl rfl rfl (fun h9 => ?_) (fun h9 => ?_)
        · have r10 : (gi a7 0).toInt ≤ y6_4.toInt := Int32.le_iff_toInt_le.mp h9
          refine ev_loc f_X1_dearestByPlan (nx := 104) rfl rfl rfl rfl ?_
          exact ev_ret f_X1_dearestByPlan rfl rfl rfl ⟨_, _, _, rfl, hI, hX, ⟨_, rfl, l6_3, u6_3, (show ∀ D : s_D, t_VL gr ar1 → t_CV gi gl ar1 D → t_Cb D → s_CP (s_PD D (D 4)) gi gr → s_W1 gi (s_PD D (D 4)) (s_WD D) → s_PO (s_PD D (D 4)) → s_PB (s_PD D (D 4)) → s_Lm (s_PL D) → s_C1 gi (D 1).toNat (D 2).toNat (s_PL D) → ∃ X, s_DA (s_EN D (s_PL D) (s_PL D).length) y6_3.toInt X from (by
                                                            intro D hl hc hb hcp hw hO hB hm hC1
                                                            have g1 := j6_0 D hl hc hb hcp hw hO hB hm hC1
                                                            have hb0 : a2 = (ar1 + 3) := (Value.ref.inj ((hl.1.2.2.2.1).symm.trans e2)).symm
                                                            subst hb0
                                                            have hb1 : a7 = (ar1 + 10) := (Value.ref.inj ((hl.1.2.2.2.2).symm.trans e7)).symm
                                                            subst hb1
                                                            have nS := hc.2.2.1.1
                                                            have nC := hc.2.2.2.1
                                                            have hb1 := hb.2.1
                                                            have hb2 := hb.2.2
                                                            refine ⟨_, s_DA_cg g1 (fun n x => ⟨fun hh => hh.1, fun hh => ⟨hh, ?_⟩⟩)⟩
                                                            rcases (s_EN_p hC1.2.1.1 hC1.2.1.2 n x).mp hh with ⟨s, h1, e, -⟩ | ⟨s, h1, e, -⟩
                                                            · have := s_or_lt (s_A D) _ _ h1; omega
                                                            · have := s_or_lt (s_B D) _ _ h1; omega))⟩⟩
        · have r11 : y6_4.toInt < (gi a7 0).toInt := Int32.lt_iff_toInt_lt.mp (t_nle h9)
          have u12 : y6_4.toInt ≤ 5 := t_ltu (t_nle h9) u8 rfl
          have l13 : 1 ≤ (gi a7 0).toInt := t_ltl (t_nle h9) l6_4 rfl
          refine ev_loc f_X1_dearestByPlan (nx := 68) rfl rfl rfl rfl ?_
          refine ev_getR f_X1_dearestByPlan (nx := 71) rfl (hI.wf.s rfl) rfl rfl (hI.wf.r rfl) rfl rfl ?_
          refine ev_loc f_X1_dearestByPlan (nx := 72) rfl rfl rfl rfl ?_
          refine ev_getR f_X1_dearestByPlan (nx := 75) rfl (hI.wf.s rfl) rfl rfl (hI.wf.r rfl) rfl rfl ?_
          refine ev_loc f_X1_dearestByPlan (nx := 77) rfl rfl rfl rfl ?_
          refine ev_qI0 f_X1_dearestByPlan (nx := 80) (r := []) rfl rfl rfl rfl rfl rfl rfl (c_d_waitsByNumber_35 hI (y6_4)) rfl (fun w14 l14 u14 q14 => ?_)
          have q14 : s_wbn (gi 35 0).toInt (gi 36) (gi 44) (gi 37) (gi 39) y6_4.toInt w14.toInt := q14
          refine ev_loc f_X1_dearestByPlan (nx := 82) (lo' := [(5, .int w14), (4, .int y6_4), (3, .int y6_3), (2, .int y6_2), (0, .ref 28), (1, .ref ar1)]) rfl rfl rfl rfl ?_
          refine ev_loc f_X1_dearestByPlan (nx := 84) rfl rfl rfl rfl ?_
          refine ev_loc f_X1_dearestByPlan (nx := 85) rfl rfl rfl rfl ?_
          refine ev_if f_X1_dearestByPlan (t1 := 97) (t2 := 88) rfl rfl rfl (fun h15 => ?_) (fun h15 => ?_)
          · have r16 : w14.toInt ≤ y6_2.toInt := Int32.le_iff_toInt_le.mp h15
            refine ev_incR f_X1_dearestByPlan (nx := 100) (c := 1) (l := 1) (u := 6) rfl rfl (by decide) (by decide) l6_4 u12 rfl rfl (by decide) (by decide) rfl (fun z17 e17 l17 u17 => ?_)
            refine ev_jmp f_X1_dearestByPlan (nx := 55) rfl rfl rfl ?_
            refine ev_sub (lo := [(4, .int z17), (3, .int y6_3), (2, .int y6_2), (0, .ref 28), (1, .ref ar1)]) rfl (t_sc rfl (t_sc rfl (t_sc rfl (t_sc rfl (t_sc rfl t_sn))))) ?_
            exact ih6 _ (by omega) (z17) (y6_3) (y6_2) (Int.le_trans (by decide : (0:Int) ≤ 1) l17) u17 l6_3 u6_3 l6_2 (by
                                                            intro D hl hc hb hcp hw hO hB hm hC1
                                                            have g1 := j6_0 D hl hc hb hcp hw hO hB hm hC1
                                                            have hb0 : a2 = (ar1 + 3) := (Value.ref.inj ((hl.1.2.2.2.1).symm.trans e2)).symm
                                                            subst hb0
                                                            have hb1 : a7 = (ar1 + 10) := (Value.ref.inj ((hl.1.2.2.2.2).symm.trans e7)).symm
                                                            subst hb1
                                                            have nS := hc.2.2.1.1
                                                            have nC := hc.2.2.2.1
                                                            have hb1 := hb.2.1
                                                            have hb2 := hb.2.2
                                                            obtain ⟨u1, u2⟩ := s_dwC hcp hw hO hB hm hC1 hb1.2 (by omega) q14
                                                            exact s_EK_n g1 (by omega) u1 (by omega)) rfl
          · have r18 : y6_2.toInt < w14.toInt := Int32.lt_iff_toInt_lt.mp (t_nle h15)
            have u19 : y6_2.toInt ≤ 2147483646 := t_ltu (t_nle h15) u14 rfl
            have l20 : 1 ≤ w14.toInt := t_ltl (t_nle h15) l6_2 rfl
            refine ev_loc f_X1_dearestByPlan (nx := 90) rfl rfl rfl rfl ?_
            refine ev_loc f_X1_dearestByPlan (nx := 91) (lo' := [(2, .int w14), (5, .int w14), (4, .int y6_4), (3, .int y6_3), (0, .ref 28), (1, .ref ar1)]) rfl rfl rfl rfl ?_
            refine ev_loc f_X1_dearestByPlan (nx := 93) rfl rfl rfl rfl ?_
            refine ev_bp f_X1_dearestByPlan (nx := 95) (v := 6) rfl (by decide) rfl ?_
            refine ev_addC f_X1_dearestByPlan (nx := 96) (c := 6) (l := 6) (u := 11) rfl (by decide) l6_4 u12 rfl rfl (by decide) (by decide) rfl (fun z21 e21 l21 u21 => ?_)
            refine ev_loc f_X1_dearestByPlan (nx := 97) (lo' := [(3, .int z21), (2, .int w14), (5, .int w14), (4, .int y6_4), (0, .ref 28), (1, .ref ar1)]) rfl rfl rfl rfl ?_
            refine ev_incR f_X1_dearestByPlan (nx := 100) (c := 1) (l := 1) (u := 6) rfl rfl (by decide) (by decide) l6_4 u12 rfl rfl (by decide) (by decide) rfl (fun z22 e22 l22 u22 => ?_)
            refine ev_jmp f_X1_dearestByPlan (nx := 55) rfl rfl rfl ?_
            refine ev_sub (lo := [(4, .int z22), (3, .int z21), (2, .int w14), (0, .ref 28), (1, .ref ar1)]) rfl (t_sc rfl (t_sc rfl (t_sc rfl (t_sc rfl (t_sc rfl t_sn))))) ?_
            exact ih6 _ (by omega) (z22) (z21) (w14) (Int.le_trans (by decide : (0:Int) ≤ 1) l22) u22 (Int.le_trans (by decide : ((-1):Int) ≤ 6) l21) u21 (Int.le_trans (by decide : (0:Int) ≤ 1) l20) (by
                                                            intro D hl hc hb hcp hw hO hB hm hC1
                                                            have g1 := j6_0 D hl hc hb hcp hw hO hB hm hC1
                                                            have hb0 : a2 = (ar1 + 3) := (Value.ref.inj ((hl.1.2.2.2.1).symm.trans e2)).symm
                                                            subst hb0
                                                            have hb1 : a7 = (ar1 + 10) := (Value.ref.inj ((hl.1.2.2.2.2).symm.trans e7)).symm
                                                            subst hb1
                                                            have nS := hc.2.2.1.1
                                                            have nC := hc.2.2.2.1
                                                            have hb1 := hb.2.1
                                                            have hb2 := hb.2.2
                                                            obtain ⟨u1, u2⟩ := s_dwC hcp hw hO hB hm hC1 hb1.2 (by omega) q14
                                                            have e3 : z21.toInt = 6 + y6_4.toInt := by omega
                                                            rw [e3]
                                                            exact s_EK_y g1 (by omega) u1 u2 (by omega)) rfl
      refine ev_sub (lo := [(4, .int 0), (3, .int y1_3), (2, .int y1_2), (0, .ref 28), (1, .ref ar1)]) rfl (t_sc rfl (t_sc rfl (t_sc rfl (t_sc rfl (t_sc rfl t_sn))))) ?_
      exact L6 _ (0) (y1_3) (y1_2) (by decide : (0:Int) ≤ (0:Int32).toInt) (Int.le_trans (by decide : (0:Int32).toInt ≤ (0:Int)) (by decide : (0:Int) ≤ 6)) l1_3 u1_3 l1_2 (by
                                                            intro D hl hc hb hcp hw hO hB hm hC1
                                                            have g1 := j1_0 D hl hc hb hcp hw hO hB hm hC1
                                                            have hb0 : a2 = (ar1 + 3) := (Value.ref.inj ((hl.1.2.2.2.1).symm.trans e2)).symm
                                                            subst hb0
                                                            have nS := hc.2.2.1.1
                                                            have nC := hc.2.2.2.1
                                                            have hb1 := hb.2.1
                                                            have hb2 := hb.2.2
                                                            have z0 : (0 : Int32).toInt = 0 := rfl
                                                            refine s_DA_cg g1 (fun n x => ⟨fun hh => ⟨hh.1, by have := hh.2; omega⟩, fun hh => ⟨hh.1, ?_⟩⟩)
                                                            rcases (s_EN_p hC1.2.1.1 hC1.2.1.2 n x).mp hh.1 with ⟨s, h1, e, -⟩ | ⟨s, -, e, -⟩
                                                            · have := s_or_lt (s_A D) _ _ h1; omega
                                                            · have := hh.2; omega) rfl
    · have r23 : y1_4.toInt < (gi a2 0).toInt := Int32.lt_iff_toInt_lt.mp (t_nle h4)
      have u24 : y1_4.toInt ≤ 5 := t_ltu (t_nle h4) u3 rfl
      have l25 : 1 ≤ (gi a2 0).toInt := t_ltl (t_nle h4) l1_4 rfl
      refine ev_loc f_X1_dearestByPlan (nx := 20) rfl rfl rfl rfl ?_
      refine ev_getR f_X1_dearestByPlan (nx := 23) rfl (hI.wf.s rfl) rfl rfl (hI.wf.r rfl) rfl rfl ?_
      refine ev_loc f_X1_dearestByPlan (nx := 24) rfl rfl rfl rfl ?_
      refine ev_getR f_X1_dearestByPlan (nx := 27) rfl (hI.wf.s rfl) rfl rfl (hI.wf.r rfl) rfl rfl ?_
      refine ev_loc f_X1_dearestByPlan (nx := 29) rfl rfl rfl rfl ?_
      refine ev_qI0 f_X1_dearestByPlan (nx := 32) (r := []) rfl rfl rfl rfl rfl rfl rfl (c_d_waitsByNumber_29 hI (y1_4)) rfl (fun w26 l26 u26 q26 => ?_)
      have q26 : s_wbn (gi 29 0).toInt (gi 30) (gi 43) (gi 31) (gi 33) y1_4.toInt w26.toInt := q26
      refine ev_loc f_X1_dearestByPlan (nx := 34) (lo' := [(5, .int w26), (4, .int y1_4), (3, .int y1_3), (2, .int y1_2), (0, .ref 28), (1, .ref ar1)]) rfl rfl rfl rfl ?_
      refine ev_loc f_X1_dearestByPlan (nx := 36) rfl rfl rfl rfl ?_
      refine ev_loc f_X1_dearestByPlan (nx := 37) rfl rfl rfl rfl ?_
      refine ev_if f_X1_dearestByPlan (t1 := 46) (t2 := 40) rfl rfl rfl (fun h27 => ?_) (fun h27 => ?_)
      · have r28 : w26.toInt ≤ y1_2.toInt := Int32.le_iff_toInt_le.mp h27
        refine ev_incR f_X1_dearestByPlan (nx := 49) (c := 1) (l := 1) (u := 6) rfl rfl (by decide) (by decide) l1_4 u24 rfl rfl (by decide) (by decide) rfl (fun z29 e29 l29 u29 => ?_)
        refine ev_jmp f_X1_dearestByPlan (nx := 7) rfl rfl rfl ?_
        refine ev_sub (lo := [(4, .int z29), (3, .int y1_3), (2, .int y1_2), (0, .ref 28), (1, .ref ar1)]) rfl (t_sc rfl (t_sc rfl (t_sc rfl (t_sc rfl (t_sc rfl t_sn))))) ?_
        exact ih1 _ (by omega) (z29) (y1_3) (y1_2) (Int.le_trans (by decide : (0:Int) ≤ 1) l29) u29 l1_3 u1_3 l1_2 (by
                                                            intro D hl hc hb hcp hw hO hB hm hC1
                                                            have g1 := j1_0 D hl hc hb hcp hw hO hB hm hC1
                                                            have hb0 : a2 = (ar1 + 3) := (Value.ref.inj ((hl.1.2.2.2.1).symm.trans e2)).symm
                                                            subst hb0
                                                            have nS := hc.2.2.1.1
                                                            have nC := hc.2.2.2.1
                                                            have hb1 := hb.2.1
                                                            have hb2 := hb.2.2
                                                            obtain ⟨u1, u2⟩ := s_dwS hcp hw hO hB hm hC1 (by omega) q26
                                                            exact s_EK_n g1 (by omega) u1 (by omega)) rfl
      · have r30 : y1_2.toInt < w26.toInt := Int32.lt_iff_toInt_lt.mp (t_nle h27)
        have u31 : y1_2.toInt ≤ 2147483646 := t_ltu (t_nle h27) u26 rfl
        have l32 : 1 ≤ w26.toInt := t_ltl (t_nle h27) l1_2 rfl
        refine ev_loc f_X1_dearestByPlan (nx := 42) rfl rfl rfl rfl ?_
        refine ev_loc f_X1_dearestByPlan (nx := 43) (lo' := [(2, .int w26), (5, .int w26), (4, .int y1_4), (3, .int y1_3), (0, .ref 28), (1, .ref ar1)]) rfl rfl rfl rfl ?_
        refine ev_loc f_X1_dearestByPlan (nx := 45) rfl rfl rfl rfl ?_
        refine ev_loc f_X1_dearestByPlan (nx := 46) (lo' := [(3, .int y1_4), (2, .int w26), (5, .int w26), (4, .int y1_4), (0, .ref 28), (1, .ref ar1)]) rfl rfl rfl rfl ?_
        refine ev_incR f_X1_dearestByPlan (nx := 49) (c := 1) (l := 1) (u := 6) rfl rfl (by decide) (by decide) l1_4 u24 rfl rfl (by decide) (by decide) rfl (fun z33 e33 l33 u33 => ?_)
        refine ev_jmp f_X1_dearestByPlan (nx := 7) rfl rfl rfl ?_
        refine ev_sub (lo := [(4, .int z33), (3, .int y1_4), (2, .int w26), (0, .ref 28), (1, .ref ar1)]) rfl (t_sc rfl (t_sc rfl (t_sc rfl (t_sc rfl (t_sc rfl t_sn))))) ?_
        exact ih1 _ (by omega) (z33) (y1_4) (w26) (Int.le_trans (by decide : (0:Int) ≤ 1) l33) u33 (Int.le_trans (by decide : ((-1):Int) ≤ 0) l1_4) (Int.le_trans u24 (by decide : (5:Int) ≤ 11)) (Int.le_trans (by decide : (0:Int) ≤ 1) l32) (by
                                                            intro D hl hc hb hcp hw hO hB hm hC1
                                                            have g1 := j1_0 D hl hc hb hcp hw hO hB hm hC1
                                                            have hb0 : a2 = (ar1 + 3) := (Value.ref.inj ((hl.1.2.2.2.1).symm.trans e2)).symm
                                                            subst hb0
                                                            have nS := hc.2.2.1.1
                                                            have nC := hc.2.2.2.1
                                                            have hb1 := hb.2.1
                                                            have hb2 := hb.2.2
                                                            obtain ⟨u1, u2⟩ := s_dwS hcp hw hO hB hm hC1 (by omega) q26
                                                            exact s_EK_y g1 (by omega) u1 u2 (by omega)) rfl
  refine ev_sub (lo := [(4, .int 0), (3, .int (-1)), (2, .int 0), (0, .ref 28), (1, .ref ar1)]) rfl (t_sc rfl (t_sc rfl (t_sc rfl (t_sc rfl (t_sc rfl t_sn))))) ?_
  exact L1 _ (0) ((-1)) (0) (by decide : (0:Int) ≤ (0:Int32).toInt) (Int.le_trans (by decide : (0:Int32).toInt ≤ (0:Int)) (by decide : (0:Int) ≤ 6)) (by decide : ((-1):Int) ≤ ((-1):Int32).toInt) (Int.le_trans (by decide : ((-1):Int32).toInt ≤ ((-1):Int)) (by decide : ((-1):Int) ≤ 11)) (by decide : (0:Int) ≤ (0:Int32).toInt) (by
                                                            intro D hl hc hb hcp hw hO hB hm hC1
                                                            have z0 : (0 : Int32).toInt = 0 := rfl
                                                            have zm : (-1 : Int32).toInt = -1 := rfl
                                                            refine s_DA_0 (fun n x hh => ?_)
                                                            rcases (s_EN_p hC1.2.1.1 hC1.2.1.2 n x).mp hh.1 with ⟨s, -, e, -⟩ | ⟨s, -, e, -⟩ <;> (have h9 := hh.2; omega)) rfl
noncomputable def wl_d_dearest : List (Nat × Nat) := [(0, 0), (28, 0), (28, 1), (28, 4), (28, 5), (28, 6), (29, 0), (30, 9999), (31, 9999), (32, 9999), (33, 9999), (34, 9999), (35, 0), (36, 9999), (37, 9999), (38, 9999), (39, 9999), (40, 9999), (41, 9999), (43, 9999), (44, 9999)]
noncomputable def Q_d_dearest (gi : Nat → Nat → Int32) (gl : Nat → Nat → Int64) (gr : Nat → Nat → Value) : Int32 → (Nat → Nat → Int32) → (Nat → Nat → Int64) → (Nat → Nat → Value) → Prop := fun (v : Int32) (gi2 : Nat → Nat → Int32) (gl2 : Nat → Nat → Int64) (gr2 : Nat → Nat → Value) => ∀ (u : Nat) (D : s_D), gr 0 6 = .ref u → t_VL gr u → t_CV gi gl u D → t_Cb D → (u = 3 ∨ 102 ≤ u) → (∀ s : Nat, (s : Int) < D 1 → 0 ≤ D (56 + 5 * s) ∧ D (56 + 5 * s) ≤ 1) → s_DB D → s_tk D → (s_LS (s_PD D (D 4)) 0 0 0 0 < 1000000000 → ∃ X, s_DA (s_EN D (s_PL D) (s_PL D).length) v.toInt X) ∧ (¬ s_LS (s_PD D (D 4)) 0 0 0 0 < 1000000000 → v.toInt = -1)
theorem c_d_dearest {X : x_Ext} {d : Nat} {sh : List (Nat ⊕ (Nat × Nat))} {gi : Nat → Nat → Int32} {gl : Nat → Nat → Int64} {gr : Nat → Nat → Value} (hI : t_I sh gi gr) : x_Me X (d + 20) n_X11_dearest [.ref 0] (sh, gi, gl, gr) (t_PI wl_d_dearest sh gi gl gr (-1) 11 (Q_d_dearest gi gl gr)) := by
  have hX : t_X wl_d_dearest sh gi gl gr gi gl gr := t_X.rf
  refine me_i f_X11_dearest (hI.wf.s rfl) rfl rfl rfl ?_
  refine ev_loc f_X11_dearest (nx := 1) rfl rfl rfl rfl ?_
  refine ev_getR f_X11_dearest (nx := 4) rfl (hI.wf.s rfl) rfl rfl (hI.wf.r rfl) rfl rfl ?_
  refine ev_loc f_X11_dearest (nx := 5) rfl rfl rfl rfl ?_
  obtain ⟨a1, e1, p1⟩ := hI.2.2.2.1.1
  refine ev_getR f_X11_dearest (nx := 8) rfl (hI.wf.s rfl) rfl rfl e1 rfl rfl ?_
  refine ev_qN f_X11_dearest (nx := 11) (r := []) rfl rfl rfl rfl rfl rfl rfl (c_d_takeAll2 hI (a1) p1) rfl hX rfl (fun gi2 gl2 gr2 hI hX hC2 q2 => ?_)
  have q2 : ∀ D : s_D, t_VL gr a1 → t_CV gi gl a1 D → (a1 = 3 ∨ 102 ≤ a1) → t_Cb D → (∀ s : Nat, (s : Int) < D 1 → 0 ≤ D (56 + 5 * s) ∧ D (56 + 5 * s) ≤ 1) → s_CP (s_PD D (D 4)) gi2 gr2 ∧ s_W1 gi2 (s_PD D (D 4)) (s_WD D) := q2
  replace p1 := p1.ext hC2.2
  refine ev_loc f_X11_dearest (nx := 12) rfl rfl rfl rfl ?_
  refine ev_getR f_X11_dearest (nx := 15) rfl (hI.wf.s rfl) rfl rfl (hI.wf.r rfl) rfl rfl ?_
  refine ev_qI f_X11_dearest (nx := 18) (r := []) rfl rfl rfl rfl rfl rfl rfl (c_d_layPlan hI ) rfl hX rfl (fun w3 gi3 gl3 gr3 l3 u3 hI hX hC3 q3 => ?_)
  have q3 : ∀ (P W : Nat → Nat → Int), s_CP P gi2 gr2 → s_PB P → s_PO P → s_T1 P → s_W1 gi2 P W → (w3.toInt = 1 ↔ s_LS P 0 0 0 0 < 1000000000) ∧ (w3.toInt = 1 → s_C1 gi3 (P 0 0).toNat (P 0 1).toNat (s_pl P W 241 0 0 0 0)) := q3
  replace p1 := p1.ext hC3.2
  have hXd := hX
  refine ev_if f_X11_dearest (t1 := 35) (t2 := 21) rfl rfl rfl (fun h4 => ?_) (fun h4 => ?_)
  · have u5 : w3.toInt ≤ 0 := t_equ h4 (by decide : (0:Int32).toInt ≤ (0:Int))
    refine ev_ic f_X11_dearest (nx := 36) (v := -1) rfl (by decide) rfl ?_
    refine ev_loc f_X11_dearest (nx := 37) (lo' := [(1, .int (-1)), (0, .ref 0)]) rfl rfl rfl rfl ?_
    refine ev_loc f_X11_dearest (nx := 38) rfl rfl rfl rfl ?_
    refine ev_ic f_X11_dearest (nx := 39) (v := -1) rfl (by decide) rfl ?_
    refine ev_t f_X11_dearest (t1 := 42) (t2 := 51) rfl rfl rfl (by decide) ?_
    refine ev_loc f_X11_dearest (nx := 43) rfl rfl rfl rfl ?_
    refine ev_bp f_X11_dearest (nx := 45) (v := 6) rfl (by decide) rfl ?_
    refine ev_inV2 f_X11_dearest (nx := 48) (lo2 := [(0, .ref 0), (1, .int 6)]) rfl rfl rfl rfl f_X11_refuse (hI.wf.s rfl) rfl rfl rfl rfl rfl ?_
    refine ev_loc f_X11_refuse (nx := 1) rfl rfl rfl rfl ?_
    refine ev_loc f_X11_refuse (nx := 2) rfl rfl rfl rfl ?_
    refine ev_putIT f_X11_refuse (nx := 5) rfl (hI.wf.s rfl) rfl rfl rfl (hI.put0 (hI.wf.s rfl) rfl rfl) (hX.upI rfl) (fun g6 e6 hI hX => ?_)
    refine ev_ic f_X11_refuse (nx := 6) (v := -1) rfl (by decide) rfl ?_
    refine ev_retK1 f_X11_refuse rfl rfl rfl ?_
    refine ev_jmp f_X11_dearest (nx := 56) rfl rfl rfl ?_
    exact ev_ret f_X11_dearest rfl rfl rfl ⟨_, _, _, rfl, hI, hX, ⟨_, rfl, (by decide : ((-1):Int) ≤ ((-1):Int32).toInt), (Int.le_trans (by decide : ((-1):Int32).toInt ≤ ((-1):Int)) (by decide : ((-1):Int) ≤ 11)), (show ∀ (u : Nat) (D : s_D), gr 0 6 = .ref u → t_VL gr u → t_CV gi gl u D → t_Cb D → (u = 3 ∨ 102 ≤ u) → (∀ s : Nat, (s : Int) < D 1 → 0 ≤ D (56 + 5 * s) ∧ D (56 + 5 * s) ≤ 1) → s_DB D → s_tk D → (s_LS (s_PD D (D 4)) 0 0 0 0 < 1000000000 → ∃ X, s_DA (s_EN D (s_PL D) (s_PL D).length) ((-1) : Int) X) ∧ (¬ s_LS (s_PD D (D 4)) 0 0 0 0 < 1000000000 → ((-1) : Int) = -1) from (by
                                                            intro u D hu hl hc hb hv hsl hd htk
                                                            have ha : a1 = u := Value.ref.inj (e1.symm.trans hu)
                                                            subst ha
                                                            have hq := q2 D hl hc hv hb hsl
                                                            have hO := s_PD_O (q := D 4) hb hd hd.2.2.1.1
                                                            have hB := s_PD_B (q := D 4) hb hd ⟨hd.2.2.1.1, hd.2.2.1.2⟩
                                                            have hq2 := q3 _ _ hq.1 hB hO (s_T1_of htk hb) hq.2
                                                            have z0 : (0 : Int32).toInt = 0 := rfl
                                                            have z1 : (1 : Int32).toInt = 1 := rfl
                                                            have hno : ¬ s_LS (s_PD D (D 4)) 0 0 0 0 < 1000000000 := fun hh => by have h9 := hq2.1.mpr hh; omega
                                                            exact ⟨fun h => absurd h hno, fun _ => rfl⟩))⟩⟩
  · have r7 : w3.toInt ≠ 0 := fun e => h4 (Int32.toInt_inj.mp (e.trans (by decide : (0:Int) = (0 : Int32).toInt)))
    have l8 : 1 ≤ w3.toInt := t_nel h4 l3 rfl rfl
    refine ev_loc f_X11_dearest (nx := 22) rfl rfl rfl rfl ?_
    refine ev_getR f_X11_dearest (nx := 25) rfl (hI.wf.s rfl) rfl rfl (hI.wf.r rfl) rfl rfl ?_
    refine ev_loc f_X11_dearest (nx := 26) rfl rfl rfl rfl ?_
    refine ev_getR f_X11_dearest (nx := 29) (v := .ref a1) rfl (hI.wf.s rfl) rfl rfl ((hC3.1 0 6 rfl).2.2.trans ((hC2.1 0 6 rfl).2.2.trans e1)) rfl rfl ?_
    refine ev_qI0 f_X11_dearest (nx := 32) (r := []) rfl rfl rfl rfl rfl rfl rfl (c_d_dearestByPlan hI (a1) p1) rfl (fun w9 l9 u9 q9 => ?_)
    have q9 : ∀ D : s_D, t_VL gr3 a1 → t_CV gi3 gl3 a1 D → t_Cb D → s_CP (s_PD D (D 4)) gi3 gr3 → s_W1 gi3 (s_PD D (D 4)) (s_WD D) → s_PO (s_PD D (D 4)) → s_PB (s_PD D (D 4)) → s_Lm (s_PL D) → s_C1 gi3 (D 1).toNat (D 2).toNat (s_PL D) → ∃ X, s_DA (s_EN D (s_PL D) (s_PL D).length) w9.toInt X := q9
    refine ev_jmp f_X11_dearest (nx := 36) rfl rfl rfl ?_
    refine ev_loc f_X11_dearest (nx := 37) (lo' := [(1, .int w9), (0, .ref 0)]) rfl rfl rfl rfl ?_
    refine ev_loc f_X11_dearest (nx := 38) rfl rfl rfl rfl ?_
    refine ev_ic f_X11_dearest (nx := 39) (v := -1) rfl (by decide) rfl ?_
    refine ev_if f_X11_dearest (t1 := 42) (t2 := 51) rfl rfl rfl (fun h10 => ?_) (fun h10 => ?_)
    · have u11 : w9.toInt ≤ (-1) := t_equ h10 (by decide : ((-1):Int32).toInt ≤ ((-1):Int))
      refine ev_loc f_X11_dearest (nx := 43) rfl rfl rfl rfl ?_
      refine ev_bp f_X11_dearest (nx := 45) (v := 6) rfl (by decide) rfl ?_
      refine ev_inV2 f_X11_dearest (nx := 48) (lo2 := [(0, .ref 0), (1, .int 6)]) rfl rfl rfl rfl f_X11_refuse (hI.wf.s rfl) rfl rfl rfl rfl rfl ?_
      refine ev_loc f_X11_refuse (nx := 1) rfl rfl rfl rfl ?_
      refine ev_loc f_X11_refuse (nx := 2) rfl rfl rfl rfl ?_
      refine ev_putIT f_X11_refuse (nx := 5) rfl (hI.wf.s rfl) rfl rfl rfl (hI.put0 (hI.wf.s rfl) rfl rfl) (hX.upI rfl) (fun g12 e12 hI hX => ?_)
      refine ev_ic f_X11_refuse (nx := 6) (v := -1) rfl (by decide) rfl ?_
      refine ev_retK1 f_X11_refuse rfl rfl rfl ?_
      refine ev_jmp f_X11_dearest (nx := 56) rfl rfl rfl ?_
      exact ev_ret f_X11_dearest rfl rfl rfl ⟨_, _, _, rfl, hI, hX, ⟨_, rfl, (by decide : ((-1):Int) ≤ ((-1):Int32).toInt), (Int.le_trans (by decide : ((-1):Int32).toInt ≤ ((-1):Int)) (by decide : ((-1):Int) ≤ 11)), (show ∀ (u : Nat) (D : s_D), gr 0 6 = .ref u → t_VL gr u → t_CV gi gl u D → t_Cb D → (u = 3 ∨ 102 ≤ u) → (∀ s : Nat, (s : Int) < D 1 → 0 ≤ D (56 + 5 * s) ∧ D (56 + 5 * s) ≤ 1) → s_DB D → s_tk D → (s_LS (s_PD D (D 4)) 0 0 0 0 < 1000000000 → ∃ X, s_DA (s_EN D (s_PL D) (s_PL D).length) ((-1) : Int) X) ∧ (¬ s_LS (s_PD D (D 4)) 0 0 0 0 < 1000000000 → ((-1) : Int) = -1) from (by
                                                            intro u D hu hl hc hb hv hsl hd htk
                                                            have ha : a1 = u := Value.ref.inj (e1.symm.trans hu)
                                                            subst ha
                                                            have hq := q2 D hl hc hv hb hsl
                                                            have hO := s_PD_O (q := D 4) hb hd hd.2.2.1.1
                                                            have hB := s_PD_B (q := D 4) hb hd ⟨hd.2.2.1.1, hd.2.2.1.2⟩
                                                            have hq2 := q3 _ _ hq.1 hB hO (s_T1_of htk hb) hq.2
                                                            have z0 : (0 : Int32).toInt = 0 := rfl
                                                            have z1 : (1 : Int32).toInt = 1 := rfl
                                                            have hyes : s_LS (s_PD D (D 4)) 0 0 0 0 < 1000000000 := hq2.1.mp (by omega)
                                                            have hl2 := hq2.2 (by omega)
                                                            have hcp := hq.1.fr hC3 rfl rfl
                                                            have hwp := hq.2.fr hC3 rfl
                                                            have hKx := t_nd_fr hXd rfl
                                                            obtain ⟨X, hX9⟩ := q9 D (hl.fr (fun K k1 k2 => hKx K (by omega))) (hc.fr (fun K k1 k2 => hKx K (by omega))) hb hcp hwp hO hB (s_pl_Lm hO _ _ _ _ _ (by decide) (by decide) hyes) hl2
                                                            exact ⟨fun _ => ⟨X, by rw [show (w9 : Int32).toInt = -1 by omega] at hX9; exact hX9⟩, fun h => absurd hyes h⟩))⟩⟩
    · have r13 : w9.toInt ≠ (-1) := fun e => h10 (Int32.toInt_inj.mp (e.trans (by decide : ((-1):Int) = ((-1) : Int32).toInt)))
      have l14 : 0 ≤ w9.toInt := t_nel h10 l9 rfl rfl
      refine ev_loc f_X11_dearest (nx := 52) rfl rfl rfl rfl ?_
      refine ev_loc f_X11_dearest (nx := 53) rfl rfl rfl rfl ?_
      refine ev_inV2 f_X11_dearest (nx := 56) (lo2 := [(0, .ref 0), (1, .int w9)]) rfl rfl rfl rfl f_X11_answer (hI.wf.s rfl) rfl rfl rfl rfl rfl ?_
      refine ev_loc f_X11_answer (nx := 1) rfl rfl rfl rfl ?_
      refine ev_ic f_X11_answer (nx := 2) (v := 0) rfl (by decide) rfl ?_
      refine ev_putIT f_X11_answer (nx := 5) rfl (hI.wf.s rfl) rfl rfl rfl (hI.put0 (hI.wf.s rfl) rfl rfl) (hX.upI rfl) (fun g15 e15 hI hX => ?_)
      refine ev_loc f_X11_answer (nx := 6) rfl rfl rfl rfl ?_
      refine ev_retK1 f_X11_answer rfl rfl rfl ?_
      exact ev_ret f_X11_dearest rfl rfl rfl ⟨_, _, _, rfl, hI, hX, ⟨_, rfl, (Int.le_trans (by decide : ((-1):Int) ≤ 0) l14), u9, (show ∀ (u : Nat) (D : s_D), gr 0 6 = .ref u → t_VL gr u → t_CV gi gl u D → t_Cb D → (u = 3 ∨ 102 ≤ u) → (∀ s : Nat, (s : Int) < D 1 → 0 ≤ D (56 + 5 * s) ∧ D (56 + 5 * s) ≤ 1) → s_DB D → s_tk D → (s_LS (s_PD D (D 4)) 0 0 0 0 < 1000000000 → ∃ X, s_DA (s_EN D (s_PL D) (s_PL D).length) w9.toInt X) ∧ (¬ s_LS (s_PD D (D 4)) 0 0 0 0 < 1000000000 → w9.toInt = -1) from (by
                                                            intro u D hu hl hc hb hv hsl hd htk
                                                            have ha : a1 = u := Value.ref.inj (e1.symm.trans hu)
                                                            subst ha
                                                            have hq := q2 D hl hc hv hb hsl
                                                            have hO := s_PD_O (q := D 4) hb hd hd.2.2.1.1
                                                            have hB := s_PD_B (q := D 4) hb hd ⟨hd.2.2.1.1, hd.2.2.1.2⟩
                                                            have hq2 := q3 _ _ hq.1 hB hO (s_T1_of htk hb) hq.2
                                                            have z0 : (0 : Int32).toInt = 0 := rfl
                                                            have z1 : (1 : Int32).toInt = 1 := rfl
                                                            have hyes : s_LS (s_PD D (D 4)) 0 0 0 0 < 1000000000 := hq2.1.mp (by omega)
                                                            have hl2 := hq2.2 (by omega)
                                                            have hcp := hq.1.fr hC3 rfl rfl
                                                            have hwp := hq.2.fr hC3 rfl
                                                            have hKx := t_nd_fr hXd rfl
                                                            obtain ⟨X, hX9⟩ := q9 D (hl.fr (fun K k1 k2 => hKx K (by omega))) (hc.fr (fun K k1 k2 => hKx K (by omega))) hb hcp hwp hO hB (s_pl_Lm hO _ _ _ _ _ (by decide) (by decide) hyes) hl2
                                                            exact ⟨fun _ => ⟨X, hX9⟩, fun h => absurd hyes h⟩))⟩⟩
/-! ===== printed by riv.py: dearest: the other side ===== -/
noncomputable def wl_l_costsBy : List (Nat × Nat) := []
noncomputable def Q_l_costsBy (gi : Nat → Nat → Int32) (gl : Nat → Nat → Int64) (gr : Nat → Nat → Value) (ar1 : Int32) : Int32 → (Nat → Nat → Int32) → (Nat → Nat → Int64) → (Nat → Nat → Value) → Prop := fun (v : Int32) (gi2 : Nat → Nat → Int32) (gl2 : Nat → Nat → Int64) (gr2 : Nat → Nat → Value) => ((gi 93 ar1.toNatClampNeg).toInt = 0 → v.toInt = (gi 70 (55 + 5 * (gi 95 ar1.toNatClampNeg).toNatClampNeg)).toInt) ∧ ((gi 93 ar1.toNatClampNeg).toInt = 1 → v.toInt = (gi 70 (84 + 3 * (gi 95 ar1.toNatClampNeg).toNatClampNeg)).toInt)
theorem c_l_costsBy {X : x_Ext} {d : Nat} {sh : List (Nat ⊕ (Nat × Nat))} {gi : Nat → Nat → Int32} {gl : Nat → Nat → Int64} {gr : Nat → Nat → Value} (hI : t_I sh gi gr) (ar1 : Int32) (l_a1 : 0 ≤ ar1.toInt) (u_a1 : ar1.toInt ≤ 99) (e_p0 : ((gi 93 ar1.toNatClampNeg).toInt ≠ 2 → 0 ≤ (gi 95 ar1.toNatClampNeg).toInt)) : x_Me X (d + 2) n_X12_costsBy [.ref 69, .int ar1] (sh, gi, gl, gr) (t_PI wl_l_costsBy sh gi gl gr (-1) 255 (Q_l_costsBy gi gl gr ar1)) := by
  have hX : t_X wl_l_costsBy sh gi gl gr gi gl gr := t_X.rf
  refine me_i f_X12_costsBy (hI.wf.s rfl) rfl rfl rfl ?_
  refine ev_loc f_X12_costsBy (nx := 1) rfl rfl rfl rfl ?_
  refine ev_getR f_X12_costsBy (nx := 4) rfl (hI.wf.s rfl) rfl rfl (hI.wf.r rfl) rfl rfl ?_
  refine ev_loc f_X12_costsBy (nx := 5) rfl rfl rfl rfl ?_
  refine ev_ialdT f_X12_costsBy (nx := 6) rfl (hI.wf.s rfl) l_a1 (by decide) u_a1 (by decide) rfl (fun w1 e1 => ?_)
  obtain ⟨l1, u1⟩ := hI.abi e1 (by decide +kernel : t_abr 93 0 99 0 2 = true) l_a1 (by decide) u_a1 (by decide)
  refine ev_if f_X12_costsBy (t1 := 9) (t2 := 23) rfl rfl rfl (fun h2 => ?_) (fun h2 => ?_)
  · have u3 : w1.toInt ≤ 0 := t_equ h2 (by decide : (0:Int32).toInt ≤ (0:Int))
    refine ev_loc f_X12_costsBy (nx := 10) rfl rfl rfl rfl ?_
    refine ev_loc f_X12_costsBy (nx := 11) rfl rfl rfl rfl ?_
    refine ev_getR f_X12_costsBy (nx := 14) rfl (hI.wf.s rfl) rfl rfl (hI.wf.r rfl) rfl rfl ?_
    refine ev_loc f_X12_costsBy (nx := 15) rfl rfl rfl rfl ?_
    refine ev_ialdT f_X12_costsBy (nx := 16) rfl (hI.wf.s rfl) l_a1 (by decide) u_a1 (by decide) rfl (fun w4 e4 => ?_)
    obtain ⟨l4, u4⟩ := hI.abi e4 (by decide +kernel : t_abr 95 0 99 (-1) 5 = true) l_a1 (by decide) u_a1 (by decide)
    refine ev_ic f_X12_costsBy (nx := 17) (v := 3) rfl (by decide) rfl ?_
    refine ev_inV3 f_X12_costsBy (nx := 20) (lo2 := [(0, .ref 69), (1, .int w4), (2, .int 3)]) rfl rfl rfl rfl f_X12_ofShip (hI.wf.s rfl) rfl rfl rfl rfl rfl ?_
    refine ev_loc f_X12_ofShip (nx := 1) rfl rfl rfl rfl ?_
    refine ev_getR f_X12_ofShip (nx := 4) rfl (hI.wf.s rfl) rfl rfl (hI.wf.r rfl) rfl rfl ?_
    refine ev_bp f_X12_ofShip (nx := 6) (v := 52) rfl (by decide) rfl ?_
    refine ev_ic f_X12_ofShip (nx := 7) (v := 5) rfl (by decide) rfl ?_
    refine ev_loc f_X12_ofShip (nx := 8) rfl rfl rfl rfl ?_
    refine ev_mulL f_X12_ofShip (nx := 9) (c := 5) (l := (-5)) (u := 25) rfl (by decide) (by decide) l4 u4 rfl rfl (by decide) (by decide) rfl (fun z5 e5 l5 u5 => ?_)
    refine ev_addK f_X12_ofShip (nx := 10) (c := 52) (l := 47) (u := 77) rfl (by decide) l5 u5 rfl rfl (by decide) (by decide) rfl (fun z6 e6 l6 u6 => ?_)
    refine ev_loc f_X12_ofShip (nx := 11) rfl rfl rfl rfl ?_
    refine ev_addC f_X12_ofShip (nx := 12) (c := 3) (l := 50) (u := 80) rfl (by decide) l6 u6 rfl rfl (by decide) (by decide) rfl (fun z7 e7 l7 u7 => ?_)
    refine ev_ialdT f_X12_ofShip (nx := 13) rfl (hI.wf.s rfl) l7 (by decide) u7 (by decide) rfl (fun w8 e8 => ?_)
    obtain ⟨l8, u8⟩ := hI.abi e8 (by decide +kernel : t_abr 70 50 80 (-1) 255 = true) l7 (by decide) u7 (by decide)
    refine ev_retK1 f_X12_ofShip rfl rfl rfl ?_
    refine ev_jmp f_X12_costsBy (nx := 34) rfl rfl rfl ?_
    exact ev_ret f_X12_costsBy rfl rfl rfl ⟨_, _, _, rfl, hI, hX, ⟨_, rfl, l8, u8, (show ((gi 93 ar1.toNatClampNeg).toInt = 0 → w8.toInt = (gi 70 (55 + 5 * (gi 95 ar1.toNatClampNeg).toNatClampNeg)).toInt) ∧ ((gi 93 ar1.toNatClampNeg).toInt = 1 → w8.toInt = (gi 70 (84 + 3 * (gi 95 ar1.toNatClampNeg).toNatClampNeg)).toInt) from (by
                                                            have ek : w1.toInt = (gi 93 ar1.toNatClampNeg).toInt := by rw [e1]
                                                            refine ⟨fun _ => ?_, fun h => absurd h (by omega)⟩
                                                            have h0 := e_p0 (by omega)
                                                            rw [← e4] at h0
                                                            have cw := t_clamp (i := w4) (by omega)
                                                            have ci := t_clamp (i := z7) (by omega)
                                                            rw [e8, show z7.toNatClampNeg = 55 + 5 * w4.toNatClampNeg by omega, e4]))⟩⟩
  · have r9 : w1.toInt ≠ 0 := fun e => h2 (Int32.toInt_inj.mp (e.trans (by decide : (0:Int) = (0 : Int32).toInt)))
    have l10 : 1 ≤ w1.toInt := t_nel h2 l1 rfl rfl
    refine ev_loc f_X12_costsBy (nx := 24) rfl rfl rfl rfl ?_
    refine ev_loc f_X12_costsBy (nx := 25) rfl rfl rfl rfl ?_
    refine ev_getR f_X12_costsBy (nx := 28) rfl (hI.wf.s rfl) rfl rfl (hI.wf.r rfl) rfl rfl ?_
    refine ev_loc f_X12_costsBy (nx := 29) rfl rfl rfl rfl ?_
    refine ev_ialdT f_X12_costsBy (nx := 30) rfl (hI.wf.s rfl) l_a1 (by decide) u_a1 (by decide) rfl (fun w11 e11 => ?_)
    obtain ⟨l11, u11⟩ := hI.abi e11 (by decide +kernel : t_abr 95 0 99 (-1) 5 = true) l_a1 (by decide) u_a1 (by decide)
    refine ev_ic f_X12_costsBy (nx := 31) (v := 2) rfl (by decide) rfl ?_
    refine ev_inV3 f_X12_costsBy (nx := 34) (lo2 := [(0, .ref 69), (1, .int w11), (2, .int 2)]) rfl rfl rfl rfl f_X12_ofCart (hI.wf.s rfl) rfl rfl rfl rfl rfl ?_
    refine ev_loc f_X12_ofCart (nx := 1) rfl rfl rfl rfl ?_
    refine ev_getR f_X12_ofCart (nx := 4) rfl (hI.wf.s rfl) rfl rfl (hI.wf.r rfl) rfl rfl ?_
    refine ev_bp f_X12_ofCart (nx := 6) (v := 82) rfl (by decide) rfl ?_
    refine ev_ic f_X12_ofCart (nx := 7) (v := 3) rfl (by decide) rfl ?_
    refine ev_loc f_X12_ofCart (nx := 8) rfl rfl rfl rfl ?_
    refine ev_mulL f_X12_ofCart (nx := 9) (c := 3) (l := (-3)) (u := 15) rfl (by decide) (by decide) l11 u11 rfl rfl (by decide) (by decide) rfl (fun z12 e12 l12 u12 => ?_)
    refine ev_addK f_X12_ofCart (nx := 10) (c := 82) (l := 79) (u := 97) rfl (by decide) l12 u12 rfl rfl (by decide) (by decide) rfl (fun z13 e13 l13 u13 => ?_)
    refine ev_loc f_X12_ofCart (nx := 11) rfl rfl rfl rfl ?_
    refine ev_addC f_X12_ofCart (nx := 12) (c := 2) (l := 81) (u := 99) rfl (by decide) l13 u13 rfl rfl (by decide) (by decide) rfl (fun z14 e14 l14 u14 => ?_)
    refine ev_ialdT f_X12_ofCart (nx := 13) rfl (hI.wf.s rfl) l14 (by decide) u14 (by decide) rfl (fun w15 e15 => ?_)
    obtain ⟨l15, u15⟩ := hI.abi e15 (by decide +kernel : t_abr 70 81 99 0 120 = true) l14 (by decide) u14 (by decide)
    refine ev_retK1 f_X12_ofCart rfl rfl rfl ?_
    exact ev_ret f_X12_costsBy rfl rfl rfl ⟨_, _, _, rfl, hI, hX, ⟨_, rfl, (Int.le_trans (by decide : ((-1):Int) ≤ 0) l15), (Int.le_trans u15 (by decide : (120:Int) ≤ 255)), (show ((gi 93 ar1.toNatClampNeg).toInt = 0 → w15.toInt = (gi 70 (55 + 5 * (gi 95 ar1.toNatClampNeg).toNatClampNeg)).toInt) ∧ ((gi 93 ar1.toNatClampNeg).toInt = 1 → w15.toInt = (gi 70 (84 + 3 * (gi 95 ar1.toNatClampNeg).toNatClampNeg)).toInt) from (by
                                                            have ek : w1.toInt = (gi 93 ar1.toNatClampNeg).toInt := by rw [e1]
                                                            refine ⟨fun h => absurd h (by omega), fun h1 => ?_⟩
                                                            have h0 := e_p0 (by omega)
                                                            rw [← e11] at h0
                                                            have cw := t_clamp (i := w11) (by omega)
                                                            have ci := t_clamp (i := z14) (by omega)
                                                            rw [e15, show z14.toNatClampNeg = 84 + 3 * w11.toNatClampNeg by omega, e11]))⟩⟩
noncomputable def wl_e_dearest : List (Nat × Nat) := [(69, 2), (69, 44), (69, 45), (69, 48), (69, 55), (69, 57), (89, 10005), (89, 610011), (90, 9999), (91, 9999), (92, 9999), (93, 9999), (94, 9999), (95, 9999)]
noncomputable def Q_e_dearest (gi : Nat → Nat → Int32) (gl : Nat → Nat → Int64) (gr : Nat → Nat → Value) : Int32 → (Nat → Nat → Int32) → (Nat → Nat → Int64) → (Nat → Nat → Value) → Prop := fun (v : Int32) (gi2 : Nat → Nat → Int32) (gl2 : Nat → Nat → Int64) (gr2 : Nat → Nat → Value) => ∀ D : s_D, t_ME 0 gi D → t_Cb D → s_DB D → (gi 69 46).toInt = -1 → s_tk D → (s_LS (s_PD D (D 4)) 0 0 0 0 < 1000000000 → ∃ X, s_DA (s_EN D (s_PL D) (s_PL D).length) v.toInt X) ∧ (¬ s_LS (s_PD D (D 4)) 0 0 0 0 < 1000000000 → v.toInt = -1)
theorem c_e_dearest {X : x_Ext} {d : Nat} {sh : List (Nat ⊕ (Nat × Nat))} {gi : Nat → Nat → Int32} {gl : Nat → Nat → Int64} {gr : Nat → Nat → Value} (hI : t_I sh gi gr) (e_p0 : 1 ≤ (gi 70 4).toInt) : x_Me X (d + 7) n_X12_dearest [.ref 69] (sh, gi, gl, gr) (t_PI wl_e_dearest sh gi gl gr (-1) 11 (Q_e_dearest gi gl gr)) := by
  have hX : t_X wl_e_dearest sh gi gl gr gi gl gr := t_X.rf
  refine me_i f_X12_dearest (hI.wf.s rfl) rfl rfl rfl ?_
  obtain ⟨l2, u2⟩ := hI.ab (by decide +kernel : t_abr 70 4 4 0 20 = true) (Nat.le_refl _) (Nat.le_refl _)
  refine ev_loc f_X12_dearest (nx := 1) rfl rfl rfl rfl ?_
  refine ev_qI f_X12_dearest (nx := 4) (r := []) rfl rfl rfl rfl rfl rfl rfl (c_l_plans hI  (by omega)) rfl hX rfl (fun w3 gi3 gl3 gr3 l3 u3 hI hX hC3 q3 => ?_)
  have q3 : (∀ D : s_D, t_ME 0 gi D → t_Cb D → s_DB D → (gi 69 46).toInt = -1 → s_tk D → (w3.toInt = 1 ↔ s_LS (s_PD D (D 4)) 0 0 0 0 < 1000000000) ∧ (w3.toInt = 1 → s_P4 gi3 (s_PL D) ∧ s_FE D (gi3 69 57).toInt ∧ s_FX gi3 D)) ∧ (w3.toInt = 1 → t_wh (gi3 69 55).toInt (gi3 93) (gi3 95)) := q3
  refine ev_if f_X12_dearest (t1 := 7) (t2 := 14) rfl rfl rfl (fun h4 => ?_) (fun h4 => ?_)
  · have u5 : w3.toInt ≤ 0 := t_equ h4 (by decide : (0:Int32).toInt ≤ (0:Int))
    refine ev_loc f_X12_dearest (nx := 8) rfl rfl rfl rfl ?_
    refine ev_bp f_X12_dearest (nx := 10) (v := 6) rfl (by decide) rfl ?_
    refine ev_inV2 f_X12_dearest (nx := 13) (lo2 := [(0, .ref 69), (1, .int 6)]) rfl rfl rfl rfl f_X12_refuse (hI.wf.s rfl) rfl rfl rfl rfl rfl ?_
    refine ev_loc f_X12_refuse (nx := 1) rfl rfl rfl rfl ?_
    refine ev_loc f_X12_refuse (nx := 2) rfl rfl rfl rfl ?_
    refine ev_putIT f_X12_refuse (nx := 5) rfl (hI.wf.s rfl) rfl rfl rfl (hI.put0 (hI.wf.s rfl) rfl rfl) (hX.upI rfl) (fun g6 e6 hI hX => ?_)
    refine ev_ic f_X12_refuse (nx := 6) (v := -1) rfl (by decide) rfl ?_
    refine ev_retK1 f_X12_refuse rfl rfl rfl ?_
    exact ev_ret f_X12_dearest rfl rfl rfl ⟨_, _, _, rfl, hI, hX, ⟨_, rfl, (by decide : ((-1):Int) ≤ ((-1):Int32).toInt), (Int.le_trans (by decide : ((-1):Int32).toInt ≤ ((-1):Int)) (by decide : ((-1):Int) ≤ 11)), (show ∀ D : s_D, t_ME 0 gi D → t_Cb D → s_DB D → (gi 69 46).toInt = -1 → s_tk D → (s_LS (s_PD D (D 4)) 0 0 0 0 < 1000000000 → ∃ X, s_DA (s_EN D (s_PL D) (s_PL D).length) ((-1) : Int) X) ∧ (¬ s_LS (s_PD D (D 4)) 0 0 0 0 < 1000000000 → ((-1) : Int) = -1) from (by
                                                            intro D hm hb hd h46 ht
                                                            have hq := q3.1 D hm hb hd h46 ht
                                                            have z0 : (0 : Int32).toInt = 0 := rfl
                                                            have hno : ¬ s_LS (s_PD D (D 4)) 0 0 0 0 < 1000000000 := fun hh => by have h9 := hq.1.mpr hh; omega
                                                            exact ⟨fun h => absurd h hno, fun _ => rfl⟩))⟩⟩
  · have r7 : w3.toInt ≠ 0 := fun e => h4 (Int32.toInt_inj.mp (e.trans (by decide : (0:Int) = (0 : Int32).toInt)))
    have l8 : 1 ≤ w3.toInt := t_nel h4 l3 rfl rfl
    refine ev_ic f_X12_dearest (nx := 15) (v := -1) rfl (by decide) rfl ?_
    refine ev_loc f_X12_dearest (nx := 16) (lo' := [(1, .int (-1)), (0, .ref 69)]) rfl rfl rfl rfl ?_
    refine ev_ic f_X12_dearest (nx := 17) (v := 0) rfl (by decide) rfl ?_
    refine ev_loc f_X12_dearest (nx := 18) (lo' := [(2, .int 0), (1, .int (-1)), (0, .ref 69)]) rfl rfl rfl rfl ?_
    refine ev_ic f_X12_dearest (nx := 19) (v := 0) rfl (by decide) rfl ?_
    refine ev_loc f_X12_dearest (nx := 20) (lo' := [(3, .int 0), (2, .int 0), (1, .int (-1)), (0, .ref 69)]) rfl rfl rfl rfl ?_
    have L9 : ∀ (m9 : Nat) (y9_3 : Int32) (y9_2 : Int32) (y9_1 : Int32), 0 ≤ y9_3.toInt → y9_3.toInt ≤ 100 → 0 ≤ y9_2.toInt → (-1) ≤ y9_1.toInt → y9_1.toInt ≤ 11 → (∀ D : s_D, t_ME 0 gi D → t_Cb D → s_DB D → (gi 69 46).toInt = -1 → s_tk D → (s_DA (s_EN D (s_PL D) y9_3.toNatClampNeg) y9_1.toInt y9_2.toInt ∧ y9_3.toInt ≤ ((s_PL D).length : Int)) ∧ s_LS (s_PD D (D 4)) 0 0 0 0 < 1000000000 ∧ s_P4 gi3 (s_PL D) ∧ s_FX gi3 D) → (100 - y9_3.toInt).toNat = m9 → x_Ev X (d + 7) n_X12_dearest 20 [(3, .int y9_3), (2, .int y9_2), (1, .int y9_1), (0, .ref 69)] [] (sh, gi3, gl3, gr3) (t_PI wl_e_dearest sh gi gl gr (-1) 11 (Q_e_dearest gi gl gr)) := by
      intro m9
      induction m9 using Nat.strongRecOn with
      | _ m9 ih9 =>
      intro y9_3 y9_2 y9_1 l9_3 u9_3 l9_2 l9_1 u9_1 j9_0 hm9
      refine ev_loc f_X12_dearest (nx := 21) rfl rfl rfl rfl ?_
      refine ev_loc f_X12_dearest (nx := 22) rfl rfl rfl rfl ?_
      refine ev_getI f_X12_dearest (nx := 25) rfl (hI.wf.s rfl) rfl rfl rfl ?_
      obtain ⟨l10, u10⟩ := hI.b (hI.wf.s (k := 69) rfl) (t_bdK rfl : t_bd 11 55 = some (0, 100))
      refine ev_if f_X12_dearest (t1 := 128) (t2 := 28) rfl rfl rfl (fun h11 => ?_) (fun h11 => ?_)
      · have r12 : (gi3 69 55).toInt ≤ y9_3.toInt := Int32.le_iff_toInt_le.mp h11
        refine ev_loc f_X12_dearest (nx := 129) rfl rfl rfl rfl ?_
        refine ev_loc f_X12_dearest (nx := 130) rfl rfl rfl rfl ?_
        refine ev_inV2 f_X12_dearest (nx := 133) (lo2 := [(0, .ref 69), (1, .int y9_1)]) rfl rfl rfl rfl f_X12_orNone (hI.wf.s rfl) rfl rfl rfl rfl rfl ?_
        refine ev_loc f_X12_orNone (nx := 1) rfl rfl rfl rfl ?_
        refine ev_ic f_X12_orNone (nx := 2) (v := -1) rfl (by decide) rfl ?_
        refine ev_if f_X12_orNone (t1 := 5) (t2 := 14) rfl rfl rfl (fun h13 => ?_) (fun h13 => ?_)
        · have u14 : y9_1.toInt ≤ (-1) := t_equ h13 (by decide : ((-1):Int32).toInt ≤ ((-1):Int))
          refine ev_loc f_X12_orNone (nx := 6) rfl rfl rfl rfl ?_
          refine ev_bp f_X12_orNone (nx := 8) (v := 6) rfl (by decide) rfl ?_
          refine ev_inV2 f_X12_orNone (nx := 11) (lo2 := [(0, .ref 69), (1, .int 6)]) rfl rfl rfl rfl f_X12_refuse (hI.wf.s rfl) rfl rfl rfl rfl rfl ?_
          refine ev_loc f_X12_refuse (nx := 1) rfl rfl rfl rfl ?_
          refine ev_loc f_X12_refuse (nx := 2) rfl rfl rfl rfl ?_
          refine ev_putIT f_X12_refuse (nx := 5) rfl (hI.wf.s rfl) rfl rfl rfl (hI.put0 (hI.wf.s rfl) rfl rfl) (hX.upI rfl) (fun g15 e15 hI hX => ?_)
          refine ev_ic f_X12_refuse (nx := 6) (v := -1) rfl (by decide) rfl ?_
          refine ev_retK1 f_X12_refuse rfl rfl rfl ?_
          refine ev_jmp f_X12_orNone (nx := 19) rfl rfl rfl ?_
          refine ev_retK1 f_X12_orNone rfl rfl rfl ?_
          exact ev_ret f_X12_dearest rfl rfl rfl ⟨_, _, _, rfl, hI, hX, ⟨_, rfl, (by decide : ((-1):Int) ≤ ((-1):Int32).toInt), (Int.le_trans (by decide : ((-1):Int32).toInt ≤ ((-1):Int)) (by decide : ((-1):Int) ≤ 11)), (show ∀ D : s_D, t_ME 0 gi D → t_Cb D → s_DB D → (gi 69 46).toInt = -1 → s_tk D → (s_LS (s_PD D (D 4)) 0 0 0 0 < 1000000000 → ∃ X, s_DA (s_EN D (s_PL D) (s_PL D).length) ((-1) : Int) X) ∧ (¬ s_LS (s_PD D (D 4)) 0 0 0 0 < 1000000000 → ((-1) : Int) = -1) from (by
                                                            intro D hm hb hd h46 ht
                                                            obtain ⟨⟨g1, g2⟩, hyes, hp, hx⟩ := j9_0 D hm hb hd h46 ht
                                                            have ck := t_clamp (i := y9_3) (by omega)
                                                            have hn := hp.1
                                                            rw [show y9_3.toNatClampNeg = (s_PL D).length by omega] at g1
                                                            have zm : (-1 : Int32).toInt = -1 := rfl
                                                            rw [show y9_1.toInt = -1 by omega] at g1
                                                            exact ⟨fun _ => ⟨_, g1⟩, fun h => absurd hyes h⟩))⟩⟩
        · have r16 : y9_1.toInt ≠ (-1) := fun e => h13 (Int32.toInt_inj.mp (e.trans (by decide : ((-1):Int) = ((-1) : Int32).toInt)))
          have l17 : 0 ≤ y9_1.toInt := t_nel h13 l9_1 rfl rfl
          refine ev_loc f_X12_orNone (nx := 15) rfl rfl rfl rfl ?_
          refine ev_loc f_X12_orNone (nx := 16) rfl rfl rfl rfl ?_
          refine ev_inV2 f_X12_orNone (nx := 19) (lo2 := [(0, .ref 69), (1, .int y9_1)]) rfl rfl rfl rfl f_X12_gives (hI.wf.s rfl) rfl rfl rfl rfl rfl ?_
          refine ev_loc f_X12_gives (nx := 1) rfl rfl rfl rfl ?_
          refine ev_ic f_X12_gives (nx := 2) (v := 0) rfl (by decide) rfl ?_
          refine ev_putIT f_X12_gives (nx := 5) rfl (hI.wf.s rfl) rfl rfl rfl (hI.put0 (hI.wf.s rfl) rfl rfl) (hX.upI rfl) (fun g18 e18 hI hX => ?_)
          refine ev_loc f_X12_gives (nx := 6) rfl rfl rfl rfl ?_
          refine ev_retK1 f_X12_gives rfl rfl rfl ?_
          refine ev_retK1 f_X12_orNone rfl rfl rfl ?_
          exact ev_ret f_X12_dearest rfl rfl rfl ⟨_, _, _, rfl, hI, hX, ⟨_, rfl, (Int.le_trans (by decide : ((-1):Int) ≤ 0) l17), u9_1, (show ∀ D : s_D, t_ME 0 gi D → t_Cb D → s_DB D → (gi 69 46).toInt = -1 → s_tk D → (s_LS (s_PD D (D 4)) 0 0 0 0 < 1000000000 → ∃ X, s_DA (s_EN D (s_PL D) (s_PL D).length) y9_1.toInt X) ∧ (¬ s_LS (s_PD D (D 4)) 0 0 0 0 < 1000000000 → y9_1.toInt = -1) from (by
                                                            intro D hm hb hd h46 ht
                                                            obtain ⟨⟨g1, g2⟩, hyes, hp, hx⟩ := j9_0 D hm hb hd h46 ht
                                                            have ck := t_clamp (i := y9_3) (by omega)
                                                            have hn := hp.1
                                                            rw [show y9_3.toNatClampNeg = (s_PL D).length by omega] at g1
                                                            exact ⟨fun _ => ⟨_, g1⟩, fun h => absurd hyes h⟩))⟩⟩
      · have r19 : y9_3.toInt < (gi3 69 55).toInt := Int32.lt_iff_toInt_lt.mp (t_nle h11)
        have u20 : y9_3.toInt ≤ 99 := t_ltu (t_nle h11) u10 rfl
        have l21 : 1 ≤ (gi3 69 55).toInt := t_ltl (t_nle h11) l9_3 rfl
        refine ev_loc f_X12_dearest (nx := 29) rfl rfl rfl rfl ?_
        refine ev_getR f_X12_dearest (nx := 32) rfl (hI.wf.s rfl) rfl rfl (hI.wf.r rfl) rfl rfl ?_
        refine ev_loc f_X12_dearest (nx := 33) rfl rfl rfl rfl ?_
        refine ev_ialdT f_X12_dearest (nx := 34) rfl (hI.wf.s rfl) l9_3 (by decide) u20 (by decide) rfl (fun w22 e22 => ?_)
        obtain ⟨l22, u22⟩ := hI.abi e22 (by decide +kernel : t_abr 93 0 99 0 2 = true) l9_3 (by decide) u20 (by decide)
        refine ev_ic f_X12_dearest (nx := 35) (v := 2) rfl (by decide) rfl ?_
        refine ev_if f_X12_dearest (t1 := 38) (t2 := 41) rfl rfl rfl (fun h23 => ?_) (fun h23 => ?_)
        · have l24 : 2 ≤ w22.toInt := t_eql h23 (by decide : (2:Int) ≤ (2:Int32).toInt)
          refine ev_jmp f_X12_dearest (nx := 122) rfl rfl rfl ?_
          refine ev_incR f_X12_dearest (nx := 125) (c := 1) (l := 1) (u := 100) rfl rfl (by decide) (by decide) l9_3 u20 rfl rfl (by decide) (by decide) rfl (fun z25 e25 l25 u25 => ?_)
          refine ev_jmp f_X12_dearest (nx := 20) rfl rfl rfl ?_
          refine ev_sub (lo := [(3, .int z25), (2, .int y9_2), (1, .int y9_1), (0, .ref 69)]) rfl (t_sc rfl (t_sc rfl (t_sc rfl (t_sc rfl t_sn)))) ?_
          exact ih9 _ (by omega) (z25) (y9_2) (y9_1) (Int.le_trans (by decide : (0:Int) ≤ 1) l25) u25 l9_2 l9_1 u9_1 (by
                                                            intro D hm hb hd h46 ht
                                                            obtain ⟨⟨g1, g2⟩, hyes, hp, hx⟩ := j9_0 D hm hb hd h46 ht
                                                            have ck := t_clamp (i := y9_3) (by omega)
                                                            have hn := hp.1
                                                            obtain ⟨t, ht9⟩ := s_pd_g (L := s_PL D) (k := y9_3.toNatClampNeg) (by omega)
                                                            obtain ⟨v1, v2, v3⟩ := hp.2 _ t ht9
                                                            have ek := s_cp (y := y9_3) (z := z25) (by omega) (by omega)
                                                            have e33 : w22.toInt = t.1 := by rw [e22]; exact v1
                                                            rw [ek]
                                                            exact ⟨⟨s_DA_cg g1 (fun n x => (s_EN_t ht9 (by omega) n x).symm), by omega⟩, hyes, hp, hx⟩) rfl
        · have r26 : w22.toInt ≠ 2 := fun e => h23 (Int32.toInt_inj.mp (e.trans (by decide : (2:Int) = (2 : Int32).toInt)))
          have u27 : w22.toInt ≤ 1 := t_neu h23 u22 rfl rfl
          refine ev_loc f_X12_dearest (nx := 42) rfl rfl rfl rfl ?_
          refine ev_getR f_X12_dearest (nx := 45) rfl (hI.wf.s rfl) rfl rfl (hI.wf.r rfl) rfl rfl ?_
          refine ev_loc f_X12_dearest (nx := 46) rfl rfl rfl rfl ?_
          refine ev_ialdT f_X12_dearest (nx := 47) rfl (hI.wf.s rfl) l9_3 (by decide) u20 (by decide) rfl (fun w28 e28 => ?_)
          rw [e28.trans e22.symm]
          refine ev_if f_X12_dearest (t1 := 50) (t2 := 59) rfl rfl rfl (fun h29 => ?_) (fun h29 => ?_)
          · have u30 : w22.toInt ≤ 0 := t_equ h29 (by decide : (0:Int32).toInt ≤ (0:Int))
            refine ev_loc f_X12_dearest (nx := 51) rfl rfl rfl rfl ?_
            refine ev_getR f_X12_dearest (nx := 54) rfl (hI.wf.s rfl) rfl rfl (hI.wf.r rfl) rfl rfl ?_
            refine ev_loc f_X12_dearest (nx := 55) rfl rfl rfl rfl ?_
            refine ev_ialdT f_X12_dearest (nx := 56) rfl (hI.wf.s rfl) l9_3 (by decide) u20 (by decide) rfl (fun w31 e31 => ?_)
            obtain ⟨l31, u31⟩ := hI.abi e31 (by decide +kernel : t_abr 95 0 99 (-1) 5 = true) l9_3 (by decide) u20 (by decide)
            refine ev_jmp f_X12_dearest (nx := 68) rfl rfl rfl ?_
            refine ev_loc f_X12_dearest (nx := 70) (lo' := [(4, .int w31), (3, .int y9_3), (2, .int y9_2), (1, .int y9_1), (0, .ref 69)]) rfl rfl rfl rfl ?_
            refine ev_loc f_X12_dearest (nx := 71) rfl rfl rfl rfl ?_
            refine ev_getR f_X12_dearest (nx := 74) rfl (hI.wf.s rfl) rfl rfl (hI.wf.r rfl) rfl rfl ?_
            refine ev_loc f_X12_dearest (nx := 75) rfl rfl rfl rfl ?_
            refine ev_ialdT f_X12_dearest (nx := 76) rfl (hI.wf.s rfl) l9_3 (by decide) u20 (by decide) rfl (fun w32 e32 => ?_)
            refine ev_loc f_X12_dearest (nx := 77) rfl rfl rfl rfl ?_
            refine ev_loc f_X12_dearest (nx := 78) rfl rfl rfl rfl ?_
            refine ev_qI0 f_X12_dearest (nx := 81) (r := [.int w32]) rfl rfl rfl rfl rfl rfl rfl (c_l_cameBy hI (y9_3) l9_3 u20 (fun h => q3.2 (by omega) y9_3.toNatClampNeg (by have hc := t_clamp (i := y9_3) (by omega); omega) h)) rfl (fun w33 l33 u33 q33 => ?_)
            have q33 : ((gi3 93 y9_3.toNatClampNeg).toInt = 0 → w33.toInt = (gi3 89 (gi3 95 y9_3.toNatClampNeg).toNatClampNeg).toInt) ∧ ((gi3 93 y9_3.toNatClampNeg).toInt = 1 → w33.toInt = (gi3 89 (6 + (gi3 95 y9_3.toNatClampNeg).toNatClampNeg)).toInt) := q33
            refine ev_anyIE f_X12_dearest (nx := 82) rfl rfl rfl rfl (fun z34 e34 => ?_)
            refine ev_loc f_X12_dearest (nx := 83) rfl rfl rfl rfl ?_
            refine ev_loc f_X12_dearest (nx := 84) rfl rfl rfl rfl ?_
            refine ev_qI0 f_X12_dearest (nx := 87) (r := [.int z34]) rfl rfl rfl rfl rfl rfl rfl (c_l_costsBy hI (y9_3) l9_3 u20 (fun h => q3.2 (by omega) y9_3.toNatClampNeg (by have hc := t_clamp (i := y9_3) (by omega); omega) h)) rfl (fun w35 l35 u35 q35 => ?_)
            have q35 : ((gi3 93 y9_3.toNatClampNeg).toInt = 0 → w35.toInt = (gi3 70 (55 + 5 * (gi3 95 y9_3.toNatClampNeg).toNatClampNeg)).toInt) ∧ ((gi3 93 y9_3.toNatClampNeg).toInt = 1 → w35.toInt = (gi3 70 (84 + 3 * (gi3 95 y9_3.toNatClampNeg).toNatClampNeg)).toInt) := q35
            refine ev_anyIE f_X12_dearest (nx := 88) rfl rfl rfl rfl (fun z36 e36 => ?_)
            refine ev_loc f_X12_dearest (nx := 90) (lo' := [(5, .int z36), (4, .int w31), (3, .int y9_3), (2, .int y9_2), (1, .int y9_1), (0, .ref 69)]) rfl rfl rfl rfl ?_
            refine ev_loc f_X12_dearest (nx := 92) rfl rfl rfl rfl ?_
            refine ev_loc f_X12_dearest (nx := 93) rfl rfl rfl rfl ?_
            refine ev_if f_X12_dearest (t1 := 122) (t2 := 96) rfl rfl rfl (fun h37 => ?_) (fun h37 => ?_)
            · have r38 : z36.toInt < y9_2.toInt := Int32.lt_iff_toInt_lt.mp h37
              have u39 : z36.toInt ≤ 2147483646 := t_ltu h37 (t_hi y9_2) rfl
              refine ev_incR f_X12_dearest (nx := 125) (c := 1) (l := 1) (u := 100) rfl rfl (by decide) (by decide) l9_3 u20 rfl rfl (by decide) (by decide) rfl (fun z40 e40 l40 u40 => ?_)
              refine ev_jmp f_X12_dearest (nx := 20) rfl rfl rfl ?_
              refine ev_sub (lo := [(3, .int z40), (2, .int y9_2), (1, .int y9_1), (0, .ref 69)]) rfl (t_sc rfl (t_sc rfl (t_sc rfl (t_sc rfl t_sn)))) ?_
              exact ih9 _ (by omega) (z40) (y9_2) (y9_1) (Int.le_trans (by decide : (0:Int) ≤ 1) l40) u40 l9_2 l9_1 u9_1 (by
                                                            intro D hm hb hd h46 ht
                                                            obtain ⟨⟨g1, g2⟩, hyes, hp, hx⟩ := j9_0 D hm hb hd h46 ht
                                                            have ck := t_clamp (i := y9_3) (by omega)
                                                            have hn := hp.1
                                                            obtain ⟨t, ht9⟩ := s_pd_g (L := s_PL D) (k := y9_3.toNatClampNeg) (by omega)
                                                            obtain ⟨v1, v2, v3⟩ := hp.2 _ t ht9
                                                            have ek := s_cp (y := y9_3) (z := z40) (by omega) (by omega)
                                                            have e33 : w22.toInt = t.1 := by rw [e22]; exact v1
                                                            have hk012 : t.1 = 0 ∨ t.1 = 1 := by rcases s_PL_LP _ t ht9 with ⟨h, -⟩ | ⟨h | h, -⟩ <;> omega
                                                            have hO := s_PD_O (q := D 4) hb hd hd.2.2.1.1
                                                            have hB := s_PD_B (q := D 4) hb hd ⟨hd.2.2.1.1, hd.2.2.1.2⟩
                                                            have hab := s_ac_b hO hB hx.2.1 hx.2.2 ht9 hk012
                                                            have hmt := s_pl_Lm hO (W := s_WD D) 241 0 0 0 0 (by decide) (by decide) hyes _ t ht9
                                                            have q1 := q33
                                                            have q2 := q35
                                                            have hcm : w33.toInt = s_cwm D t := by
                                                              rcases hk012 with h9 | h9
                                                              · exact (q1.1 (by omega)).trans (s_cm_S hx hp ht9 h9)
                                                              · exact (q1.2 (by omega)).trans (s_cm_C hx hp ht9 h9)
                                                            have hct : w35.toInt = s_ctw D t := by
                                                              rcases hk012 with h9 | h9
                                                              · exact (q2.1 (by omega)).trans (s_ct_S hx hp ht9 h9)
                                                              · exact (q2.2 (by omega)).trans (s_ct_C hx hp ht9 h9)
                                                            have em : w32.toInt = t.2.1 := by rw [e32]; exact v2
                                                            have es := s_sub e34 em hcm (by omega)
                                                            have hml := s_mul e36 es hct (by omega) (by omega)
                                                            have hvl : z36.toInt = s_vl D t := hml.1
                                                            have ewh : w31.toInt = t.2.2 := by rw [e31]; exact v3
                                                            have hnb : w31.toInt = s_nb t := by unfold s_nb; rw [if_pos (by omega)]; omega
                                                            have hX0 := s_DA_X g1
                                                            rw [ek]
                                                            exact ⟨⟨s_DA_n g1 (fun n x hh => (s_EN_s ht9 (by omega) n x).mp hh) (fun n x hh => (s_EN_s ht9 (by omega) n x).mpr (Or.inl hh)) (by omega) (fun _ _ => by omega), by omega⟩, hyes, hp, hx⟩) rfl
            · have r41 : y9_2.toInt ≤ z36.toInt := Int32.le_iff_toInt_le.mp (t_nlt h37)
              have l42 : 0 ≤ z36.toInt := t_lel (t_nlt h37) l9_2
              refine ev_loc f_X12_dearest (nx := 98) rfl rfl rfl rfl ?_
              refine ev_if f_X12_dearest (t1 := 122) (t2 := 101) rfl rfl rfl (fun h43 => ?_) (fun h43 => ?_)
              · have u44 : z36.toInt ≤ 0 := t_equ h43 (by decide : (0:Int32).toInt ≤ (0:Int))
                refine ev_incR f_X12_dearest (nx := 125) (c := 1) (l := 1) (u := 100) rfl rfl (by decide) (by decide) l9_3 u20 rfl rfl (by decide) (by decide) rfl (fun z45 e45 l45 u45 => ?_)
                refine ev_jmp f_X12_dearest (nx := 20) rfl rfl rfl ?_
                refine ev_sub (lo := [(3, .int z45), (2, .int y9_2), (1, .int y9_1), (0, .ref 69)]) rfl (t_sc rfl (t_sc rfl (t_sc rfl (t_sc rfl t_sn)))) ?_
                exact ih9 _ (by omega) (z45) (y9_2) (y9_1) (Int.le_trans (by decide : (0:Int) ≤ 1) l45) u45 l9_2 l9_1 u9_1 (by
                                                            intro D hm hb hd h46 ht
                                                            obtain ⟨⟨g1, g2⟩, hyes, hp, hx⟩ := j9_0 D hm hb hd h46 ht
                                                            have ck := t_clamp (i := y9_3) (by omega)
                                                            have hn := hp.1
                                                            obtain ⟨t, ht9⟩ := s_pd_g (L := s_PL D) (k := y9_3.toNatClampNeg) (by omega)
                                                            obtain ⟨v1, v2, v3⟩ := hp.2 _ t ht9
                                                            have ek := s_cp (y := y9_3) (z := z45) (by omega) (by omega)
                                                            have e33 : w22.toInt = t.1 := by rw [e22]; exact v1
                                                            have hk012 : t.1 = 0 ∨ t.1 = 1 := by rcases s_PL_LP _ t ht9 with ⟨h, -⟩ | ⟨h | h, -⟩ <;> omega
                                                            have hO := s_PD_O (q := D 4) hb hd hd.2.2.1.1
                                                            have hB := s_PD_B (q := D 4) hb hd ⟨hd.2.2.1.1, hd.2.2.1.2⟩
                                                            have hab := s_ac_b hO hB hx.2.1 hx.2.2 ht9 hk012
                                                            have hmt := s_pl_Lm hO (W := s_WD D) 241 0 0 0 0 (by decide) (by decide) hyes _ t ht9
                                                            have q1 := q33
                                                            have q2 := q35
                                                            have hcm : w33.toInt = s_cwm D t := by
                                                              rcases hk012 with h9 | h9
                                                              · exact (q1.1 (by omega)).trans (s_cm_S hx hp ht9 h9)
                                                              · exact (q1.2 (by omega)).trans (s_cm_C hx hp ht9 h9)
                                                            have hct : w35.toInt = s_ctw D t := by
                                                              rcases hk012 with h9 | h9
                                                              · exact (q2.1 (by omega)).trans (s_ct_S hx hp ht9 h9)
                                                              · exact (q2.2 (by omega)).trans (s_ct_C hx hp ht9 h9)
                                                            have em : w32.toInt = t.2.1 := by rw [e32]; exact v2
                                                            have es := s_sub e34 em hcm (by omega)
                                                            have hml := s_mul e36 es hct (by omega) (by omega)
                                                            have hvl : z36.toInt = s_vl D t := hml.1
                                                            have ewh : w31.toInt = t.2.2 := by rw [e31]; exact v3
                                                            have hnb : w31.toInt = s_nb t := by unfold s_nb; rw [if_pos (by omega)]; omega
                                                            have hX0 := s_DA_X g1
                                                            rw [ek]
                                                            exact ⟨⟨s_DA_n g1 (fun n x hh => (s_EN_s ht9 (by omega) n x).mp hh) (fun n x hh => (s_EN_s ht9 (by omega) n x).mpr (Or.inl hh)) (by omega) (fun _ _ => by omega), by omega⟩, hyes, hp, hx⟩) rfl
              · have r46 : z36.toInt ≠ 0 := fun e => h43 (Int32.toInt_inj.mp (e.trans (by decide : (0:Int) = (0 : Int32).toInt)))
                have l47 : 1 ≤ z36.toInt := t_nel h43 l42 rfl rfl
                refine ev_loc f_X12_dearest (nx := 103) rfl rfl rfl rfl ?_
                refine ev_loc f_X12_dearest (nx := 104) rfl rfl rfl rfl ?_
                refine ev_if f_X12_dearest (t1 := 107) (t2 := 116) rfl rfl rfl (fun h48 => ?_) (fun h48 => ?_)
                · have r49 : z36.toInt = y9_2.toInt := t_eqi h48
                  have l50 : 1 ≤ y9_2.toInt := t_eql (Eq.symm h48) l47
                  refine ev_loc f_X12_dearest (nx := 109) rfl rfl rfl rfl ?_
                  refine ev_loc f_X12_dearest (nx := 110) rfl rfl rfl rfl ?_
                  refine ev_if f_X12_dearest (t1 := 116) (t2 := 113) rfl rfl rfl (fun h51 => ?_) (fun h51 => ?_)
                  · have r52 : w31.toInt ≤ y9_1.toInt := Int32.le_iff_toInt_le.mp h51
                    refine ev_loc f_X12_dearest (nx := 118) rfl rfl rfl rfl ?_
                    refine ev_loc f_X12_dearest (nx := 119) (lo' := [(2, .int z36), (5, .int z36), (4, .int w31), (3, .int y9_3), (1, .int y9_1), (0, .ref 69)]) rfl rfl rfl rfl ?_
                    refine ev_loc f_X12_dearest (nx := 121) rfl rfl rfl rfl ?_
                    refine ev_loc f_X12_dearest (nx := 122) (lo' := [(1, .int w31), (2, .int z36), (5, .int z36), (4, .int w31), (3, .int y9_3), (0, .ref 69)]) rfl rfl rfl rfl ?_
                    refine ev_incR f_X12_dearest (nx := 125) (c := 1) (l := 1) (u := 100) rfl rfl (by decide) (by decide) l9_3 u20 rfl rfl (by decide) (by decide) rfl (fun z53 e53 l53 u53 => ?_)
                    refine ev_jmp f_X12_dearest (nx := 20) rfl rfl rfl ?_
                    refine ev_sub (lo := [(3, .int z53), (2, .int z36), (1, .int w31), (0, .ref 69)]) rfl (t_sc rfl (t_sc rfl (t_sc rfl (t_sc rfl t_sn)))) ?_
                    exact ih9 _ (by omega) (z53) (z36) (w31) (Int.le_trans (by decide : (0:Int) ≤ 1) l53) u53 (Int.le_trans (by decide : (0:Int) ≤ 1) l47) l31 (Int.le_trans u31 (by decide : (5:Int) ≤ 11)) (by
                                                            intro D hm hb hd h46 ht
                                                            obtain ⟨⟨g1, g2⟩, hyes, hp, hx⟩ := j9_0 D hm hb hd h46 ht
                                                            have ck := t_clamp (i := y9_3) (by omega)
                                                            have hn := hp.1
                                                            obtain ⟨t, ht9⟩ := s_pd_g (L := s_PL D) (k := y9_3.toNatClampNeg) (by omega)
                                                            obtain ⟨v1, v2, v3⟩ := hp.2 _ t ht9
                                                            have ek := s_cp (y := y9_3) (z := z53) (by omega) (by omega)
                                                            have e33 : w22.toInt = t.1 := by rw [e22]; exact v1
                                                            have hk012 : t.1 = 0 ∨ t.1 = 1 := by rcases s_PL_LP _ t ht9 with ⟨h, -⟩ | ⟨h | h, -⟩ <;> omega
                                                            have hO := s_PD_O (q := D 4) hb hd hd.2.2.1.1
                                                            have hB := s_PD_B (q := D 4) hb hd ⟨hd.2.2.1.1, hd.2.2.1.2⟩
                                                            have hab := s_ac_b hO hB hx.2.1 hx.2.2 ht9 hk012
                                                            have hmt := s_pl_Lm hO (W := s_WD D) 241 0 0 0 0 (by decide) (by decide) hyes _ t ht9
                                                            have q1 := q33
                                                            have q2 := q35
                                                            have hcm : w33.toInt = s_cwm D t := by
                                                              rcases hk012 with h9 | h9
                                                              · exact (q1.1 (by omega)).trans (s_cm_S hx hp ht9 h9)
                                                              · exact (q1.2 (by omega)).trans (s_cm_C hx hp ht9 h9)
                                                            have hct : w35.toInt = s_ctw D t := by
                                                              rcases hk012 with h9 | h9
                                                              · exact (q2.1 (by omega)).trans (s_ct_S hx hp ht9 h9)
                                                              · exact (q2.2 (by omega)).trans (s_ct_C hx hp ht9 h9)
                                                            have em : w32.toInt = t.2.1 := by rw [e32]; exact v2
                                                            have es := s_sub e34 em hcm (by omega)
                                                            have hml := s_mul e36 es hct (by omega) (by omega)
                                                            have hvl : z36.toInt = s_vl D t := hml.1
                                                            have ewh : w31.toInt = t.2.2 := by rw [e31]; exact v3
                                                            have hnb : w31.toInt = s_nb t := by unfold s_nb; rw [if_pos (by omega)]; omega
                                                            have hX0 := s_DA_X g1
                                                            rw [ek]
                                                            rw [hnb, hvl]
                                                            exact ⟨⟨s_DA_y g1 (s_EN_s ht9 (by omega)) (by omega) (by omega), by omega⟩, hyes, hp, hx⟩) rfl
                  · have r54 : y9_1.toInt < w31.toInt := Int32.lt_iff_toInt_lt.mp (t_nle h51)
                    have u55 : y9_1.toInt ≤ 4 := t_ltu (t_nle h51) u31 rfl
                    have l56 : 0 ≤ w31.toInt := t_ltl (t_nle h51) l9_1 rfl
                    refine ev_jmp f_X12_dearest (nx := 122) rfl rfl rfl ?_
                    refine ev_incR f_X12_dearest (nx := 125) (c := 1) (l := 1) (u := 100) rfl rfl (by decide) (by decide) l9_3 u20 rfl rfl (by decide) (by decide) rfl (fun z57 e57 l57 u57 => ?_)
                    refine ev_jmp f_X12_dearest (nx := 20) rfl rfl rfl ?_
                    refine ev_sub (lo := [(3, .int z57), (2, .int y9_2), (1, .int y9_1), (0, .ref 69)]) rfl (t_sc rfl (t_sc rfl (t_sc rfl (t_sc rfl t_sn)))) ?_
                    exact ih9 _ (by omega) (z57) (y9_2) (y9_1) (Int.le_trans (by decide : (0:Int) ≤ 1) l57) u57 (Int.le_trans (by decide : (0:Int) ≤ 1) l50) l9_1 (Int.le_trans u55 (by decide : (4:Int) ≤ 11)) (by
                                                            intro D hm hb hd h46 ht
                                                            obtain ⟨⟨g1, g2⟩, hyes, hp, hx⟩ := j9_0 D hm hb hd h46 ht
                                                            have ck := t_clamp (i := y9_3) (by omega)
                                                            have hn := hp.1
                                                            obtain ⟨t, ht9⟩ := s_pd_g (L := s_PL D) (k := y9_3.toNatClampNeg) (by omega)
                                                            obtain ⟨v1, v2, v3⟩ := hp.2 _ t ht9
                                                            have ek := s_cp (y := y9_3) (z := z57) (by omega) (by omega)
                                                            have e33 : w22.toInt = t.1 := by rw [e22]; exact v1
                                                            have hk012 : t.1 = 0 ∨ t.1 = 1 := by rcases s_PL_LP _ t ht9 with ⟨h, -⟩ | ⟨h | h, -⟩ <;> omega
                                                            have hO := s_PD_O (q := D 4) hb hd hd.2.2.1.1
                                                            have hB := s_PD_B (q := D 4) hb hd ⟨hd.2.2.1.1, hd.2.2.1.2⟩
                                                            have hab := s_ac_b hO hB hx.2.1 hx.2.2 ht9 hk012
                                                            have hmt := s_pl_Lm hO (W := s_WD D) 241 0 0 0 0 (by decide) (by decide) hyes _ t ht9
                                                            have q1 := q33
                                                            have q2 := q35
                                                            have hcm : w33.toInt = s_cwm D t := by
                                                              rcases hk012 with h9 | h9
                                                              · exact (q1.1 (by omega)).trans (s_cm_S hx hp ht9 h9)
                                                              · exact (q1.2 (by omega)).trans (s_cm_C hx hp ht9 h9)
                                                            have hct : w35.toInt = s_ctw D t := by
                                                              rcases hk012 with h9 | h9
                                                              · exact (q2.1 (by omega)).trans (s_ct_S hx hp ht9 h9)
                                                              · exact (q2.2 (by omega)).trans (s_ct_C hx hp ht9 h9)
                                                            have em : w32.toInt = t.2.1 := by rw [e32]; exact v2
                                                            have es := s_sub e34 em hcm (by omega)
                                                            have hml := s_mul e36 es hct (by omega) (by omega)
                                                            have hvl : z36.toInt = s_vl D t := hml.1
                                                            have ewh : w31.toInt = t.2.2 := by rw [e31]; exact v3
                                                            have hnb : w31.toInt = s_nb t := by unfold s_nb; rw [if_pos (by omega)]; omega
                                                            have hX0 := s_DA_X g1
                                                            rw [ek]
                                                            exact ⟨⟨s_DA_n g1 (fun n x hh => (s_EN_s ht9 (by omega) n x).mp hh) (fun n x hh => (s_EN_s ht9 (by omega) n x).mpr (Or.inl hh)) (by omega) (fun _ _ => by omega), by omega⟩, hyes, hp, hx⟩) rfl
                · have r58 : z36.toInt ≠ y9_2.toInt := t_nei h48
                  refine ev_loc f_X12_dearest (nx := 118) rfl rfl rfl rfl ?_
                  refine ev_loc f_X12_dearest (nx := 119) (lo' := [(2, .int z36), (5, .int z36), (4, .int w31), (3, .int y9_3), (1, .int y9_1), (0, .ref 69)]) rfl rfl rfl rfl ?_
                  refine ev_loc f_X12_dearest (nx := 121) rfl rfl rfl rfl ?_
                  refine ev_loc f_X12_dearest (nx := 122) (lo' := [(1, .int w31), (2, .int z36), (5, .int z36), (4, .int w31), (3, .int y9_3), (0, .ref 69)]) rfl rfl rfl rfl ?_
                  refine ev_incR f_X12_dearest (nx := 125) (c := 1) (l := 1) (u := 100) rfl rfl (by decide) (by decide) l9_3 u20 rfl rfl (by decide) (by decide) rfl (fun z59 e59 l59 u59 => ?_)
                  refine ev_jmp f_X12_dearest (nx := 20) rfl rfl rfl ?_
                  refine ev_sub (lo := [(3, .int z59), (2, .int z36), (1, .int w31), (0, .ref 69)]) rfl (t_sc rfl (t_sc rfl (t_sc rfl (t_sc rfl t_sn)))) ?_
                  exact ih9 _ (by omega) (z59) (z36) (w31) (Int.le_trans (by decide : (0:Int) ≤ 1) l59) u59 (Int.le_trans (by decide : (0:Int) ≤ 1) l47) l31 (Int.le_trans u31 (by decide : (5:Int) ≤ 11)) (by
                                                            intro D hm hb hd h46 ht
                                                            obtain ⟨⟨g1, g2⟩, hyes, hp, hx⟩ := j9_0 D hm hb hd h46 ht
                                                            have ck := t_clamp (i := y9_3) (by omega)
                                                            have hn := hp.1
                                                            obtain ⟨t, ht9⟩ := s_pd_g (L := s_PL D) (k := y9_3.toNatClampNeg) (by omega)
                                                            obtain ⟨v1, v2, v3⟩ := hp.2 _ t ht9
                                                            have ek := s_cp (y := y9_3) (z := z59) (by omega) (by omega)
                                                            have e33 : w22.toInt = t.1 := by rw [e22]; exact v1
                                                            have hk012 : t.1 = 0 ∨ t.1 = 1 := by rcases s_PL_LP _ t ht9 with ⟨h, -⟩ | ⟨h | h, -⟩ <;> omega
                                                            have hO := s_PD_O (q := D 4) hb hd hd.2.2.1.1
                                                            have hB := s_PD_B (q := D 4) hb hd ⟨hd.2.2.1.1, hd.2.2.1.2⟩
                                                            have hab := s_ac_b hO hB hx.2.1 hx.2.2 ht9 hk012
                                                            have hmt := s_pl_Lm hO (W := s_WD D) 241 0 0 0 0 (by decide) (by decide) hyes _ t ht9
                                                            have q1 := q33
                                                            have q2 := q35
                                                            have hcm : w33.toInt = s_cwm D t := by
                                                              rcases hk012 with h9 | h9
                                                              · exact (q1.1 (by omega)).trans (s_cm_S hx hp ht9 h9)
                                                              · exact (q1.2 (by omega)).trans (s_cm_C hx hp ht9 h9)
                                                            have hct : w35.toInt = s_ctw D t := by
                                                              rcases hk012 with h9 | h9
                                                              · exact (q2.1 (by omega)).trans (s_ct_S hx hp ht9 h9)
                                                              · exact (q2.2 (by omega)).trans (s_ct_C hx hp ht9 h9)
                                                            have em : w32.toInt = t.2.1 := by rw [e32]; exact v2
                                                            have es := s_sub e34 em hcm (by omega)
                                                            have hml := s_mul e36 es hct (by omega) (by omega)
                                                            have hvl : z36.toInt = s_vl D t := hml.1
                                                            have ewh : w31.toInt = t.2.2 := by rw [e31]; exact v3
                                                            have hnb : w31.toInt = s_nb t := by unfold s_nb; rw [if_pos (by omega)]; omega
                                                            have hX0 := s_DA_X g1
                                                            rw [ek]
                                                            rw [hnb, hvl]
                                                            exact ⟨⟨s_DA_y g1 (s_EN_s ht9 (by omega)) (by omega) (by omega), by omega⟩, hyes, hp, hx⟩) rfl
          · have r60 : w22.toInt ≠ 0 := fun e => h29 (Int32.toInt_inj.mp (e.trans (by decide : (0:Int) = (0 : Int32).toInt)))
            have l61 : 1 ≤ w22.toInt := t_nel h29 l22 rfl rfl
            refine ev_bp f_X12_dearest (nx := 61) (v := 6) rfl (by decide) rfl ?_
            refine ev_loc f_X12_dearest (nx := 62) rfl rfl rfl rfl ?_
            refine ev_getR f_X12_dearest (nx := 65) rfl (hI.wf.s rfl) rfl rfl (hI.wf.r rfl) rfl rfl ?_
            refine ev_loc f_X12_dearest (nx := 66) rfl rfl rfl rfl ?_
            refine ev_ialdT f_X12_dearest (nx := 67) rfl (hI.wf.s rfl) l9_3 (by decide) u20 (by decide) rfl (fun w62 e62 => ?_)
            obtain ⟨l62, u62⟩ := hI.abi e62 (by decide +kernel : t_abr 95 0 99 (-1) 5 = true) l9_3 (by decide) u20 (by decide)
            refine ev_addK f_X12_dearest (nx := 68) (c := 6) (l := 5) (u := 11) rfl (by decide) l62 u62 rfl rfl (by decide) (by decide) rfl (fun z63 e63 l63 u63 => ?_)
            refine ev_loc f_X12_dearest (nx := 70) (lo' := [(4, .int z63), (3, .int y9_3), (2, .int y9_2), (1, .int y9_1), (0, .ref 69)]) rfl rfl rfl rfl ?_
            refine ev_loc f_X12_dearest (nx := 71) rfl rfl rfl rfl ?_
            refine ev_getR f_X12_dearest (nx := 74) rfl (hI.wf.s rfl) rfl rfl (hI.wf.r rfl) rfl rfl ?_
            refine ev_loc f_X12_dearest (nx := 75) rfl rfl rfl rfl ?_
            refine ev_ialdT f_X12_dearest (nx := 76) rfl (hI.wf.s rfl) l9_3 (by decide) u20 (by decide) rfl (fun w64 e64 => ?_)
            refine ev_loc f_X12_dearest (nx := 77) rfl rfl rfl rfl ?_
            refine ev_loc f_X12_dearest (nx := 78) rfl rfl rfl rfl ?_
            refine ev_qI0 f_X12_dearest (nx := 81) (r := [.int w64]) rfl rfl rfl rfl rfl rfl rfl (c_l_cameBy hI (y9_3) l9_3 u20 (fun h => q3.2 (by omega) y9_3.toNatClampNeg (by have hc := t_clamp (i := y9_3) (by omega); omega) h)) rfl (fun w65 l65 u65 q65 => ?_)
            have q65 : ((gi3 93 y9_3.toNatClampNeg).toInt = 0 → w65.toInt = (gi3 89 (gi3 95 y9_3.toNatClampNeg).toNatClampNeg).toInt) ∧ ((gi3 93 y9_3.toNatClampNeg).toInt = 1 → w65.toInt = (gi3 89 (6 + (gi3 95 y9_3.toNatClampNeg).toNatClampNeg)).toInt) := q65
            refine ev_anyIE f_X12_dearest (nx := 82) rfl rfl rfl rfl (fun z66 e66 => ?_)
            refine ev_loc f_X12_dearest (nx := 83) rfl rfl rfl rfl ?_
            refine ev_loc f_X12_dearest (nx := 84) rfl rfl rfl rfl ?_
            refine ev_qI0 f_X12_dearest (nx := 87) (r := [.int z66]) rfl rfl rfl rfl rfl rfl rfl (c_l_costsBy hI (y9_3) l9_3 u20 (fun h => q3.2 (by omega) y9_3.toNatClampNeg (by have hc := t_clamp (i := y9_3) (by omega); omega) h)) rfl (fun w67 l67 u67 q67 => ?_)
            have q67 : ((gi3 93 y9_3.toNatClampNeg).toInt = 0 → w67.toInt = (gi3 70 (55 + 5 * (gi3 95 y9_3.toNatClampNeg).toNatClampNeg)).toInt) ∧ ((gi3 93 y9_3.toNatClampNeg).toInt = 1 → w67.toInt = (gi3 70 (84 + 3 * (gi3 95 y9_3.toNatClampNeg).toNatClampNeg)).toInt) := q67
            refine ev_anyIE f_X12_dearest (nx := 88) rfl rfl rfl rfl (fun z68 e68 => ?_)
            refine ev_loc f_X12_dearest (nx := 90) (lo' := [(5, .int z68), (4, .int z63), (3, .int y9_3), (2, .int y9_2), (1, .int y9_1), (0, .ref 69)]) rfl rfl rfl rfl ?_
            refine ev_loc f_X12_dearest (nx := 92) rfl rfl rfl rfl ?_
            refine ev_loc f_X12_dearest (nx := 93) rfl rfl rfl rfl ?_
            refine ev_if f_X12_dearest (t1 := 122) (t2 := 96) rfl rfl rfl (fun h69 => ?_) (fun h69 => ?_)
            · have r70 : z68.toInt < y9_2.toInt := Int32.lt_iff_toInt_lt.mp h69
              have u71 : z68.toInt ≤ 2147483646 := t_ltu h69 (t_hi y9_2) rfl
              refine ev_incR f_X12_dearest (nx := 125) (c := 1) (l := 1) (u := 100) rfl rfl (by decide) (by decide) l9_3 u20 rfl rfl (by decide) (by decide) rfl (fun z72 e72 l72 u72 => ?_)
              refine ev_jmp f_X12_dearest (nx := 20) rfl rfl rfl ?_
              refine ev_sub (lo := [(3, .int z72), (2, .int y9_2), (1, .int y9_1), (0, .ref 69)]) rfl (t_sc rfl (t_sc rfl (t_sc rfl (t_sc rfl t_sn)))) ?_
              exact ih9 _ (by omega) (z72) (y9_2) (y9_1) (Int.le_trans (by decide : (0:Int) ≤ 1) l72) u72 l9_2 l9_1 u9_1 (by
                                                            intro D hm hb hd h46 ht
                                                            obtain ⟨⟨g1, g2⟩, hyes, hp, hx⟩ := j9_0 D hm hb hd h46 ht
                                                            have ck := t_clamp (i := y9_3) (by omega)
                                                            have hn := hp.1
                                                            obtain ⟨t, ht9⟩ := s_pd_g (L := s_PL D) (k := y9_3.toNatClampNeg) (by omega)
                                                            obtain ⟨v1, v2, v3⟩ := hp.2 _ t ht9
                                                            have ek := s_cp (y := y9_3) (z := z72) (by omega) (by omega)
                                                            have e33 : w22.toInt = t.1 := by rw [e22]; exact v1
                                                            have hk012 : t.1 = 0 ∨ t.1 = 1 := by rcases s_PL_LP _ t ht9 with ⟨h, -⟩ | ⟨h | h, -⟩ <;> omega
                                                            have hO := s_PD_O (q := D 4) hb hd hd.2.2.1.1
                                                            have hB := s_PD_B (q := D 4) hb hd ⟨hd.2.2.1.1, hd.2.2.1.2⟩
                                                            have hab := s_ac_b hO hB hx.2.1 hx.2.2 ht9 hk012
                                                            have hmt := s_pl_Lm hO (W := s_WD D) 241 0 0 0 0 (by decide) (by decide) hyes _ t ht9
                                                            have q1 := q65
                                                            have q2 := q67
                                                            have hcm : w65.toInt = s_cwm D t := by
                                                              rcases hk012 with h9 | h9
                                                              · exact (q1.1 (by omega)).trans (s_cm_S hx hp ht9 h9)
                                                              · exact (q1.2 (by omega)).trans (s_cm_C hx hp ht9 h9)
                                                            have hct : w67.toInt = s_ctw D t := by
                                                              rcases hk012 with h9 | h9
                                                              · exact (q2.1 (by omega)).trans (s_ct_S hx hp ht9 h9)
                                                              · exact (q2.2 (by omega)).trans (s_ct_C hx hp ht9 h9)
                                                            have em : w64.toInt = t.2.1 := by rw [e64]; exact v2
                                                            have es := s_sub e66 em hcm (by omega)
                                                            have hml := s_mul e68 es hct (by omega) (by omega)
                                                            have hvl : z68.toInt = s_vl D t := hml.1
                                                            have ewh : w62.toInt = t.2.2 := by rw [e62]; exact v3
                                                            have hnb : z63.toInt = s_nb t := by unfold s_nb; rw [if_neg (by omega)]; omega
                                                            have hX0 := s_DA_X g1
                                                            rw [ek]
                                                            exact ⟨⟨s_DA_n g1 (fun n x hh => (s_EN_s ht9 (by omega) n x).mp hh) (fun n x hh => (s_EN_s ht9 (by omega) n x).mpr (Or.inl hh)) (by omega) (fun _ _ => by omega), by omega⟩, hyes, hp, hx⟩) rfl
            · have r73 : y9_2.toInt ≤ z68.toInt := Int32.le_iff_toInt_le.mp (t_nlt h69)
              have l74 : 0 ≤ z68.toInt := t_lel (t_nlt h69) l9_2
              refine ev_loc f_X12_dearest (nx := 98) rfl rfl rfl rfl ?_
              refine ev_if f_X12_dearest (t1 := 122) (t2 := 101) rfl rfl rfl (fun h75 => ?_) (fun h75 => ?_)
              · have u76 : z68.toInt ≤ 0 := t_equ h75 (by decide : (0:Int32).toInt ≤ (0:Int))
                refine ev_incR f_X12_dearest (nx := 125) (c := 1) (l := 1) (u := 100) rfl rfl (by decide) (by decide) l9_3 u20 rfl rfl (by decide) (by decide) rfl (fun z77 e77 l77 u77 => ?_)
                refine ev_jmp f_X12_dearest (nx := 20) rfl rfl rfl ?_
                refine ev_sub (lo := [(3, .int z77), (2, .int y9_2), (1, .int y9_1), (0, .ref 69)]) rfl (t_sc rfl (t_sc rfl (t_sc rfl (t_sc rfl t_sn)))) ?_
                exact ih9 _ (by omega) (z77) (y9_2) (y9_1) (Int.le_trans (by decide : (0:Int) ≤ 1) l77) u77 l9_2 l9_1 u9_1 (by
                                                            intro D hm hb hd h46 ht
                                                            obtain ⟨⟨g1, g2⟩, hyes, hp, hx⟩ := j9_0 D hm hb hd h46 ht
                                                            have ck := t_clamp (i := y9_3) (by omega)
                                                            have hn := hp.1
                                                            obtain ⟨t, ht9⟩ := s_pd_g (L := s_PL D) (k := y9_3.toNatClampNeg) (by omega)
                                                            obtain ⟨v1, v2, v3⟩ := hp.2 _ t ht9
                                                            have ek := s_cp (y := y9_3) (z := z77) (by omega) (by omega)
                                                            have e33 : w22.toInt = t.1 := by rw [e22]; exact v1
                                                            have hk012 : t.1 = 0 ∨ t.1 = 1 := by rcases s_PL_LP _ t ht9 with ⟨h, -⟩ | ⟨h | h, -⟩ <;> omega
                                                            have hO := s_PD_O (q := D 4) hb hd hd.2.2.1.1
                                                            have hB := s_PD_B (q := D 4) hb hd ⟨hd.2.2.1.1, hd.2.2.1.2⟩
                                                            have hab := s_ac_b hO hB hx.2.1 hx.2.2 ht9 hk012
                                                            have hmt := s_pl_Lm hO (W := s_WD D) 241 0 0 0 0 (by decide) (by decide) hyes _ t ht9
                                                            have q1 := q65
                                                            have q2 := q67
                                                            have hcm : w65.toInt = s_cwm D t := by
                                                              rcases hk012 with h9 | h9
                                                              · exact (q1.1 (by omega)).trans (s_cm_S hx hp ht9 h9)
                                                              · exact (q1.2 (by omega)).trans (s_cm_C hx hp ht9 h9)
                                                            have hct : w67.toInt = s_ctw D t := by
                                                              rcases hk012 with h9 | h9
                                                              · exact (q2.1 (by omega)).trans (s_ct_S hx hp ht9 h9)
                                                              · exact (q2.2 (by omega)).trans (s_ct_C hx hp ht9 h9)
                                                            have em : w64.toInt = t.2.1 := by rw [e64]; exact v2
                                                            have es := s_sub e66 em hcm (by omega)
                                                            have hml := s_mul e68 es hct (by omega) (by omega)
                                                            have hvl : z68.toInt = s_vl D t := hml.1
                                                            have ewh : w62.toInt = t.2.2 := by rw [e62]; exact v3
                                                            have hnb : z63.toInt = s_nb t := by unfold s_nb; rw [if_neg (by omega)]; omega
                                                            have hX0 := s_DA_X g1
                                                            rw [ek]
                                                            exact ⟨⟨s_DA_n g1 (fun n x hh => (s_EN_s ht9 (by omega) n x).mp hh) (fun n x hh => (s_EN_s ht9 (by omega) n x).mpr (Or.inl hh)) (by omega) (fun _ _ => by omega), by omega⟩, hyes, hp, hx⟩) rfl
              · have r78 : z68.toInt ≠ 0 := fun e => h75 (Int32.toInt_inj.mp (e.trans (by decide : (0:Int) = (0 : Int32).toInt)))
                have l79 : 1 ≤ z68.toInt := t_nel h75 l74 rfl rfl
                refine ev_loc f_X12_dearest (nx := 103) rfl rfl rfl rfl ?_
                refine ev_loc f_X12_dearest (nx := 104) rfl rfl rfl rfl ?_
                refine ev_if f_X12_dearest (t1 := 107) (t2 := 116) rfl rfl rfl (fun h80 => ?_) (fun h80 => ?_)
                · have r81 : z68.toInt = y9_2.toInt := t_eqi h80
                  have l82 : 1 ≤ y9_2.toInt := t_eql (Eq.symm h80) l79
                  refine ev_loc f_X12_dearest (nx := 109) rfl rfl rfl rfl ?_
                  refine ev_loc f_X12_dearest (nx := 110) rfl rfl rfl rfl ?_
                  refine ev_if f_X12_dearest (t1 := 116) (t2 := 113) rfl rfl rfl (fun h83 => ?_) (fun h83 => ?_)
                  · have r84 : z63.toInt ≤ y9_1.toInt := Int32.le_iff_toInt_le.mp h83
                    have l85 : 5 ≤ y9_1.toInt := t_lel h83 l63
                    refine ev_loc f_X12_dearest (nx := 118) rfl rfl rfl rfl ?_
                    refine ev_loc f_X12_dearest (nx := 119) (lo' := [(2, .int z68), (5, .int z68), (4, .int z63), (3, .int y9_3), (1, .int y9_1), (0, .ref 69)]) rfl rfl rfl rfl ?_
                    refine ev_loc f_X12_dearest (nx := 121) rfl rfl rfl rfl ?_
                    refine ev_loc f_X12_dearest (nx := 122) (lo' := [(1, .int z63), (2, .int z68), (5, .int z68), (4, .int z63), (3, .int y9_3), (0, .ref 69)]) rfl rfl rfl rfl ?_
                    refine ev_incR f_X12_dearest (nx := 125) (c := 1) (l := 1) (u := 100) rfl rfl (by decide) (by decide) l9_3 u20 rfl rfl (by decide) (by decide) rfl (fun z86 e86 l86 u86 => ?_)
                    refine ev_jmp f_X12_dearest (nx := 20) rfl rfl rfl ?_
                    refine ev_sub (lo := [(3, .int z86), (2, .int z68), (1, .int z63), (0, .ref 69)]) rfl (t_sc rfl (t_sc rfl (t_sc rfl (t_sc rfl t_sn)))) ?_
                    exact ih9 _ (by omega) (z86) (z68) (z63) (Int.le_trans (by decide : (0:Int) ≤ 1) l86) u86 (Int.le_trans (by decide : (0:Int) ≤ 1) l79) (Int.le_trans (by decide : ((-1):Int) ≤ 5) l63) u63 (by
                                                            intro D hm hb hd h46 ht
                                                            obtain ⟨⟨g1, g2⟩, hyes, hp, hx⟩ := j9_0 D hm hb hd h46 ht
                                                            have ck := t_clamp (i := y9_3) (by omega)
                                                            have hn := hp.1
                                                            obtain ⟨t, ht9⟩ := s_pd_g (L := s_PL D) (k := y9_3.toNatClampNeg) (by omega)
                                                            obtain ⟨v1, v2, v3⟩ := hp.2 _ t ht9
                                                            have ek := s_cp (y := y9_3) (z := z86) (by omega) (by omega)
                                                            have e33 : w22.toInt = t.1 := by rw [e22]; exact v1
                                                            have hk012 : t.1 = 0 ∨ t.1 = 1 := by rcases s_PL_LP _ t ht9 with ⟨h, -⟩ | ⟨h | h, -⟩ <;> omega
                                                            have hO := s_PD_O (q := D 4) hb hd hd.2.2.1.1
                                                            have hB := s_PD_B (q := D 4) hb hd ⟨hd.2.2.1.1, hd.2.2.1.2⟩
                                                            have hab := s_ac_b hO hB hx.2.1 hx.2.2 ht9 hk012
                                                            have hmt := s_pl_Lm hO (W := s_WD D) 241 0 0 0 0 (by decide) (by decide) hyes _ t ht9
                                                            have q1 := q65
                                                            have q2 := q67
                                                            have hcm : w65.toInt = s_cwm D t := by
                                                              rcases hk012 with h9 | h9
                                                              · exact (q1.1 (by omega)).trans (s_cm_S hx hp ht9 h9)
                                                              · exact (q1.2 (by omega)).trans (s_cm_C hx hp ht9 h9)
                                                            have hct : w67.toInt = s_ctw D t := by
                                                              rcases hk012 with h9 | h9
                                                              · exact (q2.1 (by omega)).trans (s_ct_S hx hp ht9 h9)
                                                              · exact (q2.2 (by omega)).trans (s_ct_C hx hp ht9 h9)
                                                            have em : w64.toInt = t.2.1 := by rw [e64]; exact v2
                                                            have es := s_sub e66 em hcm (by omega)
                                                            have hml := s_mul e68 es hct (by omega) (by omega)
                                                            have hvl : z68.toInt = s_vl D t := hml.1
                                                            have ewh : w62.toInt = t.2.2 := by rw [e62]; exact v3
                                                            have hnb : z63.toInt = s_nb t := by unfold s_nb; rw [if_neg (by omega)]; omega
                                                            have hX0 := s_DA_X g1
                                                            rw [ek]
                                                            rw [hnb, hvl]
                                                            exact ⟨⟨s_DA_y g1 (s_EN_s ht9 (by omega)) (by omega) (by omega), by omega⟩, hyes, hp, hx⟩) rfl
                  · have r87 : y9_1.toInt < z63.toInt := Int32.lt_iff_toInt_lt.mp (t_nle h83)
                    have u88 : y9_1.toInt ≤ 10 := t_ltu (t_nle h83) u63 rfl
                    refine ev_jmp f_X12_dearest (nx := 122) rfl rfl rfl ?_
                    refine ev_incR f_X12_dearest (nx := 125) (c := 1) (l := 1) (u := 100) rfl rfl (by decide) (by decide) l9_3 u20 rfl rfl (by decide) (by decide) rfl (fun z89 e89 l89 u89 => ?_)
                    refine ev_jmp f_X12_dearest (nx := 20) rfl rfl rfl ?_
                    refine ev_sub (lo := [(3, .int z89), (2, .int y9_2), (1, .int y9_1), (0, .ref 69)]) rfl (t_sc rfl (t_sc rfl (t_sc rfl (t_sc rfl t_sn)))) ?_
                    exact ih9 _ (by omega) (z89) (y9_2) (y9_1) (Int.le_trans (by decide : (0:Int) ≤ 1) l89) u89 (Int.le_trans (by decide : (0:Int) ≤ 1) l82) l9_1 (Int.le_trans u88 (by decide : (10:Int) ≤ 11)) (by
                                                            intro D hm hb hd h46 ht
                                                            obtain ⟨⟨g1, g2⟩, hyes, hp, hx⟩ := j9_0 D hm hb hd h46 ht
                                                            have ck := t_clamp (i := y9_3) (by omega)
                                                            have hn := hp.1
                                                            obtain ⟨t, ht9⟩ := s_pd_g (L := s_PL D) (k := y9_3.toNatClampNeg) (by omega)
                                                            obtain ⟨v1, v2, v3⟩ := hp.2 _ t ht9
                                                            have ek := s_cp (y := y9_3) (z := z89) (by omega) (by omega)
                                                            have e33 : w22.toInt = t.1 := by rw [e22]; exact v1
                                                            have hk012 : t.1 = 0 ∨ t.1 = 1 := by rcases s_PL_LP _ t ht9 with ⟨h, -⟩ | ⟨h | h, -⟩ <;> omega
                                                            have hO := s_PD_O (q := D 4) hb hd hd.2.2.1.1
                                                            have hB := s_PD_B (q := D 4) hb hd ⟨hd.2.2.1.1, hd.2.2.1.2⟩
                                                            have hab := s_ac_b hO hB hx.2.1 hx.2.2 ht9 hk012
                                                            have hmt := s_pl_Lm hO (W := s_WD D) 241 0 0 0 0 (by decide) (by decide) hyes _ t ht9
                                                            have q1 := q65
                                                            have q2 := q67
                                                            have hcm : w65.toInt = s_cwm D t := by
                                                              rcases hk012 with h9 | h9
                                                              · exact (q1.1 (by omega)).trans (s_cm_S hx hp ht9 h9)
                                                              · exact (q1.2 (by omega)).trans (s_cm_C hx hp ht9 h9)
                                                            have hct : w67.toInt = s_ctw D t := by
                                                              rcases hk012 with h9 | h9
                                                              · exact (q2.1 (by omega)).trans (s_ct_S hx hp ht9 h9)
                                                              · exact (q2.2 (by omega)).trans (s_ct_C hx hp ht9 h9)
                                                            have em : w64.toInt = t.2.1 := by rw [e64]; exact v2
                                                            have es := s_sub e66 em hcm (by omega)
                                                            have hml := s_mul e68 es hct (by omega) (by omega)
                                                            have hvl : z68.toInt = s_vl D t := hml.1
                                                            have ewh : w62.toInt = t.2.2 := by rw [e62]; exact v3
                                                            have hnb : z63.toInt = s_nb t := by unfold s_nb; rw [if_neg (by omega)]; omega
                                                            have hX0 := s_DA_X g1
                                                            rw [ek]
                                                            exact ⟨⟨s_DA_n g1 (fun n x hh => (s_EN_s ht9 (by omega) n x).mp hh) (fun n x hh => (s_EN_s ht9 (by omega) n x).mpr (Or.inl hh)) (by omega) (fun _ _ => by omega), by omega⟩, hyes, hp, hx⟩) rfl
                · have r90 : z68.toInt ≠ y9_2.toInt := t_nei h80
                  refine ev_loc f_X12_dearest (nx := 118) rfl rfl rfl rfl ?_
                  refine ev_loc f_X12_dearest (nx := 119) (lo' := [(2, .int z68), (5, .int z68), (4, .int z63), (3, .int y9_3), (1, .int y9_1), (0, .ref 69)]) rfl rfl rfl rfl ?_
                  refine ev_loc f_X12_dearest (nx := 121) rfl rfl rfl rfl ?_
                  refine ev_loc f_X12_dearest (nx := 122) (lo' := [(1, .int z63), (2, .int z68), (5, .int z68), (4, .int z63), (3, .int y9_3), (0, .ref 69)]) rfl rfl rfl rfl ?_
                  refine ev_incR f_X12_dearest (nx := 125) (c := 1) (l := 1) (u := 100) rfl rfl (by decide) (by decide) l9_3 u20 rfl rfl (by decide) (by decide) rfl (fun z91 e91 l91 u91 => ?_)
                  refine ev_jmp f_X12_dearest (nx := 20) rfl rfl rfl ?_
                  refine ev_sub (lo := [(3, .int z91), (2, .int z68), (1, .int z63), (0, .ref 69)]) rfl (t_sc rfl (t_sc rfl (t_sc rfl (t_sc rfl t_sn)))) ?_
                  exact ih9 _ (by omega) (z91) (z68) (z63) (Int.le_trans (by decide : (0:Int) ≤ 1) l91) u91 (Int.le_trans (by decide : (0:Int) ≤ 1) l79) (Int.le_trans (by decide : ((-1):Int) ≤ 5) l63) u63 (by
                                                            intro D hm hb hd h46 ht
                                                            obtain ⟨⟨g1, g2⟩, hyes, hp, hx⟩ := j9_0 D hm hb hd h46 ht
                                                            have ck := t_clamp (i := y9_3) (by omega)
                                                            have hn := hp.1
                                                            obtain ⟨t, ht9⟩ := s_pd_g (L := s_PL D) (k := y9_3.toNatClampNeg) (by omega)
                                                            obtain ⟨v1, v2, v3⟩ := hp.2 _ t ht9
                                                            have ek := s_cp (y := y9_3) (z := z91) (by omega) (by omega)
                                                            have e33 : w22.toInt = t.1 := by rw [e22]; exact v1
                                                            have hk012 : t.1 = 0 ∨ t.1 = 1 := by rcases s_PL_LP _ t ht9 with ⟨h, -⟩ | ⟨h | h, -⟩ <;> omega
                                                            have hO := s_PD_O (q := D 4) hb hd hd.2.2.1.1
                                                            have hB := s_PD_B (q := D 4) hb hd ⟨hd.2.2.1.1, hd.2.2.1.2⟩
                                                            have hab := s_ac_b hO hB hx.2.1 hx.2.2 ht9 hk012
                                                            have hmt := s_pl_Lm hO (W := s_WD D) 241 0 0 0 0 (by decide) (by decide) hyes _ t ht9
                                                            have q1 := q65
                                                            have q2 := q67
                                                            have hcm : w65.toInt = s_cwm D t := by
                                                              rcases hk012 with h9 | h9
                                                              · exact (q1.1 (by omega)).trans (s_cm_S hx hp ht9 h9)
                                                              · exact (q1.2 (by omega)).trans (s_cm_C hx hp ht9 h9)
                                                            have hct : w67.toInt = s_ctw D t := by
                                                              rcases hk012 with h9 | h9
                                                              · exact (q2.1 (by omega)).trans (s_ct_S hx hp ht9 h9)
                                                              · exact (q2.2 (by omega)).trans (s_ct_C hx hp ht9 h9)
                                                            have em : w64.toInt = t.2.1 := by rw [e64]; exact v2
                                                            have es := s_sub e66 em hcm (by omega)
                                                            have hml := s_mul e68 es hct (by omega) (by omega)
                                                            have hvl : z68.toInt = s_vl D t := hml.1
                                                            have ewh : w62.toInt = t.2.2 := by rw [e62]; exact v3
                                                            have hnb : z63.toInt = s_nb t := by unfold s_nb; rw [if_neg (by omega)]; omega
                                                            have hX0 := s_DA_X g1
                                                            rw [ek]
                                                            rw [hnb, hvl]
                                                            exact ⟨⟨s_DA_y g1 (s_EN_s ht9 (by omega)) (by omega) (by omega), by omega⟩, hyes, hp, hx⟩) rfl
    refine ev_sub (lo := [(3, .int 0), (2, .int 0), (1, .int (-1)), (0, .ref 69)]) rfl (t_sc rfl (t_sc rfl (t_sc rfl (t_sc rfl t_sn)))) ?_
    exact L9 _ (0) (0) ((-1)) (by decide : (0:Int) ≤ (0:Int32).toInt) (Int.le_trans (by decide : (0:Int32).toInt ≤ (0:Int)) (by decide : (0:Int) ≤ 100)) (by decide : (0:Int) ≤ (0:Int32).toInt) (by decide : ((-1):Int) ≤ ((-1):Int32).toInt) (Int.le_trans (by decide : ((-1):Int32).toInt ≤ ((-1):Int)) (by decide : ((-1):Int) ≤ 11)) (by
                                                            intro D hm hb hd h46 ht
                                                            have hq := q3.1 D hm hb hd h46 ht
                                                            have z1 : (1 : Int32).toInt = 1 := rfl
                                                            have z0 : (0 : Int32).toInt = 0 := rfl
                                                            obtain ⟨hp, -, hx⟩ := hq.2 (by omega)
                                                            exact ⟨⟨s_DA_0 s_EN_0, by omega⟩, hq.1.mp (by omega), hp, hx⟩) rfl
/-! ===== dearest: the answers are alike ===== -/
section DEAL
variable {sh : List (Nat ⊕ (Nat × Nat))} {gi g1 g2 : Nat → Nat → Int32} {gl l1 l2 : Nat → Nat → Int64} {gr r1 r2 : Nat → Nat → Value} {w1 : List (Nat × Nat)} {x1 x2 : Int32}
theorem t_L_dearest (hI : t_I sh gi gr) (hD : t_DR sh.length gi gl gr) (hK : t_KQ gi) (f1 : t_F w1 gi gl gr g1 l1 r1) (h70 : t_nc w1 70 = true) (hN1 : (g1 69 46).toInt = -1) (h4 : 1 ≤ (g1 70 4).toInt) (q1 : Q_d_dearest gi gl gr x1 g1 l1 r1) (q2 : Q_e_dearest g1 l1 r1 x2 g2 l2 r2) : x1 = x2 := by
  obtain ⟨u, D, hu, hl, hc, hb, hv, hsl, hd, htk, hm2⟩ := t_P_h hI hD hK f1 h70 h4
  have k1 := q1 u D hu hl hc hb hv hsl hd htk
  have k2 := q2 D hm2 hb hd hN1 htk
  apply Int32.toInt_inj.mp
  by_cases hy : s_LS (s_PD D (D 4)) 0 0 0 0 < 1000000000
  · obtain ⟨X, h1⟩ := k1.1 hy
    obtain ⟨X2, h2⟩ := k2.1 hy
    exact s_DA_u h1 h2
  · rw [k1.2 hy, k2.2 hy]
end DEAL
