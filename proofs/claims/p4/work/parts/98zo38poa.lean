/-! ===== printed by riv.py: the lanes of a day ===== -/
noncomputable def wl_d_put_46 : List (Nat × Nat) := [(47, 9999), (48, 9999), (49, 9999), (50, 9999), (51, 9999)]
noncomputable def Q_d_put_46 (gi : Nat → Nat → Int32) (gl : Nat → Nat → Int64) (gr : Nat → Nat → Value) (ar1 : Int32) (ar2 : Int32) (ar3 : Int32) (ar4 : Int32) (ar5 : Int32) (ar6 : Int32) : (Nat → Nat → Int32) → (Nat → Nat → Int64) → (Nat → Nat → Value) → Prop := fun (gi2 : Nat → Nat → Int32) (gl2 : Nat → Nat → Int64) (gr2 : Nat → Nat → Value) => ((0 ≤ ar1.toInt ∧ ar1.toInt ≤ 5) → (∀ j : Nat, gi2 47 j = if j = ar1.toNatClampNeg then ar2 else gi 47 j) ∧ (∀ j : Nat, gi2 48 j = if j = ar1.toNatClampNeg then ar3 else gi 48 j) ∧ (∀ j : Nat, gi2 49 j = if j = ar1.toNatClampNeg then ar4 else gi 49 j) ∧ (∀ j : Nat, gi2 50 j = if j = ar1.toNatClampNeg then ar5 else gi 50 j) ∧ (∀ j : Nat, gi2 51 j = if j = ar1.toNatClampNeg then (ar6 &&& 1) else gi 51 j))
theorem c_d_put_46 {X : x_Ext} {d : Nat} {sh : List (Nat ⊕ (Nat × Nat))} {gi : Nat → Nat → Int32} {gl : Nat → Nat → Int64} {gr : Nat → Nat → Value} (hI : t_I sh gi gr) (ar1 : Int32) (ar2 : Int32) (ar3 : Int32) (ar4 : Int32) (ar5 : Int32) (ar6 : Int32) : x_Me X (d + 1) n_X4_put [.ref 46, .int ar1, .int ar2, .int ar3, .int ar4, .int ar5, .int ar6] (sh, gi, gl, gr) (t_PN wl_d_put_46 sh gi gl gr (Q_d_put_46 gi gl gr ar1 ar2 ar3 ar4 ar5 ar6)) := by
  have hX : t_X wl_d_put_46 sh gi gl gr gi gl gr := t_X.rf
  refine me_i f_X4_put (hI.wf.s rfl) rfl rfl rfl ?_
  refine ev_loc f_X4_put (nx := 1) rfl rfl rfl rfl ?_
  refine ev_if f_X4_put (t1 := 10) (t2 := 4) rfl rfl rfl (fun h1 => ?_) (fun h1 => ?_)
  · have u2 : ar1.toInt ≤ (-1) := t_ltu h1 (by decide : (0:Int32).toInt ≤ (0:Int)) rfl
    exact ev_ret f_X4_put rfl rfl rfl ⟨_, _, _, rfl, hI, hX, ⟨rfl, (show ((0 ≤ ar1.toInt ∧ ar1.toInt ≤ 5) → (∀ j : Nat, gi 47 j = if j = ar1.toNatClampNeg then ar2 else gi 47 j) ∧ (∀ j : Nat, gi 48 j = if j = ar1.toNatClampNeg then ar3 else gi 48 j) ∧ (∀ j : Nat, gi 49 j = if j = ar1.toNatClampNeg then ar4 else gi 49 j) ∧ (∀ j : Nat, gi 50 j = if j = ar1.toNatClampNeg then ar5 else gi 50 j) ∧ (∀ j : Nat, gi 51 j = if j = ar1.toNatClampNeg then (ar6 &&& 1) else gi 51 j)) from (fun h => absurd h (by omega)))⟩⟩
  · have l3 : 0 ≤ ar1.toInt := t_lel (t_nlt h1) (by decide : (0:Int) ≤ (0:Int32).toInt)
    refine ev_loc f_X4_put (nx := 5) rfl rfl rfl rfl ?_
    refine ev_bp f_X4_put (nx := 7) (v := 6) rfl (by decide) rfl ?_
    refine ev_if f_X4_put (t1 := 11) (t2 := 10) rfl rfl rfl (fun h4 => ?_) (fun h4 => ?_)
    · have u5 : ar1.toInt ≤ 5 := t_ltu h4 (by decide : (6:Int32).toInt ≤ (6:Int)) rfl
      refine ev_loc f_X4_put (nx := 12) rfl rfl rfl rfl ?_
      refine ev_getR f_X4_put (nx := 15) rfl (hI.wf.s rfl) rfl rfl (hI.wf.r rfl) rfl rfl ?_
      refine ev_loc f_X4_put (nx := 16) rfl rfl rfl rfl ?_
      refine ev_loc f_X4_put (nx := 17) rfl rfl rfl rfl ?_
      refine ev_iastT f_X4_put (nx := 18) rfl (hI.wf.s rfl) l3 (by decide) u5 (by decide) rfl (hI.astO (hI.wf.s rfl) (Or.inl (by decide)) (by decide +kernel)) (hX.upI (t_inA_ok rfl)) (fun g6 e6 hI hX => ?_)
      refine ev_loc f_X4_put (nx := 19) rfl rfl rfl rfl ?_
      refine ev_getR f_X4_put (nx := 22) rfl (hI.wf.s rfl) rfl rfl (hI.wf.r rfl) rfl rfl ?_
      refine ev_loc f_X4_put (nx := 23) rfl rfl rfl rfl ?_
      refine ev_loc f_X4_put (nx := 24) rfl rfl rfl rfl ?_
      refine ev_iastT f_X4_put (nx := 25) rfl (hI.wf.s rfl) l3 (by decide) u5 (by decide) rfl (hI.astO (hI.wf.s rfl) (Or.inl (by decide)) (by decide +kernel)) (hX.upI (t_inA_ok rfl)) (fun g7 e7 hI hX => ?_)
      refine ev_loc f_X4_put (nx := 26) rfl rfl rfl rfl ?_
      refine ev_getR f_X4_put (nx := 29) rfl (hI.wf.s rfl) rfl rfl (hI.wf.r rfl) rfl rfl ?_
      refine ev_loc f_X4_put (nx := 30) rfl rfl rfl rfl ?_
      refine ev_loc f_X4_put (nx := 32) rfl rfl rfl rfl ?_
      refine ev_iastT f_X4_put (nx := 33) rfl (hI.wf.s rfl) l3 (by decide) u5 (by decide) rfl (hI.astO (hI.wf.s rfl) (Or.inl (by decide)) (by decide +kernel)) (hX.upI (t_inA_ok rfl)) (fun g8 e8 hI hX => ?_)
      refine ev_loc f_X4_put (nx := 34) rfl rfl rfl rfl ?_
      refine ev_getR f_X4_put (nx := 37) rfl (hI.wf.s rfl) rfl rfl (hI.wf.r rfl) rfl rfl ?_
      refine ev_loc f_X4_put (nx := 38) rfl rfl rfl rfl ?_
      refine ev_loc f_X4_put (nx := 40) rfl rfl rfl rfl ?_
      refine ev_iastT f_X4_put (nx := 41) rfl (hI.wf.s rfl) l3 (by decide) u5 (by decide) rfl (hI.astO (hI.wf.s rfl) (Or.inl (by decide)) (by decide +kernel)) (hX.upI (t_inA_ok rfl)) (fun g9 e9 hI hX => ?_)
      refine ev_loc f_X4_put (nx := 42) rfl rfl rfl rfl ?_
      refine ev_getR f_X4_put (nx := 45) rfl (hI.wf.s rfl) rfl rfl (hI.wf.r rfl) rfl rfl ?_
      refine ev_loc f_X4_put (nx := 46) rfl rfl rfl rfl ?_
      refine ev_loc f_X4_put (nx := 48) rfl rfl rfl rfl ?_
      refine ev_zastE f_X4_put (nx := 49) rfl (hI.wf.s rfl) l3 (by decide) u5 (by decide) rfl (fun x _ _ => (hI.astO (hI.wf.s rfl) (Or.inl (by decide)) (by decide +kernel))) (fun x => hX.upI (t_inA_ok rfl)) (fun g10 x10 e10 ex10 hI hX => ?_)
      exact ev_ret f_X4_put rfl rfl rfl ⟨_, _, _, rfl, hI, hX, ⟨rfl, (show ((0 ≤ ar1.toInt ∧ ar1.toInt ≤ 5) → (∀ j : Nat, g10 47 j = if j = ar1.toNatClampNeg then ar2 else gi 47 j) ∧ (∀ j : Nat, g10 48 j = if j = ar1.toNatClampNeg then ar3 else gi 48 j) ∧ (∀ j : Nat, g10 49 j = if j = ar1.toNatClampNeg then ar4 else gi 49 j) ∧ (∀ j : Nat, g10 50 j = if j = ar1.toNatClampNeg then ar5 else gi 50 j) ∧ (∀ j : Nat, g10 51 j = if j = ar1.toNatClampNeg then (ar6 &&& 1) else gi 51 j)) from (fun h => ⟨(fun j => (by rw [e10, x_up2_off (Or.inl (by decide)), e9, x_up2_off (Or.inl (by decide)), e8, x_up2_off (Or.inl (by decide)), e7, x_up2_off (Or.inl (by decide)), e6]; by_cases hj : j = ar1.toNatClampNeg; (rw [if_pos hj, hj, x_up2_at]); (rw [if_neg hj, x_up2_off (Or.inr hj)]))), (fun j => (by rw [e10, x_up2_off (Or.inl (by decide)), e9, x_up2_off (Or.inl (by decide)), e8, x_up2_off (Or.inl (by decide)), e7]; by_cases hj : j = ar1.toNatClampNeg; (rw [if_pos hj, hj, x_up2_at]); (rw [if_neg hj, x_up2_off (Or.inr hj), e6, x_up2_off (Or.inl (by decide))]))), (fun j => (by rw [e10, x_up2_off (Or.inl (by decide)), e9, x_up2_off (Or.inl (by decide)), e8]; by_cases hj : j = ar1.toNatClampNeg; (rw [if_pos hj, hj, x_up2_at]); (rw [if_neg hj, x_up2_off (Or.inr hj), e7, x_up2_off (Or.inl (by decide)), e6, x_up2_off (Or.inl (by decide))]))), (fun j => (by rw [e10, x_up2_off (Or.inl (by decide)), e9]; by_cases hj : j = ar1.toNatClampNeg; (rw [if_pos hj, hj, x_up2_at]); (rw [if_neg hj, x_up2_off (Or.inr hj), e8, x_up2_off (Or.inl (by decide)), e7, x_up2_off (Or.inl (by decide)), e6, x_up2_off (Or.inl (by decide))]))), (fun j => (by rw [e10]; by_cases hj : j = ar1.toNatClampNeg; (rw [if_pos hj, hj, x_up2_at]; exact ex10); (rw [if_neg hj, x_up2_off (Or.inr hj), e9, x_up2_off (Or.inl (by decide)), e8, x_up2_off (Or.inl (by decide)), e7, x_up2_off (Or.inl (by decide)), e6, x_up2_off (Or.inl (by decide))])))⟩))⟩⟩
    · have l11 : 6 ≤ ar1.toInt := t_lel (t_nlt h4) (by decide : (6:Int) ≤ (6:Int32).toInt)
      exact ev_ret f_X4_put rfl rfl rfl ⟨_, _, _, rfl, hI, hX, ⟨rfl, (show ((0 ≤ ar1.toInt ∧ ar1.toInt ≤ 5) → (∀ j : Nat, gi 47 j = if j = ar1.toNatClampNeg then ar2 else gi 47 j) ∧ (∀ j : Nat, gi 48 j = if j = ar1.toNatClampNeg then ar3 else gi 48 j) ∧ (∀ j : Nat, gi 49 j = if j = ar1.toNatClampNeg then ar4 else gi 49 j) ∧ (∀ j : Nat, gi 50 j = if j = ar1.toNatClampNeg then ar5 else gi 50 j) ∧ (∀ j : Nat, gi 51 j = if j = ar1.toNatClampNeg then (ar6 &&& 1) else gi 51 j)) from (fun h => absurd h (by omega)))⟩⟩
noncomputable def wl_d_join_46 : List (Nat × Nat) := [(46, 0), (47, 9999), (48, 9999), (49, 9999), (50, 9999), (51, 9999)]
noncomputable def Q_d_join_46 (gi : Nat → Nat → Int32) (gl : Nat → Nat → Int64) (gr : Nat → Nat → Value) (ar1 : Nat) (ar2 : Int32) (ar3 : Int32) : (Nat → Nat → Int32) → (Nat → Nat → Int64) → (Nat → Nat → Value) → Prop := fun (gi2 : Nat → Nat → Int32) (gl2 : Nat → Nat → Int64) (gr2 : Nat → Nat → Value) => (∀ n t w l : Nat, (gi 46 0).toInt = n → n ≤ 5 → 0 ≤ ar2.toInt → ar2.toInt < (gi ar1 0).toInt → s_LR ar1 → s_LR t → s_LR w → s_LR l → gr ar1 3 = .ref t → gr ar1 4 = .ref w → gr ar1 5 = .ref l → (∀ j : Nat, j < n → gi 51 j &&& 1 = gi 51 j) → (gi2 46 0).toInt = n + 1 ∧ ∀ j, j ≤ n → gi2 47 j = s_is (gi 47) (ar2) (s_pk (fun j => (gi 48 j).toInt) ar3.toInt n) j ∧ gi2 48 j = s_is (gi 48) (ar3) (s_pk (fun j => (gi 48 j).toInt) ar3.toInt n) j ∧ gi2 49 j = s_is (gi 49) (gi t ar2.toNatClampNeg) (s_pk (fun j => (gi 48 j).toInt) ar3.toInt n) j ∧ gi2 50 j = s_is (gi 50) (gi w ar2.toNatClampNeg) (s_pk (fun j => (gi 48 j).toInt) ar3.toInt n) j ∧ gi2 51 j = s_is (gi 51) (gi l ar2.toNatClampNeg &&& 1) (s_pk (fun j => (gi 48 j).toInt) ar3.toInt n) j)
theorem c_d_join_46 {X : x_Ext} {d : Nat} {sh : List (Nat ⊕ (Nat × Nat))} {gi : Nat → Nat → Int32} {gl : Nat → Nat → Int64} {gr : Nat → Nat → Value} (hI : t_I sh gi gr) (ar1 : Nat) (p_a1 : t_Ln sh gr ar1) (ar2 : Int32) (ar3 : Int32) : x_Me X (d + 2) n_X4_join [.ref 46, .ref ar1, .int ar2, .int ar3] (sh, gi, gl, gr) (t_PN wl_d_join_46 sh gi gl gr (Q_d_join_46 gi gl gr ar1 ar2 ar3)) := by
  have hX : t_X wl_d_join_46 sh gi gl gr gi gl gr := t_X.rf
  refine me_i f_X4_join (hI.wf.s rfl) rfl rfl rfl ?_
  obtain ⟨l1, u1⟩ := hI.b (hI.wf.s (k := 46) rfl) (t_bdK rfl : t_bd 3 0 = some (0, 6))
  refine ev_loc f_X4_join (nx := 1) rfl rfl rfl rfl ?_
  refine ev_gvI f_X4_join (nx := 4) (w := (gi 46 0)) rfl (hI.wf.s rfl) rfl rfl rfl rfl ?_
  refine ev_bp f_X4_join (nx := 6) (v := 6) rfl (by decide) rfl ?_
  refine ev_if f_X4_join (t1 := 21) (t2 := 9) rfl rfl rfl (fun h2 => ?_) (fun h2 => ?_)
  · have l3 : 6 ≤ (gi 46 0).toInt := t_lel h2 (by decide : (6:Int) ≤ (6:Int32).toInt)
    exact ev_ret f_X4_join rfl rfl rfl ⟨_, _, _, rfl, hI, hX, ⟨rfl, (show (∀ n t w l : Nat, (gi 46 0).toInt = n → n ≤ 5 → 0 ≤ ar2.toInt → ar2.toInt < (gi ar1 0).toInt → s_LR ar1 → s_LR t → s_LR w → s_LR l → gr ar1 3 = .ref t → gr ar1 4 = .ref w → gr ar1 5 = .ref l → (∀ j : Nat, j < n → gi 51 j &&& 1 = gi 51 j) → (gi 46 0).toInt = n + 1 ∧ ∀ j, j ≤ n → gi 47 j = s_is (gi 47) (ar2) (s_pk (fun j => (gi 48 j).toInt) ar3.toInt n) j ∧ gi 48 j = s_is (gi 48) (ar3) (s_pk (fun j => (gi 48 j).toInt) ar3.toInt n) j ∧ gi 49 j = s_is (gi 49) (gi t ar2.toNatClampNeg) (s_pk (fun j => (gi 48 j).toInt) ar3.toInt n) j ∧ gi 50 j = s_is (gi 50) (gi w ar2.toNatClampNeg) (s_pk (fun j => (gi 48 j).toInt) ar3.toInt n) j ∧ gi 51 j = s_is (gi 51) (gi l ar2.toNatClampNeg &&& 1) (s_pk (fun j => (gi 48 j).toInt) ar3.toInt n) j) from (fun n t w l hn hn5 ha hb r1 r2 r3 r4 k1 k2 k3 hz => (by exfalso; omega)))⟩⟩
  · have u4 : (gi 46 0).toInt ≤ 5 := t_ltu (t_nle h2) (by decide : (6:Int32).toInt ≤ (6:Int)) rfl
    refine ev_loc f_X4_join (nx := 10) rfl rfl rfl rfl ?_
    refine ev_if f_X4_join (t1 := 21) (t2 := 13) rfl rfl rfl (fun h5 => ?_) (fun h5 => ?_)
    · have u6 : ar2.toInt ≤ (-1) := t_ltu h5 (by decide : (0:Int32).toInt ≤ (0:Int)) rfl
      exact ev_ret f_X4_join rfl rfl rfl ⟨_, _, _, rfl, hI, hX, ⟨rfl, (show (∀ n t w l : Nat, (gi 46 0).toInt = n → n ≤ 5 → 0 ≤ ar2.toInt → ar2.toInt < (gi ar1 0).toInt → s_LR ar1 → s_LR t → s_LR w → s_LR l → gr ar1 3 = .ref t → gr ar1 4 = .ref w → gr ar1 5 = .ref l → (∀ j : Nat, j < n → gi 51 j &&& 1 = gi 51 j) → (gi 46 0).toInt = n + 1 ∧ ∀ j, j ≤ n → gi 47 j = s_is (gi 47) (ar2) (s_pk (fun j => (gi 48 j).toInt) ar3.toInt n) j ∧ gi 48 j = s_is (gi 48) (ar3) (s_pk (fun j => (gi 48 j).toInt) ar3.toInt n) j ∧ gi 49 j = s_is (gi 49) (gi t ar2.toNatClampNeg) (s_pk (fun j => (gi 48 j).toInt) ar3.toInt n) j ∧ gi 50 j = s_is (gi 50) (gi w ar2.toNatClampNeg) (s_pk (fun j => (gi 48 j).toInt) ar3.toInt n) j ∧ gi 51 j = s_is (gi 51) (gi l ar2.toNatClampNeg &&& 1) (s_pk (fun j => (gi 48 j).toInt) ar3.toInt n) j) from (fun n t w l hn hn5 ha hb r1 r2 r3 r4 k1 k2 k3 hz => (by exfalso; omega)))⟩⟩
    · have l7 : 0 ≤ ar2.toInt := t_lel (t_nlt h5) (by decide : (0:Int) ≤ (0:Int32).toInt)
      refine ev_loc f_X4_join (nx := 14) rfl rfl rfl rfl ?_
      refine ev_loc f_X4_join (nx := 15) rfl rfl rfl rfl ?_
      refine ev_getI f_X4_join (nx := 18) rfl p_a1.1 rfl rfl rfl ?_
      obtain ⟨l8, u8⟩ := hI.b p_a1.1 (t_bdK rfl : t_bd 3 0 = some (0, 6))
      refine ev_if f_X4_join (t1 := 22) (t2 := 21) rfl rfl rfl (fun h9 => ?_) (fun h9 => ?_)
      · have r10 : ar2.toInt < (gi ar1 0).toInt := Int32.lt_iff_toInt_lt.mp h9
        have u11 : ar2.toInt ≤ 5 := t_ltu h9 u8 rfl
        have l12 : 1 ≤ (gi ar1 0).toInt := t_ltl h9 l7 rfl
        refine ev_loc f_X4_join (nx := 23) rfl rfl rfl rfl ?_
        refine ev_gvI f_X4_join (nx := 26) (w := (gi 46 0)) rfl (hI.wf.s rfl) rfl rfl rfl rfl ?_
        refine ev_loc f_X4_join (nx := 28) (lo' := [(4, .int (gi 46 0)), (0, .ref 46), (1, .ref ar1), (2, .int ar2), (3, .int ar3)]) rfl rfl rfl rfl ?_
        refine ev_loc f_X4_join (nx := 29) rfl rfl rfl rfl ?_
        refine ev_alu f_X4_join (nx := 30) rfl rfl rfl rfl ?_
        refine ev_gvI f_X4_join (nx := 33) (w := (gi 46 0)) rfl (hI.wf.s rfl) rfl rfl rfl rfl ?_
        refine ev_ic f_X4_join (nx := 34) (v := 1) rfl (by decide) rfl ?_
        refine ev_addC f_X4_join (nx := 35) (c := 1) (l := 1) (u := 6) rfl (by decide) l1 u4 rfl rfl (by decide) (by decide) rfl (fun z13 e13 l13 u13 => ?_)
        refine ev_putIT f_X4_join (nx := 38) rfl (hI.wf.s rfl) rfl rfl rfl (hI.putB (hI.wf.s rfl) rfl rfl l13 (by decide) u13 (by decide)) (hX.upI rfl) (fun g14 e14 hI hX => ?_)
        have L15 : ∀ (m15 : Nat) (gi15 : Nat → Nat → Int32) (gl15 : Nat → Nat → Int64) (gr15 : Nat → Nat → Value) (y15_4 : Int32), t_I sh gi15 gr15 → t_X wl_d_join_46 sh gi gl gr gi15 gl15 gr15 → t_Ln sh gr15 ar1 → 0 ≤ y15_4.toInt → y15_4.toInt ≤ 5 → gi15 46 0 = z13 → (∀ n : Nat, (gi 46 0).toInt = n → n ≤ 5 → (∀ j : Nat, j < n → gi 51 j &&& 1 = gi 51 j) → s_J (gi 47) (gi15 47) (fun j => (gi 48 j).toInt) n ar3.toInt y15_4.toNatClampNeg ∧ s_J (gi 48) (gi15 48) (fun j => (gi 48 j).toInt) n ar3.toInt y15_4.toNatClampNeg ∧ s_J (gi 49) (gi15 49) (fun j => (gi 48 j).toInt) n ar3.toInt y15_4.toNatClampNeg ∧ s_J (gi 50) (gi15 50) (fun j => (gi 48 j).toInt) n ar3.toInt y15_4.toNatClampNeg ∧ s_J (gi 51) (gi15 51) (fun j => (gi 48 j).toInt) n ar3.toInt y15_4.toNatClampNeg ∧ (gi15 46 0).toInt = n + 1) → (y15_4.toInt - 0).toNat = m15 → x_Ev X (d + 2) n_X4_join 38 [(4, .int y15_4), (0, .ref 46), (1, .ref ar1), (2, .int ar2), (3, .int ar3)] [] (sh, gi15, gl15, gr15) (t_PN wl_d_join_46 sh gi gl gr (Q_d_join_46 gi gl gr ar1 ar2 ar3)) := by
          intro m15
          induction m15 using Nat.strongRecOn with
          | _ m15 ih15 =>
          intro gi15 gl15 gr15 y15_4 hI hX p_a1 l15_4 u15_4 c15_0 j15_0 hm15
          refine ev_loc f_X4_join (nx := 40) rfl rfl rfl rfl ?_
          have hXh := hX
          refine ev_if f_X4_join (t1 := 113) (t2 := 43) rfl rfl rfl (fun h16 => ?_) (fun h16 => ?_)
          · have u17 : y15_4.toInt ≤ 0 := t_leu h16 (by decide : (0:Int32).toInt ≤ (0:Int))
            refine ev_loc f_X4_join (nx := 114) rfl rfl rfl rfl ?_
            refine ev_loc f_X4_join (nx := 116) rfl rfl rfl rfl ?_
            refine ev_loc f_X4_join (nx := 117) rfl rfl rfl rfl ?_
            refine ev_loc f_X4_join (nx := 118) rfl rfl rfl rfl ?_
            refine ev_loc f_X4_join (nx := 119) rfl rfl rfl rfl ?_
            obtain ⟨a18, e18, s18, o18⟩ := p_a1.2.2.2.1
            refine ev_getR f_X4_join (nx := 122) rfl p_a1.1 rfl rfl e18 rfl rfl ?_
            refine ev_loc f_X4_join (nx := 123) rfl rfl rfl rfl ?_
            refine ev_ialdT f_X4_join (nx := 124) rfl s18 l7 (by decide) u11 (by decide) rfl (fun w19 e19 => ?_)
            refine ev_loc f_X4_join (nx := 125) rfl rfl rfl rfl ?_
            obtain ⟨a20, e20, s20, o20⟩ := p_a1.2.2.2.2.1
            refine ev_getR f_X4_join (nx := 128) rfl p_a1.1 rfl rfl e20 rfl rfl ?_
            refine ev_loc f_X4_join (nx := 129) rfl rfl rfl rfl ?_
            refine ev_ialdT f_X4_join (nx := 130) rfl s20 l7 (by decide) u11 (by decide) rfl (fun w21 e21 => ?_)
            refine ev_loc f_X4_join (nx := 131) rfl rfl rfl rfl ?_
            obtain ⟨a22, e22, s22, o22⟩ := p_a1.2.2.2.2.2
            refine ev_getR f_X4_join (nx := 134) rfl p_a1.1 rfl rfl e22 rfl rfl ?_
            refine ev_loc f_X4_join (nx := 135) rfl rfl rfl rfl ?_
            refine ev_baldT f_X4_join (nx := 136) rfl s22 rfl l7 (by decide) u11 (by decide) rfl (fun w23 e23 => ?_)
            refine ev_qN f_X4_join (nx := 139) (r := []) rfl rfl rfl rfl rfl rfl rfl (c_d_put_46 hI (y15_4) (ar2) (ar3) (w19) (w21) (w23)) rfl hX rfl (fun gi24 gl24 gr24 hI hX hC24 q24 => ?_)
            have q24 : ((0 ≤ y15_4.toInt ∧ y15_4.toInt ≤ 5) → (∀ j : Nat, gi24 47 j = if j = y15_4.toNatClampNeg then ar2 else gi15 47 j) ∧ (∀ j : Nat, gi24 48 j = if j = y15_4.toNatClampNeg then ar3 else gi15 48 j) ∧ (∀ j : Nat, gi24 49 j = if j = y15_4.toNatClampNeg then w19 else gi15 49 j) ∧ (∀ j : Nat, gi24 50 j = if j = y15_4.toNatClampNeg then w21 else gi15 50 j) ∧ (∀ j : Nat, gi24 51 j = if j = y15_4.toNatClampNeg then (w23 &&& 1) else gi15 51 j)) := q24
            replace p_a1 := p_a1.ext hC24.2
            exact ev_ret f_X4_join rfl rfl rfl ⟨_, _, _, rfl, hI, hX, ⟨rfl, (show (∀ n t w l : Nat, (gi 46 0).toInt = n → n ≤ 5 → 0 ≤ ar2.toInt → ar2.toInt < (gi ar1 0).toInt → s_LR ar1 → s_LR t → s_LR w → s_LR l → gr ar1 3 = .ref t → gr ar1 4 = .ref w → gr ar1 5 = .ref l → (∀ j : Nat, j < n → gi 51 j &&& 1 = gi 51 j) → (gi24 46 0).toInt = n + 1 ∧ ∀ j, j ≤ n → gi24 47 j = s_is (gi 47) (ar2) (s_pk (fun j => (gi 48 j).toInt) ar3.toInt n) j ∧ gi24 48 j = s_is (gi 48) (ar3) (s_pk (fun j => (gi 48 j).toInt) ar3.toInt n) j ∧ gi24 49 j = s_is (gi 49) (gi t ar2.toNatClampNeg) (s_pk (fun j => (gi 48 j).toInt) ar3.toInt n) j ∧ gi24 50 j = s_is (gi 50) (gi w ar2.toNatClampNeg) (s_pk (fun j => (gi 48 j).toInt) ar3.toInt n) j ∧ gi24 51 j = s_is (gi 51) (gi l ar2.toNatClampNeg &&& 1) (s_pk (fun j => (gi 48 j).toInt) ar3.toInt n) j) from (fun n t w l hn hn5 ha hb r1 r2 r3 r4 k1 k2 k3 hz => (by
                                                            obtain ⟨h1, h2, h3, h4, h5, hcn⟩ := j15_0 n hn hn5 hz
                                                            obtain ⟨q1, q2, q3, q4, q5⟩ := q24 ⟨by omega, by omega⟩
                                                            have hc0 : gi24 46 0 = gi15 46 0 := (hC24.1 46 0 rfl).1
                                                            have hK := t_nd_fr hXh rfl
                                                            have hb3 : a18 = t := Value.ref.inj ((e18).symm.trans ((congrFun (hK ar1 r1).2.2 3).trans k1))
                                                            subst hb3
                                                            have hb4 : a20 = w := Value.ref.inj ((e20).symm.trans ((congrFun (hK ar1 r1).2.2 4).trans k2))
                                                            subst hb4
                                                            have hb5 : a22 = l := Value.ref.inj ((e22).symm.trans ((congrFun (hK ar1 r1).2.2 5).trans k3))
                                                            subst hb5
                                                            have hx0 : w19 = gi a18 ar2.toNatClampNeg := by rw [e19, (hK _ r2).1]
                                                            have hx1 : w21 = gi a20 ar2.toNatClampNeg := by rw [e21, (hK _ r3).1]
                                                            have hx2 : w23 = gi a22 ar2.toNatClampNeg := by rw [e23, (hK _ r4).1]
                                                            have hs : y15_4.toNatClampNeg = 0 ∨ (gi 48 (y15_4.toNatClampNeg - 1)).toInt ≤ ar3.toInt := Or.inl (s_c00 (by omega) (by omega))
                                                            rw [hx0] at q3
                                                            rw [hx1] at q4
                                                            rw [hx2] at q5
                                                            exact ⟨by rw [hc0]; exact hcn, fun j hj => ⟨s_J_e h1 hs q1 j hj, s_J_e h2 hs q2 j hj, s_J_e h3 hs q3 j hj, s_J_e h4 hs q4 j hj, s_J_e h5 hs q5 j hj⟩⟩)))⟩⟩
          · have l25 : 1 ≤ y15_4.toInt := t_ltl (t_nle h16) (by decide : (0:Int) ≤ (0:Int32).toInt) rfl
            refine ev_loc f_X4_join (nx := 44) rfl rfl rfl rfl ?_
            refine ev_getR f_X4_join (nx := 47) rfl (hI.wf.s rfl) rfl rfl (hI.wf.r rfl) rfl rfl ?_
            refine ev_loc f_X4_join (nx := 49) rfl rfl rfl rfl ?_
            refine ev_ic f_X4_join (nx := 50) (v := 1) rfl (by decide) rfl ?_
            refine ev_subC f_X4_join (nx := 51) (c := 1) (l := 0) (u := 4) rfl (by decide) l25 u15_4 rfl rfl (by decide) (by decide) rfl (fun z26 e26 l26 u26 => ?_)
            refine ev_ialdT f_X4_join (nx := 52) rfl (hI.wf.s rfl) l26 (by decide) u26 (by decide) rfl (fun w27 e27 => ?_)
            refine ev_loc f_X4_join (nx := 53) rfl rfl rfl rfl ?_
            refine ev_if f_X4_join (t1 := 113) (t2 := 56) rfl rfl rfl (fun h28 => ?_) (fun h28 => ?_)
            · have r29 : w27.toInt ≤ ar3.toInt := Int32.le_iff_toInt_le.mp h28
              refine ev_loc f_X4_join (nx := 114) rfl rfl rfl rfl ?_
              refine ev_loc f_X4_join (nx := 116) rfl rfl rfl rfl ?_
              refine ev_loc f_X4_join (nx := 117) rfl rfl rfl rfl ?_
              refine ev_loc f_X4_join (nx := 118) rfl rfl rfl rfl ?_
              refine ev_loc f_X4_join (nx := 119) rfl rfl rfl rfl ?_
              obtain ⟨a30, e30, s30, o30⟩ := p_a1.2.2.2.1
              refine ev_getR f_X4_join (nx := 122) rfl p_a1.1 rfl rfl e30 rfl rfl ?_
              refine ev_loc f_X4_join (nx := 123) rfl rfl rfl rfl ?_
              refine ev_ialdT f_X4_join (nx := 124) rfl s30 l7 (by decide) u11 (by decide) rfl (fun w31 e31 => ?_)
              refine ev_loc f_X4_join (nx := 125) rfl rfl rfl rfl ?_
              obtain ⟨a32, e32, s32, o32⟩ := p_a1.2.2.2.2.1
              refine ev_getR f_X4_join (nx := 128) rfl p_a1.1 rfl rfl e32 rfl rfl ?_
              refine ev_loc f_X4_join (nx := 129) rfl rfl rfl rfl ?_
              refine ev_ialdT f_X4_join (nx := 130) rfl s32 l7 (by decide) u11 (by decide) rfl (fun w33 e33 => ?_)
              refine ev_loc f_X4_join (nx := 131) rfl rfl rfl rfl ?_
              obtain ⟨a34, e34, s34, o34⟩ := p_a1.2.2.2.2.2
              refine ev_getR f_X4_join (nx := 134) rfl p_a1.1 rfl rfl e34 rfl rfl ?_
              refine ev_loc f_X4_join (nx := 135) rfl rfl rfl rfl ?_
              refine ev_baldT f_X4_join (nx := 136) rfl s34 rfl l7 (by decide) u11 (by decide) rfl (fun w35 e35 => ?_)
              refine ev_qN f_X4_join (nx := 139) (r := []) rfl rfl rfl rfl rfl rfl rfl (c_d_put_46 hI (y15_4) (ar2) (ar3) (w31) (w33) (w35)) rfl hX rfl (fun gi36 gl36 gr36 hI hX hC36 q36 => ?_)
              have q36 : ((0 ≤ y15_4.toInt ∧ y15_4.toInt ≤ 5) → (∀ j : Nat, gi36 47 j = if j = y15_4.toNatClampNeg then ar2 else gi15 47 j) ∧ (∀ j : Nat, gi36 48 j = if j = y15_4.toNatClampNeg then ar3 else gi15 48 j) ∧ (∀ j : Nat, gi36 49 j = if j = y15_4.toNatClampNeg then w31 else gi15 49 j) ∧ (∀ j : Nat, gi36 50 j = if j = y15_4.toNatClampNeg then w33 else gi15 50 j) ∧ (∀ j : Nat, gi36 51 j = if j = y15_4.toNatClampNeg then (w35 &&& 1) else gi15 51 j)) := q36
              replace p_a1 := p_a1.ext hC36.2
              exact ev_ret f_X4_join rfl rfl rfl ⟨_, _, _, rfl, hI, hX, ⟨rfl, (show (∀ n t w l : Nat, (gi 46 0).toInt = n → n ≤ 5 → 0 ≤ ar2.toInt → ar2.toInt < (gi ar1 0).toInt → s_LR ar1 → s_LR t → s_LR w → s_LR l → gr ar1 3 = .ref t → gr ar1 4 = .ref w → gr ar1 5 = .ref l → (∀ j : Nat, j < n → gi 51 j &&& 1 = gi 51 j) → (gi36 46 0).toInt = n + 1 ∧ ∀ j, j ≤ n → gi36 47 j = s_is (gi 47) (ar2) (s_pk (fun j => (gi 48 j).toInt) ar3.toInt n) j ∧ gi36 48 j = s_is (gi 48) (ar3) (s_pk (fun j => (gi 48 j).toInt) ar3.toInt n) j ∧ gi36 49 j = s_is (gi 49) (gi t ar2.toNatClampNeg) (s_pk (fun j => (gi 48 j).toInt) ar3.toInt n) j ∧ gi36 50 j = s_is (gi 50) (gi w ar2.toNatClampNeg) (s_pk (fun j => (gi 48 j).toInt) ar3.toInt n) j ∧ gi36 51 j = s_is (gi 51) (gi l ar2.toNatClampNeg &&& 1) (s_pk (fun j => (gi 48 j).toInt) ar3.toInt n) j) from (fun n t w l hn hn5 ha hb r1 r2 r3 r4 k1 k2 k3 hz => (by
                                                            obtain ⟨h1, h2, h3, h4, h5, hcn⟩ := j15_0 n hn hn5 hz
                                                            obtain ⟨q1, q2, q3, q4, q5⟩ := q36 ⟨by omega, by omega⟩
                                                            have hc0 : gi36 46 0 = gi15 46 0 := (hC36.1 46 0 rfl).1
                                                            have hK := t_nd_fr hXh rfl
                                                            have hb3 : a30 = t := Value.ref.inj ((e30).symm.trans ((congrFun (hK ar1 r1).2.2 3).trans k1))
                                                            subst hb3
                                                            have hb4 : a32 = w := Value.ref.inj ((e32).symm.trans ((congrFun (hK ar1 r1).2.2 4).trans k2))
                                                            subst hb4
                                                            have hb5 : a34 = l := Value.ref.inj ((e34).symm.trans ((congrFun (hK ar1 r1).2.2 5).trans k3))
                                                            subst hb5
                                                            have hx0 : w31 = gi a30 ar2.toNatClampNeg := by rw [e31, (hK _ r2).1]
                                                            have hx1 : w33 = gi a32 ar2.toNatClampNeg := by rw [e33, (hK _ r3).1]
                                                            have hx2 : w35 = gi a34 ar2.toNatClampNeg := by rw [e35, (hK _ r4).1]
                                                            have hp : 0 < y15_4.toNatClampNeg := s_c0 (by omega)
                                                            have hv0 : w27 = gi15 48 (y15_4.toNatClampNeg - 1) := by rw [e27, s_cm l26 e26]
                                                            have hs : y15_4.toNatClampNeg = 0 ∨ (gi 48 (y15_4.toNatClampNeg - 1)).toInt ≤ ar3.toInt := Or.inr (by rw [← s_J_at h2 hp, ← hv0]; omega)
                                                            rw [hx0] at q3
                                                            rw [hx1] at q4
                                                            rw [hx2] at q5
                                                            exact ⟨by rw [hc0]; exact hcn, fun j hj => ⟨s_J_e h1 hs q1 j hj, s_J_e h2 hs q2 j hj, s_J_e h3 hs q3 j hj, s_J_e h4 hs q4 j hj, s_J_e h5 hs q5 j hj⟩⟩)))⟩⟩
            · have r37 : ar3.toInt < w27.toInt := Int32.lt_iff_toInt_lt.mp (t_nle h28)
              have u38 : ar3.toInt ≤ 2147483646 := t_ltu (t_nle h28) (t_hi w27) rfl
              have l39 : (-2147483647) ≤ w27.toInt := t_ltl (t_nle h28) (t_lo ar3) rfl
              refine ev_loc f_X4_join (nx := 57) rfl rfl rfl rfl ?_
              refine ev_loc f_X4_join (nx := 59) rfl rfl rfl rfl ?_
              refine ev_loc f_X4_join (nx := 60) rfl rfl rfl rfl ?_
              refine ev_getR f_X4_join (nx := 63) rfl (hI.wf.s rfl) rfl rfl (hI.wf.r rfl) rfl rfl ?_
              refine ev_loc f_X4_join (nx := 65) rfl rfl rfl rfl ?_
              refine ev_ic f_X4_join (nx := 66) (v := 1) rfl (by decide) rfl ?_
              refine ev_subC f_X4_join (nx := 67) (c := 1) (l := 0) (u := 4) rfl (by decide) l25 u15_4 rfl rfl (by decide) (by decide) rfl (fun z40 e40 l40 u40 => ?_)
              refine ev_ialdT f_X4_join (nx := 68) rfl (hI.wf.s rfl) l40 (by decide) u40 (by decide) rfl (fun w41 e41 => ?_)
              refine ev_loc f_X4_join (nx := 69) rfl rfl rfl rfl ?_
              refine ev_getR f_X4_join (nx := 72) rfl (hI.wf.s rfl) rfl rfl (hI.wf.r rfl) rfl rfl ?_
              refine ev_loc f_X4_join (nx := 74) rfl rfl rfl rfl ?_
              refine ev_ic f_X4_join (nx := 75) (v := 1) rfl (by decide) rfl ?_
              refine ev_subC f_X4_join (nx := 76) (c := 1) (l := 0) (u := 4) rfl (by decide) l25 u15_4 rfl rfl (by decide) (by decide) rfl (fun z42 e42 l42 u42 => ?_)
              refine ev_ialdT f_X4_join (nx := 77) rfl (hI.wf.s rfl) l42 (by decide) u42 (by decide) rfl (fun w43 e43 => ?_)
              refine ev_loc f_X4_join (nx := 78) rfl rfl rfl rfl ?_
              refine ev_getR f_X4_join (nx := 81) rfl (hI.wf.s rfl) rfl rfl (hI.wf.r rfl) rfl rfl ?_
              refine ev_loc f_X4_join (nx := 83) rfl rfl rfl rfl ?_
              refine ev_ic f_X4_join (nx := 84) (v := 1) rfl (by decide) rfl ?_
              refine ev_subC f_X4_join (nx := 85) (c := 1) (l := 0) (u := 4) rfl (by decide) l25 u15_4 rfl rfl (by decide) (by decide) rfl (fun z44 e44 l44 u44 => ?_)
              refine ev_ialdT f_X4_join (nx := 86) rfl (hI.wf.s rfl) l44 (by decide) u44 (by decide) rfl (fun w45 e45 => ?_)
              refine ev_loc f_X4_join (nx := 87) rfl rfl rfl rfl ?_
              refine ev_getR f_X4_join (nx := 90) rfl (hI.wf.s rfl) rfl rfl (hI.wf.r rfl) rfl rfl ?_
              refine ev_loc f_X4_join (nx := 92) rfl rfl rfl rfl ?_
              refine ev_ic f_X4_join (nx := 93) (v := 1) rfl (by decide) rfl ?_
              refine ev_subC f_X4_join (nx := 94) (c := 1) (l := 0) (u := 4) rfl (by decide) l25 u15_4 rfl rfl (by decide) (by decide) rfl (fun z46 e46 l46 u46 => ?_)
              refine ev_ialdT f_X4_join (nx := 95) rfl (hI.wf.s rfl) l46 (by decide) u46 (by decide) rfl (fun w47 e47 => ?_)
              refine ev_loc f_X4_join (nx := 96) rfl rfl rfl rfl ?_
              refine ev_getR f_X4_join (nx := 99) rfl (hI.wf.s rfl) rfl rfl (hI.wf.r rfl) rfl rfl ?_
              refine ev_loc f_X4_join (nx := 101) rfl rfl rfl rfl ?_
              refine ev_ic f_X4_join (nx := 102) (v := 1) rfl (by decide) rfl ?_
              refine ev_subC f_X4_join (nx := 103) (c := 1) (l := 0) (u := 4) rfl (by decide) l25 u15_4 rfl rfl (by decide) (by decide) rfl (fun z48 e48 l48 u48 => ?_)
              refine ev_baldT f_X4_join (nx := 104) rfl (hI.wf.s rfl) rfl l48 (by decide) u48 (by decide) rfl (fun w49 e49 => ?_)
              refine ev_qN f_X4_join (nx := 107) (r := []) rfl rfl rfl rfl rfl rfl rfl (c_d_put_46 hI (y15_4) (w41) (w43) (w45) (w47) (w49)) rfl hX rfl (fun gi50 gl50 gr50 hI hX hC50 q50 => ?_)
              have q50 : ((0 ≤ y15_4.toInt ∧ y15_4.toInt ≤ 5) → (∀ j : Nat, gi50 47 j = if j = y15_4.toNatClampNeg then w41 else gi15 47 j) ∧ (∀ j : Nat, gi50 48 j = if j = y15_4.toNatClampNeg then w43 else gi15 48 j) ∧ (∀ j : Nat, gi50 49 j = if j = y15_4.toNatClampNeg then w45 else gi15 49 j) ∧ (∀ j : Nat, gi50 50 j = if j = y15_4.toNatClampNeg then w47 else gi15 50 j) ∧ (∀ j : Nat, gi50 51 j = if j = y15_4.toNatClampNeg then (w49 &&& 1) else gi15 51 j)) := q50
              replace p_a1 := p_a1.ext hC50.2
              refine ev_incR f_X4_join (nx := 110) (c := (-1)) (l := 0) (u := 4) rfl rfl (by decide) (by decide) l25 u15_4 rfl rfl (by decide) (by decide) rfl (fun z51 e51 l51 u51 => ?_)
              refine ev_jmp f_X4_join (nx := 38) rfl rfl rfl ?_
              refine ev_sub (lo := [(4, .int z51), (0, .ref 46), (1, .ref ar1), (2, .int ar2), (3, .int ar3)]) rfl (t_sc rfl (t_sc rfl (t_sc rfl (t_sc rfl (t_sc rfl t_sn))))) ?_
              exact ih15 _ (by omega) gi50 gl50 gr50 (z51) hI hX p_a1 l51 (Int.le_trans u51 (by decide : (4:Int) ≤ 5)) ((hC50.1 46 0 rfl).1.trans c15_0) (fun n hn hn5 hz => (by
                                                            obtain ⟨h1, h2, h3, h4, h5, hcn⟩ := j15_0 n hn hn5 hz
                                                            obtain ⟨q1, q2, q3, q4, q5⟩ := q50 ⟨by omega, by omega⟩
                                                            have hp : 0 < y15_4.toNatClampNeg := s_c0 (by omega)
                                                            have hv0 : w27 = gi15 48 (y15_4.toNatClampNeg - 1) := by rw [e27, s_cm l26 e26]
                                                            have hv1 : w41 = gi15 47 (y15_4.toNatClampNeg - 1) := by rw [e41, s_cm l40 e40]
                                                            have hv2 : w43 = gi15 48 (y15_4.toNatClampNeg - 1) := by rw [e43, s_cm l42 e42]
                                                            have hv3 : w45 = gi15 49 (y15_4.toNatClampNeg - 1) := by rw [e45, s_cm l44 e44]
                                                            have hv4 : w47 = gi15 50 (y15_4.toNatClampNeg - 1) := by rw [e47, s_cm l46 e46]
                                                            have hv5 : w49 = gi15 51 (y15_4.toNatClampNeg - 1) := by rw [e49, s_cm l48 e48]
                                                            have hc0 : gi50 46 0 = gi15 46 0 := (hC50.1 46 0 rfl).1
                                                            have hg : ar3.toInt < (gi 48 (y15_4.toNatClampNeg - 1)).toInt := by rw [← s_J_at h2 hp, ← hv0]; omega
                                                            have hv6 : w49 &&& 1 = gi15 51 (y15_4.toNatClampNeg - 1) := by rw [hv5, s_J_at h5 hp]; exact hz _ (by have := h5.1; omega)
                                                            rw [s_cm2 l51 e51]
                                                            exact ⟨s_J_s h1 hp hg q1 hv1, s_J_s h2 hp hg q2 hv2, s_J_s h3 hp hg q3 hv3, s_J_s h4 hp hg q4 hv4, s_J_s h5 hp hg q5 hv6, by rw [hc0]; exact hcn⟩)) rfl
        refine ev_sub (lo := [(4, .int (gi 46 0)), (0, .ref 46), (1, .ref ar1), (2, .int ar2), (3, .int ar3)]) rfl (t_sc rfl (t_sc rfl (t_sc rfl (t_sc rfl (t_sc rfl t_sn))))) ?_
        exact L15 _ g14 gl gr ((gi 46 0)) hI hX p_a1 l1 u4 (by rw [e14]; exact x_up2_at _ _ _ _ : g14 46 0 = z13) (fun n hn hn5 hz => (by
                                                            have cx := t_clamp (i := (gi 46 0)) (by omega)
                                                            have ff52 : (g14 46 0).toInt = z13.toInt := congrArg Int32.toInt (by rw [e14]; exact x_up2_at _ _ _ _ : g14 46 0 = z13)
                                                            rw [show ((gi 46 0)).toNatClampNeg = n from (by omega)]
                                                            exact ⟨s_J_b (fun j _ => by rw [e14, x_up2_off (Or.inl (by decide))]), s_J_b (fun j _ => by rw [e14, x_up2_off (Or.inl (by decide))]), s_J_b (fun j _ => by rw [e14, x_up2_off (Or.inl (by decide))]), s_J_b (fun j _ => by rw [e14, x_up2_off (Or.inl (by decide))]), s_J_b (fun j _ => by rw [e14, x_up2_off (Or.inl (by decide))]), by omega⟩)) rfl
      · have r53 : (gi ar1 0).toInt ≤ ar2.toInt := Int32.le_iff_toInt_le.mp (t_nlt h9)
        exact ev_ret f_X4_join rfl rfl rfl ⟨_, _, _, rfl, hI, hX, ⟨rfl, (show (∀ n t w l : Nat, (gi 46 0).toInt = n → n ≤ 5 → 0 ≤ ar2.toInt → ar2.toInt < (gi ar1 0).toInt → s_LR ar1 → s_LR t → s_LR w → s_LR l → gr ar1 3 = .ref t → gr ar1 4 = .ref w → gr ar1 5 = .ref l → (∀ j : Nat, j < n → gi 51 j &&& 1 = gi 51 j) → (gi 46 0).toInt = n + 1 ∧ ∀ j, j ≤ n → gi 47 j = s_is (gi 47) (ar2) (s_pk (fun j => (gi 48 j).toInt) ar3.toInt n) j ∧ gi 48 j = s_is (gi 48) (ar3) (s_pk (fun j => (gi 48 j).toInt) ar3.toInt n) j ∧ gi 49 j = s_is (gi 49) (gi t ar2.toNatClampNeg) (s_pk (fun j => (gi 48 j).toInt) ar3.toInt n) j ∧ gi 50 j = s_is (gi 50) (gi w ar2.toNatClampNeg) (s_pk (fun j => (gi 48 j).toInt) ar3.toInt n) j ∧ gi 51 j = s_is (gi 51) (gi l ar2.toNatClampNeg &&& 1) (s_pk (fun j => (gi 48 j).toInt) ar3.toInt n) j) from (fun n t w l hn hn5 ha hb r1 r2 r3 r4 k1 k2 k3 hz => (by exfalso; omega)))⟩⟩
noncomputable def wl_d_put_52 : List (Nat × Nat) := [(53, 9999), (54, 9999), (55, 9999), (56, 9999), (57, 9999)]
noncomputable def Q_d_put_52 (gi : Nat → Nat → Int32) (gl : Nat → Nat → Int64) (gr : Nat → Nat → Value) (ar1 : Int32) (ar2 : Int32) (ar3 : Int32) (ar4 : Int32) (ar5 : Int32) (ar6 : Int32) : (Nat → Nat → Int32) → (Nat → Nat → Int64) → (Nat → Nat → Value) → Prop := fun (gi2 : Nat → Nat → Int32) (gl2 : Nat → Nat → Int64) (gr2 : Nat → Nat → Value) => ((0 ≤ ar1.toInt ∧ ar1.toInt ≤ 5) → (∀ j : Nat, gi2 53 j = if j = ar1.toNatClampNeg then ar2 else gi 53 j) ∧ (∀ j : Nat, gi2 54 j = if j = ar1.toNatClampNeg then ar3 else gi 54 j) ∧ (∀ j : Nat, gi2 55 j = if j = ar1.toNatClampNeg then ar4 else gi 55 j) ∧ (∀ j : Nat, gi2 56 j = if j = ar1.toNatClampNeg then ar5 else gi 56 j) ∧ (∀ j : Nat, gi2 57 j = if j = ar1.toNatClampNeg then (ar6 &&& 1) else gi 57 j))
theorem c_d_put_52 {X : x_Ext} {d : Nat} {sh : List (Nat ⊕ (Nat × Nat))} {gi : Nat → Nat → Int32} {gl : Nat → Nat → Int64} {gr : Nat → Nat → Value} (hI : t_I sh gi gr) (ar1 : Int32) (ar2 : Int32) (ar3 : Int32) (ar4 : Int32) (ar5 : Int32) (ar6 : Int32) : x_Me X (d + 1) n_X4_put [.ref 52, .int ar1, .int ar2, .int ar3, .int ar4, .int ar5, .int ar6] (sh, gi, gl, gr) (t_PN wl_d_put_52 sh gi gl gr (Q_d_put_52 gi gl gr ar1 ar2 ar3 ar4 ar5 ar6)) := by
  have hX : t_X wl_d_put_52 sh gi gl gr gi gl gr := t_X.rf
  refine me_i f_X4_put (hI.wf.s rfl) rfl rfl rfl ?_
  refine ev_loc f_X4_put (nx := 1) rfl rfl rfl rfl ?_
  refine ev_if f_X4_put (t1 := 10) (t2 := 4) rfl rfl rfl (fun h1 => ?_) (fun h1 => ?_)
  · have u2 : ar1.toInt ≤ (-1) := t_ltu h1 (by decide : (0:Int32).toInt ≤ (0:Int)) rfl
    exact ev_ret f_X4_put rfl rfl rfl ⟨_, _, _, rfl, hI, hX, ⟨rfl, (show ((0 ≤ ar1.toInt ∧ ar1.toInt ≤ 5) → (∀ j : Nat, gi 53 j = if j = ar1.toNatClampNeg then ar2 else gi 53 j) ∧ (∀ j : Nat, gi 54 j = if j = ar1.toNatClampNeg then ar3 else gi 54 j) ∧ (∀ j : Nat, gi 55 j = if j = ar1.toNatClampNeg then ar4 else gi 55 j) ∧ (∀ j : Nat, gi 56 j = if j = ar1.toNatClampNeg then ar5 else gi 56 j) ∧ (∀ j : Nat, gi 57 j = if j = ar1.toNatClampNeg then (ar6 &&& 1) else gi 57 j)) from (fun h => absurd h (by omega)))⟩⟩
  · have l3 : 0 ≤ ar1.toInt := t_lel (t_nlt h1) (by decide : (0:Int) ≤ (0:Int32).toInt)
    refine ev_loc f_X4_put (nx := 5) rfl rfl rfl rfl ?_
    refine ev_bp f_X4_put (nx := 7) (v := 6) rfl (by decide) rfl ?_
    refine ev_if f_X4_put (t1 := 11) (t2 := 10) rfl rfl rfl (fun h4 => ?_) (fun h4 => ?_)
    · have u5 : ar1.toInt ≤ 5 := t_ltu h4 (by decide : (6:Int32).toInt ≤ (6:Int)) rfl
      refine ev_loc f_X4_put (nx := 12) rfl rfl rfl rfl ?_
      refine ev_getR f_X4_put (nx := 15) rfl (hI.wf.s rfl) rfl rfl (hI.wf.r rfl) rfl rfl ?_
      refine ev_loc f_X4_put (nx := 16) rfl rfl rfl rfl ?_
      refine ev_loc f_X4_put (nx := 17) rfl rfl rfl rfl ?_
      refine ev_iastT f_X4_put (nx := 18) rfl (hI.wf.s rfl) l3 (by decide) u5 (by decide) rfl (hI.astO (hI.wf.s rfl) (Or.inl (by decide)) (by decide +kernel)) (hX.upI (t_inA_ok rfl)) (fun g6 e6 hI hX => ?_)
      refine ev_loc f_X4_put (nx := 19) rfl rfl rfl rfl ?_
      refine ev_getR f_X4_put (nx := 22) rfl (hI.wf.s rfl) rfl rfl (hI.wf.r rfl) rfl rfl ?_
      refine ev_loc f_X4_put (nx := 23) rfl rfl rfl rfl ?_
      refine ev_loc f_X4_put (nx := 24) rfl rfl rfl rfl ?_
      refine ev_iastT f_X4_put (nx := 25) rfl (hI.wf.s rfl) l3 (by decide) u5 (by decide) rfl (hI.astO (hI.wf.s rfl) (Or.inl (by decide)) (by decide +kernel)) (hX.upI (t_inA_ok rfl)) (fun g7 e7 hI hX => ?_)
      refine ev_loc f_X4_put (nx := 26) rfl rfl rfl rfl ?_
      refine ev_getR f_X4_put (nx := 29) rfl (hI.wf.s rfl) rfl rfl (hI.wf.r rfl) rfl rfl ?_
      refine ev_loc f_X4_put (nx := 30) rfl rfl rfl rfl ?_
      refine ev_loc f_X4_put (nx := 32) rfl rfl rfl rfl ?_
      refine ev_iastT f_X4_put (nx := 33) rfl (hI.wf.s rfl) l3 (by decide) u5 (by decide) rfl (hI.astO (hI.wf.s rfl) (Or.inl (by decide)) (by decide +kernel)) (hX.upI (t_inA_ok rfl)) (fun g8 e8 hI hX => ?_)
      refine ev_loc f_X4_put (nx := 34) rfl rfl rfl rfl ?_
      refine ev_getR f_X4_put (nx := 37) rfl (hI.wf.s rfl) rfl rfl (hI.wf.r rfl) rfl rfl ?_
      refine ev_loc f_X4_put (nx := 38) rfl rfl rfl rfl ?_
      refine ev_loc f_X4_put (nx := 40) rfl rfl rfl rfl ?_
      refine ev_iastT f_X4_put (nx := 41) rfl (hI.wf.s rfl) l3 (by decide) u5 (by decide) rfl (hI.astO (hI.wf.s rfl) (Or.inl (by decide)) (by decide +kernel)) (hX.upI (t_inA_ok rfl)) (fun g9 e9 hI hX => ?_)
      refine ev_loc f_X4_put (nx := 42) rfl rfl rfl rfl ?_
      refine ev_getR f_X4_put (nx := 45) rfl (hI.wf.s rfl) rfl rfl (hI.wf.r rfl) rfl rfl ?_
      refine ev_loc f_X4_put (nx := 46) rfl rfl rfl rfl ?_
      refine ev_loc f_X4_put (nx := 48) rfl rfl rfl rfl ?_
      refine ev_zastE f_X4_put (nx := 49) rfl (hI.wf.s rfl) l3 (by decide) u5 (by decide) rfl (fun x _ _ => (hI.astO (hI.wf.s rfl) (Or.inl (by decide)) (by decide +kernel))) (fun x => hX.upI (t_inA_ok rfl)) (fun g10 x10 e10 ex10 hI hX => ?_)
      exact ev_ret f_X4_put rfl rfl rfl ⟨_, _, _, rfl, hI, hX, ⟨rfl, (show ((0 ≤ ar1.toInt ∧ ar1.toInt ≤ 5) → (∀ j : Nat, g10 53 j = if j = ar1.toNatClampNeg then ar2 else gi 53 j) ∧ (∀ j : Nat, g10 54 j = if j = ar1.toNatClampNeg then ar3 else gi 54 j) ∧ (∀ j : Nat, g10 55 j = if j = ar1.toNatClampNeg then ar4 else gi 55 j) ∧ (∀ j : Nat, g10 56 j = if j = ar1.toNatClampNeg then ar5 else gi 56 j) ∧ (∀ j : Nat, g10 57 j = if j = ar1.toNatClampNeg then (ar6 &&& 1) else gi 57 j)) from (fun h => ⟨(fun j => (by rw [e10, x_up2_off (Or.inl (by decide)), e9, x_up2_off (Or.inl (by decide)), e8, x_up2_off (Or.inl (by decide)), e7, x_up2_off (Or.inl (by decide)), e6]; by_cases hj : j = ar1.toNatClampNeg; (rw [if_pos hj, hj, x_up2_at]); (rw [if_neg hj, x_up2_off (Or.inr hj)]))), (fun j => (by rw [e10, x_up2_off (Or.inl (by decide)), e9, x_up2_off (Or.inl (by decide)), e8, x_up2_off (Or.inl (by decide)), e7]; by_cases hj : j = ar1.toNatClampNeg; (rw [if_pos hj, hj, x_up2_at]); (rw [if_neg hj, x_up2_off (Or.inr hj), e6, x_up2_off (Or.inl (by decide))]))), (fun j => (by rw [e10, x_up2_off (Or.inl (by decide)), e9, x_up2_off (Or.inl (by decide)), e8]; by_cases hj : j = ar1.toNatClampNeg; (rw [if_pos hj, hj, x_up2_at]); (rw [if_neg hj, x_up2_off (Or.inr hj), e7, x_up2_off (Or.inl (by decide)), e6, x_up2_off (Or.inl (by decide))]))), (fun j => (by rw [e10, x_up2_off (Or.inl (by decide)), e9]; by_cases hj : j = ar1.toNatClampNeg; (rw [if_pos hj, hj, x_up2_at]); (rw [if_neg hj, x_up2_off (Or.inr hj), e8, x_up2_off (Or.inl (by decide)), e7, x_up2_off (Or.inl (by decide)), e6, x_up2_off (Or.inl (by decide))]))), (fun j => (by rw [e10]; by_cases hj : j = ar1.toNatClampNeg; (rw [if_pos hj, hj, x_up2_at]; exact ex10); (rw [if_neg hj, x_up2_off (Or.inr hj), e9, x_up2_off (Or.inl (by decide)), e8, x_up2_off (Or.inl (by decide)), e7, x_up2_off (Or.inl (by decide)), e6, x_up2_off (Or.inl (by decide))])))⟩))⟩⟩
    · have l11 : 6 ≤ ar1.toInt := t_lel (t_nlt h4) (by decide : (6:Int) ≤ (6:Int32).toInt)
      exact ev_ret f_X4_put rfl rfl rfl ⟨_, _, _, rfl, hI, hX, ⟨rfl, (show ((0 ≤ ar1.toInt ∧ ar1.toInt ≤ 5) → (∀ j : Nat, gi 53 j = if j = ar1.toNatClampNeg then ar2 else gi 53 j) ∧ (∀ j : Nat, gi 54 j = if j = ar1.toNatClampNeg then ar3 else gi 54 j) ∧ (∀ j : Nat, gi 55 j = if j = ar1.toNatClampNeg then ar4 else gi 55 j) ∧ (∀ j : Nat, gi 56 j = if j = ar1.toNatClampNeg then ar5 else gi 56 j) ∧ (∀ j : Nat, gi 57 j = if j = ar1.toNatClampNeg then (ar6 &&& 1) else gi 57 j)) from (fun h => absurd h (by omega)))⟩⟩
noncomputable def wl_d_join_52 : List (Nat × Nat) := [(52, 0), (53, 9999), (54, 9999), (55, 9999), (56, 9999), (57, 9999)]
noncomputable def Q_d_join_52 (gi : Nat → Nat → Int32) (gl : Nat → Nat → Int64) (gr : Nat → Nat → Value) (ar1 : Nat) (ar2 : Int32) (ar3 : Int32) : (Nat → Nat → Int32) → (Nat → Nat → Int64) → (Nat → Nat → Value) → Prop := fun (gi2 : Nat → Nat → Int32) (gl2 : Nat → Nat → Int64) (gr2 : Nat → Nat → Value) => (∀ n t w l : Nat, (gi 52 0).toInt = n → n ≤ 5 → 0 ≤ ar2.toInt → ar2.toInt < (gi ar1 0).toInt → s_LR ar1 → s_LR t → s_LR w → s_LR l → gr ar1 3 = .ref t → gr ar1 4 = .ref w → gr ar1 5 = .ref l → (∀ j : Nat, j < n → gi 57 j &&& 1 = gi 57 j) → (gi2 52 0).toInt = n + 1 ∧ ∀ j, j ≤ n → gi2 53 j = s_is (gi 53) (ar2) (s_pk (fun j => (gi 54 j).toInt) ar3.toInt n) j ∧ gi2 54 j = s_is (gi 54) (ar3) (s_pk (fun j => (gi 54 j).toInt) ar3.toInt n) j ∧ gi2 55 j = s_is (gi 55) (gi t ar2.toNatClampNeg) (s_pk (fun j => (gi 54 j).toInt) ar3.toInt n) j ∧ gi2 56 j = s_is (gi 56) (gi w ar2.toNatClampNeg) (s_pk (fun j => (gi 54 j).toInt) ar3.toInt n) j ∧ gi2 57 j = s_is (gi 57) (gi l ar2.toNatClampNeg &&& 1) (s_pk (fun j => (gi 54 j).toInt) ar3.toInt n) j)
theorem c_d_join_52 {X : x_Ext} {d : Nat} {sh : List (Nat ⊕ (Nat × Nat))} {gi : Nat → Nat → Int32} {gl : Nat → Nat → Int64} {gr : Nat → Nat → Value} (hI : t_I sh gi gr) (ar1 : Nat) (p_a1 : t_Ln sh gr ar1) (ar2 : Int32) (ar3 : Int32) : x_Me X (d + 2) n_X4_join [.ref 52, .ref ar1, .int ar2, .int ar3] (sh, gi, gl, gr) (t_PN wl_d_join_52 sh gi gl gr (Q_d_join_52 gi gl gr ar1 ar2 ar3)) := by
  have hX : t_X wl_d_join_52 sh gi gl gr gi gl gr := t_X.rf
  refine me_i f_X4_join (hI.wf.s rfl) rfl rfl rfl ?_
  obtain ⟨l1, u1⟩ := hI.b (hI.wf.s (k := 52) rfl) (t_bdK rfl : t_bd 3 0 = some (0, 6))
  refine ev_loc f_X4_join (nx := 1) rfl rfl rfl rfl ?_
  refine ev_gvI f_X4_join (nx := 4) (w := (gi 52 0)) rfl (hI.wf.s rfl) rfl rfl rfl rfl ?_
  refine ev_bp f_X4_join (nx := 6) (v := 6) rfl (by decide) rfl ?_
  refine ev_if f_X4_join (t1 := 21) (t2 := 9) rfl rfl rfl (fun h2 => ?_) (fun h2 => ?_)
  · have l3 : 6 ≤ (gi 52 0).toInt := t_lel h2 (by decide : (6:Int) ≤ (6:Int32).toInt)
    exact ev_ret f_X4_join rfl rfl rfl ⟨_, _, _, rfl, hI, hX, ⟨rfl, (show (∀ n t w l : Nat, (gi 52 0).toInt = n → n ≤ 5 → 0 ≤ ar2.toInt → ar2.toInt < (gi ar1 0).toInt → s_LR ar1 → s_LR t → s_LR w → s_LR l → gr ar1 3 = .ref t → gr ar1 4 = .ref w → gr ar1 5 = .ref l → (∀ j : Nat, j < n → gi 57 j &&& 1 = gi 57 j) → (gi 52 0).toInt = n + 1 ∧ ∀ j, j ≤ n → gi 53 j = s_is (gi 53) (ar2) (s_pk (fun j => (gi 54 j).toInt) ar3.toInt n) j ∧ gi 54 j = s_is (gi 54) (ar3) (s_pk (fun j => (gi 54 j).toInt) ar3.toInt n) j ∧ gi 55 j = s_is (gi 55) (gi t ar2.toNatClampNeg) (s_pk (fun j => (gi 54 j).toInt) ar3.toInt n) j ∧ gi 56 j = s_is (gi 56) (gi w ar2.toNatClampNeg) (s_pk (fun j => (gi 54 j).toInt) ar3.toInt n) j ∧ gi 57 j = s_is (gi 57) (gi l ar2.toNatClampNeg &&& 1) (s_pk (fun j => (gi 54 j).toInt) ar3.toInt n) j) from (fun n t w l hn hn5 ha hb r1 r2 r3 r4 k1 k2 k3 hz => (by exfalso; omega)))⟩⟩
  · have u4 : (gi 52 0).toInt ≤ 5 := t_ltu (t_nle h2) (by decide : (6:Int32).toInt ≤ (6:Int)) rfl
    refine ev_loc f_X4_join (nx := 10) rfl rfl rfl rfl ?_
    refine ev_if f_X4_join (t1 := 21) (t2 := 13) rfl rfl rfl (fun h5 => ?_) (fun h5 => ?_)
    · have u6 : ar2.toInt ≤ (-1) := t_ltu h5 (by decide : (0:Int32).toInt ≤ (0:Int)) rfl
      exact ev_ret f_X4_join rfl rfl rfl ⟨_, _, _, rfl, hI, hX, ⟨rfl, (show (∀ n t w l : Nat, (gi 52 0).toInt = n → n ≤ 5 → 0 ≤ ar2.toInt → ar2.toInt < (gi ar1 0).toInt → s_LR ar1 → s_LR t → s_LR w → s_LR l → gr ar1 3 = .ref t → gr ar1 4 = .ref w → gr ar1 5 = .ref l → (∀ j : Nat, j < n → gi 57 j &&& 1 = gi 57 j) → (gi 52 0).toInt = n + 1 ∧ ∀ j, j ≤ n → gi 53 j = s_is (gi 53) (ar2) (s_pk (fun j => (gi 54 j).toInt) ar3.toInt n) j ∧ gi 54 j = s_is (gi 54) (ar3) (s_pk (fun j => (gi 54 j).toInt) ar3.toInt n) j ∧ gi 55 j = s_is (gi 55) (gi t ar2.toNatClampNeg) (s_pk (fun j => (gi 54 j).toInt) ar3.toInt n) j ∧ gi 56 j = s_is (gi 56) (gi w ar2.toNatClampNeg) (s_pk (fun j => (gi 54 j).toInt) ar3.toInt n) j ∧ gi 57 j = s_is (gi 57) (gi l ar2.toNatClampNeg &&& 1) (s_pk (fun j => (gi 54 j).toInt) ar3.toInt n) j) from (fun n t w l hn hn5 ha hb r1 r2 r3 r4 k1 k2 k3 hz => (by exfalso; omega)))⟩⟩
    · have l7 : 0 ≤ ar2.toInt := t_lel (t_nlt h5) (by decide : (0:Int) ≤ (0:Int32).toInt)
      refine ev_loc f_X4_join (nx := 14) rfl rfl rfl rfl ?_
      refine ev_loc f_X4_join (nx := 15) rfl rfl rfl rfl ?_
      refine ev_getI f_X4_join (nx := 18) rfl p_a1.1 rfl rfl rfl ?_
      obtain ⟨l8, u8⟩ := hI.b p_a1.1 (t_bdK rfl : t_bd 3 0 = some (0, 6))
      refine ev_if f_X4_join (t1 := 22) (t2 := 21) rfl rfl rfl (fun h9 => ?_) (fun h9 => ?_)
      · have r10 : ar2.toInt < (gi ar1 0).toInt := Int32.lt_iff_toInt_lt.mp h9
        have u11 : ar2.toInt ≤ 5 := t_ltu h9 u8 rfl
        have l12 : 1 ≤ (gi ar1 0).toInt := t_ltl h9 l7 rfl
        refine ev_loc f_X4_join (nx := 23) rfl rfl rfl rfl ?_
        refine ev_gvI f_X4_join (nx := 26) (w := (gi 52 0)) rfl (hI.wf.s rfl) rfl rfl rfl rfl ?_
        refine ev_loc f_X4_join (nx := 28) (lo' := [(4, .int (gi 52 0)), (0, .ref 52), (1, .ref ar1), (2, .int ar2), (3, .int ar3)]) rfl rfl rfl rfl ?_
        refine ev_loc f_X4_join (nx := 29) rfl rfl rfl rfl ?_
        refine ev_alu f_X4_join (nx := 30) rfl rfl rfl rfl ?_
        refine ev_gvI f_X4_join (nx := 33) (w := (gi 52 0)) rfl (hI.wf.s rfl) rfl rfl rfl rfl ?_
        refine ev_ic f_X4_join (nx := 34) (v := 1) rfl (by decide) rfl ?_
        refine ev_addC f_X4_join (nx := 35) (c := 1) (l := 1) (u := 6) rfl (by decide) l1 u4 rfl rfl (by decide) (by decide) rfl (fun z13 e13 l13 u13 => ?_)
        refine ev_putIT f_X4_join (nx := 38) rfl (hI.wf.s rfl) rfl rfl rfl (hI.putB (hI.wf.s rfl) rfl rfl l13 (by decide) u13 (by decide)) (hX.upI rfl) (fun g14 e14 hI hX => ?_)
        have L15 : ∀ (m15 : Nat) (gi15 : Nat → Nat → Int32) (gl15 : Nat → Nat → Int64) (gr15 : Nat → Nat → Value) (y15_4 : Int32), t_I sh gi15 gr15 → t_X wl_d_join_52 sh gi gl gr gi15 gl15 gr15 → t_Ln sh gr15 ar1 → 0 ≤ y15_4.toInt → y15_4.toInt ≤ 5 → gi15 52 0 = z13 → (∀ n : Nat, (gi 52 0).toInt = n → n ≤ 5 → (∀ j : Nat, j < n → gi 57 j &&& 1 = gi 57 j) → s_J (gi 53) (gi15 53) (fun j => (gi 54 j).toInt) n ar3.toInt y15_4.toNatClampNeg ∧ s_J (gi 54) (gi15 54) (fun j => (gi 54 j).toInt) n ar3.toInt y15_4.toNatClampNeg ∧ s_J (gi 55) (gi15 55) (fun j => (gi 54 j).toInt) n ar3.toInt y15_4.toNatClampNeg ∧ s_J (gi 56) (gi15 56) (fun j => (gi 54 j).toInt) n ar3.toInt y15_4.toNatClampNeg ∧ s_J (gi 57) (gi15 57) (fun j => (gi 54 j).toInt) n ar3.toInt y15_4.toNatClampNeg ∧ (gi15 52 0).toInt = n + 1) → (y15_4.toInt - 0).toNat = m15 → x_Ev X (d + 2) n_X4_join 38 [(4, .int y15_4), (0, .ref 52), (1, .ref ar1), (2, .int ar2), (3, .int ar3)] [] (sh, gi15, gl15, gr15) (t_PN wl_d_join_52 sh gi gl gr (Q_d_join_52 gi gl gr ar1 ar2 ar3)) := by
          intro m15
          induction m15 using Nat.strongRecOn with
          | _ m15 ih15 =>
          intro gi15 gl15 gr15 y15_4 hI hX p_a1 l15_4 u15_4 c15_0 j15_0 hm15
          refine ev_loc f_X4_join (nx := 40) rfl rfl rfl rfl ?_
          have hXh := hX
          refine ev_if f_X4_join (t1 := 113) (t2 := 43) rfl rfl rfl (fun h16 => ?_) (fun h16 => ?_)
          · have u17 : y15_4.toInt ≤ 0 := t_leu h16 (by decide : (0:Int32).toInt ≤ (0:Int))
            refine ev_loc f_X4_join (nx := 114) rfl rfl rfl rfl ?_
            refine ev_loc f_X4_join (nx := 116) rfl rfl rfl rfl ?_
            refine ev_loc f_X4_join (nx := 117) rfl rfl rfl rfl ?_
            refine ev_loc f_X4_join (nx := 118) rfl rfl rfl rfl ?_
            refine ev_loc f_X4_join (nx := 119) rfl rfl rfl rfl ?_
            obtain ⟨a18, e18, s18, o18⟩ := p_a1.2.2.2.1
            refine ev_getR f_X4_join (nx := 122) rfl p_a1.1 rfl rfl e18 rfl rfl ?_
            refine ev_loc f_X4_join (nx := 123) rfl rfl rfl rfl ?_
            refine ev_ialdT f_X4_join (nx := 124) rfl s18 l7 (by decide) u11 (by decide) rfl (fun w19 e19 => ?_)
            refine ev_loc f_X4_join (nx := 125) rfl rfl rfl rfl ?_
            obtain ⟨a20, e20, s20, o20⟩ := p_a1.2.2.2.2.1
            refine ev_getR f_X4_join (nx := 128) rfl p_a1.1 rfl rfl e20 rfl rfl ?_
            refine ev_loc f_X4_join (nx := 129) rfl rfl rfl rfl ?_
            refine ev_ialdT f_X4_join (nx := 130) rfl s20 l7 (by decide) u11 (by decide) rfl (fun w21 e21 => ?_)
            refine ev_loc f_X4_join (nx := 131) rfl rfl rfl rfl ?_
            obtain ⟨a22, e22, s22, o22⟩ := p_a1.2.2.2.2.2
            refine ev_getR f_X4_join (nx := 134) rfl p_a1.1 rfl rfl e22 rfl rfl ?_
            refine ev_loc f_X4_join (nx := 135) rfl rfl rfl rfl ?_
            refine ev_baldT f_X4_join (nx := 136) rfl s22 rfl l7 (by decide) u11 (by decide) rfl (fun w23 e23 => ?_)
            refine ev_qN f_X4_join (nx := 139) (r := []) rfl rfl rfl rfl rfl rfl rfl (c_d_put_52 hI (y15_4) (ar2) (ar3) (w19) (w21) (w23)) rfl hX rfl (fun gi24 gl24 gr24 hI hX hC24 q24 => ?_)
            have q24 : ((0 ≤ y15_4.toInt ∧ y15_4.toInt ≤ 5) → (∀ j : Nat, gi24 53 j = if j = y15_4.toNatClampNeg then ar2 else gi15 53 j) ∧ (∀ j : Nat, gi24 54 j = if j = y15_4.toNatClampNeg then ar3 else gi15 54 j) ∧ (∀ j : Nat, gi24 55 j = if j = y15_4.toNatClampNeg then w19 else gi15 55 j) ∧ (∀ j : Nat, gi24 56 j = if j = y15_4.toNatClampNeg then w21 else gi15 56 j) ∧ (∀ j : Nat, gi24 57 j = if j = y15_4.toNatClampNeg then (w23 &&& 1) else gi15 57 j)) := q24
            replace p_a1 := p_a1.ext hC24.2
            exact ev_ret f_X4_join rfl rfl rfl ⟨_, _, _, rfl, hI, hX, ⟨rfl, (show (∀ n t w l : Nat, (gi 52 0).toInt = n → n ≤ 5 → 0 ≤ ar2.toInt → ar2.toInt < (gi ar1 0).toInt → s_LR ar1 → s_LR t → s_LR w → s_LR l → gr ar1 3 = .ref t → gr ar1 4 = .ref w → gr ar1 5 = .ref l → (∀ j : Nat, j < n → gi 57 j &&& 1 = gi 57 j) → (gi24 52 0).toInt = n + 1 ∧ ∀ j, j ≤ n → gi24 53 j = s_is (gi 53) (ar2) (s_pk (fun j => (gi 54 j).toInt) ar3.toInt n) j ∧ gi24 54 j = s_is (gi 54) (ar3) (s_pk (fun j => (gi 54 j).toInt) ar3.toInt n) j ∧ gi24 55 j = s_is (gi 55) (gi t ar2.toNatClampNeg) (s_pk (fun j => (gi 54 j).toInt) ar3.toInt n) j ∧ gi24 56 j = s_is (gi 56) (gi w ar2.toNatClampNeg) (s_pk (fun j => (gi 54 j).toInt) ar3.toInt n) j ∧ gi24 57 j = s_is (gi 57) (gi l ar2.toNatClampNeg &&& 1) (s_pk (fun j => (gi 54 j).toInt) ar3.toInt n) j) from (fun n t w l hn hn5 ha hb r1 r2 r3 r4 k1 k2 k3 hz => (by
                                                            obtain ⟨h1, h2, h3, h4, h5, hcn⟩ := j15_0 n hn hn5 hz
                                                            obtain ⟨q1, q2, q3, q4, q5⟩ := q24 ⟨by omega, by omega⟩
                                                            have hc0 : gi24 52 0 = gi15 52 0 := (hC24.1 52 0 rfl).1
                                                            have hK := t_nd_fr hXh rfl
                                                            have hb3 : a18 = t := Value.ref.inj ((e18).symm.trans ((congrFun (hK ar1 r1).2.2 3).trans k1))
                                                            subst hb3
                                                            have hb4 : a20 = w := Value.ref.inj ((e20).symm.trans ((congrFun (hK ar1 r1).2.2 4).trans k2))
                                                            subst hb4
                                                            have hb5 : a22 = l := Value.ref.inj ((e22).symm.trans ((congrFun (hK ar1 r1).2.2 5).trans k3))
                                                            subst hb5
                                                            have hx0 : w19 = gi a18 ar2.toNatClampNeg := by rw [e19, (hK _ r2).1]
                                                            have hx1 : w21 = gi a20 ar2.toNatClampNeg := by rw [e21, (hK _ r3).1]
                                                            have hx2 : w23 = gi a22 ar2.toNatClampNeg := by rw [e23, (hK _ r4).1]
                                                            have hs : y15_4.toNatClampNeg = 0 ∨ (gi 54 (y15_4.toNatClampNeg - 1)).toInt ≤ ar3.toInt := Or.inl (s_c00 (by omega) (by omega))
                                                            rw [hx0] at q3
                                                            rw [hx1] at q4
                                                            rw [hx2] at q5
                                                            exact ⟨by rw [hc0]; exact hcn, fun j hj => ⟨s_J_e h1 hs q1 j hj, s_J_e h2 hs q2 j hj, s_J_e h3 hs q3 j hj, s_J_e h4 hs q4 j hj, s_J_e h5 hs q5 j hj⟩⟩)))⟩⟩
          · have l25 : 1 ≤ y15_4.toInt := t_ltl (t_nle h16) (by decide : (0:Int) ≤ (0:Int32).toInt) rfl
            refine ev_loc f_X4_join (nx := 44) rfl rfl rfl rfl ?_
            refine ev_getR f_X4_join (nx := 47) rfl (hI.wf.s rfl) rfl rfl (hI.wf.r rfl) rfl rfl ?_
            refine ev_loc f_X4_join (nx := 49) rfl rfl rfl rfl ?_
            refine ev_ic f_X4_join (nx := 50) (v := 1) rfl (by decide) rfl ?_
            refine ev_subC f_X4_join (nx := 51) (c := 1) (l := 0) (u := 4) rfl (by decide) l25 u15_4 rfl rfl (by decide) (by decide) rfl (fun z26 e26 l26 u26 => ?_)
            refine ev_ialdT f_X4_join (nx := 52) rfl (hI.wf.s rfl) l26 (by decide) u26 (by decide) rfl (fun w27 e27 => ?_)
            refine ev_loc f_X4_join (nx := 53) rfl rfl rfl rfl ?_
            refine ev_if f_X4_join (t1 := 113) (t2 := 56) rfl rfl rfl (fun h28 => ?_) (fun h28 => ?_)
            · have r29 : w27.toInt ≤ ar3.toInt := Int32.le_iff_toInt_le.mp h28
              refine ev_loc f_X4_join (nx := 114) rfl rfl rfl rfl ?_
              refine ev_loc f_X4_join (nx := 116) rfl rfl rfl rfl ?_
              refine ev_loc f_X4_join (nx := 117) rfl rfl rfl rfl ?_
              refine ev_loc f_X4_join (nx := 118) rfl rfl rfl rfl ?_
              refine ev_loc f_X4_join (nx := 119) rfl rfl rfl rfl ?_
              obtain ⟨a30, e30, s30, o30⟩ := p_a1.2.2.2.1
              refine ev_getR f_X4_join (nx := 122) rfl p_a1.1 rfl rfl e30 rfl rfl ?_
              refine ev_loc f_X4_join (nx := 123) rfl rfl rfl rfl ?_
              refine ev_ialdT f_X4_join (nx := 124) rfl s30 l7 (by decide) u11 (by decide) rfl (fun w31 e31 => ?_)
              refine ev_loc f_X4_join (nx := 125) rfl rfl rfl rfl ?_
              obtain ⟨a32, e32, s32, o32⟩ := p_a1.2.2.2.2.1
              refine ev_getR f_X4_join (nx := 128) rfl p_a1.1 rfl rfl e32 rfl rfl ?_
              refine ev_loc f_X4_join (nx := 129) rfl rfl rfl rfl ?_
              refine ev_ialdT f_X4_join (nx := 130) rfl s32 l7 (by decide) u11 (by decide) rfl (fun w33 e33 => ?_)
              refine ev_loc f_X4_join (nx := 131) rfl rfl rfl rfl ?_
              obtain ⟨a34, e34, s34, o34⟩ := p_a1.2.2.2.2.2
              refine ev_getR f_X4_join (nx := 134) rfl p_a1.1 rfl rfl e34 rfl rfl ?_
              refine ev_loc f_X4_join (nx := 135) rfl rfl rfl rfl ?_
              refine ev_baldT f_X4_join (nx := 136) rfl s34 rfl l7 (by decide) u11 (by decide) rfl (fun w35 e35 => ?_)
              refine ev_qN f_X4_join (nx := 139) (r := []) rfl rfl rfl rfl rfl rfl rfl (c_d_put_52 hI (y15_4) (ar2) (ar3) (w31) (w33) (w35)) rfl hX rfl (fun gi36 gl36 gr36 hI hX hC36 q36 => ?_)
              have q36 : ((0 ≤ y15_4.toInt ∧ y15_4.toInt ≤ 5) → (∀ j : Nat, gi36 53 j = if j = y15_4.toNatClampNeg then ar2 else gi15 53 j) ∧ (∀ j : Nat, gi36 54 j = if j = y15_4.toNatClampNeg then ar3 else gi15 54 j) ∧ (∀ j : Nat, gi36 55 j = if j = y15_4.toNatClampNeg then w31 else gi15 55 j) ∧ (∀ j : Nat, gi36 56 j = if j = y15_4.toNatClampNeg then w33 else gi15 56 j) ∧ (∀ j : Nat, gi36 57 j = if j = y15_4.toNatClampNeg then (w35 &&& 1) else gi15 57 j)) := q36
              replace p_a1 := p_a1.ext hC36.2
              exact ev_ret f_X4_join rfl rfl rfl ⟨_, _, _, rfl, hI, hX, ⟨rfl, (show (∀ n t w l : Nat, (gi 52 0).toInt = n → n ≤ 5 → 0 ≤ ar2.toInt → ar2.toInt < (gi ar1 0).toInt → s_LR ar1 → s_LR t → s_LR w → s_LR l → gr ar1 3 = .ref t → gr ar1 4 = .ref w → gr ar1 5 = .ref l → (∀ j : Nat, j < n → gi 57 j &&& 1 = gi 57 j) → (gi36 52 0).toInt = n + 1 ∧ ∀ j, j ≤ n → gi36 53 j = s_is (gi 53) (ar2) (s_pk (fun j => (gi 54 j).toInt) ar3.toInt n) j ∧ gi36 54 j = s_is (gi 54) (ar3) (s_pk (fun j => (gi 54 j).toInt) ar3.toInt n) j ∧ gi36 55 j = s_is (gi 55) (gi t ar2.toNatClampNeg) (s_pk (fun j => (gi 54 j).toInt) ar3.toInt n) j ∧ gi36 56 j = s_is (gi 56) (gi w ar2.toNatClampNeg) (s_pk (fun j => (gi 54 j).toInt) ar3.toInt n) j ∧ gi36 57 j = s_is (gi 57) (gi l ar2.toNatClampNeg &&& 1) (s_pk (fun j => (gi 54 j).toInt) ar3.toInt n) j) from (fun n t w l hn hn5 ha hb r1 r2 r3 r4 k1 k2 k3 hz => (by
                                                            obtain ⟨h1, h2, h3, h4, h5, hcn⟩ := j15_0 n hn hn5 hz
                                                            obtain ⟨q1, q2, q3, q4, q5⟩ := q36 ⟨by omega, by omega⟩
                                                            have hc0 : gi36 52 0 = gi15 52 0 := (hC36.1 52 0 rfl).1
                                                            have hK := t_nd_fr hXh rfl
                                                            have hb3 : a30 = t := Value.ref.inj ((e30).symm.trans ((congrFun (hK ar1 r1).2.2 3).trans k1))
                                                            subst hb3
                                                            have hb4 : a32 = w := Value.ref.inj ((e32).symm.trans ((congrFun (hK ar1 r1).2.2 4).trans k2))
                                                            subst hb4
                                                            have hb5 : a34 = l := Value.ref.inj ((e34).symm.trans ((congrFun (hK ar1 r1).2.2 5).trans k3))
                                                            subst hb5
                                                            have hx0 : w31 = gi a30 ar2.toNatClampNeg := by rw [e31, (hK _ r2).1]
                                                            have hx1 : w33 = gi a32 ar2.toNatClampNeg := by rw [e33, (hK _ r3).1]
                                                            have hx2 : w35 = gi a34 ar2.toNatClampNeg := by rw [e35, (hK _ r4).1]
                                                            have hp : 0 < y15_4.toNatClampNeg := s_c0 (by omega)
                                                            have hv0 : w27 = gi15 54 (y15_4.toNatClampNeg - 1) := by rw [e27, s_cm l26 e26]
                                                            have hs : y15_4.toNatClampNeg = 0 ∨ (gi 54 (y15_4.toNatClampNeg - 1)).toInt ≤ ar3.toInt := Or.inr (by rw [← s_J_at h2 hp, ← hv0]; omega)
                                                            rw [hx0] at q3
                                                            rw [hx1] at q4
                                                            rw [hx2] at q5
                                                            exact ⟨by rw [hc0]; exact hcn, fun j hj => ⟨s_J_e h1 hs q1 j hj, s_J_e h2 hs q2 j hj, s_J_e h3 hs q3 j hj, s_J_e h4 hs q4 j hj, s_J_e h5 hs q5 j hj⟩⟩)))⟩⟩
            · have r37 : ar3.toInt < w27.toInt := Int32.lt_iff_toInt_lt.mp (t_nle h28)
              have u38 : ar3.toInt ≤ 2147483646 := t_ltu (t_nle h28) (t_hi w27) rfl
              have l39 : (-2147483647) ≤ w27.toInt := t_ltl (t_nle h28) (t_lo ar3) rfl
              refine ev_loc f_X4_join (nx := 57) rfl rfl rfl rfl ?_
              refine ev_loc f_X4_join (nx := 59) rfl rfl rfl rfl ?_
              refine ev_loc f_X4_join (nx := 60) rfl rfl rfl rfl ?_
              refine ev_getR f_X4_join (nx := 63) rfl (hI.wf.s rfl) rfl rfl (hI.wf.r rfl) rfl rfl ?_
              refine ev_loc f_X4_join (nx := 65) rfl rfl rfl rfl ?_
              refine ev_ic f_X4_join (nx := 66) (v := 1) rfl (by decide) rfl ?_
              refine ev_subC f_X4_join (nx := 67) (c := 1) (l := 0) (u := 4) rfl (by decide) l25 u15_4 rfl rfl (by decide) (by decide) rfl (fun z40 e40 l40 u40 => ?_)
              refine ev_ialdT f_X4_join (nx := 68) rfl (hI.wf.s rfl) l40 (by decide) u40 (by decide) rfl (fun w41 e41 => ?_)
              refine ev_loc f_X4_join (nx := 69) rfl rfl rfl rfl ?_
              refine ev_getR f_X4_join (nx := 72) rfl (hI.wf.s rfl) rfl rfl (hI.wf.r rfl) rfl rfl ?_
              refine ev_loc f_X4_join (nx := 74) rfl rfl rfl rfl ?_
              refine ev_ic f_X4_join (nx := 75) (v := 1) rfl (by decide) rfl ?_
              refine ev_subC f_X4_join (nx := 76) (c := 1) (l := 0) (u := 4) rfl (by decide) l25 u15_4 rfl rfl (by decide) (by decide) rfl (fun z42 e42 l42 u42 => ?_)
              refine ev_ialdT f_X4_join (nx := 77) rfl (hI.wf.s rfl) l42 (by decide) u42 (by decide) rfl (fun w43 e43 => ?_)
              refine ev_loc f_X4_join (nx := 78) rfl rfl rfl rfl ?_
              refine ev_getR f_X4_join (nx := 81) rfl (hI.wf.s rfl) rfl rfl (hI.wf.r rfl) rfl rfl ?_
              refine ev_loc f_X4_join (nx := 83) rfl rfl rfl rfl ?_
              refine ev_ic f_X4_join (nx := 84) (v := 1) rfl (by decide) rfl ?_
              refine ev_subC f_X4_join (nx := 85) (c := 1) (l := 0) (u := 4) rfl (by decide) l25 u15_4 rfl rfl (by decide) (by decide) rfl (fun z44 e44 l44 u44 => ?_)
              refine ev_ialdT f_X4_join (nx := 86) rfl (hI.wf.s rfl) l44 (by decide) u44 (by decide) rfl (fun w45 e45 => ?_)
              refine ev_loc f_X4_join (nx := 87) rfl rfl rfl rfl ?_
              refine ev_getR f_X4_join (nx := 90) rfl (hI.wf.s rfl) rfl rfl (hI.wf.r rfl) rfl rfl ?_
              refine ev_loc f_X4_join (nx := 92) rfl rfl rfl rfl ?_
              refine ev_ic f_X4_join (nx := 93) (v := 1) rfl (by decide) rfl ?_
              refine ev_subC f_X4_join (nx := 94) (c := 1) (l := 0) (u := 4) rfl (by decide) l25 u15_4 rfl rfl (by decide) (by decide) rfl (fun z46 e46 l46 u46 => ?_)
              refine ev_ialdT f_X4_join (nx := 95) rfl (hI.wf.s rfl) l46 (by decide) u46 (by decide) rfl (fun w47 e47 => ?_)
              refine ev_loc f_X4_join (nx := 96) rfl rfl rfl rfl ?_
              refine ev_getR f_X4_join (nx := 99) rfl (hI.wf.s rfl) rfl rfl (hI.wf.r rfl) rfl rfl ?_
              refine ev_loc f_X4_join (nx := 101) rfl rfl rfl rfl ?_
              refine ev_ic f_X4_join (nx := 102) (v := 1) rfl (by decide) rfl ?_
              refine ev_subC f_X4_join (nx := 103) (c := 1) (l := 0) (u := 4) rfl (by decide) l25 u15_4 rfl rfl (by decide) (by decide) rfl (fun z48 e48 l48 u48 => ?_)
              refine ev_baldT f_X4_join (nx := 104) rfl (hI.wf.s rfl) rfl l48 (by decide) u48 (by decide) rfl (fun w49 e49 => ?_)
              refine ev_qN f_X4_join (nx := 107) (r := []) rfl rfl rfl rfl rfl rfl rfl (c_d_put_52 hI (y15_4) (w41) (w43) (w45) (w47) (w49)) rfl hX rfl (fun gi50 gl50 gr50 hI hX hC50 q50 => ?_)
              have q50 : ((0 ≤ y15_4.toInt ∧ y15_4.toInt ≤ 5) → (∀ j : Nat, gi50 53 j = if j = y15_4.toNatClampNeg then w41 else gi15 53 j) ∧ (∀ j : Nat, gi50 54 j = if j = y15_4.toNatClampNeg then w43 else gi15 54 j) ∧ (∀ j : Nat, gi50 55 j = if j = y15_4.toNatClampNeg then w45 else gi15 55 j) ∧ (∀ j : Nat, gi50 56 j = if j = y15_4.toNatClampNeg then w47 else gi15 56 j) ∧ (∀ j : Nat, gi50 57 j = if j = y15_4.toNatClampNeg then (w49 &&& 1) else gi15 57 j)) := q50
              replace p_a1 := p_a1.ext hC50.2
              refine ev_incR f_X4_join (nx := 110) (c := (-1)) (l := 0) (u := 4) rfl rfl (by decide) (by decide) l25 u15_4 rfl rfl (by decide) (by decide) rfl (fun z51 e51 l51 u51 => ?_)
              refine ev_jmp f_X4_join (nx := 38) rfl rfl rfl ?_
              refine ev_sub (lo := [(4, .int z51), (0, .ref 52), (1, .ref ar1), (2, .int ar2), (3, .int ar3)]) rfl (t_sc rfl (t_sc rfl (t_sc rfl (t_sc rfl (t_sc rfl t_sn))))) ?_
              exact ih15 _ (by omega) gi50 gl50 gr50 (z51) hI hX p_a1 l51 (Int.le_trans u51 (by decide : (4:Int) ≤ 5)) ((hC50.1 52 0 rfl).1.trans c15_0) (fun n hn hn5 hz => (by
                                                            obtain ⟨h1, h2, h3, h4, h5, hcn⟩ := j15_0 n hn hn5 hz
                                                            obtain ⟨q1, q2, q3, q4, q5⟩ := q50 ⟨by omega, by omega⟩
                                                            have hp : 0 < y15_4.toNatClampNeg := s_c0 (by omega)
                                                            have hv0 : w27 = gi15 54 (y15_4.toNatClampNeg - 1) := by rw [e27, s_cm l26 e26]
                                                            have hv1 : w41 = gi15 53 (y15_4.toNatClampNeg - 1) := by rw [e41, s_cm l40 e40]
                                                            have hv2 : w43 = gi15 54 (y15_4.toNatClampNeg - 1) := by rw [e43, s_cm l42 e42]
                                                            have hv3 : w45 = gi15 55 (y15_4.toNatClampNeg - 1) := by rw [e45, s_cm l44 e44]
                                                            have hv4 : w47 = gi15 56 (y15_4.toNatClampNeg - 1) := by rw [e47, s_cm l46 e46]
                                                            have hv5 : w49 = gi15 57 (y15_4.toNatClampNeg - 1) := by rw [e49, s_cm l48 e48]
                                                            have hc0 : gi50 52 0 = gi15 52 0 := (hC50.1 52 0 rfl).1
                                                            have hg : ar3.toInt < (gi 54 (y15_4.toNatClampNeg - 1)).toInt := by rw [← s_J_at h2 hp, ← hv0]; omega
                                                            have hv6 : w49 &&& 1 = gi15 57 (y15_4.toNatClampNeg - 1) := by rw [hv5, s_J_at h5 hp]; exact hz _ (by have := h5.1; omega)
                                                            rw [s_cm2 l51 e51]
                                                            exact ⟨s_J_s h1 hp hg q1 hv1, s_J_s h2 hp hg q2 hv2, s_J_s h3 hp hg q3 hv3, s_J_s h4 hp hg q4 hv4, s_J_s h5 hp hg q5 hv6, by rw [hc0]; exact hcn⟩)) rfl
        refine ev_sub (lo := [(4, .int (gi 52 0)), (0, .ref 52), (1, .ref ar1), (2, .int ar2), (3, .int ar3)]) rfl (t_sc rfl (t_sc rfl (t_sc rfl (t_sc rfl (t_sc rfl t_sn))))) ?_
        exact L15 _ g14 gl gr ((gi 52 0)) hI hX p_a1 l1 u4 (by rw [e14]; exact x_up2_at _ _ _ _ : g14 52 0 = z13) (fun n hn hn5 hz => (by
                                                            have cx := t_clamp (i := (gi 52 0)) (by omega)
                                                            have ff52 : (g14 52 0).toInt = z13.toInt := congrArg Int32.toInt (by rw [e14]; exact x_up2_at _ _ _ _ : g14 52 0 = z13)
                                                            rw [show ((gi 52 0)).toNatClampNeg = n from (by omega)]
                                                            exact ⟨s_J_b (fun j _ => by rw [e14, x_up2_off (Or.inl (by decide))]), s_J_b (fun j _ => by rw [e14, x_up2_off (Or.inl (by decide))]), s_J_b (fun j _ => by rw [e14, x_up2_off (Or.inl (by decide))]), s_J_b (fun j _ => by rw [e14, x_up2_off (Or.inl (by decide))]), s_J_b (fun j _ => by rw [e14, x_up2_off (Or.inl (by decide))]), by omega⟩)) rfl
      · have r53 : (gi ar1 0).toInt ≤ ar2.toInt := Int32.le_iff_toInt_le.mp (t_nlt h9)
        exact ev_ret f_X4_join rfl rfl rfl ⟨_, _, _, rfl, hI, hX, ⟨rfl, (show (∀ n t w l : Nat, (gi 52 0).toInt = n → n ≤ 5 → 0 ≤ ar2.toInt → ar2.toInt < (gi ar1 0).toInt → s_LR ar1 → s_LR t → s_LR w → s_LR l → gr ar1 3 = .ref t → gr ar1 4 = .ref w → gr ar1 5 = .ref l → (∀ j : Nat, j < n → gi 57 j &&& 1 = gi 57 j) → (gi 52 0).toInt = n + 1 ∧ ∀ j, j ≤ n → gi 53 j = s_is (gi 53) (ar2) (s_pk (fun j => (gi 54 j).toInt) ar3.toInt n) j ∧ gi 54 j = s_is (gi 54) (ar3) (s_pk (fun j => (gi 54 j).toInt) ar3.toInt n) j ∧ gi 55 j = s_is (gi 55) (gi t ar2.toNatClampNeg) (s_pk (fun j => (gi 54 j).toInt) ar3.toInt n) j ∧ gi 56 j = s_is (gi 56) (gi w ar2.toNatClampNeg) (s_pk (fun j => (gi 54 j).toInt) ar3.toInt n) j ∧ gi 57 j = s_is (gi 57) (gi l ar2.toNatClampNeg &&& 1) (s_pk (fun j => (gi 54 j).toInt) ar3.toInt n) j) from (fun n t w l hn hn5 ha hb r1 r2 r3 r4 k1 k2 k3 hz => (by exfalso; omega)))⟩⟩
