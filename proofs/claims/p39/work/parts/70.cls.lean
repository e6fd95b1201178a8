/-! ===== printed by cls.py: typed contracts of the class ===== -/
noncomputable def wl_put_29 : List (Nat × Nat) := [(30, 9999), (31, 9999), (32, 9999), (33, 9999), (34, 9999)]
theorem c_put_29 {X : x_Ext} {d : Nat} {sh : List (Nat ⊕ (Nat × Nat))} {gi : Nat → Nat → Int32} {gl : Nat → Nat → Int64} {gr : Nat → Nat → Value} (hI : t_I sh gi gr) (ar1 : Int32) (ar2 : Int32) (ar3 : Int32) (ar4 : Int32) (ar5 : Int32) (ar6 : Int32) : x_Me X (d + 1) n_X4_put [.ref 29, .int ar1, .int ar2, .int ar3, .int ar4, .int ar5, .int ar6] (sh, gi, gl, gr) (t_P wl_put_29 sh gi gl gr t_Rn) := by
  have hX : t_X wl_put_29 sh gi gl gr gi gl gr := t_X.rf
  refine me_i f_X4_put (hI.wf.s rfl) rfl rfl rfl ?_
  refine ev_loc f_X4_put (nx := 1) rfl rfl rfl rfl ?_
  refine ev_if f_X4_put (t1 := 10) (t2 := 4) rfl rfl rfl (fun h1 => ?_) (fun h1 => ?_)
  · have u2 : ar1.toInt ≤ (-1) := t_ltu h1 (by decide : (0:Int32).toInt ≤ (0:Int)) rfl
    exact ev_ret f_X4_put rfl rfl rfl ⟨_, _, _, rfl, hI, hX, rfl⟩
  · have l3 : 0 ≤ ar1.toInt := t_lel (t_nlt h1) (by decide : (0:Int) ≤ (0:Int32).toInt)
    refine ev_loc f_X4_put (nx := 5) rfl rfl rfl rfl ?_
    refine ev_bp f_X4_put (nx := 7) (v := 6) rfl (by decide) rfl ?_
    refine ev_if f_X4_put (t1 := 11) (t2 := 10) rfl rfl rfl (fun h4 => ?_) (fun h4 => ?_)
    · have u5 : ar1.toInt ≤ 5 := t_ltu h4 (by decide : (6:Int32).toInt ≤ (6:Int)) rfl
      refine ev_loc f_X4_put (nx := 12) rfl rfl rfl rfl ?_
      refine ev_getR f_X4_put (nx := 15) rfl (hI.wf.s rfl) rfl rfl (hI.wf.r rfl) rfl rfl ?_
      refine ev_loc f_X4_put (nx := 16) rfl rfl rfl rfl ?_
      refine ev_loc f_X4_put (nx := 17) rfl rfl rfl rfl ?_
      refine ev_iastT f_X4_put (nx := 18) rfl (hI.wf.s rfl) l3 (by decide) u5 (by decide) rfl (hI.astO (hI.wf.s rfl) (Or.inl (by decide)) (by decide +kernel)) (hX.upI (t_inA_ok rfl)) (fun g6 e6 hI hX => ?_)
      refine ev_loc f_X4_put (nx := 19) rfl rfl rfl rfl ?_
      refine ev_getR f_X4_put (nx := 22) rfl (hI.wf.s rfl) rfl rfl (hI.wf.r rfl) rfl rfl ?_
      refine ev_loc f_X4_put (nx := 23) rfl rfl rfl rfl ?_
      refine ev_loc f_X4_put (nx := 24) rfl rfl rfl rfl ?_
      refine ev_iastT f_X4_put (nx := 25) rfl (hI.wf.s rfl) l3 (by decide) u5 (by decide) rfl (hI.astO (hI.wf.s rfl) (Or.inl (by decide)) (by decide +kernel)) (hX.upI (t_inA_ok rfl)) (fun g7 e7 hI hX => ?_)
      refine ev_loc f_X4_put (nx := 26) rfl rfl rfl rfl ?_
      refine ev_getR f_X4_put (nx := 29) rfl (hI.wf.s rfl) rfl rfl (hI.wf.r rfl) rfl rfl ?_
      refine ev_loc f_X4_put (nx := 30) rfl rfl rfl rfl ?_
      refine ev_loc f_X4_put (nx := 32) rfl rfl rfl rfl ?_
      refine ev_iastT f_X4_put (nx := 33) rfl (hI.wf.s rfl) l3 (by decide) u5 (by decide) rfl (hI.astO (hI.wf.s rfl) (Or.inl (by decide)) (by decide +kernel)) (hX.upI (t_inA_ok rfl)) (fun g8 e8 hI hX => ?_)
      refine ev_loc f_X4_put (nx := 34) rfl rfl rfl rfl ?_
      refine ev_getR f_X4_put (nx := 37) rfl (hI.wf.s rfl) rfl rfl (hI.wf.r rfl) rfl rfl ?_
      refine ev_loc f_X4_put (nx := 38) rfl rfl rfl rfl ?_
      refine ev_loc f_X4_put (nx := 40) rfl rfl rfl rfl ?_
      refine ev_iastT f_X4_put (nx := 41) rfl (hI.wf.s rfl) l3 (by decide) u5 (by decide) rfl (hI.astO (hI.wf.s rfl) (Or.inl (by decide)) (by decide +kernel)) (hX.upI (t_inA_ok rfl)) (fun g9 e9 hI hX => ?_)
      refine ev_loc f_X4_put (nx := 42) rfl rfl rfl rfl ?_
      refine ev_getR f_X4_put (nx := 45) rfl (hI.wf.s rfl) rfl rfl (hI.wf.r rfl) rfl rfl ?_
      refine ev_loc f_X4_put (nx := 46) rfl rfl rfl rfl ?_
      refine ev_loc f_X4_put (nx := 48) rfl rfl rfl rfl ?_
      refine ev_zastT f_X4_put (nx := 49) rfl (hI.wf.s rfl) l3 (by decide) u5 (by decide) rfl (fun x _ _ => (hI.astO (hI.wf.s rfl) (Or.inl (by decide)) (by decide +kernel))) (fun x => hX.upI (t_inA_ok rfl)) (fun g10 x10 e10 hI hX => ?_)
      exact ev_ret f_X4_put rfl rfl rfl ⟨_, _, _, rfl, hI, hX, rfl⟩
    · have l11 : 6 ≤ ar1.toInt := t_lel (t_nlt h4) (by decide : (6:Int) ≤ (6:Int32).toInt)
      exact ev_ret f_X4_put rfl rfl rfl ⟨_, _, _, rfl, hI, hX, rfl⟩
noncomputable def wl_put_35 : List (Nat × Nat) := [(36, 9999), (37, 9999), (38, 9999), (39, 9999), (40, 9999)]
theorem c_put_35 {X : x_Ext} {d : Nat} {sh : List (Nat ⊕ (Nat × Nat))} {gi : Nat → Nat → Int32} {gl : Nat → Nat → Int64} {gr : Nat → Nat → Value} (hI : t_I sh gi gr) (ar1 : Int32) (ar2 : Int32) (ar3 : Int32) (ar4 : Int32) (ar5 : Int32) (ar6 : Int32) : x_Me X (d + 1) n_X4_put [.ref 35, .int ar1, .int ar2, .int ar3, .int ar4, .int ar5, .int ar6] (sh, gi, gl, gr) (t_P wl_put_35 sh gi gl gr t_Rn) := by
  have hX : t_X wl_put_35 sh gi gl gr gi gl gr := t_X.rf
  refine me_i f_X4_put (hI.wf.s rfl) rfl rfl rfl ?_
  refine ev_loc f_X4_put (nx := 1) rfl rfl rfl rfl ?_
  refine ev_if f_X4_put (t1 := 10) (t2 := 4) rfl rfl rfl (fun h1 => ?_) (fun h1 => ?_)
  · have u2 : ar1.toInt ≤ (-1) := t_ltu h1 (by decide : (0:Int32).toInt ≤ (0:Int)) rfl
    exact ev_ret f_X4_put rfl rfl rfl ⟨_, _, _, rfl, hI, hX, rfl⟩
  · have l3 : 0 ≤ ar1.toInt := t_lel (t_nlt h1) (by decide : (0:Int) ≤ (0:Int32).toInt)
    refine ev_loc f_X4_put (nx := 5) rfl rfl rfl rfl ?_
    refine ev_bp f_X4_put (nx := 7) (v := 6) rfl (by decide) rfl ?_
    refine ev_if f_X4_put (t1 := 11) (t2 := 10) rfl rfl rfl (fun h4 => ?_) (fun h4 => ?_)
    · have u5 : ar1.toInt ≤ 5 := t_ltu h4 (by decide : (6:Int32).toInt ≤ (6:Int)) rfl
      refine ev_loc f_X4_put (nx := 12) rfl rfl rfl rfl ?_
      refine ev_getR f_X4_put (nx := 15) rfl (hI.wf.s rfl) rfl rfl (hI.wf.r rfl) rfl rfl ?_
      refine ev_loc f_X4_put (nx := 16) rfl rfl rfl rfl ?_
      refine ev_loc f_X4_put (nx := 17) rfl rfl rfl rfl ?_
      refine ev_iastT f_X4_put (nx := 18) rfl (hI.wf.s rfl) l3 (by decide) u5 (by decide) rfl (hI.astO (hI.wf.s rfl) (Or.inl (by decide)) (by decide +kernel)) (hX.upI (t_inA_ok rfl)) (fun g6 e6 hI hX => ?_)
      refine ev_loc f_X4_put (nx := 19) rfl rfl rfl rfl ?_
      refine ev_getR f_X4_put (nx := 22) rfl (hI.wf.s rfl) rfl rfl (hI.wf.r rfl) rfl rfl ?_
      refine ev_loc f_X4_put (nx := 23) rfl rfl rfl rfl ?_
      refine ev_loc f_X4_put (nx := 24) rfl rfl rfl rfl ?_
      refine ev_iastT f_X4_put (nx := 25) rfl (hI.wf.s rfl) l3 (by decide) u5 (by decide) rfl (hI.astO (hI.wf.s rfl) (Or.inl (by decide)) (by decide +kernel)) (hX.upI (t_inA_ok rfl)) (fun g7 e7 hI hX => ?_)
      refine ev_loc f_X4_put (nx := 26) rfl rfl rfl rfl ?_
      refine ev_getR f_X4_put (nx := 29) rfl (hI.wf.s rfl) rfl rfl (hI.wf.r rfl) rfl rfl ?_
      refine ev_loc f_X4_put (nx := 30) rfl rfl rfl rfl ?_
      refine ev_loc f_X4_put (nx := 32) rfl rfl rfl rfl ?_
      refine ev_iastT f_X4_put (nx := 33) rfl (hI.wf.s rfl) l3 (by decide) u5 (by decide) rfl (hI.astO (hI.wf.s rfl) (Or.inl (by decide)) (by decide +kernel)) (hX.upI (t_inA_ok rfl)) (fun g8 e8 hI hX => ?_)
      refine ev_loc f_X4_put (nx := 34) rfl rfl rfl rfl ?_
      refine ev_getR f_X4_put (nx := 37) rfl (hI.wf.s rfl) rfl rfl (hI.wf.r rfl) rfl rfl ?_
      refine ev_loc f_X4_put (nx := 38) rfl rfl rfl rfl ?_
      refine ev_loc f_X4_put (nx := 40) rfl rfl rfl rfl ?_
      refine ev_iastT f_X4_put (nx := 41) rfl (hI.wf.s rfl) l3 (by decide) u5 (by decide) rfl (hI.astO (hI.wf.s rfl) (Or.inl (by decide)) (by decide +kernel)) (hX.upI (t_inA_ok rfl)) (fun g9 e9 hI hX => ?_)
      refine ev_loc f_X4_put (nx := 42) rfl rfl rfl rfl ?_
      refine ev_getR f_X4_put (nx := 45) rfl (hI.wf.s rfl) rfl rfl (hI.wf.r rfl) rfl rfl ?_
      refine ev_loc f_X4_put (nx := 46) rfl rfl rfl rfl ?_
      refine ev_loc f_X4_put (nx := 48) rfl rfl rfl rfl ?_
      refine ev_zastT f_X4_put (nx := 49) rfl (hI.wf.s rfl) l3 (by decide) u5 (by decide) rfl (fun x _ _ => (hI.astO (hI.wf.s rfl) (Or.inl (by decide)) (by decide +kernel))) (fun x => hX.upI (t_inA_ok rfl)) (fun g10 x10 e10 hI hX => ?_)
      exact ev_ret f_X4_put rfl rfl rfl ⟨_, _, _, rfl, hI, hX, rfl⟩
    · have l11 : 6 ≤ ar1.toInt := t_lel (t_nlt h4) (by decide : (6:Int) ≤ (6:Int32).toInt)
      exact ev_ret f_X4_put rfl rfl rfl ⟨_, _, _, rfl, hI, hX, rfl⟩
noncomputable def wl_put_46 : List (Nat × Nat) := [(47, 9999), (48, 9999), (49, 9999), (50, 9999), (51, 9999)]
theorem c_put_46 {X : x_Ext} {d : Nat} {sh : List (Nat ⊕ (Nat × Nat))} {gi : Nat → Nat → Int32} {gl : Nat → Nat → Int64} {gr : Nat → Nat → Value} (hI : t_I sh gi gr) (ar1 : Int32) (ar2 : Int32) (ar3 : Int32) (ar4 : Int32) (ar5 : Int32) (ar6 : Int32) : x_Me X (d + 1) n_X4_put [.ref 46, .int ar1, .int ar2, .int ar3, .int ar4, .int ar5, .int ar6] (sh, gi, gl, gr) (t_P wl_put_46 sh gi gl gr t_Rn) := by
  have hX : t_X wl_put_46 sh gi gl gr gi gl gr := t_X.rf
  refine me_i f_X4_put (hI.wf.s rfl) rfl rfl rfl ?_
  refine ev_loc f_X4_put (nx := 1) rfl rfl rfl rfl ?_
  refine ev_if f_X4_put (t1 := 10) (t2 := 4) rfl rfl rfl (fun h1 => ?_) (fun h1 => ?_)
  · have u2 : ar1.toInt ≤ (-1) := t_ltu h1 (by decide : (0:Int32).toInt ≤ (0:Int)) rfl
    exact ev_ret f_X4_put rfl rfl rfl ⟨_, _, _, rfl, hI, hX, rfl⟩
  · have l3 : 0 ≤ ar1.toInt := t_lel (t_nlt h1) (by decide : (0:Int) ≤ (0:Int32).toInt)
    refine ev_loc f_X4_put (nx := 5) rfl rfl rfl rfl ?_
    refine ev_bp f_X4_put (nx := 7) (v := 6) rfl (by decide) rfl ?_
    refine ev_if f_X4_put (t1 := 11) (t2 := 10) rfl rfl rfl (fun h4 => ?_) (fun h4 => ?_)
    · have u5 : ar1.toInt ≤ 5 := t_ltu h4 (by decide : (6:Int32).toInt ≤ (6:Int)) rfl
      refine ev_loc f_X4_put (nx := 12) rfl rfl rfl rfl ?_
      refine ev_getR f_X4_put (nx := 15) rfl (hI.wf.s rfl) rfl rfl (hI.wf.r rfl) rfl rfl ?_
      refine ev_loc f_X4_put (nx := 16) rfl rfl rfl rfl ?_
      refine ev_loc f_X4_put (nx := 17) rfl rfl rfl rfl ?_
      refine ev_iastT f_X4_put (nx := 18) rfl (hI.wf.s rfl) l3 (by decide) u5 (by decide) rfl (hI.astO (hI.wf.s rfl) (Or.inl (by decide)) (by decide +kernel)) (hX.upI (t_inA_ok rfl)) (fun g6 e6 hI hX => ?_)
      refine ev_loc f_X4_put (nx := 19) rfl rfl rfl rfl ?_
      refine ev_getR f_X4_put (nx := 22) rfl (hI.wf.s rfl) rfl rfl (hI.wf.r rfl) rfl rfl ?_
      refine ev_loc f_X4_put (nx := 23) rfl rfl rfl rfl ?_
      refine ev_loc f_X4_put (nx := 24) rfl rfl rfl rfl ?_
      refine ev_iastT f_X4_put (nx := 25) rfl (hI.wf.s rfl) l3 (by decide) u5 (by decide) rfl (hI.astO (hI.wf.s rfl) (Or.inl (by decide)) (by decide +kernel)) (hX.upI (t_inA_ok rfl)) (fun g7 e7 hI hX => ?_)
      refine ev_loc f_X4_put (nx := 26) rfl rfl rfl rfl ?_
      refine ev_getR f_X4_put (nx := 29) rfl (hI.wf.s rfl) rfl rfl (hI.wf.r rfl) rfl rfl ?_
      refine ev_loc f_X4_put (nx := 30) rfl rfl rfl rfl ?_
      refine ev_loc f_X4_put (nx := 32) rfl rfl rfl rfl ?_
      refine ev_iastT f_X4_put (nx := 33) rfl (hI.wf.s rfl) l3 (by decide) u5 (by decide) rfl (hI.astO (hI.wf.s rfl) (Or.inl (by decide)) (by decide +kernel)) (hX.upI (t_inA_ok rfl)) (fun g8 e8 hI hX => ?_)
      refine ev_loc f_X4_put (nx := 34) rfl rfl rfl rfl ?_
      refine ev_getR f_X4_put (nx := 37) rfl (hI.wf.s rfl) rfl rfl (hI.wf.r rfl) rfl rfl ?_
      refine ev_loc f_X4_put (nx := 38) rfl rfl rfl rfl ?_
      refine ev_loc f_X4_put (nx := 40) rfl rfl rfl rfl ?_
      refine ev_iastT f_X4_put (nx := 41) rfl (hI.wf.s rfl) l3 (by decide) u5 (by decide) rfl (hI.astO (hI.wf.s rfl) (Or.inl (by decide)) (by decide +kernel)) (hX.upI (t_inA_ok rfl)) (fun g9 e9 hI hX => ?_)
      refine ev_loc f_X4_put (nx := 42) rfl rfl rfl rfl ?_
      refine ev_getR f_X4_put (nx := 45) rfl (hI.wf.s rfl) rfl rfl (hI.wf.r rfl) rfl rfl ?_
      refine ev_loc f_X4_put (nx := 46) rfl rfl rfl rfl ?_
      refine ev_loc f_X4_put (nx := 48) rfl rfl rfl rfl ?_
      refine ev_zastT f_X4_put (nx := 49) rfl (hI.wf.s rfl) l3 (by decide) u5 (by decide) rfl (fun x _ _ => (hI.astO (hI.wf.s rfl) (Or.inl (by decide)) (by decide +kernel))) (fun x => hX.upI (t_inA_ok rfl)) (fun g10 x10 e10 hI hX => ?_)
      exact ev_ret f_X4_put rfl rfl rfl ⟨_, _, _, rfl, hI, hX, rfl⟩
    · have l11 : 6 ≤ ar1.toInt := t_lel (t_nlt h4) (by decide : (6:Int) ≤ (6:Int32).toInt)
      exact ev_ret f_X4_put rfl rfl rfl ⟨_, _, _, rfl, hI, hX, rfl⟩
noncomputable def wl_put_52 : List (Nat × Nat) := [(53, 9999), (54, 9999), (55, 9999), (56, 9999), (57, 9999)]
theorem c_put_52 {X : x_Ext} {d : Nat} {sh : List (Nat ⊕ (Nat × Nat))} {gi : Nat → Nat → Int32} {gl : Nat → Nat → Int64} {gr : Nat → Nat → Value} (hI : t_I sh gi gr) (ar1 : Int32) (ar2 : Int32) (ar3 : Int32) (ar4 : Int32) (ar5 : Int32) (ar6 : Int32) : x_Me X (d + 1) n_X4_put [.ref 52, .int ar1, .int ar2, .int ar3, .int ar4, .int ar5, .int ar6] (sh, gi, gl, gr) (t_P wl_put_52 sh gi gl gr t_Rn) := by
  have hX : t_X wl_put_52 sh gi gl gr gi gl gr := t_X.rf
  refine me_i f_X4_put (hI.wf.s rfl) rfl rfl rfl ?_
  refine ev_loc f_X4_put (nx := 1) rfl rfl rfl rfl ?_
  refine ev_if f_X4_put (t1 := 10) (t2 := 4) rfl rfl rfl (fun h1 => ?_) (fun h1 => ?_)
  · have u2 : ar1.toInt ≤ (-1) := t_ltu h1 (by decide : (0:Int32).toInt ≤ (0:Int)) rfl
    exact ev_ret f_X4_put rfl rfl rfl ⟨_, _, _, rfl, hI, hX, rfl⟩
  · have l3 : 0 ≤ ar1.toInt := t_lel (t_nlt h1) (by decide : (0:Int) ≤ (0:Int32).toInt)
    refine ev_loc f_X4_put (nx := 5) rfl rfl rfl rfl ?_
    refine ev_bp f_X4_put (nx := 7) (v := 6) rfl (by decide) rfl ?_
    refine ev_if f_X4_put (t1 := 11) (t2 := 10) rfl rfl rfl (fun h4 => ?_) (fun h4 => ?_)
    · have u5 : ar1.toInt ≤ 5 := t_ltu h4 (by decide : (6:Int32).toInt ≤ (6:Int)) rfl
      refine ev_loc f_X4_put (nx := 12) rfl rfl rfl rfl ?_
      refine ev_getR f_X4_put (nx := 15) rfl (hI.wf.s rfl) rfl rfl (hI.wf.r rfl) rfl rfl ?_
      refine ev_loc f_X4_put (nx := 16) rfl rfl rfl rfl ?_
      refine ev_loc f_X4_put (nx := 17) rfl rfl rfl rfl ?_
      refine ev_iastT f_X4_put (nx := 18) rfl (hI.wf.s rfl) l3 (by decide) u5 (by decide) rfl (hI.astO (hI.wf.s rfl) (Or.inl (by decide)) (by decide +kernel)) (hX.upI (t_inA_ok rfl)) (fun g6 e6 hI hX => ?_)
      refine ev_loc f_X4_put (nx := 19) rfl rfl rfl rfl ?_
      refine ev_getR f_X4_put (nx := 22) rfl (hI.wf.s rfl) rfl rfl (hI.wf.r rfl) rfl rfl ?_
      refine ev_loc f_X4_put (nx := 23) rfl rfl rfl rfl ?_
      refine ev_loc f_X4_put (nx := 24) rfl rfl rfl rfl ?_
      refine ev_iastT f_X4_put (nx := 25) rfl (hI.wf.s rfl) l3 (by decide) u5 (by decide) rfl (hI.astO (hI.wf.s rfl) (Or.inl (by decide)) (by decide +kernel)) (hX.upI (t_inA_ok rfl)) (fun g7 e7 hI hX => ?_)
      refine ev_loc f_X4_put (nx := 26) rfl rfl rfl rfl ?_
      refine ev_getR f_X4_put (nx := 29) rfl (hI.wf.s rfl) rfl rfl (hI.wf.r rfl) rfl rfl ?_
      refine ev_loc f_X4_put (nx := 30) rfl rfl rfl rfl ?_
      refine ev_loc f_X4_put (nx := 32) rfl rfl rfl rfl ?_
      refine ev_iastT f_X4_put (nx := 33) rfl (hI.wf.s rfl) l3 (by decide) u5 (by decide) rfl (hI.astO (hI.wf.s rfl) (Or.inl (by decide)) (by decide +kernel)) (hX.upI (t_inA_ok rfl)) (fun g8 e8 hI hX => ?_)
      refine ev_loc f_X4_put (nx := 34) rfl rfl rfl rfl ?_
      refine ev_getR f_X4_put (nx := 37) rfl (hI.wf.s rfl) rfl rfl (hI.wf.r rfl) rfl rfl ?_
      refine ev_loc f_X4_put (nx := 38) rfl rfl rfl rfl ?_
      refine ev_loc f_X4_put (nx := 40) rfl rfl rfl rfl ?_
      refine ev_iastT f_X4_put (nx := 41) rfl (hI.wf.s rfl) l3 (by decide) u5 (by decide) rfl (hI.astO (hI.wf.s rfl) (Or.inl (by decide)) (by decide +kernel)) (hX.upI (t_inA_ok rfl)) (fun g9 e9 hI hX => ?_)
      refine ev_loc f_X4_put (nx := 42) rfl rfl rfl rfl ?_
      refine ev_getR f_X4_put (nx := 45) rfl (hI.wf.s rfl) rfl rfl (hI.wf.r rfl) rfl rfl ?_
      refine ev_loc f_X4_put (nx := 46) rfl rfl rfl rfl ?_
      refine ev_loc f_X4_put (nx := 48) rfl rfl rfl rfl ?_
      refine ev_zastT f_X4_put (nx := 49) rfl (hI.wf.s rfl) l3 (by decide) u5 (by decide) rfl (fun x _ _ => (hI.astO (hI.wf.s rfl) (Or.inl (by decide)) (by decide +kernel))) (fun x => hX.upI (t_inA_ok rfl)) (fun g10 x10 e10 hI hX => ?_)
      exact ev_ret f_X4_put rfl rfl rfl ⟨_, _, _, rfl, hI, hX, rfl⟩
    · have l11 : 6 ≤ ar1.toInt := t_lel (t_nlt h4) (by decide : (6:Int) ≤ (6:Int32).toInt)
      exact ev_ret f_X4_put rfl rfl rfl ⟨_, _, _, rfl, hI, hX, rfl⟩
noncomputable def wl_join_29 : List (Nat × Nat) := [(29, 0), (30, 9999), (31, 9999), (32, 9999), (33, 9999), (34, 9999)]
theorem c_join_29 {X : x_Ext} {d : Nat} {sh : List (Nat ⊕ (Nat × Nat))} {gi : Nat → Nat → Int32} {gl : Nat → Nat → Int64} {gr : Nat → Nat → Value} (hI : t_I sh gi gr) (ar1 : Nat) (p_a1 : t_Ln sh gr ar1) (ar2 : Int32) (ar3 : Int32) : x_Me X (d + 2) n_X4_join [.ref 29, .ref ar1, .int ar2, .int ar3] (sh, gi, gl, gr) (t_P wl_join_29 sh gi gl gr t_Rn) := by
  have hX : t_X wl_join_29 sh gi gl gr gi gl gr := t_X.rf
  refine me_i f_X4_join (hI.wf.s rfl) rfl rfl rfl ?_
  refine ev_loc f_X4_join (nx := 1) rfl rfl rfl rfl ?_
  refine ev_getI f_X4_join (nx := 4) rfl (hI.wf.s rfl) rfl rfl rfl ?_
  obtain ⟨l1, u1⟩ := hI.b (hI.wf.s (k := 29) rfl) (t_bdK rfl : t_bd 3 0 = some (0, 6))
  refine ev_bp f_X4_join (nx := 6) (v := 6) rfl (by decide) rfl ?_
  refine ev_if f_X4_join (t1 := 21) (t2 := 9) rfl rfl rfl (fun h2 => ?_) (fun h2 => ?_)
  · have l3 : 6 ≤ (gi 29 0).toInt := t_lel h2 (by decide : (6:Int) ≤ (6:Int32).toInt)
    exact ev_ret f_X4_join rfl rfl rfl ⟨_, _, _, rfl, hI, hX, rfl⟩
  · have u4 : (gi 29 0).toInt ≤ 5 := t_ltu (t_nle h2) (by decide : (6:Int32).toInt ≤ (6:Int)) rfl
    refine ev_loc f_X4_join (nx := 10) rfl rfl rfl rfl ?_
    refine ev_if f_X4_join (t1 := 21) (t2 := 13) rfl rfl rfl (fun h5 => ?_) (fun h5 => ?_)
    · have u6 : ar2.toInt ≤ (-1) := t_ltu h5 (by decide : (0:Int32).toInt ≤ (0:Int)) rfl
      exact ev_ret f_X4_join rfl rfl rfl ⟨_, _, _, rfl, hI, hX, rfl⟩
    · have l7 : 0 ≤ ar2.toInt := t_lel (t_nlt h5) (by decide : (0:Int) ≤ (0:Int32).toInt)
      refine ev_loc f_X4_join (nx := 14) rfl rfl rfl rfl ?_
      refine ev_loc f_X4_join (nx := 15) rfl rfl rfl rfl ?_
      refine ev_getI f_X4_join (nx := 18) rfl p_a1.1 rfl rfl rfl ?_
      obtain ⟨l8, u8⟩ := hI.b p_a1.1 (t_bdK rfl : t_bd 3 0 = some (0, 6))
      refine ev_if f_X4_join (t1 := 22) (t2 := 21) rfl rfl rfl (fun h9 => ?_) (fun h9 => ?_)
      · have u10 : ar2.toInt ≤ 5 := t_ltu h9 u8 rfl
        have l11 : 1 ≤ (gi ar1 0).toInt := t_ltl h9 l7 rfl
        refine ev_loc f_X4_join (nx := 23) rfl rfl rfl rfl ?_
        refine ev_gvI f_X4_join (nx := 26) (w := (gi 29 0)) rfl (hI.wf.s rfl) rfl rfl rfl rfl ?_
        refine ev_loc f_X4_join (nx := 28) (lo' := [(4, .int (gi 29 0)), (0, .ref 29), (1, .ref ar1), (2, .int ar2), (3, .int ar3)]) rfl rfl rfl rfl ?_
        refine ev_loc f_X4_join (nx := 29) rfl rfl rfl rfl ?_
        refine ev_alu f_X4_join (nx := 30) rfl rfl rfl rfl ?_
        refine ev_gvI f_X4_join (nx := 33) (w := (gi 29 0)) rfl (hI.wf.s rfl) rfl rfl rfl rfl ?_
        refine ev_ic f_X4_join (nx := 34) (v := 1) rfl (by decide) rfl ?_
        refine ev_addC f_X4_join (nx := 35) (c := 1) (l := 1) (u := 6) rfl (by decide) l1 u4 rfl rfl (by decide) (by decide) rfl (fun z12 e12 l12 u12 => ?_)
        refine ev_putIT f_X4_join (nx := 38) rfl (hI.wf.s rfl) rfl rfl rfl (hI.putB (hI.wf.s rfl) rfl rfl l12 (by decide) u12 (by decide)) (hX.upI rfl) (fun g13 e13 hI hX => ?_)
        have L14 : ∀ (m14 : Nat) (gi14 : Nat → Nat → Int32) (gl14 : Nat → Nat → Int64) (gr14 : Nat → Nat → Value) (y14_4 : Int32), t_I sh gi14 gr14 → t_X wl_join_29 sh gi gl gr gi14 gl14 gr14 → t_Ln sh gr14 ar1 → 0 ≤ y14_4.toInt → y14_4.toInt ≤ 5 → gi14 29 0 = z12 → (y14_4.toInt - 0).toNat = m14 → x_Ev X (d + 2) n_X4_join 38 [(4, .int y14_4), (0, .ref 29), (1, .ref ar1), (2, .int ar2), (3, .int ar3)] [] (sh, gi14, gl14, gr14) (t_P wl_join_29 sh gi gl gr t_Rn) := by
          intro m14
          induction m14 using Nat.strongRecOn with
          | _ m14 ih14 =>
          intro gi14 gl14 gr14 y14_4 hI hX p_a1 l14_4 u14_4 c14_0 hm14
          refine ev_loc f_X4_join (nx := 40) rfl rfl rfl rfl ?_
          refine ev_if f_X4_join (t1 := 113) (t2 := 43) rfl rfl rfl (fun h15 => ?_) (fun h15 => ?_)
          · have u16 : y14_4.toInt ≤ 0 := t_leu h15 (by decide : (0:Int32).toInt ≤ (0:Int))
            refine ev_loc f_X4_join (nx := 114) rfl rfl rfl rfl ?_
            refine ev_loc f_X4_join (nx := 116) rfl rfl rfl rfl ?_
            refine ev_loc f_X4_join (nx := 117) rfl rfl rfl rfl ?_
            refine ev_loc f_X4_join (nx := 118) rfl rfl rfl rfl ?_
            refine ev_loc f_X4_join (nx := 119) rfl rfl rfl rfl ?_
            obtain ⟨a17, e17, s17, o17⟩ := p_a1.2.2.2.1
            refine ev_getR f_X4_join (nx := 122) rfl p_a1.1 rfl rfl e17 rfl rfl ?_
            refine ev_loc f_X4_join (nx := 123) rfl rfl rfl rfl ?_
            refine ev_ialdT f_X4_join (nx := 124) rfl s17 l7 (by decide) u10 (by decide) rfl (fun w18 e18 => ?_)
            refine ev_loc f_X4_join (nx := 125) rfl rfl rfl rfl ?_
            obtain ⟨a19, e19, s19, o19⟩ := p_a1.2.2.2.2.1
            refine ev_getR f_X4_join (nx := 128) rfl p_a1.1 rfl rfl e19 rfl rfl ?_
            refine ev_loc f_X4_join (nx := 129) rfl rfl rfl rfl ?_
            refine ev_ialdT f_X4_join (nx := 130) rfl s19 l7 (by decide) u10 (by decide) rfl (fun w20 e20 => ?_)
            refine ev_loc f_X4_join (nx := 131) rfl rfl rfl rfl ?_
            obtain ⟨a21, e21, s21, o21⟩ := p_a1.2.2.2.2.2
            refine ev_getR f_X4_join (nx := 134) rfl p_a1.1 rfl rfl e21 rfl rfl ?_
            refine ev_loc f_X4_join (nx := 135) rfl rfl rfl rfl ?_
            refine ev_baldT f_X4_join (nx := 136) rfl s21 rfl l7 (by decide) u10 (by decide) rfl (fun w22 e22 => ?_)
            refine ev_c0 f_X4_join (nx := 139) (r := []) rfl rfl rfl rfl rfl rfl rfl (c_put_29 hI (y14_4) (ar2) (ar3) (w18) (w20) (w22)) rfl hX rfl (fun gi23 gl23 gr23 hI hX hC23 => ?_)
            replace p_a1 := p_a1.ext hC23.2
            exact ev_ret f_X4_join rfl rfl rfl ⟨_, _, _, rfl, hI, hX, rfl⟩
          · have l24 : 1 ≤ y14_4.toInt := t_ltl (t_nle h15) (by decide : (0:Int) ≤ (0:Int32).toInt) rfl
            refine ev_loc f_X4_join (nx := 44) rfl rfl rfl rfl ?_
            refine ev_getR f_X4_join (nx := 47) rfl (hI.wf.s rfl) rfl rfl (hI.wf.r rfl) rfl rfl ?_
            refine ev_loc f_X4_join (nx := 49) rfl rfl rfl rfl ?_
            refine ev_ic f_X4_join (nx := 50) (v := 1) rfl (by decide) rfl ?_
            refine ev_subC f_X4_join (nx := 51) (c := 1) (l := 0) (u := 4) rfl (by decide) l24 u14_4 rfl rfl (by decide) (by decide) rfl (fun z25 e25 l25 u25 => ?_)
            refine ev_ialdT f_X4_join (nx := 52) rfl (hI.wf.s rfl) l25 (by decide) u25 (by decide) rfl (fun w26 e26 => ?_)
            refine ev_loc f_X4_join (nx := 53) rfl rfl rfl rfl ?_
            refine ev_if f_X4_join (t1 := 113) (t2 := 56) rfl rfl rfl (fun h27 => ?_) (fun h27 => ?_)
            · refine ev_loc f_X4_join (nx := 114) rfl rfl rfl rfl ?_
              refine ev_loc f_X4_join (nx := 116) rfl rfl rfl rfl ?_
              refine ev_loc f_X4_join (nx := 117) rfl rfl rfl rfl ?_
              refine ev_loc f_X4_join (nx := 118) rfl rfl rfl rfl ?_
              refine ev_loc f_X4_join (nx := 119) rfl rfl rfl rfl ?_
              obtain ⟨a28, e28, s28, o28⟩ := p_a1.2.2.2.1
              refine ev_getR f_X4_join (nx := 122) rfl p_a1.1 rfl rfl e28 rfl rfl ?_
              refine ev_loc f_X4_join (nx := 123) rfl rfl rfl rfl ?_
              refine ev_ialdT f_X4_join (nx := 124) rfl s28 l7 (by decide) u10 (by decide) rfl (fun w29 e29 => ?_)
              refine ev_loc f_X4_join (nx := 125) rfl rfl rfl rfl ?_
              obtain ⟨a30, e30, s30, o30⟩ := p_a1.2.2.2.2.1
              refine ev_getR f_X4_join (nx := 128) rfl p_a1.1 rfl rfl e30 rfl rfl ?_
              refine ev_loc f_X4_join (nx := 129) rfl rfl rfl rfl ?_
              refine ev_ialdT f_X4_join (nx := 130) rfl s30 l7 (by decide) u10 (by decide) rfl (fun w31 e31 => ?_)
              refine ev_loc f_X4_join (nx := 131) rfl rfl rfl rfl ?_
              obtain ⟨a32, e32, s32, o32⟩ := p_a1.2.2.2.2.2
              refine ev_getR f_X4_join (nx := 134) rfl p_a1.1 rfl rfl e32 rfl rfl ?_
              refine ev_loc f_X4_join (nx := 135) rfl rfl rfl rfl ?_
              refine ev_baldT f_X4_join (nx := 136) rfl s32 rfl l7 (by decide) u10 (by decide) rfl (fun w33 e33 => ?_)
              refine ev_c0 f_X4_join (nx := 139) (r := []) rfl rfl rfl rfl rfl rfl rfl (c_put_29 hI (y14_4) (ar2) (ar3) (w29) (w31) (w33)) rfl hX rfl (fun gi34 gl34 gr34 hI hX hC34 => ?_)
              replace p_a1 := p_a1.ext hC34.2
              exact ev_ret f_X4_join rfl rfl rfl ⟨_, _, _, rfl, hI, hX, rfl⟩
            · have u35 : ar3.toInt ≤ 2147483646 := t_ltu (t_nle h27) (t_hi w26) rfl
              have l36 : (-2147483647) ≤ w26.toInt := t_ltl (t_nle h27) (t_lo ar3) rfl
              refine ev_loc f_X4_join (nx := 57) rfl rfl rfl rfl ?_
              refine ev_loc f_X4_join (nx := 59) rfl rfl rfl rfl ?_
              refine ev_loc f_X4_join (nx := 60) rfl rfl rfl rfl ?_
              refine ev_getR f_X4_join (nx := 63) rfl (hI.wf.s rfl) rfl rfl (hI.wf.r rfl) rfl rfl ?_
              refine ev_loc f_X4_join (nx := 65) rfl rfl rfl rfl ?_
              refine ev_ic f_X4_join (nx := 66) (v := 1) rfl (by decide) rfl ?_
              refine ev_subC f_X4_join (nx := 67) (c := 1) (l := 0) (u := 4) rfl (by decide) l24 u14_4 rfl rfl (by decide) (by decide) rfl (fun z37 e37 l37 u37 => ?_)
              refine ev_ialdT f_X4_join (nx := 68) rfl (hI.wf.s rfl) l37 (by decide) u37 (by decide) rfl (fun w38 e38 => ?_)
              refine ev_loc f_X4_join (nx := 69) rfl rfl rfl rfl ?_
              refine ev_getR f_X4_join (nx := 72) rfl (hI.wf.s rfl) rfl rfl (hI.wf.r rfl) rfl rfl ?_
              refine ev_loc f_X4_join (nx := 74) rfl rfl rfl rfl ?_
              refine ev_ic f_X4_join (nx := 75) (v := 1) rfl (by decide) rfl ?_
              refine ev_subC f_X4_join (nx := 76) (c := 1) (l := 0) (u := 4) rfl (by decide) l24 u14_4 rfl rfl (by decide) (by decide) rfl (fun z39 e39 l39 u39 => ?_)
              refine ev_ialdT f_X4_join (nx := 77) rfl (hI.wf.s rfl) l39 (by decide) u39 (by decide) rfl (fun w40 e40 => ?_)
              refine ev_loc f_X4_join (nx := 78) rfl rfl rfl rfl ?_
              refine ev_getR f_X4_join (nx := 81) rfl (hI.wf.s rfl) rfl rfl (hI.wf.r rfl) rfl rfl ?_
              refine ev_loc f_X4_join (nx := 83) rfl rfl rfl rfl ?_
              refine ev_ic f_X4_join (nx := 84) (v := 1) rfl (by decide) rfl ?_
              refine ev_subC f_X4_join (nx := 85) (c := 1) (l := 0) (u := 4) rfl (by decide) l24 u14_4 rfl rfl (by decide) (by decide) rfl (fun z41 e41 l41 u41 => ?_)
              refine ev_ialdT f_X4_join (nx := 86) rfl (hI.wf.s rfl) l41 (by decide) u41 (by decide) rfl (fun w42 e42 => ?_)
              refine ev_loc f_X4_join (nx := 87) rfl rfl rfl rfl ?_
              refine ev_getR f_X4_join (nx := 90) rfl (hI.wf.s rfl) rfl rfl (hI.wf.r rfl) rfl rfl ?_
              refine ev_loc f_X4_join (nx := 92) rfl rfl rfl rfl ?_
              refine ev_ic f_X4_join (nx := 93) (v := 1) rfl (by decide) rfl ?_
              refine ev_subC f_X4_join (nx := 94) (c := 1) (l := 0) (u := 4) rfl (by decide) l24 u14_4 rfl rfl (by decide) (by decide) rfl (fun z43 e43 l43 u43 => ?_)
              refine ev_ialdT f_X4_join (nx := 95) rfl (hI.wf.s rfl) l43 (by decide) u43 (by decide) rfl (fun w44 e44 => ?_)
              refine ev_loc f_X4_join (nx := 96) rfl rfl rfl rfl ?_
              refine ev_getR f_X4_join (nx := 99) rfl (hI.wf.s rfl) rfl rfl (hI.wf.r rfl) rfl rfl ?_
              refine ev_loc f_X4_join (nx := 101) rfl rfl rfl rfl ?_
              refine ev_ic f_X4_join (nx := 102) (v := 1) rfl (by decide) rfl ?_
              refine ev_subC f_X4_join (nx := 103) (c := 1) (l := 0) (u := 4) rfl (by decide) l24 u14_4 rfl rfl (by decide) (by decide) rfl (fun z45 e45 l45 u45 => ?_)
              refine ev_baldT f_X4_join (nx := 104) rfl (hI.wf.s rfl) rfl l45 (by decide) u45 (by decide) rfl (fun w46 e46 => ?_)
              refine ev_c0 f_X4_join (nx := 107) (r := []) rfl rfl rfl rfl rfl rfl rfl (c_put_29 hI (y14_4) (w38) (w40) (w42) (w44) (w46)) rfl hX rfl (fun gi47 gl47 gr47 hI hX hC47 => ?_)
              replace p_a1 := p_a1.ext hC47.2
              refine ev_incR f_X4_join (nx := 110) (c := (-1)) (l := 0) (u := 4) rfl rfl (by decide) (by decide) l24 u14_4 rfl rfl (by decide) (by decide) rfl (fun z48 e48 l48 u48 => ?_)
              refine ev_jmp f_X4_join (nx := 38) rfl rfl rfl ?_
              refine ev_sub (lo := [(4, .int z48), (0, .ref 29), (1, .ref ar1), (2, .int ar2), (3, .int ar3)]) rfl (t_sc rfl (t_sc rfl (t_sc rfl (t_sc rfl (t_sc rfl t_sn))))) ?_
              exact ih14 _ (by omega) gi47 gl47 gr47 (z48) hI hX p_a1 l48 (Int.le_trans u48 (by decide : (4:Int) ≤ 5)) ((hC47.1 29 0 rfl).1.trans c14_0) rfl
        refine ev_sub (lo := [(4, .int (gi 29 0)), (0, .ref 29), (1, .ref ar1), (2, .int ar2), (3, .int ar3)]) rfl (t_sc rfl (t_sc rfl (t_sc rfl (t_sc rfl (t_sc rfl t_sn))))) ?_
        exact L14 _ g13 gl gr ((gi 29 0)) hI hX p_a1 l1 u4 (by rw [e13]; exact x_up2_at _ _ _ _ : g13 29 0 = z12) rfl
      · exact ev_ret f_X4_join rfl rfl rfl ⟨_, _, _, rfl, hI, hX, rfl⟩
noncomputable def wl_join_35 : List (Nat × Nat) := [(35, 0), (36, 9999), (37, 9999), (38, 9999), (39, 9999), (40, 9999)]
theorem c_join_35 {X : x_Ext} {d : Nat} {sh : List (Nat ⊕ (Nat × Nat))} {gi : Nat → Nat → Int32} {gl : Nat → Nat → Int64} {gr : Nat → Nat → Value} (hI : t_I sh gi gr) (ar1 : Nat) (p_a1 : t_Ln sh gr ar1) (ar2 : Int32) (ar3 : Int32) : x_Me X (d + 2) n_X4_join [.ref 35, .ref ar1, .int ar2, .int ar3] (sh, gi, gl, gr) (t_P wl_join_35 sh gi gl gr t_Rn) := by
  have hX : t_X wl_join_35 sh gi gl gr gi gl gr := t_X.rf
  refine me_i f_X4_join (hI.wf.s rfl) rfl rfl rfl ?_
  refine ev_loc f_X4_join (nx := 1) rfl rfl rfl rfl ?_
  refine ev_getI f_X4_join (nx := 4) rfl (hI.wf.s rfl) rfl rfl rfl ?_
  obtain ⟨l1, u1⟩ := hI.b (hI.wf.s (k := 35) rfl) (t_bdK rfl : t_bd 3 0 = some (0, 6))
  refine ev_bp f_X4_join (nx := 6) (v := 6) rfl (by decide) rfl ?_
  refine ev_if f_X4_join (t1 := 21) (t2 := 9) rfl rfl rfl (fun h2 => ?_) (fun h2 => ?_)
  · have l3 : 6 ≤ (gi 35 0).toInt := t_lel h2 (by decide : (6:Int) ≤ (6:Int32).toInt)
    exact ev_ret f_X4_join rfl rfl rfl ⟨_, _, _, rfl, hI, hX, rfl⟩
  · have u4 : (gi 35 0).toInt ≤ 5 := t_ltu (t_nle h2) (by decide : (6:Int32).toInt ≤ (6:Int)) rfl
    refine ev_loc f_X4_join (nx := 10) rfl rfl rfl rfl ?_
    refine ev_if f_X4_join (t1 := 21) (t2 := 13) rfl rfl rfl (fun h5 => ?_) (fun h5 => ?_)
    · have u6 : ar2.toInt ≤ (-1) := t_ltu h5 (by decide : (0:Int32).toInt ≤ (0:Int)) rfl
      exact ev_ret f_X4_join rfl rfl rfl ⟨_, _, _, rfl, hI, hX, rfl⟩
    · have l7 : 0 ≤ ar2.toInt := t_lel (t_nlt h5) (by decide : (0:Int) ≤ (0:Int32).toInt)
      refine ev_loc f_X4_join (nx := 14) rfl rfl rfl rfl ?_
      refine ev_loc f_X4_join (nx := 15) rfl rfl rfl rfl ?_
      refine ev_getI f_X4_join (nx := 18) rfl p_a1.1 rfl rfl rfl ?_
      obtain ⟨l8, u8⟩ := hI.b p_a1.1 (t_bdK rfl : t_bd 3 0 = some (0, 6))
      refine ev_if f_X4_join (t1 := 22) (t2 := 21) rfl rfl rfl (fun h9 => ?_) (fun h9 => ?_)
      · have u10 : ar2.toInt ≤ 5 := t_ltu h9 u8 rfl
        have l11 : 1 ≤ (gi ar1 0).toInt := t_ltl h9 l7 rfl
        refine ev_loc f_X4_join (nx := 23) rfl rfl rfl rfl ?_
        refine ev_gvI f_X4_join (nx := 26) (w := (gi 35 0)) rfl (hI.wf.s rfl) rfl rfl rfl rfl ?_
        refine ev_loc f_X4_join (nx := 28) (lo' := [(4, .int (gi 35 0)), (0, .ref 35), (1, .ref ar1), (2, .int ar2), (3, .int ar3)]) rfl rfl rfl rfl ?_
        refine ev_loc f_X4_join (nx := 29) rfl rfl rfl rfl ?_
        refine ev_alu f_X4_join (nx := 30) rfl rfl rfl rfl ?_
        refine ev_gvI f_X4_join (nx := 33) (w := (gi 35 0)) rfl (hI.wf.s rfl) rfl rfl rfl rfl ?_
        refine ev_ic f_X4_join (nx := 34) (v := 1) rfl (by decide) rfl ?_
        refine ev_addC f_X4_join (nx := 35) (c := 1) (l := 1) (u := 6) rfl (by decide) l1 u4 rfl rfl (by decide) (by decide) rfl (fun z12 e12 l12 u12 => ?_)
        refine ev_putIT f_X4_join (nx := 38) rfl (hI.wf.s rfl) rfl rfl rfl (hI.putB (hI.wf.s rfl) rfl rfl l12 (by decide) u12 (by decide)) (hX.upI rfl) (fun g13 e13 hI hX => ?_)
        have L14 : ∀ (m14 : Nat) (gi14 : Nat → Nat → Int32) (gl14 : Nat → Nat → Int64) (gr14 : Nat → Nat → Value) (y14_4 : Int32), t_I sh gi14 gr14 → t_X wl_join_35 sh gi gl gr gi14 gl14 gr14 → t_Ln sh gr14 ar1 → 0 ≤ y14_4.toInt → y14_4.toInt ≤ 5 → gi14 35 0 = z12 → (y14_4.toInt - 0).toNat = m14 → x_Ev X (d + 2) n_X4_join 38 [(4, .int y14_4), (0, .ref 35), (1, .ref ar1), (2, .int ar2), (3, .int ar3)] [] (sh, gi14, gl14, gr14) (t_P wl_join_35 sh gi gl gr t_Rn) := by
          intro m14
          induction m14 using Nat.strongRecOn with
          | _ m14 ih14 =>
          intro gi14 gl14 gr14 y14_4 hI hX p_a1 l14_4 u14_4 c14_0 hm14
          refine ev_loc f_X4_join (nx := 40) rfl rfl rfl rfl ?_
          refine ev_if f_X4_join (t1 := 113) (t2 := 43) rfl rfl rfl (fun h15 => ?_) (fun h15 => ?_)
          · have u16 : y14_4.toInt ≤ 0 := t_leu h15 (by decide : (0:Int32).toInt ≤ (0:Int))
            refine ev_loc f_X4_join (nx := 114) rfl rfl rfl rfl ?_
            refine ev_loc f_X4_join (nx := 116) rfl rfl rfl rfl ?_
            refine ev_loc f_X4_join (nx := 117) rfl rfl rfl rfl ?_
            refine ev_loc f_X4_join (nx := 118) rfl rfl rfl rfl ?_
            refine ev_loc f_X4_join (nx := 119) rfl rfl rfl rfl ?_
            obtain ⟨a17, e17, s17, o17⟩ := p_a1.2.2.2.1
            refine ev_getR f_X4_join (nx := 122) rfl p_a1.1 rfl rfl e17 rfl rfl ?_
            refine ev_loc f_X4_join (nx := 123) rfl rfl rfl rfl ?_
            refine ev_ialdT f_X4_join (nx := 124) rfl s17 l7 (by decide) u10 (by decide) rfl (fun w18 e18 => ?_)
            refine ev_loc f_X4_join (nx := 125) rfl rfl rfl rfl ?_
            obtain ⟨a19, e19, s19, o19⟩ := p_a1.2.2.2.2.1
            refine ev_getR f_X4_join (nx := 128) rfl p_a1.1 rfl rfl e19 rfl rfl ?_
            refine ev_loc f_X4_join (nx := 129) rfl rfl rfl rfl ?_
            refine ev_ialdT f_X4_join (nx := 130) rfl s19 l7 (by decide) u10 (by decide) rfl (fun w20 e20 => ?_)
            refine ev_loc f_X4_join (nx := 131) rfl rfl rfl rfl ?_
            obtain ⟨a21, e21, s21, o21⟩ := p_a1.2.2.2.2.2
            refine ev_getR f_X4_join (nx := 134) rfl p_a1.1 rfl rfl e21 rfl rfl ?_
            refine ev_loc f_X4_join (nx := 135) rfl rfl rfl rfl ?_
            refine ev_baldT f_X4_join (nx := 136) rfl s21 rfl l7 (by decide) u10 (by decide) rfl (fun w22 e22 => ?_)
            refine ev_c0 f_X4_join (nx := 139) (r := []) rfl rfl rfl rfl rfl rfl rfl (c_put_35 hI (y14_4) (ar2) (ar3) (w18) (w20) (w22)) rfl hX rfl (fun gi23 gl23 gr23 hI hX hC23 => ?_)
            replace p_a1 := p_a1.ext hC23.2
            exact ev_ret f_X4_join rfl rfl rfl ⟨_, _, _, rfl, hI, hX, rfl⟩
          · have l24 : 1 ≤ y14_4.toInt := t_ltl (t_nle h15) (by decide : (0:Int) ≤ (0:Int32).toInt) rfl
            refine ev_loc f_X4_join (nx := 44) rfl rfl rfl rfl ?_
            refine ev_getR f_X4_join (nx := 47) rfl (hI.wf.s rfl) rfl rfl (hI.wf.r rfl) rfl rfl ?_
            refine ev_loc f_X4_join (nx := 49) rfl rfl rfl rfl ?_
            refine ev_ic f_X4_join (nx := 50) (v := 1) rfl (by decide) rfl ?_
            refine ev_subC f_X4_join (nx := 51) (c := 1) (l := 0) (u := 4) rfl (by decide) l24 u14_4 rfl rfl (by decide) (by decide) rfl (fun z25 e25 l25 u25 => ?_)
            refine ev_ialdT f_X4_join (nx := 52) rfl (hI.wf.s rfl) l25 (by decide) u25 (by decide) rfl (fun w26 e26 => ?_)
            refine ev_loc f_X4_join (nx := 53) rfl rfl rfl rfl ?_
            refine ev_if f_X4_join (t1 := 113) (t2 := 56) rfl rfl rfl (fun h27 => ?_) (fun h27 => ?_)
            · refine ev_loc f_X4_join (nx := 114) rfl rfl rfl rfl ?_
              refine ev_loc f_X4_join (nx := 116) rfl rfl rfl rfl ?_
              refine ev_loc f_X4_join (nx := 117) rfl rfl rfl rfl ?_
              refine ev_loc f_X4_join (nx := 118) rfl rfl rfl rfl ?_
              refine ev_loc f_X4_join (nx := 119) rfl rfl rfl rfl ?_
              obtain ⟨a28, e28, s28, o28⟩ := p_a1.2.2.2.1
              refine ev_getR f_X4_join (nx := 122) rfl p_a1.1 rfl rfl e28 rfl rfl ?_
              refine ev_loc f_X4_join (nx := 123) rfl rfl rfl rfl ?_
              refine ev_ialdT f_X4_join (nx := 124) rfl s28 l7 (by decide) u10 (by decide) rfl (fun w29 e29 => ?_)
              refine ev_loc f_X4_join (nx := 125) rfl rfl rfl rfl ?_
              obtain ⟨a30, e30, s30, o30⟩ := p_a1.2.2.2.2.1
              refine ev_getR f_X4_join (nx := 128) rfl p_a1.1 rfl rfl e30 rfl rfl ?_
              refine ev_loc f_X4_join (nx := 129) rfl rfl rfl rfl ?_
              refine ev_ialdT f_X4_join (nx := 130) rfl s30 l7 (by decide) u10 (by decide) rfl (fun w31 e31 => ?_)
              refine ev_loc f_X4_join (nx := 131) rfl rfl rfl rfl ?_
              obtain ⟨a32, e32, s32, o32⟩ := p_a1.2.2.2.2.2
              refine ev_getR f_X4_join (nx := 134) rfl p_a1.1 rfl rfl e32 rfl rfl ?_
              refine ev_loc f_X4_join (nx := 135) rfl rfl rfl rfl ?_
              refine ev_baldT f_X4_join (nx := 136) rfl s32 rfl l7 (by decide) u10 (by decide) rfl (fun w33 e33 => ?_)
              refine ev_c0 f_X4_join (nx := 139) (r := []) rfl rfl rfl rfl rfl rfl rfl (c_put_35 hI (y14_4) (ar2) (ar3) (w29) (w31) (w33)) rfl hX rfl (fun gi34 gl34 gr34 hI hX hC34 => ?_)
              replace p_a1 := p_a1.ext hC34.2
              exact ev_ret f_X4_join rfl rfl rfl ⟨_, _, _, rfl, hI, hX, rfl⟩
            · have u35 : ar3.toInt ≤ 2147483646 := t_ltu (t_nle h27) (t_hi w26) rfl
              have l36 : (-2147483647) ≤ w26.toInt := t_ltl (t_nle h27) (t_lo ar3) rfl
              refine ev_loc f_X4_join (nx := 57) rfl rfl rfl rfl ?_
              refine ev_loc f_X4_join (nx := 59) rfl rfl rfl rfl ?_
              refine ev_loc f_X4_join (nx := 60) rfl rfl rfl rfl ?_
              refine ev_getR f_X4_join (nx := 63) rfl (hI.wf.s rfl) rfl rfl (hI.wf.r rfl) rfl rfl ?_
              refine ev_loc f_X4_join (nx := 65) rfl rfl rfl rfl ?_
              refine ev_ic f_X4_join (nx := 66) (v := 1) rfl (by decide) rfl ?_
              refine ev_subC f_X4_join (nx := 67) (c := 1) (l := 0) (u := 4) rfl (by decide) l24 u14_4 rfl rfl (by decide) (by decide) rfl (fun z37 e37 l37 u37 => ?_)
              refine ev_ialdT f_X4_join (nx := 68) rfl (hI.wf.s rfl) l37 (by decide) u37 (by decide) rfl (fun w38 e38 => ?_)
              refine ev_loc f_X4_join (nx := 69) rfl rfl rfl rfl ?_
              refine ev_getR f_X4_join (nx := 72) rfl (hI.wf.s rfl) rfl rfl (hI.wf.r rfl) rfl rfl ?_
              refine ev_loc f_X4_join (nx := 74) rfl rfl rfl rfl ?_
              refine ev_ic f_X4_join (nx := 75) (v := 1) rfl (by decide) rfl ?_
              refine ev_subC f_X4_join (nx := 76) (c := 1) (l := 0) (u := 4) rfl (by decide) l24 u14_4 rfl rfl (by decide) (by decide) rfl (fun z39 e39 l39 u39 => ?_)
              refine ev_ialdT f_X4_join (nx := 77) rfl (hI.wf.s rfl) l39 (by decide) u39 (by decide) rfl (fun w40 e40 => ?_)
              refine ev_loc f_X4_join (nx := 78) rfl rfl rfl rfl ?_
              refine ev_getR f_X4_join (nx := 81) rfl (hI.wf.s rfl) rfl rfl (hI.wf.r rfl) rfl rfl ?_
              refine ev_loc f_X4_join (nx := 83) rfl rfl rfl rfl ?_
              refine ev_ic f_X4_join (nx := 84) (v := 1) rfl (by decide) rfl ?_
              refine ev_subC f_X4_join (nx := 85) (c := 1) (l := 0) (u := 4) rfl (by decide) l24 u14_4 rfl rfl (by decide) (by decide) rfl (fun z41 e41 l41 u41 => ?_)
              refine ev_ialdT f_X4_join (nx := 86) rfl (hI.wf.s rfl) l41 (by decide) u41 (by decide) rfl (fun w42 e42 => ?_)
              refine ev_loc f_X4_join (nx := 87) rfl rfl rfl rfl ?_
              refine ev_getR f_X4_join (nx := 90) rfl (hI.wf.s rfl) rfl rfl (hI.wf.r rfl) rfl rfl ?_
              refine ev_loc f_X4_join (nx := 92) rfl rfl rfl rfl ?_
              refine ev_ic f_X4_join (nx := 93) (v := 1) rfl (by decide) rfl ?_
              refine ev_subC f_X4_join (nx := 94) (c := 1) (l := 0) (u := 4) rfl (by decide) l24 u14_4 rfl rfl (by decide) (by decide) rfl (fun z43 e43 l43 u43 => ?_)
              refine ev_ialdT f_X4_join (nx := 95) rfl (hI.wf.s rfl) l43 (by decide) u43 (by decide) rfl (fun w44 e44 => ?_)
              refine ev_loc f_X4_join (nx := 96) rfl rfl rfl rfl ?_
              refine ev_getR f_X4_join (nx := 99) rfl (hI.wf.s rfl) rfl rfl (hI.wf.r rfl) rfl rfl ?_
              refine ev_loc f_X4_join (nx := 101) rfl rfl rfl rfl ?_
              refine ev_ic f_X4_join (nx := 102) (v := 1) rfl (by decide) rfl ?_
              refine ev_subC f_X4_join (nx := 103) (c := 1) (l := 0) (u := 4) rfl (by decide) l24 u14_4 rfl rfl (by decide) (by decide) rfl (fun z45 e45 l45 u45 => ?_)
              refine ev_baldT f_X4_join (nx := 104) rfl (hI.wf.s rfl) rfl l45 (by decide) u45 (by decide) rfl (fun w46 e46 => ?_)
              refine ev_c0 f_X4_join (nx := 107) (r := []) rfl rfl rfl rfl rfl rfl rfl (c_put_35 hI (y14_4) (w38) (w40) (w42) (w44) (w46)) rfl hX rfl (fun gi47 gl47 gr47 hI hX hC47 => ?_)
              replace p_a1 := p_a1.ext hC47.2
              refine ev_incR f_X4_join (nx := 110) (c := (-1)) (l := 0) (u := 4) rfl rfl (by decide) (by decide) l24 u14_4 rfl rfl (by decide) (by decide) rfl (fun z48 e48 l48 u48 => ?_)
              refine ev_jmp f_X4_join (nx := 38) rfl rfl rfl ?_
              refine ev_sub (lo := [(4, .int z48), (0, .ref 35), (1, .ref ar1), (2, .int ar2), (3, .int ar3)]) rfl (t_sc rfl (t_sc rfl (t_sc rfl (t_sc rfl (t_sc rfl t_sn))))) ?_
              exact ih14 _ (by omega) gi47 gl47 gr47 (z48) hI hX p_a1 l48 (Int.le_trans u48 (by decide : (4:Int) ≤ 5)) ((hC47.1 35 0 rfl).1.trans c14_0) rfl
        refine ev_sub (lo := [(4, .int (gi 35 0)), (0, .ref 35), (1, .ref ar1), (2, .int ar2), (3, .int ar3)]) rfl (t_sc rfl (t_sc rfl (t_sc rfl (t_sc rfl (t_sc rfl t_sn))))) ?_
        exact L14 _ g13 gl gr ((gi 35 0)) hI hX p_a1 l1 u4 (by rw [e13]; exact x_up2_at _ _ _ _ : g13 35 0 = z12) rfl
      · exact ev_ret f_X4_join rfl rfl rfl ⟨_, _, _, rfl, hI, hX, rfl⟩
noncomputable def wl_join_46 : List (Nat × Nat) := [(46, 0), (47, 9999), (48, 9999), (49, 9999), (50, 9999), (51, 9999)]
theorem c_join_46 {X : x_Ext} {d : Nat} {sh : List (Nat ⊕ (Nat × Nat))} {gi : Nat → Nat → Int32} {gl : Nat → Nat → Int64} {gr : Nat → Nat → Value} (hI : t_I sh gi gr) (ar1 : Nat) (p_a1 : t_Ln sh gr ar1) (ar2 : Int32) (ar3 : Int32) : x_Me X (d + 2) n_X4_join [.ref 46, .ref ar1, .int ar2, .int ar3] (sh, gi, gl, gr) (t_P wl_join_46 sh gi gl gr t_Rn) := by
  have hX : t_X wl_join_46 sh gi gl gr gi gl gr := t_X.rf
  refine me_i f_X4_join (hI.wf.s rfl) rfl rfl rfl ?_
  refine ev_loc f_X4_join (nx := 1) rfl rfl rfl rfl ?_
  refine ev_getI f_X4_join (nx := 4) rfl (hI.wf.s rfl) rfl rfl rfl ?_
  obtain ⟨l1, u1⟩ := hI.b (hI.wf.s (k := 46) rfl) (t_bdK rfl : t_bd 3 0 = some (0, 6))
  refine ev_bp f_X4_join (nx := 6) (v := 6) rfl (by decide) rfl ?_
  refine ev_if f_X4_join (t1 := 21) (t2 := 9) rfl rfl rfl (fun h2 => ?_) (fun h2 => ?_)
  · have l3 : 6 ≤ (gi 46 0).toInt := t_lel h2 (by decide : (6:Int) ≤ (6:Int32).toInt)
    exact ev_ret f_X4_join rfl rfl rfl ⟨_, _, _, rfl, hI, hX, rfl⟩
  · have u4 : (gi 46 0).toInt ≤ 5 := t_ltu (t_nle h2) (by decide : (6:Int32).toInt ≤ (6:Int)) rfl
    refine ev_loc f_X4_join (nx := 10) rfl rfl rfl rfl ?_
    refine ev_if f_X4_join (t1 := 21) (t2 := 13) rfl rfl rfl (fun h5 => ?_) (fun h5 => ?_)
    · have u6 : ar2.toInt ≤ (-1) := t_ltu h5 (by decide : (0:Int32).toInt ≤ (0:Int)) rfl
      exact ev_ret f_X4_join rfl rfl rfl ⟨_, _, _, rfl, hI, hX, rfl⟩
    · have l7 : 0 ≤ ar2.toInt := t_lel (t_nlt h5) (by decide : (0:Int) ≤ (0:Int32).toInt)
      refine ev_loc f_X4_join (nx := 14) rfl rfl rfl rfl ?_
      refine ev_loc f_X4_join (nx := 15) rfl rfl rfl rfl ?_
      refine ev_getI f_X4_join (nx := 18) rfl p_a1.1 rfl rfl rfl ?_
      obtain ⟨l8, u8⟩ := hI.b p_a1.1 (t_bdK rfl : t_bd 3 0 = some (0, 6))
      refine ev_if f_X4_join (t1 := 22) (t2 := 21) rfl rfl rfl (fun h9 => ?_) (fun h9 => ?_)
      · have u10 : ar2.toInt ≤ 5 := t_ltu h9 u8 rfl
        have l11 : 1 ≤ (gi ar1 0).toInt := t_ltl h9 l7 rfl
        refine ev_loc f_X4_join (nx := 23) rfl rfl rfl rfl ?_
        refine ev_gvI f_X4_join (nx := 26) (w := (gi 46 0)) rfl (hI.wf.s rfl) rfl rfl rfl rfl ?_
        refine ev_loc f_X4_join (nx := 28) (lo' := [(4, .int (gi 46 0)), (0, .ref 46), (1, .ref ar1), (2, .int ar2), (3, .int ar3)]) rfl rfl rfl rfl ?_
        refine ev_loc f_X4_join (nx := 29) rfl rfl rfl rfl ?_
        refine ev_alu f_X4_join (nx := 30) rfl rfl rfl rfl ?_
        refine ev_gvI f_X4_join (nx := 33) (w := (gi 46 0)) rfl (hI.wf.s rfl) rfl rfl rfl rfl ?_
        refine ev_ic f_X4_join (nx := 34) (v := 1) rfl (by decide) rfl ?_
        refine ev_addC f_X4_join (nx := 35) (c := 1) (l := 1) (u := 6) rfl (by decide) l1 u4 rfl rfl (by decide) (by decide) rfl (fun z12 e12 l12 u12 => ?_)
        refine ev_putIT f_X4_join (nx := 38) rfl (hI.wf.s rfl) rfl rfl rfl (hI.putB (hI.wf.s rfl) rfl rfl l12 (by decide) u12 (by decide)) (hX.upI rfl) (fun g13 e13 hI hX => ?_)
        have L14 : ∀ (m14 : Nat) (gi14 : Nat → Nat → Int32) (gl14 : Nat → Nat → Int64) (gr14 : Nat → Nat → Value) (y14_4 : Int32), t_I sh gi14 gr14 → t_X wl_join_46 sh gi gl gr gi14 gl14 gr14 → t_Ln sh gr14 ar1 → 0 ≤ y14_4.toInt → y14_4.toInt ≤ 5 → gi14 46 0 = z12 → (y14_4.toInt - 0).toNat = m14 → x_Ev X (d + 2) n_X4_join 38 [(4, .int y14_4), (0, .ref 46), (1, .ref ar1), (2, .int ar2), (3, .int ar3)] [] (sh, gi14, gl14, gr14) (t_P wl_join_46 sh gi gl gr t_Rn) := by
          intro m14
          induction m14 using Nat.strongRecOn with
          | _ m14 ih14 =>
          intro gi14 gl14 gr14 y14_4 hI hX p_a1 l14_4 u14_4 c14_0 hm14
          refine ev_loc f_X4_join (nx := 40) rfl rfl rfl rfl ?_
          refine ev_if f_X4_join (t1 := 113) (t2 := 43) rfl rfl rfl (fun h15 => ?_) (fun h15 => ?_)
          · have u16 : y14_4.toInt ≤ 0 := t_leu h15 (by decide : (0:Int32).toInt ≤ (0:Int))
            refine ev_loc f_X4_join (nx := 114) rfl rfl rfl rfl ?_
            refine ev_loc f_X4_join (nx := 116) rfl rfl rfl rfl ?_
            refine ev_loc f_X4_join (nx := 117) rfl rfl rfl rfl ?_
            refine ev_loc f_X4_join (nx := 118) rfl rfl rfl rfl ?_
            refine ev_loc f_X4_join (nx := 119) rfl rfl rfl rfl ?_
            obtain ⟨a17, e17, s17, o17⟩ := p_a1.2.2.2.1
            refine ev_getR f_X4_join (nx := 122) rfl p_a1.1 rfl rfl e17 rfl rfl ?_
            refine ev_loc f_X4_join (nx := 123) rfl rfl rfl rfl ?_
            refine ev_ialdT f_X4_join (nx := 124) rfl s17 l7 (by decide) u10 (by decide) rfl (fun w18 e18 => ?_)
            refine ev_loc f_X4_join (nx := 125) rfl rfl rfl rfl ?_
            obtain ⟨a19, e19, s19, o19⟩ := p_a1.2.2.2.2.1
            refine ev_getR f_X4_join (nx := 128) rfl p_a1.1 rfl rfl e19 rfl rfl ?_
            refine ev_loc f_X4_join (nx := 129) rfl rfl rfl rfl ?_
            refine ev_ialdT f_X4_join (nx := 130) rfl s19 l7 (by decide) u10 (by decide) rfl (fun w20 e20 => ?_)
            refine ev_loc f_X4_join (nx := 131) rfl rfl rfl rfl ?_
            obtain ⟨a21, e21, s21, o21⟩ := p_a1.2.2.2.2.2
            refine ev_getR f_X4_join (nx := 134) rfl p_a1.1 rfl rfl e21 rfl rfl ?_
            refine ev_loc f_X4_join (nx := 135) rfl rfl rfl rfl ?_
            refine ev_baldT f_X4_join (nx := 136) rfl s21 rfl l7 (by decide) u10 (by decide) rfl (fun w22 e22 => ?_)
            refine ev_c0 f_X4_join (nx := 139) (r := []) rfl rfl rfl rfl rfl rfl rfl (c_put_46 hI (y14_4) (ar2) (ar3) (w18) (w20) (w22)) rfl hX rfl (fun gi23 gl23 gr23 hI hX hC23 => ?_)
            replace p_a1 := p_a1.ext hC23.2
            exact ev_ret f_X4_join rfl rfl rfl ⟨_, _, _, rfl, hI, hX, rfl⟩
          · have l24 : 1 ≤ y14_4.toInt := t_ltl (t_nle h15) (by decide : (0:Int) ≤ (0:Int32).toInt) rfl
            refine ev_loc f_X4_join (nx := 44) rfl rfl rfl rfl ?_
            refine ev_getR f_X4_join (nx := 47) rfl (hI.wf.s rfl) rfl rfl (hI.wf.r rfl) rfl rfl ?_
            refine ev_loc f_X4_join (nx := 49) rfl rfl rfl rfl ?_
            refine ev_ic f_X4_join (nx := 50) (v := 1) rfl (by decide) rfl ?_
            refine ev_subC f_X4_join (nx := 51) (c := 1) (l := 0) (u := 4) rfl (by decide) l24 u14_4 rfl rfl (by decide) (by decide) rfl (fun z25 e25 l25 u25 => ?_)
            refine ev_ialdT f_X4_join (nx := 52) rfl (hI.wf.s rfl) l25 (by decide) u25 (by decide) rfl (fun w26 e26 => ?_)
            refine ev_loc f_X4_join (nx := 53) rfl rfl rfl rfl ?_
            refine ev_if f_X4_join (t1 := 113) (t2 := 56) rfl rfl rfl (fun h27 => ?_) (fun h27 => ?_)
            · refine ev_loc f_X4_join (nx := 114) rfl rfl rfl rfl ?_
              refine ev_loc f_X4_join (nx := 116) rfl rfl rfl rfl ?_
              refine ev_loc f_X4_join (nx := 117) rfl rfl rfl rfl ?_
              refine ev_loc f_X4_join (nx := 118) rfl rfl rfl rfl ?_
              refine ev_loc f_X4_join (nx := 119) rfl rfl rfl rfl ?_
              obtain ⟨a28, e28, s28, o28⟩ := p_a1.2.2.2.1
              refine ev_getR f_X4_join (nx := 122) rfl p_a1.1 rfl rfl e28 rfl rfl ?_
              refine ev_loc f_X4_join (nx := 123) rfl rfl rfl rfl ?_
              refine ev_ialdT f_X4_join (nx := 124) rfl s28 l7 (by decide) u10 (by decide) rfl (fun w29 e29 => ?_)
              refine ev_loc f_X4_join (nx := 125) rfl rfl rfl rfl ?_
              obtain ⟨a30, e30, s30, o30⟩ := p_a1.2.2.2.2.1
              refine ev_getR f_X4_join (nx := 128) rfl p_a1.1 rfl rfl e30 rfl rfl ?_
              refine ev_loc f_X4_join (nx := 129) rfl rfl rfl rfl ?_
              refine ev_ialdT f_X4_join (nx := 130) rfl s30 l7 (by decide) u10 (by decide) rfl (fun w31 e31 => ?_)
              refine ev_loc f_X4_join (nx := 131) rfl rfl rfl rfl ?_
              obtain ⟨a32, e32, s32, o32⟩ := p_a1.2.2.2.2.2
              refine ev_getR f_X4_join (nx := 134) rfl p_a1.1 rfl rfl e32 rfl rfl ?_
              refine ev_loc f_X4_join (nx := 135) rfl rfl rfl rfl ?_
              refine ev_baldT f_X4_join (nx := 136) rfl s32 rfl l7 (by decide) u10 (by decide) rfl (fun w33 e33 => ?_)
              refine ev_c0 f_X4_join (nx := 139) (r := []) rfl rfl rfl rfl rfl rfl rfl (c_put_46 hI (y14_4) (ar2) (ar3) (w29) (w31) (w33)) rfl hX rfl (fun gi34 gl34 gr34 hI hX hC34 => ?_)
              replace p_a1 := p_a1.ext hC34.2
              exact ev_ret f_X4_join rfl rfl rfl ⟨_, _, _, rfl, hI, hX, rfl⟩
            · have u35 : ar3.toInt ≤ 2147483646 := t_ltu (t_nle h27) (t_hi w26) rfl
              have l36 : (-2147483647) ≤ w26.toInt := t_ltl (t_nle h27) (t_lo ar3) rfl
              refine ev_loc f_X4_join (nx := 57) rfl rfl rfl rfl ?_
              refine ev_loc f_X4_join (nx := 59) rfl rfl rfl rfl ?_
              refine ev_loc f_X4_join (nx := 60) rfl rfl rfl rfl ?_
              refine ev_getR f_X4_join (nx := 63) rfl (hI.wf.s rfl) rfl rfl (hI.wf.r rfl) rfl rfl ?_
              refine ev_loc f_X4_join (nx := 65) rfl rfl rfl rfl ?_
              refine ev_ic f_X4_join (nx := 66) (v := 1) rfl (by decide) rfl ?_
              refine ev_subC f_X4_join (nx := 67) (c := 1) (l := 0) (u := 4) rfl (by decide) l24 u14_4 rfl rfl (by decide) (by decide) rfl (fun z37 e37 l37 u37 => ?_)
              refine ev_ialdT f_X4_join (nx := 68) rfl (hI.wf.s rfl) l37 (by decide) u37 (by decide) rfl (fun w38 e38 => ?_)
              refine ev_loc f_X4_join (nx := 69) rfl rfl rfl rfl ?_
              refine ev_getR f_X4_join (nx := 72) rfl (hI.wf.s rfl) rfl rfl (hI.wf.r rfl) rfl rfl ?_
              refine ev_loc f_X4_join (nx := 74) rfl rfl rfl rfl ?_
              refine ev_ic f_X4_join (nx := 75) (v := 1) rfl (by decide) rfl ?_
              refine ev_subC f_X4_join (nx := 76) (c := 1) (l := 0) (u := 4) rfl (by decide) l24 u14_4 rfl rfl (by decide) (by decide) rfl (fun z39 e39 l39 u39 => ?_)
              refine ev_ialdT f_X4_join (nx := 77) rfl (hI.wf.s rfl) l39 (by decide) u39 (by decide) rfl (fun w40 e40 => ?_)
              refine ev_loc f_X4_join (nx := 78) rfl rfl rfl rfl ?_
              refine ev_getR f_X4_join (nx := 81) rfl (hI.wf.s rfl) rfl rfl (hI.wf.r rfl) rfl rfl ?_
              refine ev_loc f_X4_join (nx := 83) rfl rfl rfl rfl ?_
              refine ev_ic f_X4_join (nx := 84) (v := 1) rfl (by decide) rfl ?_
              refine ev_subC f_X4_join (nx := 85) (c := 1) (l := 0) (u := 4) rfl (by decide) l24 u14_4 rfl rfl (by decide) (by decide) rfl (fun z41 e41 l41 u41 => ?_)
              refine ev_ialdT f_X4_join (nx := 86) rfl (hI.wf.s rfl) l41 (by decide) u41 (by decide) rfl (fun w42 e42 => ?_)
              refine ev_loc f_X4_join (nx := 87) rfl rfl rfl rfl ?_
              refine ev_getR f_X4_join (nx := 90) rfl (hI.wf.s rfl) rfl rfl (hI.wf.r rfl) rfl rfl ?_
              refine ev_loc f_X4_join (nx := 92) rfl rfl rfl rfl ?_
              refine ev_ic f_X4_join (nx := 93) (v := 1) rfl (by decide) rfl ?_
              refine ev_subC f_X4_join (nx := 94) (c := 1) (l := 0) (u := 4) rfl (by decide) l24 u14_4 rfl rfl (by decide) (by decide) rfl (fun z43 e43 l43 u43 => ?_)
              refine ev_ialdT f_X4_join (nx := 95) rfl (hI.wf.s rfl) l43 (by decide) u43 (by decide) rfl (fun w44 e44 => ?_)
              refine ev_loc f_X4_join (nx := 96) rfl rfl rfl rfl ?_
              refine ev_getR f_X4_join (nx := 99) rfl (hI.wf.s rfl) rfl rfl (hI.wf.r rfl) rfl rfl ?_
              refine ev_loc f_X4_join (nx := 101) rfl rfl rfl rfl ?_
              refine ev_ic f_X4_join (nx := 102) (v := 1) rfl (by decide) rfl ?_
              refine ev_subC f_X4_join (nx := 103) (c := 1) (l := 0) (u := 4) rfl (by decide) l24 u14_4 rfl rfl (by decide) (by decide) rfl (fun z45 e45 l45 u45 => ?_)
              refine ev_baldT f_X4_join (nx := 104) rfl (hI.wf.s rfl) rfl l45 (by decide) u45 (by decide) rfl (fun w46 e46 => ?_)
              refine ev_c0 f_X4_join (nx := 107) (r := []) rfl rfl rfl rfl rfl rfl rfl (c_put_46 hI (y14_4) (w38) (w40) (w42) (w44) (w46)) rfl hX rfl (fun gi47 gl47 gr47 hI hX hC47 => ?_)
              replace p_a1 := p_a1.ext hC47.2
              refine ev_incR f_X4_join (nx := 110) (c := (-1)) (l := 0) (u := 4) rfl rfl (by decide) (by decide) l24 u14_4 rfl rfl (by decide) (by decide) rfl (fun z48 e48 l48 u48 => ?_)
              refine ev_jmp f_X4_join (nx := 38) rfl rfl rfl ?_
              refine ev_sub (lo := [(4, .int z48), (0, .ref 46), (1, .ref ar1), (2, .int ar2), (3, .int ar3)]) rfl (t_sc rfl (t_sc rfl (t_sc rfl (t_sc rfl (t_sc rfl t_sn))))) ?_
              exact ih14 _ (by omega) gi47 gl47 gr47 (z48) hI hX p_a1 l48 (Int.le_trans u48 (by decide : (4:Int) ≤ 5)) ((hC47.1 46 0 rfl).1.trans c14_0) rfl
        refine ev_sub (lo := [(4, .int (gi 46 0)), (0, .ref 46), (1, .ref ar1), (2, .int ar2), (3, .int ar3)]) rfl (t_sc rfl (t_sc rfl (t_sc rfl (t_sc rfl (t_sc rfl t_sn))))) ?_
        exact L14 _ g13 gl gr ((gi 46 0)) hI hX p_a1 l1 u4 (by rw [e13]; exact x_up2_at _ _ _ _ : g13 46 0 = z12) rfl
      · exact ev_ret f_X4_join rfl rfl rfl ⟨_, _, _, rfl, hI, hX, rfl⟩
noncomputable def wl_join_52 : List (Nat × Nat) := [(52, 0), (53, 9999), (54, 9999), (55, 9999), (56, 9999), (57, 9999)]
theorem c_join_52 {X : x_Ext} {d : Nat} {sh : List (Nat ⊕ (Nat × Nat))} {gi : Nat → Nat → Int32} {gl : Nat → Nat → Int64} {gr : Nat → Nat → Value} (hI : t_I sh gi gr) (ar1 : Nat) (p_a1 : t_Ln sh gr ar1) (ar2 : Int32) (ar3 : Int32) : x_Me X (d + 2) n_X4_join [.ref 52, .ref ar1, .int ar2, .int ar3] (sh, gi, gl, gr) (t_P wl_join_52 sh gi gl gr t_Rn) := by
  have hX : t_X wl_join_52 sh gi gl gr gi gl gr := t_X.rf
  refine me_i f_X4_join (hI.wf.s rfl) rfl rfl rfl ?_
  refine ev_loc f_X4_join (nx := 1) rfl rfl rfl rfl ?_
  refine ev_getI f_X4_join (nx := 4) rfl (hI.wf.s rfl) rfl rfl rfl ?_
  obtain ⟨l1, u1⟩ := hI.b (hI.wf.s (k := 52) rfl) (t_bdK rfl : t_bd 3 0 = some (0, 6))
  refine ev_bp f_X4_join (nx := 6) (v := 6) rfl (by decide) rfl ?_
  refine ev_if f_X4_join (t1 := 21) (t2 := 9) rfl rfl rfl (fun h2 => ?_) (fun h2 => ?_)
  · have l3 : 6 ≤ (gi 52 0).toInt := t_lel h2 (by decide : (6:Int) ≤ (6:Int32).toInt)
    exact ev_ret f_X4_join rfl rfl rfl ⟨_, _, _, rfl, hI, hX, rfl⟩
  · have u4 : (gi 52 0).toInt ≤ 5 := t_ltu (t_nle h2) (by decide : (6:Int32).toInt ≤ (6:Int)) rfl
    refine ev_loc f_X4_join (nx := 10) rfl rfl rfl rfl ?_
    refine ev_if f_X4_join (t1 := 21) (t2 := 13) rfl rfl rfl (fun h5 => ?_) (fun h5 => ?_)
    · have u6 : ar2.toInt ≤ (-1) := t_ltu h5 (by decide : (0:Int32).toInt ≤ (0:Int)) rfl
      exact ev_ret f_X4_join rfl rfl rfl ⟨_, _, _, rfl, hI, hX, rfl⟩
    · have l7 : 0 ≤ ar2.toInt := t_lel (t_nlt h5) (by decide : (0:Int) ≤ (0:Int32).toInt)
      refine ev_loc f_X4_join (nx := 14) rfl rfl rfl rfl ?_
      refine ev_loc f_X4_join (nx := 15) rfl rfl rfl rfl ?_
      refine ev_getI f_X4_join (nx := 18) rfl p_a1.1 rfl rfl rfl ?_
      obtain ⟨l8, u8⟩ := hI.b p_a1.1 (t_bdK rfl : t_bd 3 0 = some (0, 6))
      refine ev_if f_X4_join (t1 := 22) (t2 := 21) rfl rfl rfl (fun h9 => ?_) (fun h9 => ?_)
      · have u10 : ar2.toInt ≤ 5 := t_ltu h9 u8 rfl
        have l11 : 1 ≤ (gi ar1 0).toInt := t_ltl h9 l7 rfl
        refine ev_loc f_X4_join (nx := 23) rfl rfl rfl rfl ?_
        refine ev_gvI f_X4_join (nx := 26) (w := (gi 52 0)) rfl (hI.wf.s rfl) rfl rfl rfl rfl ?_
        refine ev_loc f_X4_join (nx := 28) (lo' := [(4, .int (gi 52 0)), (0, .ref 52), (1, .ref ar1), (2, .int ar2), (3, .int ar3)]) rfl rfl rfl rfl ?_
        refine ev_loc f_X4_join (nx := 29) rfl rfl rfl rfl ?_
        refine ev_alu f_X4_join (nx := 30) rfl rfl rfl rfl ?_
        refine ev_gvI f_X4_join (nx := 33) (w := (gi 52 0)) rfl (hI.wf.s rfl) rfl rfl rfl rfl ?_
        refine ev_ic f_X4_join (nx := 34) (v := 1) rfl (by decide) rfl ?_
        refine ev_addC f_X4_join (nx := 35) (c := 1) (l := 1) (u := 6) rfl (by decide) l1 u4 rfl rfl (by decide) (by decide) rfl (fun z12 e12 l12 u12 => ?_)
        refine ev_putIT f_X4_join (nx := 38) rfl (hI.wf.s rfl) rfl rfl rfl (hI.putB (hI.wf.s rfl) rfl rfl l12 (by decide) u12 (by decide)) (hX.upI rfl) (fun g13 e13 hI hX => ?_)
        have L14 : ∀ (m14 : Nat) (gi14 : Nat → Nat → Int32) (gl14 : Nat → Nat → Int64) (gr14 : Nat → Nat → Value) (y14_4 : Int32), t_I sh gi14 gr14 → t_X wl_join_52 sh gi gl gr gi14 gl14 gr14 → t_Ln sh gr14 ar1 → 0 ≤ y14_4.toInt → y14_4.toInt ≤ 5 → gi14 52 0 = z12 → (y14_4.toInt - 0).toNat = m14 → x_Ev X (d + 2) n_X4_join 38 [(4, .int y14_4), (0, .ref 52), (1, .ref ar1), (2, .int ar2), (3, .int ar3)] [] (sh, gi14, gl14, gr14) (t_P wl_join_52 sh gi gl gr t_Rn) := by
          intro m14
          induction m14 using Nat.strongRecOn with
          | _ m14 ih14 =>
          intro gi14 gl14 gr14 y14_4 hI hX p_a1 l14_4 u14_4 c14_0 hm14
          refine ev_loc f_X4_join (nx := 40) rfl rfl rfl rfl ?_
          refine ev_if f_X4_join (t1 := 113) (t2 := 43) rfl rfl rfl (fun h15 => ?_) (fun h15 => ?_)
          · have u16 : y14_4.toInt ≤ 0 := t_leu h15 (by decide : (0:Int32).toInt ≤ (0:Int))
            refine ev_loc f_X4_join (nx := 114) rfl rfl rfl rfl ?_
            refine ev_loc f_X4_join (nx := 116) rfl rfl rfl rfl ?_
            refine ev_loc f_X4_join (nx := 117) rfl rfl rfl rfl ?_
            refine ev_loc f_X4_join (nx := 118) rfl rfl rfl rfl ?_
            refine ev_loc f_X4_join (nx := 119) rfl rfl rfl rfl ?_
            obtain ⟨a17, e17, s17, o17⟩ := p_a1.2.2.2.1
            refine ev_getR f_X4_join (nx := 122) rfl p_a1.1 rfl rfl e17 rfl rfl ?_
            refine ev_loc f_X4_join (nx := 123) rfl rfl rfl rfl ?_
            refine ev_ialdT f_X4_join (nx := 124) rfl s17 l7 (by decide) u10 (by decide) rfl (fun w18 e18 => ?_)
            refine ev_loc f_X4_join (nx := 125) rfl rfl rfl rfl ?_
            obtain ⟨a19, e19, s19, o19⟩ := p_a1.2.2.2.2.1
            refine ev_getR f_X4_join (nx := 128) rfl p_a1.1 rfl rfl e19 rfl rfl ?_
            refine ev_loc f_X4_join (nx := 129) rfl rfl rfl rfl ?_
            refine ev_ialdT f_X4_join (nx := 130) rfl s19 l7 (by decide) u10 (by decide) rfl (fun w20 e20 => ?_)
            refine ev_loc f_X4_join (nx := 131) rfl rfl rfl rfl ?_
            obtain ⟨a21, e21, s21, o21⟩ := p_a1.2.2.2.2.2
            refine ev_getR f_X4_join (nx := 134) rfl p_a1.1 rfl rfl e21 rfl rfl ?_
            refine ev_loc f_X4_join (nx := 135) rfl rfl rfl rfl ?_
            refine ev_baldT f_X4_join (nx := 136) rfl s21 rfl l7 (by decide) u10 (by decide) rfl (fun w22 e22 => ?_)
            refine ev_c0 f_X4_join (nx := 139) (r := []) rfl rfl rfl rfl rfl rfl rfl (c_put_52 hI (y14_4) (ar2) (ar3) (w18) (w20) (w22)) rfl hX rfl (fun gi23 gl23 gr23 hI hX hC23 => ?_)
            replace p_a1 := p_a1.ext hC23.2
            exact ev_ret f_X4_join rfl rfl rfl ⟨_, _, _, rfl, hI, hX, rfl⟩
          · have l24 : 1 ≤ y14_4.toInt := t_ltl (t_nle h15) (by decide : (0:Int) ≤ (0:Int32).toInt) rfl
            refine ev_loc f_X4_join (nx := 44) rfl rfl rfl rfl ?_
            refine ev_getR f_X4_join (nx := 47) rfl (hI.wf.s rfl) rfl rfl (hI.wf.r rfl) rfl rfl ?_
            refine ev_loc f_X4_join (nx := 49) rfl rfl rfl rfl ?_
            refine ev_ic f_X4_join (nx := 50) (v := 1) rfl (by decide) rfl ?_
            refine ev_subC f_X4_join (nx := 51) (c := 1) (l := 0) (u := 4) rfl (by decide) l24 u14_4 rfl rfl (by decide) (by decide) rfl (fun z25 e25 l25 u25 => ?_)
            refine ev_ialdT f_X4_join (nx := 52) rfl (hI.wf.s rfl) l25 (by decide) u25 (by decide) rfl (fun w26 e26 => ?_)
            refine ev_loc f_X4_join (nx := 53) rfl rfl rfl rfl ?_
            refine ev_if f_X4_join (t1 := 113) (t2 := 56) rfl rfl rfl (fun h27 => ?_) (fun h27 => ?_)
            · refine ev_loc f_X4_join (nx := 114) rfl rfl rfl rfl ?_
              refine ev_loc f_X4_join (nx := 116) rfl rfl rfl rfl ?_
              refine ev_loc f_X4_join (nx := 117) rfl rfl rfl rfl ?_
              refine ev_loc f_X4_join (nx := 118) rfl rfl rfl rfl ?_
              refine ev_loc f_X4_join (nx := 119) rfl rfl rfl rfl ?_
              obtain ⟨a28, e28, s28, o28⟩ := p_a1.2.2.2.1
              refine ev_getR f_X4_join (nx := 122) rfl p_a1.1 rfl rfl e28 rfl rfl ?_
              refine ev_loc f_X4_join (nx := 123) rfl rfl rfl rfl ?_
              refine ev_ialdT f_X4_join (nx := 124) rfl s28 l7 (by decide) u10 (by decide) rfl (fun w29 e29 => ?_)
              refine ev_loc f_X4_join (nx := 125) rfl rfl rfl rfl ?_
              obtain ⟨a30, e30, s30, o30⟩ := p_a1.2.2.2.2.1
              refine ev_getR f_X4_join (nx := 128) rfl p_a1.1 rfl rfl e30 rfl rfl ?_
              refine ev_loc f_X4_join (nx := 129) rfl rfl rfl rfl ?_
              refine ev_ialdT f_X4_join (nx := 130) rfl s30 l7 (by decide) u10 (by decide) rfl (fun w31 e31 => ?_)
              refine ev_loc f_X4_join (nx := 131) rfl rfl rfl rfl ?_
              obtain ⟨a32, e32, s32, o32⟩ := p_a1.2.2.2.2.2
              refine ev_getR f_X4_join (nx := 134) rfl p_a1.1 rfl rfl e32 rfl rfl ?_
              refine ev_loc f_X4_join (nx := 135) rfl rfl rfl rfl ?_
              refine ev_baldT f_X4_join (nx := 136) rfl s32 rfl l7 (by decide) u10 (by decide) rfl (fun w33 e33 => ?_)
              refine ev_c0 f_X4_join (nx := 139) (r := []) rfl rfl rfl rfl rfl rfl rfl (c_put_52 hI (y14_4) (ar2) (ar3) (w29) (w31) (w33)) rfl hX rfl (fun gi34 gl34 gr34 hI hX hC34 => ?_)
              replace p_a1 := p_a1.ext hC34.2
              exact ev_ret f_X4_join rfl rfl rfl ⟨_, _, _, rfl, hI, hX, rfl⟩
            · have u35 : ar3.toInt ≤ 2147483646 := t_ltu (t_nle h27) (t_hi w26) rfl
              have l36 : (-2147483647) ≤ w26.toInt := t_ltl (t_nle h27) (t_lo ar3) rfl
              refine ev_loc f_X4_join (nx := 57) rfl rfl rfl rfl ?_
              refine ev_loc f_X4_join (nx := 59) rfl rfl rfl rfl ?_
              refine ev_loc f_X4_join (nx := 60) rfl rfl rfl rfl ?_
              refine ev_getR f_X4_join (nx := 63) rfl (hI.wf.s rfl) rfl rfl (hI.wf.r rfl) rfl rfl ?_
              refine ev_loc f_X4_join (nx := 65) rfl rfl rfl rfl ?_
              refine ev_ic f_X4_join (nx := 66) (v := 1) rfl (by decide) rfl ?_
              refine ev_subC f_X4_join (nx := 67) (c := 1) (l := 0) (u := 4) rfl (by decide) l24 u14_4 rfl rfl (by decide) (by decide) rfl (fun z37 e37 l37 u37 => ?_)
              refine ev_ialdT f_X4_join (nx := 68) rfl (hI.wf.s rfl) l37 (by decide) u37 (by decide) rfl (fun w38 e38 => ?_)
              refine ev_loc f_X4_join (nx := 69) rfl rfl rfl rfl ?_
              refine ev_getR f_X4_join (nx := 72) rfl (hI.wf.s rfl) rfl rfl (hI.wf.r rfl) rfl rfl ?_
              refine ev_loc f_X4_join (nx := 74) rfl rfl rfl rfl ?_
              refine ev_ic f_X4_join (nx := 75) (v := 1) rfl (by decide) rfl ?_
              refine ev_subC f_X4_join (nx := 76) (c := 1) (l := 0) (u := 4) rfl (by decide) l24 u14_4 rfl rfl (by decide) (by decide) rfl (fun z39 e39 l39 u39 => ?_)
              refine ev_ialdT f_X4_join (nx := 77) rfl (hI.wf.s rfl) l39 (by decide) u39 (by decide) rfl (fun w40 e40 => ?_)
              refine ev_loc f_X4_join (nx := 78) rfl rfl rfl rfl ?_
              refine ev_getR f_X4_join (nx := 81) rfl (hI.wf.s rfl) rfl rfl (hI.wf.r rfl) rfl rfl ?_
              refine ev_loc f_X4_join (nx := 83) rfl rfl rfl rfl ?_
              refine ev_ic f_X4_join (nx := 84) (v := 1) rfl (by decide) rfl ?_
              refine ev_subC f_X4_join (nx := 85) (c := 1) (l := 0) (u := 4) rfl (by decide) l24 u14_4 rfl rfl (by decide) (by decide) rfl (fun z41 e41 l41 u41 => ?_)
              refine ev_ialdT f_X4_join (nx := 86) rfl (hI.wf.s rfl) l41 (by decide) u41 (by decide) rfl (fun w42 e42 => ?_)
              refine ev_loc f_X4_join (nx := 87) rfl rfl rfl rfl ?_
              refine ev_getR f_X4_join (nx := 90) rfl (hI.wf.s rfl) rfl rfl (hI.wf.r rfl) rfl rfl ?_
              refine ev_loc f_X4_join (nx := 92) rfl rfl rfl rfl ?_
              refine ev_ic f_X4_join (nx := 93) (v := 1) rfl (by decide) rfl ?_
              refine ev_subC f_X4_join (nx := 94) (c := 1) (l := 0) (u := 4) rfl (by decide) l24 u14_4 rfl rfl (by decide) (by decide) rfl (fun z43 e43 l43 u43 => ?_)
              refine ev_ialdT f_X4_join (nx := 95) rfl (hI.wf.s rfl) l43 (by decide) u43 (by decide) rfl (fun w44 e44 => ?_)
              refine ev_loc f_X4_join (nx := 96) rfl rfl rfl rfl ?_
              refine ev_getR f_X4_join (nx := 99) rfl (hI.wf.s rfl) rfl rfl (hI.wf.r rfl) rfl rfl ?_
              refine ev_loc f_X4_join (nx := 101) rfl rfl rfl rfl ?_
              refine ev_ic f_X4_join (nx := 102) (v := 1) rfl (by decide) rfl ?_
              refine ev_subC f_X4_join (nx := 103) (c := 1) (l := 0) (u := 4) rfl (by decide) l24 u14_4 rfl rfl (by decide) (by decide) rfl (fun z45 e45 l45 u45 => ?_)
              refine ev_baldT f_X4_join (nx := 104) rfl (hI.wf.s rfl) rfl l45 (by decide) u45 (by decide) rfl (fun w46 e46 => ?_)
              refine ev_c0 f_X4_join (nx := 107) (r := []) rfl rfl rfl rfl rfl rfl rfl (c_put_52 hI (y14_4) (w38) (w40) (w42) (w44) (w46)) rfl hX rfl (fun gi47 gl47 gr47 hI hX hC47 => ?_)
              replace p_a1 := p_a1.ext hC47.2
              refine ev_incR f_X4_join (nx := 110) (c := (-1)) (l := 0) (u := 4) rfl rfl (by decide) (by decide) l24 u14_4 rfl rfl (by decide) (by decide) rfl (fun z48 e48 l48 u48 => ?_)
              refine ev_jmp f_X4_join (nx := 38) rfl rfl rfl ?_
              refine ev_sub (lo := [(4, .int z48), (0, .ref 52), (1, .ref ar1), (2, .int ar2), (3, .int ar3)]) rfl (t_sc rfl (t_sc rfl (t_sc rfl (t_sc rfl (t_sc rfl t_sn))))) ?_
              exact ih14 _ (by omega) gi47 gl47 gr47 (z48) hI hX p_a1 l48 (Int.le_trans u48 (by decide : (4:Int) ≤ 5)) ((hC47.1 52 0 rfl).1.trans c14_0) rfl
        refine ev_sub (lo := [(4, .int (gi 52 0)), (0, .ref 52), (1, .ref ar1), (2, .int ar2), (3, .int ar3)]) rfl (t_sc rfl (t_sc rfl (t_sc rfl (t_sc rfl (t_sc rfl t_sn))))) ?_
        exact L14 _ g13 gl gr ((gi 52 0)) hI hX p_a1 l1 u4 (by rw [e13]; exact x_up2_at _ _ _ _ : g13 52 0 = z12) rfl
      · exact ev_ret f_X4_join rfl rfl rfl ⟨_, _, _, rfl, hI, hX, rfl⟩
noncomputable def wl_put : List (Nat × Nat) := [(7, 9999), (8, 9999), (9, 9999), (10, 9999), (11, 9999), (12, 9999), (14, 9999), (15, 9999), (16, 9999), (17, 9999), (18, 9999), (30, 9999), (31, 9999), (32, 9999), (33, 9999), (34, 9999), (36, 9999), (37, 9999), (38, 9999), (39, 9999), (40, 9999), (43, 9999), (44, 9999), (47, 9999), (48, 9999), (49, 9999), (50, 9999), (51, 9999), (53, 9999), (54, 9999), (55, 9999), (56, 9999), (57, 9999), (58, 9999), (59, 9999), (130, 9999), (133, 9999)]
theorem c_put {X : x_Ext} {d : Nat} {sh : List (Nat ⊕ (Nat × Nat))} {gi : Nat → Nat → Int32} {gl : Nat → Nat → Int64} {gr : Nat → Nat → Value} (hI : t_I sh gi gr) (ar0 : Nat) (p_a0 : t_Ln sh gr ar0) (ar1 : Int32) (ar2 : Int32) (ar3 : Int32) (ar4 : Int32) (ar5 : Int32) (ar6 : Int32) : x_Me X (d + 1) n_X4_put [.ref ar0, .int ar1, .int ar2, .int ar3, .int ar4, .int ar5, .int ar6] (sh, gi, gl, gr) (t_P wl_put sh gi gl gr t_Rn) := by
  have hX : t_X wl_put sh gi gl gr gi gl gr := t_X.rf
  refine me_i f_X4_put p_a0.1 rfl rfl rfl ?_
  refine ev_loc f_X4_put (nx := 1) rfl rfl rfl rfl ?_
  refine ev_if f_X4_put (t1 := 10) (t2 := 4) rfl rfl rfl (fun h1 => ?_) (fun h1 => ?_)
  · have u2 : ar1.toInt ≤ (-1) := t_ltu h1 (by decide : (0:Int32).toInt ≤ (0:Int)) rfl
    exact ev_ret f_X4_put rfl rfl rfl ⟨_, _, _, rfl, hI, hX, rfl⟩
  · have l3 : 0 ≤ ar1.toInt := t_lel (t_nlt h1) (by decide : (0:Int) ≤ (0:Int32).toInt)
    refine ev_loc f_X4_put (nx := 5) rfl rfl rfl rfl ?_
    refine ev_bp f_X4_put (nx := 7) (v := 6) rfl (by decide) rfl ?_
    refine ev_if f_X4_put (t1 := 11) (t2 := 10) rfl rfl rfl (fun h4 => ?_) (fun h4 => ?_)
    · have u5 : ar1.toInt ≤ 5 := t_ltu h4 (by decide : (6:Int32).toInt ≤ (6:Int)) rfl
      refine ev_loc f_X4_put (nx := 12) rfl rfl rfl rfl ?_
      obtain ⟨a6, e6, s6, o6⟩ := p_a0.2.1
      refine ev_getR f_X4_put (nx := 15) rfl p_a0.1 rfl rfl e6 rfl rfl ?_
      refine ev_loc f_X4_put (nx := 16) rfl rfl rfl rfl ?_
      refine ev_loc f_X4_put (nx := 17) rfl rfl rfl rfl ?_
      refine ev_iastT f_X4_put (nx := 18) rfl s6 l3 (by decide) u5 (by decide) rfl (hI.astO s6 o6 (by decide +kernel)) (hX.upI (t_inOA hI.wf s6 o6 rfl)) (fun g7 e7 hI hX => ?_)
      refine ev_loc f_X4_put (nx := 19) rfl rfl rfl rfl ?_
      obtain ⟨a8, e8, s8, o8⟩ := p_a0.2.2.1
      refine ev_getR f_X4_put (nx := 22) rfl p_a0.1 rfl rfl e8 rfl rfl ?_
      refine ev_loc f_X4_put (nx := 23) rfl rfl rfl rfl ?_
      refine ev_loc f_X4_put (nx := 24) rfl rfl rfl rfl ?_
      refine ev_iastT f_X4_put (nx := 25) rfl s8 l3 (by decide) u5 (by decide) rfl (hI.astO s8 o8 (by decide +kernel)) (hX.upI (t_inOA hI.wf s8 o8 rfl)) (fun g9 e9 hI hX => ?_)
      refine ev_loc f_X4_put (nx := 26) rfl rfl rfl rfl ?_
      obtain ⟨a10, e10, s10, o10⟩ := p_a0.2.2.2.1
      refine ev_getR f_X4_put (nx := 29) rfl p_a0.1 rfl rfl e10 rfl rfl ?_
      refine ev_loc f_X4_put (nx := 30) rfl rfl rfl rfl ?_
      refine ev_loc f_X4_put (nx := 32) rfl rfl rfl rfl ?_
      refine ev_iastT f_X4_put (nx := 33) rfl s10 l3 (by decide) u5 (by decide) rfl (hI.astO s10 o10 (by decide +kernel)) (hX.upI (t_inOA hI.wf s10 o10 rfl)) (fun g11 e11 hI hX => ?_)
      refine ev_loc f_X4_put (nx := 34) rfl rfl rfl rfl ?_
      obtain ⟨a12, e12, s12, o12⟩ := p_a0.2.2.2.2.1
      refine ev_getR f_X4_put (nx := 37) rfl p_a0.1 rfl rfl e12 rfl rfl ?_
      refine ev_loc f_X4_put (nx := 38) rfl rfl rfl rfl ?_
      refine ev_loc f_X4_put (nx := 40) rfl rfl rfl rfl ?_
      refine ev_iastT f_X4_put (nx := 41) rfl s12 l3 (by decide) u5 (by decide) rfl (hI.astO s12 o12 (by decide +kernel)) (hX.upI (t_inOA hI.wf s12 o12 rfl)) (fun g13 e13 hI hX => ?_)
      refine ev_loc f_X4_put (nx := 42) rfl rfl rfl rfl ?_
      obtain ⟨a14, e14, s14, o14⟩ := p_a0.2.2.2.2.2
      refine ev_getR f_X4_put (nx := 45) rfl p_a0.1 rfl rfl e14 rfl rfl ?_
      refine ev_loc f_X4_put (nx := 46) rfl rfl rfl rfl ?_
      refine ev_loc f_X4_put (nx := 48) rfl rfl rfl rfl ?_
      refine ev_zastT f_X4_put (nx := 49) rfl s14 l3 (by decide) u5 (by decide) rfl (fun x _ _ => (hI.astO s14 o14 (by decide +kernel))) (fun x => hX.upI (t_inOA hI.wf s14 o14 rfl)) (fun g15 x15 e15 hI hX => ?_)
      exact ev_ret f_X4_put rfl rfl rfl ⟨_, _, _, rfl, hI, hX, rfl⟩
    · have l16 : 6 ≤ ar1.toInt := t_lel (t_nlt h4) (by decide : (6:Int) ≤ (6:Int32).toInt)
      exact ev_ret f_X4_put rfl rfl rfl ⟨_, _, _, rfl, hI, hX, rfl⟩
noncomputable def wl_join : List (Nat × Nat) := [(6, 0), (7, 9999), (8, 9999), (9, 9999), (10, 9999), (11, 9999), (12, 9999), (13, 0), (14, 9999), (15, 9999), (16, 9999), (17, 9999), (18, 9999), (29, 0), (30, 9999), (31, 9999), (32, 9999), (33, 9999), (34, 9999), (35, 0), (36, 9999), (37, 9999), (38, 9999), (39, 9999), (40, 9999), (43, 9999), (44, 9999), (46, 0), (47, 9999), (48, 9999), (49, 9999), (50, 9999), (51, 9999), (52, 0), (53, 9999), (54, 9999), (55, 9999), (56, 9999), (57, 9999), (58, 9999), (59, 9999), (113, 0), (130, 9999), (133, 9999)]
theorem c_join {X : x_Ext} {d : Nat} {sh : List (Nat ⊕ (Nat × Nat))} {gi : Nat → Nat → Int32} {gl : Nat → Nat → Int64} {gr : Nat → Nat → Value} (hI : t_I sh gi gr) (ar0 : Nat) (p_a0 : t_Ln sh gr ar0) (ar1 : Nat) (p_a1 : t_Ln sh gr ar1) (ar2 : Int32) (ar3 : Int32) : x_Me X (d + 2) n_X4_join [.ref ar0, .ref ar1, .int ar2, .int ar3] (sh, gi, gl, gr) (t_P wl_join sh gi gl gr t_Rn) := by
  have hX : t_X wl_join sh gi gl gr gi gl gr := t_X.rf
  refine me_i f_X4_join p_a0.1 rfl rfl rfl ?_
  refine ev_loc f_X4_join (nx := 1) rfl rfl rfl rfl ?_
  refine ev_getI f_X4_join (nx := 4) rfl p_a0.1 rfl rfl rfl ?_
  obtain ⟨l1, u1⟩ := hI.b p_a0.1 (t_bdK rfl : t_bd 3 0 = some (0, 6))
  refine ev_bp f_X4_join (nx := 6) (v := 6) rfl (by decide) rfl ?_
  refine ev_if f_X4_join (t1 := 21) (t2 := 9) rfl rfl rfl (fun h2 => ?_) (fun h2 => ?_)
  · have l3 : 6 ≤ (gi ar0 0).toInt := t_lel h2 (by decide : (6:Int) ≤ (6:Int32).toInt)
    exact ev_ret f_X4_join rfl rfl rfl ⟨_, _, _, rfl, hI, hX, rfl⟩
  · have u4 : (gi ar0 0).toInt ≤ 5 := t_ltu (t_nle h2) (by decide : (6:Int32).toInt ≤ (6:Int)) rfl
    refine ev_loc f_X4_join (nx := 10) rfl rfl rfl rfl ?_
    refine ev_if f_X4_join (t1 := 21) (t2 := 13) rfl rfl rfl (fun h5 => ?_) (fun h5 => ?_)
    · have u6 : ar2.toInt ≤ (-1) := t_ltu h5 (by decide : (0:Int32).toInt ≤ (0:Int)) rfl
      exact ev_ret f_X4_join rfl rfl rfl ⟨_, _, _, rfl, hI, hX, rfl⟩
    · have l7 : 0 ≤ ar2.toInt := t_lel (t_nlt h5) (by decide : (0:Int) ≤ (0:Int32).toInt)
      refine ev_loc f_X4_join (nx := 14) rfl rfl rfl rfl ?_
      refine ev_loc f_X4_join (nx := 15) rfl rfl rfl rfl ?_
      refine ev_getI f_X4_join (nx := 18) rfl p_a1.1 rfl rfl rfl ?_
      obtain ⟨l8, u8⟩ := hI.b p_a1.1 (t_bdK rfl : t_bd 3 0 = some (0, 6))
      refine ev_if f_X4_join (t1 := 22) (t2 := 21) rfl rfl rfl (fun h9 => ?_) (fun h9 => ?_)
      · have u10 : ar2.toInt ≤ 5 := t_ltu h9 u8 rfl
        have l11 : 1 ≤ (gi ar1 0).toInt := t_ltl h9 l7 rfl
        refine ev_loc f_X4_join (nx := 23) rfl rfl rfl rfl ?_
        refine ev_gvI f_X4_join (nx := 26) (w := (gi ar0 0)) rfl p_a0.1 rfl rfl rfl rfl ?_
        refine ev_loc f_X4_join (nx := 28) (lo' := [(4, .int (gi ar0 0)), (0, .ref ar0), (1, .ref ar1), (2, .int ar2), (3, .int ar3)]) rfl rfl rfl rfl ?_
        refine ev_loc f_X4_join (nx := 29) rfl rfl rfl rfl ?_
        refine ev_alu f_X4_join (nx := 30) rfl rfl rfl rfl ?_
        refine ev_gvI f_X4_join (nx := 33) (w := (gi ar0 0)) rfl p_a0.1 rfl rfl rfl rfl ?_
        refine ev_ic f_X4_join (nx := 34) (v := 1) rfl (by decide) rfl ?_
        refine ev_addC f_X4_join (nx := 35) (c := 1) (l := 1) (u := 6) rfl (by decide) l1 u4 rfl rfl (by decide) (by decide) rfl (fun z12 e12 l12 u12 => ?_)
        refine ev_putIT f_X4_join (nx := 38) rfl p_a0.1 rfl rfl rfl (hI.putB p_a0.1 rfl rfl l12 (by decide) u12 (by decide)) (hX.upI (t_inO hI.wf p_a0.1 (t_outO hI.wf p_a0.1 rfl) rfl)) (fun g13 e13 hI hX => ?_)
        have L14 : ∀ (m14 : Nat) (gi14 : Nat → Nat → Int32) (gl14 : Nat → Nat → Int64) (gr14 : Nat → Nat → Value) (y14_4 : Int32), t_I sh gi14 gr14 → t_X wl_join sh gi gl gr gi14 gl14 gr14 → t_Ln sh gr14 ar0 → t_Ln sh gr14 ar1 → 0 ≤ y14_4.toInt → y14_4.toInt ≤ 5 → gi14 ar0 0 = z12 → (y14_4.toInt - 0).toNat = m14 → x_Ev X (d + 2) n_X4_join 38 [(4, .int y14_4), (0, .ref ar0), (1, .ref ar1), (2, .int ar2), (3, .int ar3)] [] (sh, gi14, gl14, gr14) (t_P wl_join sh gi gl gr t_Rn) := by
          intro m14
          induction m14 using Nat.strongRecOn with
          | _ m14 ih14 =>
          intro gi14 gl14 gr14 y14_4 hI hX p_a0 p_a1 l14_4 u14_4 c14_0 hm14
          refine ev_loc f_X4_join (nx := 40) rfl rfl rfl rfl ?_
          refine ev_if f_X4_join (t1 := 113) (t2 := 43) rfl rfl rfl (fun h15 => ?_) (fun h15 => ?_)
          · have u16 : y14_4.toInt ≤ 0 := t_leu h15 (by decide : (0:Int32).toInt ≤ (0:Int))
            refine ev_loc f_X4_join (nx := 114) rfl rfl rfl rfl ?_
            refine ev_loc f_X4_join (nx := 116) rfl rfl rfl rfl ?_
            refine ev_loc f_X4_join (nx := 117) rfl rfl rfl rfl ?_
            refine ev_loc f_X4_join (nx := 118) rfl rfl rfl rfl ?_
            refine ev_loc f_X4_join (nx := 119) rfl rfl rfl rfl ?_
            obtain ⟨a17, e17, s17, o17⟩ := p_a1.2.2.2.1
            refine ev_getR f_X4_join (nx := 122) rfl p_a1.1 rfl rfl e17 rfl rfl ?_
            refine ev_loc f_X4_join (nx := 123) rfl rfl rfl rfl ?_
            refine ev_ialdT f_X4_join (nx := 124) rfl s17 l7 (by decide) u10 (by decide) rfl (fun w18 e18 => ?_)
            refine ev_loc f_X4_join (nx := 125) rfl rfl rfl rfl ?_
            obtain ⟨a19, e19, s19, o19⟩ := p_a1.2.2.2.2.1
            refine ev_getR f_X4_join (nx := 128) rfl p_a1.1 rfl rfl e19 rfl rfl ?_
            refine ev_loc f_X4_join (nx := 129) rfl rfl rfl rfl ?_
            refine ev_ialdT f_X4_join (nx := 130) rfl s19 l7 (by decide) u10 (by decide) rfl (fun w20 e20 => ?_)
            refine ev_loc f_X4_join (nx := 131) rfl rfl rfl rfl ?_
            obtain ⟨a21, e21, s21, o21⟩ := p_a1.2.2.2.2.2
            refine ev_getR f_X4_join (nx := 134) rfl p_a1.1 rfl rfl e21 rfl rfl ?_
            refine ev_loc f_X4_join (nx := 135) rfl rfl rfl rfl ?_
            refine ev_baldT f_X4_join (nx := 136) rfl s21 rfl l7 (by decide) u10 (by decide) rfl (fun w22 e22 => ?_)
            refine ev_c0 f_X4_join (nx := 139) (r := []) rfl rfl rfl rfl rfl rfl rfl (c_put hI (ar0) p_a0 (y14_4) (ar2) (ar3) (w18) (w20) (w22)) rfl hX rfl (fun gi23 gl23 gr23 hI hX hC23 => ?_)
            replace p_a0 := p_a0.ext hC23.2
            replace p_a1 := p_a1.ext hC23.2
            exact ev_ret f_X4_join rfl rfl rfl ⟨_, _, _, rfl, hI, hX, rfl⟩
          · have l24 : 1 ≤ y14_4.toInt := t_ltl (t_nle h15) (by decide : (0:Int) ≤ (0:Int32).toInt) rfl
            refine ev_loc f_X4_join (nx := 44) rfl rfl rfl rfl ?_
            obtain ⟨a25, e25, s25, o25⟩ := p_a0.2.2.1
            refine ev_getR f_X4_join (nx := 47) rfl p_a0.1 rfl rfl e25 rfl rfl ?_
            refine ev_loc f_X4_join (nx := 49) rfl rfl rfl rfl ?_
            refine ev_ic f_X4_join (nx := 50) (v := 1) rfl (by decide) rfl ?_
            refine ev_subC f_X4_join (nx := 51) (c := 1) (l := 0) (u := 4) rfl (by decide) l24 u14_4 rfl rfl (by decide) (by decide) rfl (fun z26 e26 l26 u26 => ?_)
            refine ev_ialdT f_X4_join (nx := 52) rfl s25 l26 (by decide) u26 (by decide) rfl (fun w27 e27 => ?_)
            refine ev_loc f_X4_join (nx := 53) rfl rfl rfl rfl ?_
            refine ev_if f_X4_join (t1 := 113) (t2 := 56) rfl rfl rfl (fun h28 => ?_) (fun h28 => ?_)
            · refine ev_loc f_X4_join (nx := 114) rfl rfl rfl rfl ?_
              refine ev_loc f_X4_join (nx := 116) rfl rfl rfl rfl ?_
              refine ev_loc f_X4_join (nx := 117) rfl rfl rfl rfl ?_
              refine ev_loc f_X4_join (nx := 118) rfl rfl rfl rfl ?_
              refine ev_loc f_X4_join (nx := 119) rfl rfl rfl rfl ?_
              obtain ⟨a29, e29, s29, o29⟩ := p_a1.2.2.2.1
              refine ev_getR f_X4_join (nx := 122) rfl p_a1.1 rfl rfl e29 rfl rfl ?_
              refine ev_loc f_X4_join (nx := 123) rfl rfl rfl rfl ?_
              refine ev_ialdT f_X4_join (nx := 124) rfl s29 l7 (by decide) u10 (by decide) rfl (fun w30 e30 => ?_)
              refine ev_loc f_X4_join (nx := 125) rfl rfl rfl rfl ?_
              obtain ⟨a31, e31, s31, o31⟩ := p_a1.2.2.2.2.1
              refine ev_getR f_X4_join (nx := 128) rfl p_a1.1 rfl rfl e31 rfl rfl ?_
              refine ev_loc f_X4_join (nx := 129) rfl rfl rfl rfl ?_
              refine ev_ialdT f_X4_join (nx := 130) rfl s31 l7 (by decide) u10 (by decide) rfl (fun w32 e32 => ?_)
              refine ev_loc f_X4_join (nx := 131) rfl rfl rfl rfl ?_
              obtain ⟨a33, e33, s33, o33⟩ := p_a1.2.2.2.2.2
              refine ev_getR f_X4_join (nx := 134) rfl p_a1.1 rfl rfl e33 rfl rfl ?_
              refine ev_loc f_X4_join (nx := 135) rfl rfl rfl rfl ?_
              refine ev_baldT f_X4_join (nx := 136) rfl s33 rfl l7 (by decide) u10 (by decide) rfl (fun w34 e34 => ?_)
              refine ev_c0 f_X4_join (nx := 139) (r := []) rfl rfl rfl rfl rfl rfl rfl (c_put hI (ar0) p_a0 (y14_4) (ar2) (ar3) (w30) (w32) (w34)) rfl hX rfl (fun gi35 gl35 gr35 hI hX hC35 => ?_)
              replace p_a0 := p_a0.ext hC35.2
              replace p_a1 := p_a1.ext hC35.2
              exact ev_ret f_X4_join rfl rfl rfl ⟨_, _, _, rfl, hI, hX, rfl⟩
            · have u36 : ar3.toInt ≤ 2147483646 := t_ltu (t_nle h28) (t_hi w27) rfl
              have l37 : (-2147483647) ≤ w27.toInt := t_ltl (t_nle h28) (t_lo ar3) rfl
              refine ev_loc f_X4_join (nx := 57) rfl rfl rfl rfl ?_
              refine ev_loc f_X4_join (nx := 59) rfl rfl rfl rfl ?_
              refine ev_loc f_X4_join (nx := 60) rfl rfl rfl rfl ?_
              obtain ⟨a38, e38, s38, o38⟩ := p_a0.2.1
              refine ev_getR f_X4_join (nx := 63) rfl p_a0.1 rfl rfl e38 rfl rfl ?_
              refine ev_loc f_X4_join (nx := 65) rfl rfl rfl rfl ?_
              refine ev_ic f_X4_join (nx := 66) (v := 1) rfl (by decide) rfl ?_
              refine ev_subC f_X4_join (nx := 67) (c := 1) (l := 0) (u := 4) rfl (by decide) l24 u14_4 rfl rfl (by decide) (by decide) rfl (fun z39 e39 l39 u39 => ?_)
              refine ev_ialdT f_X4_join (nx := 68) rfl s38 l39 (by decide) u39 (by decide) rfl (fun w40 e40 => ?_)
              refine ev_loc f_X4_join (nx := 69) rfl rfl rfl rfl ?_
              refine ev_getR f_X4_join (nx := 72) (v := .ref a25) rfl p_a0.1 rfl rfl e25 rfl rfl ?_
              refine ev_loc f_X4_join (nx := 74) rfl rfl rfl rfl ?_
              refine ev_ic f_X4_join (nx := 75) (v := 1) rfl (by decide) rfl ?_
              refine ev_subC f_X4_join (nx := 76) (c := 1) (l := 0) (u := 4) rfl (by decide) l24 u14_4 rfl rfl (by decide) (by decide) rfl (fun z41 e41 l41 u41 => ?_)
              refine ev_ialdT f_X4_join (nx := 77) rfl s25 l41 (by decide) u41 (by decide) rfl (fun w42 e42 => ?_)
              refine ev_loc f_X4_join (nx := 78) rfl rfl rfl rfl ?_
              obtain ⟨a43, e43, s43, o43⟩ := p_a0.2.2.2.1
              refine ev_getR f_X4_join (nx := 81) rfl p_a0.1 rfl rfl e43 rfl rfl ?_
              refine ev_loc f_X4_join (nx := 83) rfl rfl rfl rfl ?_
              refine ev_ic f_X4_join (nx := 84) (v := 1) rfl (by decide) rfl ?_
              refine ev_subC f_X4_join (nx := 85) (c := 1) (l := 0) (u := 4) rfl (by decide) l24 u14_4 rfl rfl (by decide) (by decide) rfl (fun z44 e44 l44 u44 => ?_)
              refine ev_ialdT f_X4_join (nx := 86) rfl s43 l44 (by decide) u44 (by decide) rfl (fun w45 e45 => ?_)
              refine ev_loc f_X4_join (nx := 87) rfl rfl rfl rfl ?_
              obtain ⟨a46, e46, s46, o46⟩ := p_a0.2.2.2.2.1
              refine ev_getR f_X4_join (nx := 90) rfl p_a0.1 rfl rfl e46 rfl rfl ?_
              refine ev_loc f_X4_join (nx := 92) rfl rfl rfl rfl ?_
              refine ev_ic f_X4_join (nx := 93) (v := 1) rfl (by decide) rfl ?_
              refine ev_subC f_X4_join (nx := 94) (c := 1) (l := 0) (u := 4) rfl (by decide) l24 u14_4 rfl rfl (by decide) (by decide) rfl (fun z47 e47 l47 u47 => ?_)
              refine ev_ialdT f_X4_join (nx := 95) rfl s46 l47 (by decide) u47 (by decide) rfl (fun w48 e48 => ?_)
              refine ev_loc f_X4_join (nx := 96) rfl rfl rfl rfl ?_
              obtain ⟨a49, e49, s49, o49⟩ := p_a0.2.2.2.2.2
              refine ev_getR f_X4_join (nx := 99) rfl p_a0.1 rfl rfl e49 rfl rfl ?_
              refine ev_loc f_X4_join (nx := 101) rfl rfl rfl rfl ?_
              refine ev_ic f_X4_join (nx := 102) (v := 1) rfl (by decide) rfl ?_
              refine ev_subC f_X4_join (nx := 103) (c := 1) (l := 0) (u := 4) rfl (by decide) l24 u14_4 rfl rfl (by decide) (by decide) rfl (fun z50 e50 l50 u50 => ?_)
              refine ev_baldT f_X4_join (nx := 104) rfl s49 rfl l50 (by decide) u50 (by decide) rfl (fun w51 e51 => ?_)
              refine ev_c0 f_X4_join (nx := 107) (r := []) rfl rfl rfl rfl rfl rfl rfl (c_put hI (ar0) p_a0 (y14_4) (w40) (w42) (w45) (w48) (w51)) rfl hX rfl (fun gi52 gl52 gr52 hI hX hC52 => ?_)
              replace p_a0 := p_a0.ext hC52.2
              replace p_a1 := p_a1.ext hC52.2
              refine ev_incR f_X4_join (nx := 110) (c := (-1)) (l := 0) (u := 4) rfl rfl (by decide) (by decide) l24 u14_4 rfl rfl (by decide) (by decide) rfl (fun z53 e53 l53 u53 => ?_)
              refine ev_jmp f_X4_join (nx := 38) rfl rfl rfl ?_
              refine ev_sub (lo := [(4, .int z53), (0, .ref ar0), (1, .ref ar1), (2, .int ar2), (3, .int ar3)]) rfl (t_sc rfl (t_sc rfl (t_sc rfl (t_sc rfl (t_sc rfl t_sn))))) ?_
              exact ih14 _ (by omega) gi52 gl52 gr52 (z53) hI hX p_a0 p_a1 l53 (Int.le_trans u53 (by decide : (4:Int) ≤ 5)) ((hC52.1 ar0 0 (t_ninO hI.wf p_a0.1 (t_outO hI.wf p_a0.1 rfl) rfl)).1.trans c14_0) rfl
        refine ev_sub (lo := [(4, .int (gi ar0 0)), (0, .ref ar0), (1, .ref ar1), (2, .int ar2), (3, .int ar3)]) rfl (t_sc rfl (t_sc rfl (t_sc rfl (t_sc rfl (t_sc rfl t_sn))))) ?_
        exact L14 _ g13 gl gr ((gi ar0 0)) hI hX p_a0 p_a1 l1 u4 (by rw [e13]; exact x_up2_at _ _ _ _ : g13 ar0 0 = z12) rfl
      · exact ev_ret f_X4_join rfl rfl rfl ⟨_, _, _, rfl, hI, hX, rfl⟩
noncomputable def wl_soundOf : List (Nat × Nat) := []
theorem c_soundOf {X : x_Ext} {d : Nat} {sh : List (Nat ⊕ (Nat × Nat))} {gi : Nat → Nat → Int32} {gl : Nat → Nat → Int64} {gr : Nat → Nat → Value} (hI : t_I sh gi gr) (ar0 : Int64) : x_Me X (d + 1) n_X5_soundOf [.long ar0] (sh, gi, gl, gr) (t_P wl_soundOf sh gi gl gr t_Rl) := by
  have hX : t_X wl_soundOf sh gi gl gr gi gl gr := t_X.rf
  refine me_s f_X5_soundOf rfl rfl ?_
  refine ev_lc f_X5_soundOf (nx := 1) (v := 0) rfl (by decide) rfl ?_
  refine ev_loc f_X5_soundOf (nx := 2) (lo' := [(2, .long 0), (0, .long ar0)]) rfl rfl rfl rfl ?_
  refine ev_loc f_X5_soundOf (nx := 3) rfl rfl rfl rfl ?_
  refine ev_loc f_X5_soundOf (nx := 5) (lo' := [(4, .long ar0), (2, .long 0), (0, .long ar0)]) rfl rfl rfl rfl ?_
  refine ev_ic f_X5_soundOf (nx := 6) (v := 0) rfl (by decide) rfl ?_
  refine ev_loc f_X5_soundOf (nx := 8) (lo' := [(6, .int 0), (4, .long ar0), (2, .long 0), (0, .long ar0)]) rfl rfl rfl rfl ?_
  have L1 : ∀ (m1 : Nat) (gi1 : Nat → Nat → Int32) (gl1 : Nat → Nat → Int64) (gr1 : Nat → Nat → Value) (y1_6 : Int32) (y1_4 : Int64) (y1_2 : Int64), t_I sh gi1 gr1 → t_X wl_soundOf sh gi gl gr gi1 gl1 gr1 → 0 ≤ y1_6.toInt → y1_6.toInt ≤ 6 → (6 - y1_6.toInt).toNat = m1 → x_Ev X (d + 1) n_X5_soundOf 8 [(6, .int y1_6), (4, .long y1_4), (2, .long y1_2), (0, .long ar0)] [] (sh, gi1, gl1, gr1) (t_P wl_soundOf sh gi gl gr t_Rl) := by
    intro m1
    induction m1 using Nat.strongRecOn with
    | _ m1 ih1 =>
    intro gi1 gl1 gr1 y1_6 y1_4 y1_2 hI hX l1_6 u1_6 hm1
    refine ev_loc f_X5_soundOf (nx := 10) rfl rfl rfl rfl ?_
    refine ev_bp f_X5_soundOf (nx := 12) (v := 6) rfl (by decide) rfl ?_
    refine ev_if f_X5_soundOf (t1 := 65) (t2 := 15) rfl rfl rfl (fun h2 => ?_) (fun h2 => ?_)
    · have l3 : 6 ≤ y1_6.toInt := t_lel h2 (by decide : (6:Int) ≤ (6:Int32).toInt)
      refine ev_loc f_X5_soundOf (nx := 66) rfl rfl rfl rfl ?_
      exact ev_ret f_X5_soundOf rfl rfl rfl ⟨_, _, _, rfl, hI, hX, ⟨_, rfl⟩⟩
    · have u4 : y1_6.toInt ≤ 5 := t_ltu (t_nle h2) (by decide : (6:Int32).toInt ≤ (6:Int)) rfl
      refine ev_loc f_X5_soundOf (nx := 17) rfl rfl rfl rfl ?_
      refine ev_lc f_X5_soundOf (nx := 18) (v := 0) rfl (by decide) rfl ?_
      refine ev_anyI f_X5_soundOf (nx := 19) rfl rfl rfl rfl (fun z5 => ?_)
      refine ev_if f_X5_soundOf (t1 := 65) (t2 := 22) rfl rfl rfl (fun h6 => ?_) (fun h6 => ?_)
      · have u7 : z5.toInt ≤ 0 := t_equ h6 (by decide : (0:Int32).toInt ≤ (0:Int))
        have l8 : 0 ≤ z5.toInt := t_eql h6 (by decide : (0:Int) ≤ (0:Int32).toInt)
        refine ev_loc f_X5_soundOf (nx := 66) rfl rfl rfl rfl ?_
        exact ev_ret f_X5_soundOf rfl rfl rfl ⟨_, _, _, rfl, hI, hX, ⟨_, rfl⟩⟩
      · refine ev_loc f_X5_soundOf (nx := 24) rfl rfl rfl rfl ?_
        refine ev_ldL f_X5_soundOf (nx := 27) (v := 32) rfl (by decide) rfl ?_
        refine ev_lremN f_X5_soundOf (nx := 28) rfl (by decide) rfl (fun z9 e9 => ?_)
        refine ev_ldL f_X5_soundOf (nx := 31) (v := 12) rfl (by decide) rfl ?_
        refine ev_anyI f_X5_soundOf (nx := 32) rfl rfl rfl rfl (fun z10 => ?_)
        refine ev_if f_X5_soundOf (t1 := 35) (t2 := 45) rfl rfl rfl (fun h11 => ?_) (fun h11 => ?_)
        · have u12 : z10.toInt ≤ 0 := t_equ h11 (by decide : (0:Int32).toInt ≤ (0:Int))
          have l13 : 0 ≤ z10.toInt := t_eql h11 (by decide : (0:Int) ≤ (0:Int32).toInt)
          refine ev_ldL f_X5_soundOf (nx := 38) (v := 7) rfl (by decide) rfl ?_
          refine ev_loc f_X5_soundOf (nx := 39) rfl rfl rfl rfl ?_
          refine ev_ic f_X5_soundOf (nx := 40) (v := 4) rfl (by decide) rfl ?_
          refine ev_anyL f_X5_soundOf (nx := 41) rfl rfl rfl rfl (fun z14 => ?_)
          refine ev_anyL f_X5_soundOf (nx := 42) rfl rfl rfl rfl (fun z15 => ?_)
          refine ev_jmp f_X5_soundOf (nx := 50) rfl rfl rfl ?_
          refine ev_loc f_X5_soundOf (nx := 51) (lo' := [(2, .long z15), (6, .int y1_6), (4, .long y1_4), (0, .long ar0)]) rfl rfl rfl rfl ?_
          refine ev_loc f_X5_soundOf (nx := 53) rfl rfl rfl rfl ?_
          refine ev_ldL f_X5_soundOf (nx := 56) (v := 32) rfl (by decide) rfl ?_
          refine ev_ldivN f_X5_soundOf (nx := 57) rfl (by decide) rfl (fun z16 e16 => ?_)
          refine ev_loc f_X5_soundOf (nx := 59) (lo' := [(4, .long z16), (2, .long z15), (6, .int y1_6), (0, .long ar0)]) rfl rfl rfl rfl ?_
          refine ev_incR f_X5_soundOf (nx := 62) (c := 1) (l := 1) (u := 6) rfl rfl (by decide) (by decide) l1_6 u4 rfl rfl (by decide) (by decide) rfl (fun z17 e17 l17 u17 => ?_)
          refine ev_jmp f_X5_soundOf (nx := 8) rfl rfl rfl ?_
          refine ev_sub (lo := [(6, .int z17), (4, .long z16), (2, .long z15), (0, .long ar0)]) rfl (t_sc rfl (t_sc rfl (t_sc rfl (t_sc rfl t_sn)))) ?_
          exact ih1 _ (by omega) gi1 gl1 gr1 (z17) (z16) (z15) hI hX  (Int.le_trans (by decide : (0:Int) ≤ 1) l17) u17 rfl
        · refine ev_lc f_X5_soundOf (nx := 46) (v := 1) rfl (by decide) rfl ?_
          refine ev_loc f_X5_soundOf (nx := 47) rfl rfl rfl rfl ?_
          refine ev_ic f_X5_soundOf (nx := 48) (v := 2) rfl (by decide) rfl ?_
          refine ev_anyL f_X5_soundOf (nx := 49) rfl rfl rfl rfl (fun z18 => ?_)
          refine ev_anyL f_X5_soundOf (nx := 50) rfl rfl rfl rfl (fun z19 => ?_)
          refine ev_loc f_X5_soundOf (nx := 51) (lo' := [(2, .long z19), (6, .int y1_6), (4, .long y1_4), (0, .long ar0)]) rfl rfl rfl rfl ?_
          refine ev_loc f_X5_soundOf (nx := 53) rfl rfl rfl rfl ?_
          refine ev_ldL f_X5_soundOf (nx := 56) (v := 32) rfl (by decide) rfl ?_
          refine ev_ldivN f_X5_soundOf (nx := 57) rfl (by decide) rfl (fun z20 e20 => ?_)
          refine ev_loc f_X5_soundOf (nx := 59) (lo' := [(4, .long z20), (2, .long z19), (6, .int y1_6), (0, .long ar0)]) rfl rfl rfl rfl ?_
          refine ev_incR f_X5_soundOf (nx := 62) (c := 1) (l := 1) (u := 6) rfl rfl (by decide) (by decide) l1_6 u4 rfl rfl (by decide) (by decide) rfl (fun z21 e21 l21 u21 => ?_)
          refine ev_jmp f_X5_soundOf (nx := 8) rfl rfl rfl ?_
          refine ev_sub (lo := [(6, .int z21), (4, .long z20), (2, .long z19), (0, .long ar0)]) rfl (t_sc rfl (t_sc rfl (t_sc rfl (t_sc rfl t_sn)))) ?_
          exact ih1 _ (by omega) gi1 gl1 gr1 (z21) (z20) (z19) hI hX  (Int.le_trans (by decide : (0:Int) ≤ 1) l21) u21 rfl
  refine ev_sub (lo := [(6, .int 0), (4, .long ar0), (2, .long 0), (0, .long ar0)]) rfl (t_sc rfl (t_sc rfl (t_sc rfl (t_sc rfl t_sn)))) ?_
  exact L1 _ gi gl gr (0) (ar0) (0) hI hX  (by decide : (0:Int) ≤ (0:Int32).toInt) (Int.le_trans (by decide : (0:Int32).toInt ≤ (0:Int)) (by decide : (0:Int) ≤ 6)) rfl
noncomputable def wl_heardOf : List (Nat × Nat) := []
theorem c_heardOf {X : x_Ext} {d : Nat} {sh : List (Nat ⊕ (Nat × Nat))} {gi : Nat → Nat → Int32} {gl : Nat → Nat → Int64} {gr : Nat → Nat → Value} (hI : t_I sh gi gr) (ar0 : Nat) (p_a0 : t_Rv sh gr ar0) (ar1 : Int32) : x_Me X (d + 2) n_X5_heardOf [.ref ar0, .int ar1] (sh, gi, gl, gr) (t_P wl_heardOf sh gi gl gr t_Rl) := by
  have hX : t_X wl_heardOf sh gi gl gr gi gl gr := t_X.rf
  refine me_i f_X5_heardOf p_a0.1 rfl rfl rfl ?_
  refine ev_loc f_X5_heardOf (nx := 1) rfl rfl rfl rfl ?_
  refine ev_if f_X5_heardOf (t1 := 28) (t2 := 4) rfl rfl rfl (fun h1 => ?_) (fun h1 => ?_)
  · have u2 : ar1.toInt ≤ (-1) := t_ltu h1 (by decide : (0:Int32).toInt ≤ (0:Int)) rfl
    refine ev_lc f_X5_heardOf (nx := 29) (v := 0) rfl (by decide) rfl ?_
    exact ev_ret f_X5_heardOf rfl rfl rfl ⟨_, _, _, rfl, hI, hX, ⟨_, rfl⟩⟩
  · have l3 : 0 ≤ ar1.toInt := t_lel (t_nlt h1) (by decide : (0:Int) ≤ (0:Int32).toInt)
    refine ev_loc f_X5_heardOf (nx := 5) rfl rfl rfl rfl ?_
    refine ev_loc f_X5_heardOf (nx := 6) rfl rfl rfl rfl ?_
    refine ev_getI f_X5_heardOf (nx := 9) rfl p_a0.1 rfl rfl rfl ?_
    obtain ⟨l4, u4⟩ := hI.b p_a0.1 (t_bdK rfl : t_bd 4 0 = some (0, 6))
    refine ev_if f_X5_heardOf (t1 := 28) (t2 := 12) rfl rfl rfl (fun h5 => ?_) (fun h5 => ?_)
    · refine ev_lc f_X5_heardOf (nx := 29) (v := 0) rfl (by decide) rfl ?_
      exact ev_ret f_X5_heardOf rfl rfl rfl ⟨_, _, _, rfl, hI, hX, ⟨_, rfl⟩⟩
    · have u6 : ar1.toInt ≤ 5 := t_ltu (t_nle h5) u4 rfl
      have l7 : 1 ≤ (gi ar0 0).toInt := t_ltl (t_nle h5) l3 rfl
      refine ev_loc f_X5_heardOf (nx := 13) rfl rfl rfl rfl ?_
      obtain ⟨a8, e8, s8, o8⟩ := p_a0.2.2.1
      refine ev_getR f_X5_heardOf (nx := 16) rfl p_a0.1 rfl rfl e8 rfl rfl ?_
      refine ev_loc f_X5_heardOf (nx := 17) rfl rfl rfl rfl ?_
      refine ev_laldT f_X5_heardOf (nx := 18) rfl s8 l3 (by decide) u6 (by decide) rfl (fun w9 e9 => ?_)
      refine ev_loc f_X5_heardOf (nx := 19) rfl rfl rfl rfl ?_
      refine ev_getI f_X5_heardOf (nx := 22) rfl p_a0.1 rfl rfl rfl ?_
      refine ev_inS2 f_X5_heardOf (nx := 25) (lo2 := [(0, .long w9), (2, .int (gi ar0 6))]) rfl rfl rfl rfl f_X5_withEcho rfl rfl rfl rfl ?_
      refine ev_loc f_X5_withEcho (nx := 1) rfl rfl rfl rfl ?_
      refine ev_loc f_X5_withEcho (nx := 2) rfl rfl rfl rfl ?_
      refine ev_loc f_X5_withEcho (nx := 3) rfl rfl rfl rfl ?_
      refine ev_anyL f_X5_withEcho (nx := 4) rfl rfl rfl rfl (fun z10 => ?_)
      refine ev_anyL f_X5_withEcho (nx := 5) rfl rfl rfl rfl (fun z11 => ?_)
      refine ev_retK1 f_X5_withEcho rfl rfl rfl ?_
      refine ev_jmp f_X5_heardOf (nx := 29) rfl rfl rfl ?_
      exact ev_ret f_X5_heardOf rfl rfl rfl ⟨_, _, _, rfl, hI, hX, ⟨_, rfl⟩⟩
noncomputable def wl_countBeats : List (Nat × Nat) := []
theorem c_countBeats {X : x_Ext} {d : Nat} {sh : List (Nat ⊕ (Nat × Nat))} {gi : Nat → Nat → Int32} {gl : Nat → Nat → Int64} {gr : Nat → Nat → Value} (hI : t_I sh gi gr) (ar0 : Nat) (p_a0 : t_Rv sh gr ar0) (ar1 : Int64) (ar2 : Int32) (ar3 : Int32) : x_Me X (d + 4) n_X5_countBeats [.ref ar0, .long ar1, .int ar2, .int ar3] (sh, gi, gl, gr) (t_P wl_countBeats sh gi gl gr (t_Ri (-2147483648) 2147483647)) := by
  have hX : t_X wl_countBeats sh gi gl gr gi gl gr := t_X.rf
  refine me_i f_X5_countBeats p_a0.1 rfl rfl rfl ?_
  refine ev_ic f_X5_countBeats (nx := 1) (v := 0) rfl (by decide) rfl ?_
  refine ev_loc f_X5_countBeats (nx := 3) (lo' := [(5, .int 0), (0, .ref ar0), (1, .long ar1), (3, .int ar2), (4, .int ar3)]) rfl rfl rfl rfl ?_
  refine ev_loc f_X5_countBeats (nx := 4) rfl rfl rfl rfl ?_
  refine ev_loc f_X5_countBeats (nx := 5) rfl rfl rfl rfl ?_
  refine ev_loc f_X5_countBeats (nx := 7) rfl rfl rfl rfl ?_
  refine ev_inV3 f_X5_countBeats (nx := 10) (lo2 := [(0, .ref ar0), (1, .int ar2), (2, .int ar3)]) rfl rfl rfl rfl f_X5_leastBeats p_a0.1 rfl rfl rfl rfl rfl ?_
  refine ev_loc f_X5_leastBeats (nx := 1) rfl rfl rfl rfl ?_
  refine ev_loc f_X5_leastBeats (nx := 2) rfl rfl rfl rfl ?_
  refine ev_if f_X5_leastBeats (t1 := 9) (t2 := 5) rfl rfl rfl (fun h1 => ?_) (fun h1 => ?_)
  · refine ev_ic f_X5_leastBeats (nx := 10) (v := 0) rfl (by decide) rfl ?_
    refine ev_retK1 f_X5_leastBeats rfl rfl rfl ?_
    refine ev_loc f_X5_countBeats (nx := 12) (lo' := [(6, .int 0), (5, .int 0), (0, .ref ar0), (1, .long ar1), (3, .int ar2), (4, .int ar3)]) rfl rfl rfl rfl ?_
    have L2 : ∀ (m2 : Nat) (gi2 : Nat → Nat → Int32) (gl2 : Nat → Nat → Int64) (gr2 : Nat → Nat → Value) (y2_6 : Int32) (y2_5 : Int32), t_I sh gi2 gr2 → t_X wl_countBeats sh gi gl gr gi2 gl2 gr2 → t_Rv sh gr2 ar0 → 0 ≤ y2_6.toInt → y2_6.toInt ≤ 13 → (13 - y2_6.toInt).toNat = m2 → x_Ev X (d + 4) n_X5_countBeats 12 [(6, .int y2_6), (5, .int y2_5), (0, .ref ar0), (1, .long ar1), (3, .int ar2), (4, .int ar3)] [] (sh, gi2, gl2, gr2) (t_P wl_countBeats sh gi gl gr (t_Ri (-2147483648) 2147483647)) := by
      intro m2
      induction m2 using Nat.strongRecOn with
      | _ m2 ih2 =>
      intro gi2 gl2 gr2 y2_6 y2_5 hI hX p_a0 l2_6 u2_6 hm2
      refine ev_loc f_X5_countBeats (nx := 14) rfl rfl rfl rfl ?_
      refine ev_bp f_X5_countBeats (nx := 16) (v := 12) rfl (by decide) rfl ?_
      refine ev_if f_X5_countBeats (t1 := 42) (t2 := 19) rfl rfl rfl (fun h3 => ?_) (fun h3 => ?_)
      · have l4 : 13 ≤ y2_6.toInt := t_ltl h3 (by decide : (12:Int) ≤ (12:Int32).toInt) rfl
        refine ev_loc f_X5_countBeats (nx := 44) rfl rfl rfl rfl ?_
        exact ev_ret f_X5_countBeats rfl rfl rfl ⟨_, _, _, rfl, hI, hX, ⟨_, rfl, (t_lo y2_5), (t_hi y2_5)⟩⟩
      · have u5 : y2_6.toInt ≤ 12 := t_leu (t_nlt h3) (by decide : (12:Int32).toInt ≤ (12:Int))
        refine ev_loc f_X5_countBeats (nx := 20) rfl rfl rfl rfl ?_
        refine ev_loc f_X5_countBeats (nx := 21) rfl rfl rfl rfl ?_
        refine ev_loc f_X5_countBeats (nx := 23) rfl rfl rfl rfl ?_
        refine ev_loc f_X5_countBeats (nx := 25) rfl rfl rfl rfl ?_
        refine ev_inV4 f_X5_countBeats (nx := 28) (lo2 := [(0, .ref ar0), (1, .int ar2), (2, .int ar3), (3, .int y2_6)]) rfl rfl rfl rfl f_X5_bothHeard p_a0.1 rfl rfl rfl rfl rfl ?_
        refine ev_loc f_X5_bothHeard (nx := 1) rfl rfl rfl rfl ?_
        refine ev_loc f_X5_bothHeard (nx := 2) rfl rfl rfl rfl ?_
        refine ev_cL f_X5_bothHeard (nx := 5) (r := []) rfl rfl rfl rfl rfl rfl rfl (c_heardOf hI (ar0) p_a0 (ar2)) rfl hX rfl (fun w6 gi6 gl6 gr6 hI hX hC6 => ?_)
        replace p_a0 := p_a0.ext hC6.2
        refine ev_loc f_X5_bothHeard (nx := 6) rfl rfl rfl rfl ?_
        refine ev_loc f_X5_bothHeard (nx := 7) rfl rfl rfl rfl ?_
        refine ev_cL f_X5_bothHeard (nx := 10) (r := [.long w6]) rfl rfl rfl rfl rfl rfl rfl (c_heardOf hI (ar0) p_a0 (ar3)) rfl hX rfl (fun w7 gi7 gl7 gr7 hI hX hC7 => ?_)
        replace p_a0 := p_a0.ext hC7.2
        refine ev_loc f_X5_bothHeard (nx := 11) rfl rfl rfl rfl ?_
        refine ev_anyL f_X5_bothHeard (nx := 12) rfl rfl rfl rfl (fun z8 => ?_)
        refine ev_anyL f_X5_bothHeard (nx := 13) rfl rfl rfl rfl (fun z9 => ?_)
        refine ev_retK1 f_X5_bothHeard rfl rfl rfl ?_
        refine ev_loc f_X5_countBeats (nx := 29) rfl rfl rfl rfl ?_
        refine ev_anyI f_X5_countBeats (nx := 30) rfl rfl rfl rfl (fun z10 => ?_)
        refine ev_if f_X5_countBeats (t1 := 33) (t2 := 36) rfl rfl rfl (fun h11 => ?_) (fun h11 => ?_)
        · have u12 : z10.toInt ≤ 0 := t_equ h11 (by decide : (0:Int32).toInt ≤ (0:Int))
          have l13 : 0 ≤ z10.toInt := t_eql h11 (by decide : (0:Int) ≤ (0:Int32).toInt)
          refine ev_incN f_X5_countBeats (nx := 36) rfl rfl (by decide) rfl (fun z14 => ?_)
          refine ev_incR f_X5_countBeats (nx := 39) (c := 1) (l := 1) (u := 13) rfl rfl (by decide) (by decide) l2_6 u5 rfl rfl (by decide) (by decide) rfl (fun z15 e15 l15 u15 => ?_)
          refine ev_jmp f_X5_countBeats (nx := 12) rfl rfl rfl ?_
          refine ev_sub (lo := [(6, .int z15), (5, .int z14), (0, .ref ar0), (1, .long ar1), (3, .int ar2), (4, .int ar3)]) rfl (t_sc rfl (t_sc rfl (t_sc rfl (t_sc rfl (t_sc rfl (t_sc rfl t_sn)))))) ?_
          exact ih2 _ (by omega) gi7 gl7 gr7 (z15) (z14) hI hX p_a0 (Int.le_trans (by decide : (0:Int) ≤ 1) l15) u15 rfl
        · refine ev_incR f_X5_countBeats (nx := 39) (c := 1) (l := 1) (u := 13) rfl rfl (by decide) (by decide) l2_6 u5 rfl rfl (by decide) (by decide) rfl (fun z16 e16 l16 u16 => ?_)
          refine ev_jmp f_X5_countBeats (nx := 12) rfl rfl rfl ?_
          refine ev_sub (lo := [(6, .int z16), (5, .int y2_5), (0, .ref ar0), (1, .long ar1), (3, .int ar2), (4, .int ar3)]) rfl (t_sc rfl (t_sc rfl (t_sc rfl (t_sc rfl (t_sc rfl (t_sc rfl t_sn)))))) ?_
          exact ih2 _ (by omega) gi7 gl7 gr7 (z16) (y2_5) hI hX p_a0 (Int.le_trans (by decide : (0:Int) ≤ 1) l16) u16 rfl
    refine ev_sub (lo := [(6, .int 0), (5, .int 0), (0, .ref ar0), (1, .long ar1), (3, .int ar2), (4, .int ar3)]) rfl (t_sc rfl (t_sc rfl (t_sc rfl (t_sc rfl (t_sc rfl (t_sc rfl t_sn)))))) ?_
    exact L2 _ gi gl gr (0) (0) hI hX p_a0 (by decide : (0:Int) ≤ (0:Int32).toInt) (Int.le_trans (by decide : (0:Int32).toInt ≤ (0:Int)) (by decide : (0:Int) ≤ 13)) rfl
  · have u17 : ar3.toInt ≤ 2147483646 := t_ltu (t_nle h1) (t_hi ar2) rfl
    have l18 : (-2147483647) ≤ ar2.toInt := t_ltl (t_nle h1) (t_lo ar3) rfl
    refine ev_ic f_X5_leastBeats (nx := 6) (v := 1) rfl (by decide) rfl ?_
    refine ev_jmp f_X5_leastBeats (nx := 10) rfl rfl rfl ?_
    refine ev_retK1 f_X5_leastBeats rfl rfl rfl ?_
    refine ev_loc f_X5_countBeats (nx := 12) (lo' := [(6, .int 1), (5, .int 0), (0, .ref ar0), (1, .long ar1), (3, .int ar2), (4, .int ar3)]) rfl rfl rfl rfl ?_
    have L19 : ∀ (m19 : Nat) (gi19 : Nat → Nat → Int32) (gl19 : Nat → Nat → Int64) (gr19 : Nat → Nat → Value) (y19_6 : Int32) (y19_5 : Int32), t_I sh gi19 gr19 → t_X wl_countBeats sh gi gl gr gi19 gl19 gr19 → t_Rv sh gr19 ar0 → 0 ≤ y19_6.toInt → y19_6.toInt ≤ 13 → (13 - y19_6.toInt).toNat = m19 → x_Ev X (d + 4) n_X5_countBeats 12 [(6, .int y19_6), (5, .int y19_5), (0, .ref ar0), (1, .long ar1), (3, .int ar2), (4, .int ar3)] [] (sh, gi19, gl19, gr19) (t_P wl_countBeats sh gi gl gr (t_Ri (-2147483648) 2147483647)) := by
      intro m19
      induction m19 using Nat.strongRecOn with
      | _ m19 ih19 =>
      intro gi19 gl19 gr19 y19_6 y19_5 hI hX p_a0 l19_6 u19_6 hm19
      refine ev_loc f_X5_countBeats (nx := 14) rfl rfl rfl rfl ?_
      refine ev_bp f_X5_countBeats (nx := 16) (v := 12) rfl (by decide) rfl ?_
      refine ev_if f_X5_countBeats (t1 := 42) (t2 := 19) rfl rfl rfl (fun h20 => ?_) (fun h20 => ?_)
      · have l21 : 13 ≤ y19_6.toInt := t_ltl h20 (by decide : (12:Int) ≤ (12:Int32).toInt) rfl
        refine ev_loc f_X5_countBeats (nx := 44) rfl rfl rfl rfl ?_
        exact ev_ret f_X5_countBeats rfl rfl rfl ⟨_, _, _, rfl, hI, hX, ⟨_, rfl, (t_lo y19_5), (t_hi y19_5)⟩⟩
      · have u22 : y19_6.toInt ≤ 12 := t_leu (t_nlt h20) (by decide : (12:Int32).toInt ≤ (12:Int))
        refine ev_loc f_X5_countBeats (nx := 20) rfl rfl rfl rfl ?_
        refine ev_loc f_X5_countBeats (nx := 21) rfl rfl rfl rfl ?_
        refine ev_loc f_X5_countBeats (nx := 23) rfl rfl rfl rfl ?_
        refine ev_loc f_X5_countBeats (nx := 25) rfl rfl rfl rfl ?_
        refine ev_inV4 f_X5_countBeats (nx := 28) (lo2 := [(0, .ref ar0), (1, .int ar2), (2, .int ar3), (3, .int y19_6)]) rfl rfl rfl rfl f_X5_bothHeard p_a0.1 rfl rfl rfl rfl rfl ?_
        refine ev_loc f_X5_bothHeard (nx := 1) rfl rfl rfl rfl ?_
        refine ev_loc f_X5_bothHeard (nx := 2) rfl rfl rfl rfl ?_
        refine ev_cL f_X5_bothHeard (nx := 5) (r := []) rfl rfl rfl rfl rfl rfl rfl (c_heardOf hI (ar0) p_a0 (ar2)) rfl hX rfl (fun w23 gi23 gl23 gr23 hI hX hC23 => ?_)
        replace p_a0 := p_a0.ext hC23.2
        refine ev_loc f_X5_bothHeard (nx := 6) rfl rfl rfl rfl ?_
        refine ev_loc f_X5_bothHeard (nx := 7) rfl rfl rfl rfl ?_
        refine ev_cL f_X5_bothHeard (nx := 10) (r := [.long w23]) rfl rfl rfl rfl rfl rfl rfl (c_heardOf hI (ar0) p_a0 (ar3)) rfl hX rfl (fun w24 gi24 gl24 gr24 hI hX hC24 => ?_)
        replace p_a0 := p_a0.ext hC24.2
        refine ev_loc f_X5_bothHeard (nx := 11) rfl rfl rfl rfl ?_
        refine ev_anyL f_X5_bothHeard (nx := 12) rfl rfl rfl rfl (fun z25 => ?_)
        refine ev_anyL f_X5_bothHeard (nx := 13) rfl rfl rfl rfl (fun z26 => ?_)
        refine ev_retK1 f_X5_bothHeard rfl rfl rfl ?_
        refine ev_loc f_X5_countBeats (nx := 29) rfl rfl rfl rfl ?_
        refine ev_anyI f_X5_countBeats (nx := 30) rfl rfl rfl rfl (fun z27 => ?_)
        refine ev_if f_X5_countBeats (t1 := 33) (t2 := 36) rfl rfl rfl (fun h28 => ?_) (fun h28 => ?_)
        · have u29 : z27.toInt ≤ 0 := t_equ h28 (by decide : (0:Int32).toInt ≤ (0:Int))
          have l30 : 0 ≤ z27.toInt := t_eql h28 (by decide : (0:Int) ≤ (0:Int32).toInt)
          refine ev_incN f_X5_countBeats (nx := 36) rfl rfl (by decide) rfl (fun z31 => ?_)
          refine ev_incR f_X5_countBeats (nx := 39) (c := 1) (l := 1) (u := 13) rfl rfl (by decide) (by decide) l19_6 u22 rfl rfl (by decide) (by decide) rfl (fun z32 e32 l32 u32 => ?_)
          refine ev_jmp f_X5_countBeats (nx := 12) rfl rfl rfl ?_
          refine ev_sub (lo := [(6, .int z32), (5, .int z31), (0, .ref ar0), (1, .long ar1), (3, .int ar2), (4, .int ar3)]) rfl (t_sc rfl (t_sc rfl (t_sc rfl (t_sc rfl (t_sc rfl (t_sc rfl t_sn)))))) ?_
          exact ih19 _ (by omega) gi24 gl24 gr24 (z32) (z31) hI hX p_a0 (Int.le_trans (by decide : (0:Int) ≤ 1) l32) u32 rfl
        · refine ev_incR f_X5_countBeats (nx := 39) (c := 1) (l := 1) (u := 13) rfl rfl (by decide) (by decide) l19_6 u22 rfl rfl (by decide) (by decide) rfl (fun z33 e33 l33 u33 => ?_)
          refine ev_jmp f_X5_countBeats (nx := 12) rfl rfl rfl ?_
          refine ev_sub (lo := [(6, .int z33), (5, .int y19_5), (0, .ref ar0), (1, .long ar1), (3, .int ar2), (4, .int ar3)]) rfl (t_sc rfl (t_sc rfl (t_sc rfl (t_sc rfl (t_sc rfl (t_sc rfl t_sn)))))) ?_
          exact ih19 _ (by omega) gi24 gl24 gr24 (z33) (y19_5) hI hX p_a0 (Int.le_trans (by decide : (0:Int) ≤ 1) l33) u33 rfl
    refine ev_sub (lo := [(6, .int 1), (5, .int 0), (0, .ref ar0), (1, .long ar1), (3, .int ar2), (4, .int ar3)]) rfl (t_sc rfl (t_sc rfl (t_sc rfl (t_sc rfl (t_sc rfl (t_sc rfl t_sn)))))) ?_
    exact L19 _ gi gl gr (1) (0) hI hX p_a0 (Int.le_trans (by decide : (0:Int) ≤ 1) (by decide : (1:Int) ≤ (1:Int32).toInt)) (Int.le_trans (by decide : (1:Int32).toInt ≤ (1:Int)) (by decide : (1:Int) ≤ 13)) rfl
noncomputable def wl_countReadings : List (Nat × Nat) := []
theorem c_countReadings {X : x_Ext} {d : Nat} {sh : List (Nat ⊕ (Nat × Nat))} {gi : Nat → Nat → Int32} {gl : Nat → Nat → Int64} {gr : Nat → Nat → Value} (hI : t_I sh gi gr) (ar0 : Nat) (p_a0 : t_Rv sh gr ar0) (ar1 : Int64) (ar2 : Int32) : x_Me X (d + 5) n_X5_countReadings [.ref ar0, .long ar1, .int ar2] (sh, gi, gl, gr) (t_P wl_countReadings sh gi gl gr (t_Ri (-2147483648) 2147483647)) := by
  have hX : t_X wl_countReadings sh gi gl gr gi gl gr := t_X.rf
  refine me_i f_X5_countReadings p_a0.1 rfl rfl rfl ?_
  refine ev_ic f_X5_countReadings (nx := 1) (v := 0) rfl (by decide) rfl ?_
  refine ev_loc f_X5_countReadings (nx := 3) (lo' := [(4, .int 0), (0, .ref ar0), (1, .long ar1), (3, .int ar2)]) rfl rfl rfl rfl ?_
  refine ev_ic f_X5_countReadings (nx := 4) (v := 0) rfl (by decide) rfl ?_
  refine ev_loc f_X5_countReadings (nx := 6) (lo' := [(5, .int 0), (4, .int 0), (0, .ref ar0), (1, .long ar1), (3, .int ar2)]) rfl rfl rfl rfl ?_
  have L1 : ∀ (m1 : Nat) (gi1 : Nat → Nat → Int32) (gl1 : Nat → Nat → Int64) (gr1 : Nat → Nat → Value) (y1_5 : Int32) (y1_4 : Int32), t_I sh gi1 gr1 → t_X wl_countReadings sh gi gl gr gi1 gl1 gr1 → t_Rv sh gr1 ar0 → 0 ≤ y1_5.toInt → y1_5.toInt ≤ 6 → (6 - y1_5.toInt).toNat = m1 → x_Ev X (d + 5) n_X5_countReadings 6 [(5, .int y1_5), (4, .int y1_4), (0, .ref ar0), (1, .long ar1), (3, .int ar2)] [] (sh, gi1, gl1, gr1) (t_P wl_countReadings sh gi gl gr (t_Ri (-2147483648) 2147483647)) := by
    intro m1
    induction m1 using Nat.strongRecOn with
    | _ m1 ih1 =>
    intro gi1 gl1 gr1 y1_5 y1_4 hI hX p_a0 l1_5 u1_5 hm1
    refine ev_loc f_X5_countReadings (nx := 8) rfl rfl rfl rfl ?_
    refine ev_loc f_X5_countReadings (nx := 9) rfl rfl rfl rfl ?_
    refine ev_getI f_X5_countReadings (nx := 12) rfl p_a0.1 rfl rfl rfl ?_
    obtain ⟨l2, u2⟩ := hI.b p_a0.1 (t_bdK rfl : t_bd 4 0 = some (0, 6))
    refine ev_if f_X5_countReadings (t1 := 95) (t2 := 15) rfl rfl rfl (fun h3 => ?_) (fun h3 => ?_)
    · refine ev_loc f_X5_countReadings (nx := 97) rfl rfl rfl rfl ?_
      exact ev_ret f_X5_countReadings rfl rfl rfl ⟨_, _, _, rfl, hI, hX, ⟨_, rfl, (t_lo y1_4), (t_hi y1_4)⟩⟩
    · have u4 : y1_5.toInt ≤ 5 := t_ltu (t_nle h3) u2 rfl
      have l5 : 1 ≤ (gi1 ar0 0).toInt := t_ltl (t_nle h3) l1_5 rfl
      refine ev_loc f_X5_countReadings (nx := 16) rfl rfl rfl rfl ?_
      refine ev_ic f_X5_countReadings (nx := 17) (v := -1) rfl (by decide) rfl ?_
      refine ev_if f_X5_countReadings (t1 := 26) (t2 := 20) rfl rfl rfl (fun h6 => ?_) (fun h6 => ?_)
      · have u7 : ar2.toInt ≤ (-1) := t_equ h6 (by decide : ((-1):Int32).toInt ≤ ((-1):Int))
        have l8 : (-1) ≤ ar2.toInt := t_eql h6 (by decide : ((-1):Int) ≤ ((-1):Int32).toInt)
        refine ev_loc f_X5_countReadings (nx := 27) rfl rfl rfl rfl ?_
        refine ev_loc f_X5_countReadings (nx := 29) rfl rfl rfl rfl ?_
        refine ev_cL f_X5_countReadings (nx := 32) (r := []) rfl rfl rfl rfl rfl rfl rfl (c_heardOf hI (ar0) p_a0 (y1_5)) rfl hX rfl (fun w9 gi9 gl9 gr9 hI hX hC9 => ?_)
        replace p_a0 := p_a0.ext hC9.2
        refine ev_loc f_X5_countReadings (nx := 33) rfl rfl rfl rfl ?_
        refine ev_anyI f_X5_countReadings (nx := 34) rfl rfl rfl rfl (fun z10 => ?_)
        refine ev_if f_X5_countReadings (t1 := 37) (t2 := 40) rfl rfl rfl (fun h11 => ?_) (fun h11 => ?_)
        · have u12 : z10.toInt ≤ 0 := t_equ h11 (by decide : (0:Int32).toInt ≤ (0:Int))
          have l13 : 0 ≤ z10.toInt := t_eql h11 (by decide : (0:Int) ≤ (0:Int32).toInt)
          refine ev_incN f_X5_countReadings (nx := 40) rfl rfl (by decide) rfl (fun z14 => ?_)
          refine ev_ic f_X5_countReadings (nx := 41) (v := 0) rfl (by decide) rfl ?_
          refine ev_loc f_X5_countReadings (nx := 43) (lo' := [(6, .int 0), (4, .int z14), (5, .int y1_5), (0, .ref ar0), (1, .long ar1), (3, .int ar2)]) rfl rfl rfl rfl ?_
          have L15 : ∀ (m15 : Nat) (gi15 : Nat → Nat → Int32) (gl15 : Nat → Nat → Int64) (gr15 : Nat → Nat → Value) (y15_6 : Int32) (y15_4 : Int32), t_I sh gi15 gr15 → t_X wl_countReadings sh gi gl gr gi15 gl15 gr15 → t_Rv sh gr15 ar0 → 0 ≤ y15_6.toInt → y15_6.toInt ≤ 6 → gi15 ar0 0 = (gi1 ar0 0) → (6 - y15_6.toInt).toNat = m15 → x_Ev X (d + 5) n_X5_countReadings 43 [(6, .int y15_6), (4, .int y15_4), (5, .int y1_5), (0, .ref ar0), (1, .long ar1), (3, .int ar2)] [] (sh, gi15, gl15, gr15) (t_P wl_countReadings sh gi gl gr (t_Ri (-2147483648) 2147483647)) := by
            intro m15
            induction m15 using Nat.strongRecOn with
            | _ m15 ih15 =>
            intro gi15 gl15 gr15 y15_6 y15_4 hI hX p_a0 l15_6 u15_6 c15_0 hm15
            refine ev_loc f_X5_countReadings (nx := 45) rfl rfl rfl rfl ?_
            refine ev_loc f_X5_countReadings (nx := 46) rfl rfl rfl rfl ?_
            refine ev_gvI f_X5_countReadings (nx := 49) (w := (gi1 ar0 0)) rfl p_a0.1 rfl rfl c15_0 rfl ?_
            refine ev_if f_X5_countReadings (t1 := 89) (t2 := 52) rfl rfl rfl (fun h16 => ?_) (fun h16 => ?_)
            · have l17 : 1 ≤ y15_6.toInt := t_lel h16 l5
              refine ev_incR f_X5_countReadings (nx := 92) (c := 1) (l := 1) (u := 6) rfl rfl (by decide) (by decide) l1_5 u4 rfl rfl (by decide) (by decide) rfl (fun z18 e18 l18 u18 => ?_)
              refine ev_jmp f_X5_countReadings (nx := 6) rfl rfl rfl ?_
              refine ev_sub (lo := [(5, .int z18), (4, .int y15_4), (0, .ref ar0), (1, .long ar1), (3, .int ar2)]) rfl (t_sc rfl (t_sc rfl (t_sc rfl (t_sc rfl (t_sc rfl t_sn))))) ?_
              exact ih1 _ (by omega) gi15 gl15 gr15 (z18) (y15_4) hI hX p_a0 (Int.le_trans (by decide : (0:Int) ≤ 1) l18) u18 rfl
            · have u19 : y15_6.toInt ≤ 5 := t_ltu (t_nle h16) u2 rfl
              refine ev_loc f_X5_countReadings (nx := 53) rfl rfl rfl rfl ?_
              refine ev_ic f_X5_countReadings (nx := 54) (v := -1) rfl (by decide) rfl ?_
              refine ev_t f_X5_countReadings (t1 := 69) (t2 := 57) rfl rfl rfl (t_eqT u7 l8 (by decide : ((-1):Int32).toInt ≤ ((-1):Int)) (by decide : ((-1):Int) ≤ ((-1):Int32).toInt)) ?_
              refine ev_loc f_X5_countReadings (nx := 71) rfl rfl rfl rfl ?_
              refine ev_loc f_X5_countReadings (nx := 72) rfl rfl rfl rfl ?_
              refine ev_loc f_X5_countReadings (nx := 73) rfl rfl rfl rfl ?_
              refine ev_loc f_X5_countReadings (nx := 75) rfl rfl rfl rfl ?_
              refine ev_loc f_X5_countReadings (nx := 77) rfl rfl rfl rfl ?_
              refine ev_cI f_X5_countReadings (nx := 80) (r := [.int y15_4]) rfl rfl rfl rfl rfl rfl rfl (c_countBeats hI (ar0) p_a0 (ar1) (y1_5) (y15_6)) rfl hX rfl (fun w20 gi20 gl20 gr20 l20 u20 hI hX hC20 => ?_)
              replace p_a0 := p_a0.ext hC20.2
              refine ev_anyI f_X5_countReadings (nx := 81) rfl rfl rfl rfl (fun z21 => ?_)
              refine ev_loc f_X5_countReadings (nx := 83) (lo' := [(4, .int z21), (6, .int y15_6), (5, .int y1_5), (0, .ref ar0), (1, .long ar1), (3, .int ar2)]) rfl rfl rfl rfl ?_
              refine ev_incR f_X5_countReadings (nx := 86) (c := 1) (l := 1) (u := 6) rfl rfl (by decide) (by decide) l15_6 u19 rfl rfl (by decide) (by decide) rfl (fun z22 e22 l22 u22 => ?_)
              refine ev_jmp f_X5_countReadings (nx := 43) rfl rfl rfl ?_
              refine ev_sub (lo := [(6, .int z22), (4, .int z21), (5, .int y1_5), (0, .ref ar0), (1, .long ar1), (3, .int ar2)]) rfl (t_sc rfl (t_sc rfl (t_sc rfl (t_sc rfl (t_sc rfl (t_sc rfl t_sn)))))) ?_
              exact ih15 _ (by omega) gi20 gl20 gr20 (z22) (z21) hI hX p_a0 (Int.le_trans (by decide : (0:Int) ≤ 1) l22) u22 ((hC20.1 ar0 0 (t_ninO hI.wf p_a0.1 (t_outO hI.wf p_a0.1 rfl) rfl)).1.trans c15_0) rfl
          refine ev_sub (lo := [(6, .int 0), (4, .int z14), (5, .int y1_5), (0, .ref ar0), (1, .long ar1), (3, .int ar2)]) rfl (t_sc rfl (t_sc rfl (t_sc rfl (t_sc rfl (t_sc rfl (t_sc rfl t_sn)))))) ?_
          exact L15 _ gi9 gl9 gr9 (0) (z14) hI hX p_a0 (by decide : (0:Int) ≤ (0:Int32).toInt) (Int.le_trans (by decide : (0:Int32).toInt ≤ (0:Int)) (by decide : (0:Int) ≤ 6)) ((hC9.1 ar0 0 (t_ninO hI.wf p_a0.1 (t_outO hI.wf p_a0.1 rfl) rfl)).1.trans rfl) rfl
        · refine ev_ic f_X5_countReadings (nx := 41) (v := 0) rfl (by decide) rfl ?_
          refine ev_loc f_X5_countReadings (nx := 43) (lo' := [(6, .int 0), (5, .int y1_5), (4, .int y1_4), (0, .ref ar0), (1, .long ar1), (3, .int ar2)]) rfl rfl rfl rfl ?_
          have L23 : ∀ (m23 : Nat) (gi23 : Nat → Nat → Int32) (gl23 : Nat → Nat → Int64) (gr23 : Nat → Nat → Value) (y23_6 : Int32) (y23_4 : Int32), t_I sh gi23 gr23 → t_X wl_countReadings sh gi gl gr gi23 gl23 gr23 → t_Rv sh gr23 ar0 → 0 ≤ y23_6.toInt → y23_6.toInt ≤ 6 → gi23 ar0 0 = (gi1 ar0 0) → (6 - y23_6.toInt).toNat = m23 → x_Ev X (d + 5) n_X5_countReadings 43 [(6, .int y23_6), (5, .int y1_5), (4, .int y23_4), (0, .ref ar0), (1, .long ar1), (3, .int ar2)] [] (sh, gi23, gl23, gr23) (t_P wl_countReadings sh gi gl gr (t_Ri (-2147483648) 2147483647)) := by
            intro m23
            induction m23 using Nat.strongRecOn with
            | _ m23 ih23 =>
            intro gi23 gl23 gr23 y23_6 y23_4 hI hX p_a0 l23_6 u23_6 c23_0 hm23
            refine ev_loc f_X5_countReadings (nx := 45) rfl rfl rfl rfl ?_
            refine ev_loc f_X5_countReadings (nx := 46) rfl rfl rfl rfl ?_
            refine ev_gvI f_X5_countReadings (nx := 49) (w := (gi1 ar0 0)) rfl p_a0.1 rfl rfl c23_0 rfl ?_
            refine ev_if f_X5_countReadings (t1 := 89) (t2 := 52) rfl rfl rfl (fun h24 => ?_) (fun h24 => ?_)
            · have l25 : 1 ≤ y23_6.toInt := t_lel h24 l5
              refine ev_incR f_X5_countReadings (nx := 92) (c := 1) (l := 1) (u := 6) rfl rfl (by decide) (by decide) l1_5 u4 rfl rfl (by decide) (by decide) rfl (fun z26 e26 l26 u26 => ?_)
              refine ev_jmp f_X5_countReadings (nx := 6) rfl rfl rfl ?_
              refine ev_sub (lo := [(5, .int z26), (4, .int y23_4), (0, .ref ar0), (1, .long ar1), (3, .int ar2)]) rfl (t_sc rfl (t_sc rfl (t_sc rfl (t_sc rfl (t_sc rfl t_sn))))) ?_
              exact ih1 _ (by omega) gi23 gl23 gr23 (z26) (y23_4) hI hX p_a0 (Int.le_trans (by decide : (0:Int) ≤ 1) l26) u26 rfl
            · have u27 : y23_6.toInt ≤ 5 := t_ltu (t_nle h24) u2 rfl
              refine ev_loc f_X5_countReadings (nx := 53) rfl rfl rfl rfl ?_
              refine ev_ic f_X5_countReadings (nx := 54) (v := -1) rfl (by decide) rfl ?_
              refine ev_t f_X5_countReadings (t1 := 69) (t2 := 57) rfl rfl rfl (t_eqT u7 l8 (by decide : ((-1):Int32).toInt ≤ ((-1):Int)) (by decide : ((-1):Int) ≤ ((-1):Int32).toInt)) ?_
              refine ev_loc f_X5_countReadings (nx := 71) rfl rfl rfl rfl ?_
              refine ev_loc f_X5_countReadings (nx := 72) rfl rfl rfl rfl ?_
              refine ev_loc f_X5_countReadings (nx := 73) rfl rfl rfl rfl ?_
              refine ev_loc f_X5_countReadings (nx := 75) rfl rfl rfl rfl ?_
              refine ev_loc f_X5_countReadings (nx := 77) rfl rfl rfl rfl ?_
              refine ev_cI f_X5_countReadings (nx := 80) (r := [.int y23_4]) rfl rfl rfl rfl rfl rfl rfl (c_countBeats hI (ar0) p_a0 (ar1) (y1_5) (y23_6)) rfl hX rfl (fun w28 gi28 gl28 gr28 l28 u28 hI hX hC28 => ?_)
              replace p_a0 := p_a0.ext hC28.2
              refine ev_anyI f_X5_countReadings (nx := 81) rfl rfl rfl rfl (fun z29 => ?_)
              refine ev_loc f_X5_countReadings (nx := 83) (lo' := [(4, .int z29), (6, .int y23_6), (5, .int y1_5), (0, .ref ar0), (1, .long ar1), (3, .int ar2)]) rfl rfl rfl rfl ?_
              refine ev_incR f_X5_countReadings (nx := 86) (c := 1) (l := 1) (u := 6) rfl rfl (by decide) (by decide) l23_6 u27 rfl rfl (by decide) (by decide) rfl (fun z30 e30 l30 u30 => ?_)
              refine ev_jmp f_X5_countReadings (nx := 43) rfl rfl rfl ?_
              refine ev_sub (lo := [(6, .int z30), (5, .int y1_5), (4, .int z29), (0, .ref ar0), (1, .long ar1), (3, .int ar2)]) rfl (t_sc rfl (t_sc rfl (t_sc rfl (t_sc rfl (t_sc rfl (t_sc rfl t_sn)))))) ?_
              exact ih23 _ (by omega) gi28 gl28 gr28 (z30) (z29) hI hX p_a0 (Int.le_trans (by decide : (0:Int) ≤ 1) l30) u30 ((hC28.1 ar0 0 (t_ninO hI.wf p_a0.1 (t_outO hI.wf p_a0.1 rfl) rfl)).1.trans c23_0) rfl
          refine ev_sub (lo := [(6, .int 0), (5, .int y1_5), (4, .int y1_4), (0, .ref ar0), (1, .long ar1), (3, .int ar2)]) rfl (t_sc rfl (t_sc rfl (t_sc rfl (t_sc rfl (t_sc rfl (t_sc rfl t_sn)))))) ?_
          exact L23 _ gi9 gl9 gr9 (0) (y1_4) hI hX p_a0 (by decide : (0:Int) ≤ (0:Int32).toInt) (Int.le_trans (by decide : (0:Int32).toInt ≤ (0:Int)) (by decide : (0:Int) ≤ 6)) ((hC9.1 ar0 0 (t_ninO hI.wf p_a0.1 (t_outO hI.wf p_a0.1 rfl) rfl)).1.trans rfl) rfl
      · refine ev_loc f_X5_countReadings (nx := 21) rfl rfl rfl rfl ?_
        refine ev_loc f_X5_countReadings (nx := 23) rfl rfl rfl rfl ?_
        refine ev_if f_X5_countReadings (t1 := 26) (t2 := 40) rfl rfl rfl (fun h31 => ?_) (fun h31 => ?_)
        · have u32 : ar2.toInt ≤ 5 := t_equ h31 u4
          have l33 : 0 ≤ ar2.toInt := t_eql h31 l1_5
          refine ev_loc f_X5_countReadings (nx := 27) rfl rfl rfl rfl ?_
          refine ev_loc f_X5_countReadings (nx := 29) rfl rfl rfl rfl ?_
          refine ev_cL f_X5_countReadings (nx := 32) (r := []) rfl rfl rfl rfl rfl rfl rfl (c_heardOf hI (ar0) p_a0 (y1_5)) rfl hX rfl (fun w34 gi34 gl34 gr34 hI hX hC34 => ?_)
          replace p_a0 := p_a0.ext hC34.2
          refine ev_loc f_X5_countReadings (nx := 33) rfl rfl rfl rfl ?_
          refine ev_anyI f_X5_countReadings (nx := 34) rfl rfl rfl rfl (fun z35 => ?_)
          refine ev_if f_X5_countReadings (t1 := 37) (t2 := 40) rfl rfl rfl (fun h36 => ?_) (fun h36 => ?_)
          · have u37 : z35.toInt ≤ 0 := t_equ h36 (by decide : (0:Int32).toInt ≤ (0:Int))
            have l38 : 0 ≤ z35.toInt := t_eql h36 (by decide : (0:Int) ≤ (0:Int32).toInt)
            refine ev_incN f_X5_countReadings (nx := 40) rfl rfl (by decide) rfl (fun z39 => ?_)
            refine ev_ic f_X5_countReadings (nx := 41) (v := 0) rfl (by decide) rfl ?_
            refine ev_loc f_X5_countReadings (nx := 43) (lo' := [(6, .int 0), (4, .int z39), (5, .int y1_5), (0, .ref ar0), (1, .long ar1), (3, .int ar2)]) rfl rfl rfl rfl ?_
            have L40 : ∀ (m40 : Nat) (gi40 : Nat → Nat → Int32) (gl40 : Nat → Nat → Int64) (gr40 : Nat → Nat → Value) (y40_6 : Int32) (y40_4 : Int32), t_I sh gi40 gr40 → t_X wl_countReadings sh gi gl gr gi40 gl40 gr40 → t_Rv sh gr40 ar0 → 0 ≤ y40_6.toInt → y40_6.toInt ≤ 6 → gi40 ar0 0 = (gi1 ar0 0) → (6 - y40_6.toInt).toNat = m40 → x_Ev X (d + 5) n_X5_countReadings 43 [(6, .int y40_6), (4, .int y40_4), (5, .int y1_5), (0, .ref ar0), (1, .long ar1), (3, .int ar2)] [] (sh, gi40, gl40, gr40) (t_P wl_countReadings sh gi gl gr (t_Ri (-2147483648) 2147483647)) := by
              intro m40
              induction m40 using Nat.strongRecOn with
              | _ m40 ih40 =>
              intro gi40 gl40 gr40 y40_6 y40_4 hI hX p_a0 l40_6 u40_6 c40_0 hm40
              refine ev_loc f_X5_countReadings (nx := 45) rfl rfl rfl rfl ?_
              refine ev_loc f_X5_countReadings (nx := 46) rfl rfl rfl rfl ?_
              refine ev_gvI f_X5_countReadings (nx := 49) (w := (gi1 ar0 0)) rfl p_a0.1 rfl rfl c40_0 rfl ?_
              refine ev_if f_X5_countReadings (t1 := 89) (t2 := 52) rfl rfl rfl (fun h41 => ?_) (fun h41 => ?_)
              · have l42 : 1 ≤ y40_6.toInt := t_lel h41 l5
                refine ev_incR f_X5_countReadings (nx := 92) (c := 1) (l := 1) (u := 6) rfl rfl (by decide) (by decide) l1_5 u4 rfl rfl (by decide) (by decide) rfl (fun z43 e43 l43 u43 => ?_)
                refine ev_jmp f_X5_countReadings (nx := 6) rfl rfl rfl ?_
                refine ev_sub (lo := [(5, .int z43), (4, .int y40_4), (0, .ref ar0), (1, .long ar1), (3, .int ar2)]) rfl (t_sc rfl (t_sc rfl (t_sc rfl (t_sc rfl (t_sc rfl t_sn))))) ?_
                exact ih1 _ (by omega) gi40 gl40 gr40 (z43) (y40_4) hI hX p_a0 (Int.le_trans (by decide : (0:Int) ≤ 1) l43) u43 rfl
              · have u44 : y40_6.toInt ≤ 5 := t_ltu (t_nle h41) u2 rfl
                refine ev_loc f_X5_countReadings (nx := 53) rfl rfl rfl rfl ?_
                refine ev_ic f_X5_countReadings (nx := 54) (v := -1) rfl (by decide) rfl ?_
                refine ev_f f_X5_countReadings (t1 := 69) (t2 := 57) rfl rfl rfl (t_neT' (by decide : ((-1):Int32).toInt ≤ ((-1):Int)) l33 (by decide)) ?_
                refine ev_loc f_X5_countReadings (nx := 58) rfl rfl rfl rfl ?_
                refine ev_loc f_X5_countReadings (nx := 60) rfl rfl rfl rfl ?_
                refine ev_if f_X5_countReadings (t1 := 69) (t2 := 63) rfl rfl rfl (fun h45 => ?_) (fun h45 => ?_)
                · refine ev_loc f_X5_countReadings (nx := 71) rfl rfl rfl rfl ?_
                  refine ev_loc f_X5_countReadings (nx := 72) rfl rfl rfl rfl ?_
                  refine ev_loc f_X5_countReadings (nx := 73) rfl rfl rfl rfl ?_
                  refine ev_loc f_X5_countReadings (nx := 75) rfl rfl rfl rfl ?_
                  refine ev_loc f_X5_countReadings (nx := 77) rfl rfl rfl rfl ?_
                  refine ev_cI f_X5_countReadings (nx := 80) (r := [.int y40_4]) rfl rfl rfl rfl rfl rfl rfl (c_countBeats hI (ar0) p_a0 (ar1) (y1_5) (y40_6)) rfl hX rfl (fun w46 gi46 gl46 gr46 l46 u46 hI hX hC46 => ?_)
                  replace p_a0 := p_a0.ext hC46.2
                  refine ev_anyI f_X5_countReadings (nx := 81) rfl rfl rfl rfl (fun z47 => ?_)
                  refine ev_loc f_X5_countReadings (nx := 83) (lo' := [(4, .int z47), (6, .int y40_6), (5, .int y1_5), (0, .ref ar0), (1, .long ar1), (3, .int ar2)]) rfl rfl rfl rfl ?_
                  refine ev_incR f_X5_countReadings (nx := 86) (c := 1) (l := 1) (u := 6) rfl rfl (by decide) (by decide) l40_6 u44 rfl rfl (by decide) (by decide) rfl (fun z48 e48 l48 u48 => ?_)
                  refine ev_jmp f_X5_countReadings (nx := 43) rfl rfl rfl ?_
                  refine ev_sub (lo := [(6, .int z48), (4, .int z47), (5, .int y1_5), (0, .ref ar0), (1, .long ar1), (3, .int ar2)]) rfl (t_sc rfl (t_sc rfl (t_sc rfl (t_sc rfl (t_sc rfl (t_sc rfl t_sn)))))) ?_
                  exact ih40 _ (by omega) gi46 gl46 gr46 (z48) (z47) hI hX p_a0 (Int.le_trans (by decide : (0:Int) ≤ 1) l48) u48 ((hC46.1 ar0 0 (t_ninO hI.wf p_a0.1 (t_outO hI.wf p_a0.1 rfl) rfl)).1.trans c40_0) rfl
                · refine ev_loc f_X5_countReadings (nx := 64) rfl rfl rfl rfl ?_
                  refine ev_loc f_X5_countReadings (nx := 66) rfl rfl rfl rfl ?_
                  refine ev_if f_X5_countReadings (t1 := 69) (t2 := 83) rfl rfl rfl (fun h49 => ?_) (fun h49 => ?_)
                  · refine ev_loc f_X5_countReadings (nx := 71) rfl rfl rfl rfl ?_
                    refine ev_loc f_X5_countReadings (nx := 72) rfl rfl rfl rfl ?_
                    refine ev_loc f_X5_countReadings (nx := 73) rfl rfl rfl rfl ?_
                    refine ev_loc f_X5_countReadings (nx := 75) rfl rfl rfl rfl ?_
                    refine ev_loc f_X5_countReadings (nx := 77) rfl rfl rfl rfl ?_
                    refine ev_cI f_X5_countReadings (nx := 80) (r := [.int y40_4]) rfl rfl rfl rfl rfl rfl rfl (c_countBeats hI (ar0) p_a0 (ar1) (y1_5) (y40_6)) rfl hX rfl (fun w50 gi50 gl50 gr50 l50 u50 hI hX hC50 => ?_)
                    replace p_a0 := p_a0.ext hC50.2
                    refine ev_anyI f_X5_countReadings (nx := 81) rfl rfl rfl rfl (fun z51 => ?_)
                    refine ev_loc f_X5_countReadings (nx := 83) (lo' := [(4, .int z51), (6, .int y40_6), (5, .int y1_5), (0, .ref ar0), (1, .long ar1), (3, .int ar2)]) rfl rfl rfl rfl ?_
                    refine ev_incR f_X5_countReadings (nx := 86) (c := 1) (l := 1) (u := 6) rfl rfl (by decide) (by decide) l40_6 u44 rfl rfl (by decide) (by decide) rfl (fun z52 e52 l52 u52 => ?_)
                    refine ev_jmp f_X5_countReadings (nx := 43) rfl rfl rfl ?_
                    refine ev_sub (lo := [(6, .int z52), (4, .int z51), (5, .int y1_5), (0, .ref ar0), (1, .long ar1), (3, .int ar2)]) rfl (t_sc rfl (t_sc rfl (t_sc rfl (t_sc rfl (t_sc rfl (t_sc rfl t_sn)))))) ?_
                    exact ih40 _ (by omega) gi50 gl50 gr50 (z52) (z51) hI hX p_a0 (Int.le_trans (by decide : (0:Int) ≤ 1) l52) u52 ((hC50.1 ar0 0 (t_ninO hI.wf p_a0.1 (t_outO hI.wf p_a0.1 rfl) rfl)).1.trans c40_0) rfl
                  · refine ev_incR f_X5_countReadings (nx := 86) (c := 1) (l := 1) (u := 6) rfl rfl (by decide) (by decide) l40_6 u44 rfl rfl (by decide) (by decide) rfl (fun z53 e53 l53 u53 => ?_)
                    refine ev_jmp f_X5_countReadings (nx := 43) rfl rfl rfl ?_
                    refine ev_sub (lo := [(6, .int z53), (4, .int y40_4), (5, .int y1_5), (0, .ref ar0), (1, .long ar1), (3, .int ar2)]) rfl (t_sc rfl (t_sc rfl (t_sc rfl (t_sc rfl (t_sc rfl (t_sc rfl t_sn)))))) ?_
                    exact ih40 _ (by omega) gi40 gl40 gr40 (z53) (y40_4) hI hX p_a0 (Int.le_trans (by decide : (0:Int) ≤ 1) l53) u53 c40_0 rfl
            refine ev_sub (lo := [(6, .int 0), (4, .int z39), (5, .int y1_5), (0, .ref ar0), (1, .long ar1), (3, .int ar2)]) rfl (t_sc rfl (t_sc rfl (t_sc rfl (t_sc rfl (t_sc rfl (t_sc rfl t_sn)))))) ?_
            exact L40 _ gi34 gl34 gr34 (0) (z39) hI hX p_a0 (by decide : (0:Int) ≤ (0:Int32).toInt) (Int.le_trans (by decide : (0:Int32).toInt ≤ (0:Int)) (by decide : (0:Int) ≤ 6)) ((hC34.1 ar0 0 (t_ninO hI.wf p_a0.1 (t_outO hI.wf p_a0.1 rfl) rfl)).1.trans rfl) rfl
          · refine ev_ic f_X5_countReadings (nx := 41) (v := 0) rfl (by decide) rfl ?_
            refine ev_loc f_X5_countReadings (nx := 43) (lo' := [(6, .int 0), (5, .int y1_5), (4, .int y1_4), (0, .ref ar0), (1, .long ar1), (3, .int ar2)]) rfl rfl rfl rfl ?_
            have L54 : ∀ (m54 : Nat) (gi54 : Nat → Nat → Int32) (gl54 : Nat → Nat → Int64) (gr54 : Nat → Nat → Value) (y54_6 : Int32) (y54_4 : Int32), t_I sh gi54 gr54 → t_X wl_countReadings sh gi gl gr gi54 gl54 gr54 → t_Rv sh gr54 ar0 → 0 ≤ y54_6.toInt → y54_6.toInt ≤ 6 → gi54 ar0 0 = (gi1 ar0 0) → (6 - y54_6.toInt).toNat = m54 → x_Ev X (d + 5) n_X5_countReadings 43 [(6, .int y54_6), (5, .int y1_5), (4, .int y54_4), (0, .ref ar0), (1, .long ar1), (3, .int ar2)] [] (sh, gi54, gl54, gr54) (t_P wl_countReadings sh gi gl gr (t_Ri (-2147483648) 2147483647)) := by
              intro m54
              induction m54 using Nat.strongRecOn with
              | _ m54 ih54 =>
              intro gi54 gl54 gr54 y54_6 y54_4 hI hX p_a0 l54_6 u54_6 c54_0 hm54
              refine ev_loc f_X5_countReadings (nx := 45) rfl rfl rfl rfl ?_
              refine ev_loc f_X5_countReadings (nx := 46) rfl rfl rfl rfl ?_
              refine ev_gvI f_X5_countReadings (nx := 49) (w := (gi1 ar0 0)) rfl p_a0.1 rfl rfl c54_0 rfl ?_
              refine ev_if f_X5_countReadings (t1 := 89) (t2 := 52) rfl rfl rfl (fun h55 => ?_) (fun h55 => ?_)
              · have l56 : 1 ≤ y54_6.toInt := t_lel h55 l5
                refine ev_incR f_X5_countReadings (nx := 92) (c := 1) (l := 1) (u := 6) rfl rfl (by decide) (by decide) l1_5 u4 rfl rfl (by decide) (by decide) rfl (fun z57 e57 l57 u57 => ?_)
                refine ev_jmp f_X5_countReadings (nx := 6) rfl rfl rfl ?_
                refine ev_sub (lo := [(5, .int z57), (4, .int y54_4), (0, .ref ar0), (1, .long ar1), (3, .int ar2)]) rfl (t_sc rfl (t_sc rfl (t_sc rfl (t_sc rfl (t_sc rfl t_sn))))) ?_
                exact ih1 _ (by omega) gi54 gl54 gr54 (z57) (y54_4) hI hX p_a0 (Int.le_trans (by decide : (0:Int) ≤ 1) l57) u57 rfl
              · have u58 : y54_6.toInt ≤ 5 := t_ltu (t_nle h55) u2 rfl
                refine ev_loc f_X5_countReadings (nx := 53) rfl rfl rfl rfl ?_
                refine ev_ic f_X5_countReadings (nx := 54) (v := -1) rfl (by decide) rfl ?_
                refine ev_f f_X5_countReadings (t1 := 69) (t2 := 57) rfl rfl rfl (t_neT' (by decide : ((-1):Int32).toInt ≤ ((-1):Int)) l33 (by decide)) ?_
                refine ev_loc f_X5_countReadings (nx := 58) rfl rfl rfl rfl ?_
                refine ev_loc f_X5_countReadings (nx := 60) rfl rfl rfl rfl ?_
                refine ev_if f_X5_countReadings (t1 := 69) (t2 := 63) rfl rfl rfl (fun h59 => ?_) (fun h59 => ?_)
                · refine ev_loc f_X5_countReadings (nx := 71) rfl rfl rfl rfl ?_
                  refine ev_loc f_X5_countReadings (nx := 72) rfl rfl rfl rfl ?_
                  refine ev_loc f_X5_countReadings (nx := 73) rfl rfl rfl rfl ?_
                  refine ev_loc f_X5_countReadings (nx := 75) rfl rfl rfl rfl ?_
                  refine ev_loc f_X5_countReadings (nx := 77) rfl rfl rfl rfl ?_
                  refine ev_cI f_X5_countReadings (nx := 80) (r := [.int y54_4]) rfl rfl rfl rfl rfl rfl rfl (c_countBeats hI (ar0) p_a0 (ar1) (y1_5) (y54_6)) rfl hX rfl (fun w60 gi60 gl60 gr60 l60 u60 hI hX hC60 => ?_)
                  replace p_a0 := p_a0.ext hC60.2
                  refine ev_anyI f_X5_countReadings (nx := 81) rfl rfl rfl rfl (fun z61 => ?_)
                  refine ev_loc f_X5_countReadings (nx := 83) (lo' := [(4, .int z61), (6, .int y54_6), (5, .int y1_5), (0, .ref ar0), (1, .long ar1), (3, .int ar2)]) rfl rfl rfl rfl ?_
                  refine ev_incR f_X5_countReadings (nx := 86) (c := 1) (l := 1) (u := 6) rfl rfl (by decide) (by decide) l54_6 u58 rfl rfl (by decide) (by decide) rfl (fun z62 e62 l62 u62 => ?_)
                  refine ev_jmp f_X5_countReadings (nx := 43) rfl rfl rfl ?_
                  refine ev_sub (lo := [(6, .int z62), (5, .int y1_5), (4, .int z61), (0, .ref ar0), (1, .long ar1), (3, .int ar2)]) rfl (t_sc rfl (t_sc rfl (t_sc rfl (t_sc rfl (t_sc rfl (t_sc rfl t_sn)))))) ?_
                  exact ih54 _ (by omega) gi60 gl60 gr60 (z62) (z61) hI hX p_a0 (Int.le_trans (by decide : (0:Int) ≤ 1) l62) u62 ((hC60.1 ar0 0 (t_ninO hI.wf p_a0.1 (t_outO hI.wf p_a0.1 rfl) rfl)).1.trans c54_0) rfl
                · refine ev_loc f_X5_countReadings (nx := 64) rfl rfl rfl rfl ?_
                  refine ev_loc f_X5_countReadings (nx := 66) rfl rfl rfl rfl ?_
                  refine ev_if f_X5_countReadings (t1 := 69) (t2 := 83) rfl rfl rfl (fun h63 => ?_) (fun h63 => ?_)
                  · refine ev_loc f_X5_countReadings (nx := 71) rfl rfl rfl rfl ?_
                    refine ev_loc f_X5_countReadings (nx := 72) rfl rfl rfl rfl ?_
                    refine ev_loc f_X5_countReadings (nx := 73) rfl rfl rfl rfl ?_
                    refine ev_loc f_X5_countReadings (nx := 75) rfl rfl rfl rfl ?_
                    refine ev_loc f_X5_countReadings (nx := 77) rfl rfl rfl rfl ?_
                    refine ev_cI f_X5_countReadings (nx := 80) (r := [.int y54_4]) rfl rfl rfl rfl rfl rfl rfl (c_countBeats hI (ar0) p_a0 (ar1) (y1_5) (y54_6)) rfl hX rfl (fun w64 gi64 gl64 gr64 l64 u64 hI hX hC64 => ?_)
                    replace p_a0 := p_a0.ext hC64.2
                    refine ev_anyI f_X5_countReadings (nx := 81) rfl rfl rfl rfl (fun z65 => ?_)
                    refine ev_loc f_X5_countReadings (nx := 83) (lo' := [(4, .int z65), (6, .int y54_6), (5, .int y1_5), (0, .ref ar0), (1, .long ar1), (3, .int ar2)]) rfl rfl rfl rfl ?_
                    refine ev_incR f_X5_countReadings (nx := 86) (c := 1) (l := 1) (u := 6) rfl rfl (by decide) (by decide) l54_6 u58 rfl rfl (by decide) (by decide) rfl (fun z66 e66 l66 u66 => ?_)
                    refine ev_jmp f_X5_countReadings (nx := 43) rfl rfl rfl ?_
                    refine ev_sub (lo := [(6, .int z66), (5, .int y1_5), (4, .int z65), (0, .ref ar0), (1, .long ar1), (3, .int ar2)]) rfl (t_sc rfl (t_sc rfl (t_sc rfl (t_sc rfl (t_sc rfl (t_sc rfl t_sn)))))) ?_
                    exact ih54 _ (by omega) gi64 gl64 gr64 (z66) (z65) hI hX p_a0 (Int.le_trans (by decide : (0:Int) ≤ 1) l66) u66 ((hC64.1 ar0 0 (t_ninO hI.wf p_a0.1 (t_outO hI.wf p_a0.1 rfl) rfl)).1.trans c54_0) rfl
                  · refine ev_incR f_X5_countReadings (nx := 86) (c := 1) (l := 1) (u := 6) rfl rfl (by decide) (by decide) l54_6 u58 rfl rfl (by decide) (by decide) rfl (fun z67 e67 l67 u67 => ?_)
                    refine ev_jmp f_X5_countReadings (nx := 43) rfl rfl rfl ?_
                    refine ev_sub (lo := [(6, .int z67), (5, .int y1_5), (4, .int y54_4), (0, .ref ar0), (1, .long ar1), (3, .int ar2)]) rfl (t_sc rfl (t_sc rfl (t_sc rfl (t_sc rfl (t_sc rfl (t_sc rfl t_sn)))))) ?_
                    exact ih54 _ (by omega) gi54 gl54 gr54 (z67) (y54_4) hI hX p_a0 (Int.le_trans (by decide : (0:Int) ≤ 1) l67) u67 c54_0 rfl
            refine ev_sub (lo := [(6, .int 0), (5, .int y1_5), (4, .int y1_4), (0, .ref ar0), (1, .long ar1), (3, .int ar2)]) rfl (t_sc rfl (t_sc rfl (t_sc rfl (t_sc rfl (t_sc rfl (t_sc rfl t_sn)))))) ?_
            exact L54 _ gi34 gl34 gr34 (0) (y1_4) hI hX p_a0 (by decide : (0:Int) ≤ (0:Int32).toInt) (Int.le_trans (by decide : (0:Int32).toInt ≤ (0:Int)) (by decide : (0:Int) ≤ 6)) ((hC34.1 ar0 0 (t_ninO hI.wf p_a0.1 (t_outO hI.wf p_a0.1 rfl) rfl)).1.trans rfl) rfl
        · refine ev_ic f_X5_countReadings (nx := 41) (v := 0) rfl (by decide) rfl ?_
          refine ev_loc f_X5_countReadings (nx := 43) (lo' := [(6, .int 0), (5, .int y1_5), (4, .int y1_4), (0, .ref ar0), (1, .long ar1), (3, .int ar2)]) rfl rfl rfl rfl ?_
          have L68 : ∀ (m68 : Nat) (gi68 : Nat → Nat → Int32) (gl68 : Nat → Nat → Int64) (gr68 : Nat → Nat → Value) (y68_6 : Int32) (y68_4 : Int32), t_I sh gi68 gr68 → t_X wl_countReadings sh gi gl gr gi68 gl68 gr68 → t_Rv sh gr68 ar0 → 0 ≤ y68_6.toInt → y68_6.toInt ≤ 6 → gi68 ar0 0 = (gi1 ar0 0) → (6 - y68_6.toInt).toNat = m68 → x_Ev X (d + 5) n_X5_countReadings 43 [(6, .int y68_6), (5, .int y1_5), (4, .int y68_4), (0, .ref ar0), (1, .long ar1), (3, .int ar2)] [] (sh, gi68, gl68, gr68) (t_P wl_countReadings sh gi gl gr (t_Ri (-2147483648) 2147483647)) := by
            intro m68
            induction m68 using Nat.strongRecOn with
            | _ m68 ih68 =>
            intro gi68 gl68 gr68 y68_6 y68_4 hI hX p_a0 l68_6 u68_6 c68_0 hm68
            refine ev_loc f_X5_countReadings (nx := 45) rfl rfl rfl rfl ?_
            refine ev_loc f_X5_countReadings (nx := 46) rfl rfl rfl rfl ?_
            refine ev_gvI f_X5_countReadings (nx := 49) (w := (gi1 ar0 0)) rfl p_a0.1 rfl rfl c68_0 rfl ?_
            refine ev_if f_X5_countReadings (t1 := 89) (t2 := 52) rfl rfl rfl (fun h69 => ?_) (fun h69 => ?_)
            · have l70 : 1 ≤ y68_6.toInt := t_lel h69 l5
              refine ev_incR f_X5_countReadings (nx := 92) (c := 1) (l := 1) (u := 6) rfl rfl (by decide) (by decide) l1_5 u4 rfl rfl (by decide) (by decide) rfl (fun z71 e71 l71 u71 => ?_)
              refine ev_jmp f_X5_countReadings (nx := 6) rfl rfl rfl ?_
              refine ev_sub (lo := [(5, .int z71), (4, .int y68_4), (0, .ref ar0), (1, .long ar1), (3, .int ar2)]) rfl (t_sc rfl (t_sc rfl (t_sc rfl (t_sc rfl (t_sc rfl t_sn))))) ?_
              exact ih1 _ (by omega) gi68 gl68 gr68 (z71) (y68_4) hI hX p_a0 (Int.le_trans (by decide : (0:Int) ≤ 1) l71) u71 rfl
            · have u72 : y68_6.toInt ≤ 5 := t_ltu (t_nle h69) u2 rfl
              refine ev_loc f_X5_countReadings (nx := 53) rfl rfl rfl rfl ?_
              refine ev_ic f_X5_countReadings (nx := 54) (v := -1) rfl (by decide) rfl ?_
              refine ev_if f_X5_countReadings (t1 := 69) (t2 := 57) rfl rfl rfl (fun h73 => ?_) (fun h73 => ?_)
              · have u74 : ar2.toInt ≤ (-1) := t_equ h73 (by decide : ((-1):Int32).toInt ≤ ((-1):Int))
                have l75 : (-1) ≤ ar2.toInt := t_eql h73 (by decide : ((-1):Int) ≤ ((-1):Int32).toInt)
                refine ev_loc f_X5_countReadings (nx := 71) rfl rfl rfl rfl ?_
                refine ev_loc f_X5_countReadings (nx := 72) rfl rfl rfl rfl ?_
                refine ev_loc f_X5_countReadings (nx := 73) rfl rfl rfl rfl ?_
                refine ev_loc f_X5_countReadings (nx := 75) rfl rfl rfl rfl ?_
                refine ev_loc f_X5_countReadings (nx := 77) rfl rfl rfl rfl ?_
                refine ev_cI f_X5_countReadings (nx := 80) (r := [.int y68_4]) rfl rfl rfl rfl rfl rfl rfl (c_countBeats hI (ar0) p_a0 (ar1) (y1_5) (y68_6)) rfl hX rfl (fun w76 gi76 gl76 gr76 l76 u76 hI hX hC76 => ?_)
                replace p_a0 := p_a0.ext hC76.2
                refine ev_anyI f_X5_countReadings (nx := 81) rfl rfl rfl rfl (fun z77 => ?_)
                refine ev_loc f_X5_countReadings (nx := 83) (lo' := [(4, .int z77), (6, .int y68_6), (5, .int y1_5), (0, .ref ar0), (1, .long ar1), (3, .int ar2)]) rfl rfl rfl rfl ?_
                refine ev_incR f_X5_countReadings (nx := 86) (c := 1) (l := 1) (u := 6) rfl rfl (by decide) (by decide) l68_6 u72 rfl rfl (by decide) (by decide) rfl (fun z78 e78 l78 u78 => ?_)
                refine ev_jmp f_X5_countReadings (nx := 43) rfl rfl rfl ?_
                refine ev_sub (lo := [(6, .int z78), (5, .int y1_5), (4, .int z77), (0, .ref ar0), (1, .long ar1), (3, .int ar2)]) rfl (t_sc rfl (t_sc rfl (t_sc rfl (t_sc rfl (t_sc rfl (t_sc rfl t_sn)))))) ?_
                exact ih68 _ (by omega) gi76 gl76 gr76 (z78) (z77) hI hX p_a0 (Int.le_trans (by decide : (0:Int) ≤ 1) l78) u78 ((hC76.1 ar0 0 (t_ninO hI.wf p_a0.1 (t_outO hI.wf p_a0.1 rfl) rfl)).1.trans c68_0) rfl
              · refine ev_loc f_X5_countReadings (nx := 58) rfl rfl rfl rfl ?_
                refine ev_loc f_X5_countReadings (nx := 60) rfl rfl rfl rfl ?_
                refine ev_if f_X5_countReadings (t1 := 69) (t2 := 63) rfl rfl rfl (fun h79 => ?_) (fun h79 => ?_)
                · have u80 : ar2.toInt ≤ 5 := t_equ h79 u4
                  have l81 : 0 ≤ ar2.toInt := t_eql h79 l1_5
                  refine ev_loc f_X5_countReadings (nx := 71) rfl rfl rfl rfl ?_
                  refine ev_loc f_X5_countReadings (nx := 72) rfl rfl rfl rfl ?_
                  refine ev_loc f_X5_countReadings (nx := 73) rfl rfl rfl rfl ?_
                  refine ev_loc f_X5_countReadings (nx := 75) rfl rfl rfl rfl ?_
                  refine ev_loc f_X5_countReadings (nx := 77) rfl rfl rfl rfl ?_
                  refine ev_cI f_X5_countReadings (nx := 80) (r := [.int y68_4]) rfl rfl rfl rfl rfl rfl rfl (c_countBeats hI (ar0) p_a0 (ar1) (y1_5) (y68_6)) rfl hX rfl (fun w82 gi82 gl82 gr82 l82 u82 hI hX hC82 => ?_)
                  replace p_a0 := p_a0.ext hC82.2
                  refine ev_anyI f_X5_countReadings (nx := 81) rfl rfl rfl rfl (fun z83 => ?_)
                  refine ev_loc f_X5_countReadings (nx := 83) (lo' := [(4, .int z83), (6, .int y68_6), (5, .int y1_5), (0, .ref ar0), (1, .long ar1), (3, .int ar2)]) rfl rfl rfl rfl ?_
                  refine ev_incR f_X5_countReadings (nx := 86) (c := 1) (l := 1) (u := 6) rfl rfl (by decide) (by decide) l68_6 u72 rfl rfl (by decide) (by decide) rfl (fun z84 e84 l84 u84 => ?_)
                  refine ev_jmp f_X5_countReadings (nx := 43) rfl rfl rfl ?_
                  refine ev_sub (lo := [(6, .int z84), (5, .int y1_5), (4, .int z83), (0, .ref ar0), (1, .long ar1), (3, .int ar2)]) rfl (t_sc rfl (t_sc rfl (t_sc rfl (t_sc rfl (t_sc rfl (t_sc rfl t_sn)))))) ?_
                  exact ih68 _ (by omega) gi82 gl82 gr82 (z84) (z83) hI hX p_a0 (Int.le_trans (by decide : (0:Int) ≤ 1) l84) u84 ((hC82.1 ar0 0 (t_ninO hI.wf p_a0.1 (t_outO hI.wf p_a0.1 rfl) rfl)).1.trans c68_0) rfl
                · refine ev_loc f_X5_countReadings (nx := 64) rfl rfl rfl rfl ?_
                  refine ev_loc f_X5_countReadings (nx := 66) rfl rfl rfl rfl ?_
                  refine ev_if f_X5_countReadings (t1 := 69) (t2 := 83) rfl rfl rfl (fun h85 => ?_) (fun h85 => ?_)
                  · have u86 : ar2.toInt ≤ 5 := t_equ h85 u72
                    have l87 : 0 ≤ ar2.toInt := t_eql h85 l68_6
                    refine ev_loc f_X5_countReadings (nx := 71) rfl rfl rfl rfl ?_
                    refine ev_loc f_X5_countReadings (nx := 72) rfl rfl rfl rfl ?_
                    refine ev_loc f_X5_countReadings (nx := 73) rfl rfl rfl rfl ?_
                    refine ev_loc f_X5_countReadings (nx := 75) rfl rfl rfl rfl ?_
                    refine ev_loc f_X5_countReadings (nx := 77) rfl rfl rfl rfl ?_
                    refine ev_cI f_X5_countReadings (nx := 80) (r := [.int y68_4]) rfl rfl rfl rfl rfl rfl rfl (c_countBeats hI (ar0) p_a0 (ar1) (y1_5) (y68_6)) rfl hX rfl (fun w88 gi88 gl88 gr88 l88 u88 hI hX hC88 => ?_)
                    replace p_a0 := p_a0.ext hC88.2
                    refine ev_anyI f_X5_countReadings (nx := 81) rfl rfl rfl rfl (fun z89 => ?_)
                    refine ev_loc f_X5_countReadings (nx := 83) (lo' := [(4, .int z89), (6, .int y68_6), (5, .int y1_5), (0, .ref ar0), (1, .long ar1), (3, .int ar2)]) rfl rfl rfl rfl ?_
                    refine ev_incR f_X5_countReadings (nx := 86) (c := 1) (l := 1) (u := 6) rfl rfl (by decide) (by decide) l68_6 u72 rfl rfl (by decide) (by decide) rfl (fun z90 e90 l90 u90 => ?_)
                    refine ev_jmp f_X5_countReadings (nx := 43) rfl rfl rfl ?_
                    refine ev_sub (lo := [(6, .int z90), (5, .int y1_5), (4, .int z89), (0, .ref ar0), (1, .long ar1), (3, .int ar2)]) rfl (t_sc rfl (t_sc rfl (t_sc rfl (t_sc rfl (t_sc rfl (t_sc rfl t_sn)))))) ?_
                    exact ih68 _ (by omega) gi88 gl88 gr88 (z90) (z89) hI hX p_a0 (Int.le_trans (by decide : (0:Int) ≤ 1) l90) u90 ((hC88.1 ar0 0 (t_ninO hI.wf p_a0.1 (t_outO hI.wf p_a0.1 rfl) rfl)).1.trans c68_0) rfl
                  · refine ev_incR f_X5_countReadings (nx := 86) (c := 1) (l := 1) (u := 6) rfl rfl (by decide) (by decide) l68_6 u72 rfl rfl (by decide) (by decide) rfl (fun z91 e91 l91 u91 => ?_)
                    refine ev_jmp f_X5_countReadings (nx := 43) rfl rfl rfl ?_
                    refine ev_sub (lo := [(6, .int z91), (5, .int y1_5), (4, .int y68_4), (0, .ref ar0), (1, .long ar1), (3, .int ar2)]) rfl (t_sc rfl (t_sc rfl (t_sc rfl (t_sc rfl (t_sc rfl (t_sc rfl t_sn)))))) ?_
                    exact ih68 _ (by omega) gi68 gl68 gr68 (z91) (y68_4) hI hX p_a0 (Int.le_trans (by decide : (0:Int) ≤ 1) l91) u91 c68_0 rfl
          refine ev_sub (lo := [(6, .int 0), (5, .int y1_5), (4, .int y1_4), (0, .ref ar0), (1, .long ar1), (3, .int ar2)]) rfl (t_sc rfl (t_sc rfl (t_sc rfl (t_sc rfl (t_sc rfl (t_sc rfl t_sn)))))) ?_
          exact L68 _ gi1 gl1 gr1 (0) (y1_4) hI hX p_a0 (by decide : (0:Int) ≤ (0:Int32).toInt) (Int.le_trans (by decide : (0:Int32).toInt ≤ (0:Int)) (by decide : (0:Int) ≤ 6)) rfl rfl
  refine ev_sub (lo := [(5, .int 0), (4, .int 0), (0, .ref ar0), (1, .long ar1), (3, .int ar2)]) rfl (t_sc rfl (t_sc rfl (t_sc rfl (t_sc rfl (t_sc rfl t_sn))))) ?_
  exact L1 _ gi gl gr (0) (0) hI hX p_a0 (by decide : (0:Int) ≤ (0:Int32).toInt) (Int.le_trans (by decide : (0:Int32).toInt ≤ (0:Int)) (by decide : (0:Int) ≤ 6)) rfl
