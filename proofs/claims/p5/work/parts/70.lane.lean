def wl_put : List (Nat × Nat) := [(7, 9999), (8, 9999), (9, 9999), (10, 9999), (11, 9999), (12, 9999), (14, 9999), (15, 9999), (16, 9999), (17, 9999), (18, 9999), (30, 9999), (31, 9999), (32, 9999), (33, 9999), (34, 9999), (36, 9999), (37, 9999), (38, 9999), (39, 9999), (40, 9999), (43, 9999), (44, 9999), (47, 9999), (48, 9999), (49, 9999), (50, 9999), (51, 9999), (53, 9999), (54, 9999), (55, 9999), (56, 9999), (57, 9999), (58, 9999), (59, 9999), (102, 9999)]
theorem c_put {X : x_Ext} {d : Nat} {sh : List (Nat ⊕ (Nat × Nat))} {gi : Nat → Nat → Int32} {gl : Nat → Nat → Int64} {gr : Nat → Nat → Value} (hI : t_I sh gi gr) (ar0 : Nat) (p_a0 : t_Ln sh gr ar0) (ar1 : Int32) (ar2 : Int32) (ar3 : Int32) (ar4 : Int32) (ar5 : Int32) (ar6 : Int32) : x_Me X (d + 1) n_X4_put [.ref ar0, .int ar1, .int ar2, .int ar3, .int ar4, .int ar5, .int ar6] (sh, gi, gl, gr) (t_P wl_put sh gi gl gr t_Rn) := by
  have hX : t_X wl_put sh gi gl gr gi gl gr := t_X.rf
  refine me_i f_X4_put p_a0.1 rfl rfl rfl ?_
  refine ev_loc f_X4_put (nx := 1) rfl rfl rfl rfl ?_
  refine ev_if f_X4_put (t1 := 10) (t2 := 4) rfl rfl rfl (fun h1 => ?_) (fun h1 => ?_)
  · have u2 : ar1.toInt ≤ (-1) := t_ltu h1 (by decide : (0:Int32).toInt ≤ (0:Int)) rfl
    exact ev_ret f_X4_put rfl rfl rfl ⟨_, _, _, rfl, hI, hX, rfl⟩
  · have l3 : 0 ≤ ar1.toInt := t_lel (t_nlt h1) (by decide : (0:Int) ≤ (0:Int32).toInt)
    refine ev_loc f_X4_put (nx := 5) rfl rfl rfl rfl ?_
    refine ev_bp f_X4_put (nx := 7) (v := 6) rfl (by decide) rfl ?_
    refine ev_if f_X4_put (t1 := 11) (t2 := 10) rfl rfl rfl (fun h4 => ?_) (fun h4 => ?_)
    · have u5 : ar1.toInt ≤ 5 := t_ltu h4 (by decide : (6:Int32).toInt ≤ (6:Int)) rfl
      refine ev_loc f_X4_put (nx := 12) rfl rfl rfl rfl ?_
      obtain ⟨a6, e6, s6, o6⟩ := p_a0.2.1
      refine ev_getR f_X4_put (nx := 15) rfl p_a0.1 rfl rfl e6 rfl rfl ?_
      refine ev_loc f_X4_put (nx := 16) rfl rfl rfl rfl ?_
      refine ev_loc f_X4_put (nx := 17) rfl rfl rfl rfl ?_
      refine ev_iastT f_X4_put (nx := 18) rfl s6 l3 (by decide) u5 (by decide) rfl (hI.astO s6 o6 (by decide +kernel)) (hX.upI (t_inOA hI.wf s6 o6 rfl)) (fun g7 e7 hI hX => ?_)
      refine ev_loc f_X4_put (nx := 19) rfl rfl rfl rfl ?_
      obtain ⟨a8, e8, s8, o8⟩ := p_a0.2.2.1
      refine ev_getR f_X4_put (nx := 22) rfl p_a0.1 rfl rfl e8 rfl rfl ?_
      refine ev_loc f_X4_put (nx := 23) rfl rfl rfl rfl ?_
      refine ev_loc f_X4_put (nx := 24) rfl rfl rfl rfl ?_
      refine ev_iastT f_X4_put (nx := 25) rfl s8 l3 (by decide) u5 (by decide) rfl (hI.astO s8 o8 (by decide +kernel)) (hX.upI (t_inOA hI.wf s8 o8 rfl)) (fun g9 e9 hI hX => ?_)
      refine ev_loc f_X4_put (nx := 26) rfl rfl rfl rfl ?_
      obtain ⟨a10, e10, s10, o10⟩ := p_a0.2.2.2.1
      refine ev_getR f_X4_put (nx := 29) rfl p_a0.1 rfl rfl e10 rfl rfl ?_
      refine ev_loc f_X4_put (nx := 30) rfl rfl rfl rfl ?_
      refine ev_loc f_X4_put (nx := 32) rfl rfl rfl rfl ?_
      refine ev_iastT f_X4_put (nx := 33) rfl s10 l3 (by decide) u5 (by decide) rfl (hI.astO s10 o10 (by decide +kernel)) (hX.upI (t_inOA hI.wf s10 o10 rfl)) (fun g11 e11 hI hX => ?_)
      refine ev_loc f_X4_put (nx := 34) rfl rfl rfl rfl ?_
      obtain ⟨a12, e12, s12, o12⟩ := p_a0.2.2.2.2.1
      refine ev_getR f_X4_put (nx := 37) rfl p_a0.1 rfl rfl e12 rfl rfl ?_
      refine ev_loc f_X4_put (nx := 38) rfl rfl rfl rfl ?_
      refine ev_loc f_X4_put (nx := 40) rfl rfl rfl rfl ?_
      refine ev_iastT f_X4_put (nx := 41) rfl s12 l3 (by decide) u5 (by decide) rfl (hI.astO s12 o12 (by decide +kernel)) (hX.upI (t_inOA hI.wf s12 o12 rfl)) (fun g13 e13 hI hX => ?_)
      refine ev_loc f_X4_put (nx := 42) rfl rfl rfl rfl ?_
      obtain ⟨a14, e14, s14, o14⟩ := p_a0.2.2.2.2.2
      refine ev_getR f_X4_put (nx := 45) rfl p_a0.1 rfl rfl e14 rfl rfl ?_
      refine ev_loc f_X4_put (nx := 46) rfl rfl rfl rfl ?_
      refine ev_loc f_X4_put (nx := 48) rfl rfl rfl rfl ?_
      refine ev_zastT f_X4_put (nx := 49) rfl s14 l3 (by decide) u5 (by decide) rfl (fun x _ _ => (hI.astO s14 o14 (by decide +kernel))) (fun x => hX.upI (t_inOA hI.wf s14 o14 rfl)) (fun g15 x15 e15 hI hX => ?_)
      exact ev_ret f_X4_put rfl rfl rfl ⟨_, _, _, rfl, hI, hX, rfl⟩
    · have l16 : 6 ≤ ar1.toInt := t_lel (t_nlt h4) (by decide : (6:Int) ≤ (6:Int32).toInt)
      exact ev_ret f_X4_put rfl rfl rfl ⟨_, _, _, rfl, hI, hX, rfl⟩
def wl_clear : List (Nat × Nat) := [(6, 0), (13, 0), (29, 0), (35, 0), (46, 0), (52, 0), (102, 0)]
theorem c_clear {X : x_Ext} {d : Nat} {sh : List (Nat ⊕ (Nat × Nat))} {gi : Nat → Nat → Int32} {gl : Nat → Nat → Int64} {gr : Nat → Nat → Value} (hI : t_I sh gi gr) (ar0 : Nat) (p_a0 : t_Ln sh gr ar0) : x_Me X (d + 1) n_X4_clear [.ref ar0] (sh, gi, gl, gr) (t_P wl_clear sh gi gl gr t_Rn) := by
  have hX : t_X wl_clear sh gi gl gr gi gl gr := t_X.rf
  refine me_i f_X4_clear p_a0.1 rfl rfl rfl ?_
  refine ev_loc f_X4_clear (nx := 1) rfl rfl rfl rfl ?_
  refine ev_ic f_X4_clear (nx := 2) (v := 0) rfl (by decide) rfl ?_
  refine ev_putIT f_X4_clear (nx := 5) rfl p_a0.1 rfl rfl rfl (hI.putB p_a0.1 rfl rfl (by decide : (0:Int) ≤ (0:Int32).toInt) (by decide) (by decide : (0:Int32).toInt ≤ (0:Int)) (by decide)) (hX.upI (t_inO hI.wf p_a0.1 (t_outO hI.wf p_a0.1 rfl) rfl)) (fun g1 e1 hI hX => ?_)
  exact ev_ret f_X4_clear rfl rfl rfl ⟨_, _, _, rfl, hI, hX, rfl⟩
def wl_join : List (Nat × Nat) := [(6, 0), (7, 9999), (8, 9999), (9, 9999), (10, 9999), (11, 9999), (12, 9999), (13, 0), (14, 9999), (15, 9999), (16, 9999), (17, 9999), (18, 9999), (29, 0), (30, 9999), (31, 9999), (32, 9999), (33, 9999), (34, 9999), (35, 0), (36, 9999), (37, 9999), (38, 9999), (39, 9999), (40, 9999), (43, 9999), (44, 9999), (46, 0), (47, 9999), (48, 9999), (49, 9999), (50, 9999), (51, 9999), (52, 0), (53, 9999), (54, 9999), (55, 9999), (56, 9999), (57, 9999), (58, 9999), (59, 9999), (102, 0), (102, 9999)]
theorem c_join {X : x_Ext} {d : Nat} {sh : List (Nat ⊕ (Nat × Nat))} {gi : Nat → Nat → Int32} {gl : Nat → Nat → Int64} {gr : Nat → Nat → Value} (hI : t_I sh gi gr) (ar0 : Nat) (p_a0 : t_Ln sh gr ar0) (ar1 : Nat) (p_a1 : t_Ln sh gr ar1) (ar2 : Int32) (ar3 : Int32) : x_Me X (d + 2) n_X4_join [.ref ar0, .ref ar1, .int ar2, .int ar3] (sh, gi, gl, gr) (t_P wl_join sh gi gl gr t_Rn) := by
  have hX : t_X wl_join sh gi gl gr gi gl gr := t_X.rf
  refine me_i f_X4_join p_a0.1 rfl rfl rfl ?_
  refine ev_loc f_X4_join (nx := 1) rfl rfl rfl rfl ?_
  refine ev_getI f_X4_join (nx := 4) rfl p_a0.1 rfl rfl rfl ?_
  obtain ⟨l1, u1⟩ := hI.b p_a0.1 (rfl : t_bd 3 0 = some (0, 6))
  refine ev_bp f_X4_join (nx := 6) (v := 6) rfl (by decide) rfl ?_
  refine ev_if f_X4_join (t1 := 21) (t2 := 9) rfl rfl rfl (fun h2 => ?_) (fun h2 => ?_)
  · have l3 : 6 ≤ (gi ar0 0).toInt := t_lel h2 (by decide : (6:Int) ≤ (6:Int32).toInt)
    exact ev_ret f_X4_join rfl rfl rfl ⟨_, _, _, rfl, hI, hX, rfl⟩
  · have u4 : (gi ar0 0).toInt ≤ 5 := t_ltu (t_nle h2) (by decide : (6:Int32).toInt ≤ (6:Int)) rfl
    refine ev_loc f_X4_join (nx := 10) rfl rfl rfl rfl ?_
    refine ev_if f_X4_join (t1 := 21) (t2 := 13) rfl rfl rfl (fun h5 => ?_) (fun h5 => ?_)
    · have u6 : ar2.toInt ≤ (-1) := t_ltu h5 (by decide : (0:Int32).toInt ≤ (0:Int)) rfl
      exact ev_ret f_X4_join rfl rfl rfl ⟨_, _, _, rfl, hI, hX, rfl⟩
    · have l7 : 0 ≤ ar2.toInt := t_lel (t_nlt h5) (by decide : (0:Int) ≤ (0:Int32).toInt)
      refine ev_loc f_X4_join (nx := 14) rfl rfl rfl rfl ?_
      refine ev_loc f_X4_join (nx := 15) rfl rfl rfl rfl ?_
      refine ev_getI f_X4_join (nx := 18) rfl p_a1.1 rfl rfl rfl ?_
      obtain ⟨l8, u8⟩ := hI.b p_a1.1 (rfl : t_bd 3 0 = some (0, 6))
      refine ev_if f_X4_join (t1 := 22) (t2 := 21) rfl rfl rfl (fun h9 => ?_) (fun h9 => ?_)
      · have u10 : ar2.toInt ≤ 5 := t_ltu h9 u8 rfl
        have l11 : 1 ≤ (gi ar1 0).toInt := t_ltl h9 l7 rfl
        refine ev_loc f_X4_join (nx := 23) rfl rfl rfl rfl ?_
        refine ev_gvI f_X4_join (nx := 26) (w := (gi ar0 0)) rfl p_a0.1 rfl rfl rfl rfl ?_
        refine ev_loc f_X4_join (nx := 28) (lo' := [(4, .int (gi ar0 0)), (0, .ref ar0), (1, .ref ar1), (2, .int ar2), (3, .int ar3)]) rfl rfl rfl rfl ?_
        refine ev_loc f_X4_join (nx := 29) rfl rfl rfl rfl ?_
        refine ev_alu f_X4_join (nx := 30) rfl rfl rfl rfl ?_
        refine ev_gvI f_X4_join (nx := 33) (w := (gi ar0 0)) rfl p_a0.1 rfl rfl rfl rfl ?_
        refine ev_ic f_X4_join (nx := 34) (v := 1) rfl (by decide) rfl ?_
        refine ev_addR f_X4_join (nx := 35) (l := 1) (u := 6) rfl l1 u4 (by decide : (1:Int) ≤ (1:Int32).toInt) (by decide : (1:Int32).toInt ≤ (1:Int)) rfl rfl (by decide) (by decide) rfl (fun z12 e12 l12 u12 => ?_)
        refine ev_putIT f_X4_join (nx := 38) rfl p_a0.1 rfl rfl rfl (hI.putB p_a0.1 rfl rfl l12 (by decide) u12 (by decide)) (hX.upI (t_inO hI.wf p_a0.1 (t_outO hI.wf p_a0.1 rfl) rfl)) (fun g13 e13 hI hX => ?_)
        have L14 : ∀ (m14 : Nat) (gi14 : Nat → Nat → Int32) (gl14 : Nat → Nat → Int64) (gr14 : Nat → Nat → Value) (y14_4 : Int32), t_I sh gi14 gr14 → t_X wl_join sh gi gl gr gi14 gl14 gr14 → t_Ln sh gr14 ar0 → t_Ln sh gr14 ar1 → 0 ≤ y14_4.toInt → y14_4.toInt ≤ 5 → (y14_4.toInt - 0).toNat = m14 → x_Ev X (d + 2) n_X4_join 38 [(4, .int y14_4), (0, .ref ar0), (1, .ref ar1), (2, .int ar2), (3, .int ar3)] [] (sh, gi14, gl14, gr14) (t_P wl_join sh gi gl gr t_Rn) := by
          intro m14
          induction m14 using Nat.strongRecOn with
          | _ m14 ih14 =>
          intro gi14 gl14 gr14 y14_4 hI hX p_a0 p_a1 l14_4 u14_4 hm14
          refine ev_loc f_X4_join (nx := 40) rfl rfl rfl rfl ?_
          refine ev_if f_X4_join (t1 := 113) (t2 := 43) rfl rfl rfl (fun h15 => ?_) (fun h15 => ?_)
          · have u16 : y14_4.toInt ≤ 0 := t_leu h15 (by decide : (0:Int32).toInt ≤ (0:Int))
            refine ev_loc f_X4_join (nx := 114) rfl rfl rfl rfl ?_
            refine ev_loc f_X4_join (nx := 116) rfl rfl rfl rfl ?_
            refine ev_loc f_X4_join (nx := 117) rfl rfl rfl rfl ?_
            refine ev_loc f_X4_join (nx := 118) rfl rfl rfl rfl ?_
            refine ev_loc f_X4_join (nx := 119) rfl rfl rfl rfl ?_
            obtain ⟨a17, e17, s17, o17⟩ := p_a1.2.2.2.1
            refine ev_getR f_X4_join (nx := 122) rfl p_a1.1 rfl rfl e17 rfl rfl ?_
            refine ev_loc f_X4_join (nx := 123) rfl rfl rfl rfl ?_
            refine ev_ialdT f_X4_join (nx := 124) rfl s17 l7 (by decide) u10 (by decide) rfl (fun w18 e18 => ?_)
            refine ev_loc f_X4_join (nx := 125) rfl rfl rfl rfl ?_
            obtain ⟨a19, e19, s19, o19⟩ := p_a1.2.2.2.2.1
            refine ev_getR f_X4_join (nx := 128) rfl p_a1.1 rfl rfl e19 rfl rfl ?_
            refine ev_loc f_X4_join (nx := 129) rfl rfl rfl rfl ?_
            refine ev_ialdT f_X4_join (nx := 130) rfl s19 l7 (by decide) u10 (by decide) rfl (fun w20 e20 => ?_)
            refine ev_loc f_X4_join (nx := 131) rfl rfl rfl rfl ?_
            obtain ⟨a21, e21, s21, o21⟩ := p_a1.2.2.2.2.2
            refine ev_getR f_X4_join (nx := 134) rfl p_a1.1 rfl rfl e21 rfl rfl ?_
            refine ev_loc f_X4_join (nx := 135) rfl rfl rfl rfl ?_
            refine ev_baldT f_X4_join (nx := 136) rfl s21 rfl l7 (by decide) u10 (by decide) rfl (fun w22 e22 => ?_)
            refine ev_c0 f_X4_join (nx := 139) (r := []) rfl rfl rfl rfl rfl rfl rfl (c_put hI (ar0) p_a0 (y14_4) (ar2) (ar3) (w18) (w20) (w22)) rfl hX rfl (fun gi23 gl23 gr23 hI hX hC23 => ?_)
            replace p_a0 := p_a0.ext hC23.2
            replace p_a1 := p_a1.ext hC23.2
            exact ev_ret f_X4_join rfl rfl rfl ⟨_, _, _, rfl, hI, hX, rfl⟩
          · have l24 : 1 ≤ y14_4.toInt := t_ltl (t_nle h15) (by decide : (0:Int) ≤ (0:Int32).toInt) rfl
            refine ev_loc f_X4_join (nx := 44) rfl rfl rfl rfl ?_
            obtain ⟨a25, e25, s25, o25⟩ := p_a0.2.2.1
            refine ev_getR f_X4_join (nx := 47) rfl p_a0.1 rfl rfl e25 rfl rfl ?_
            refine ev_loc f_X4_join (nx := 49) rfl rfl rfl rfl ?_
            refine ev_ic f_X4_join (nx := 50) (v := 1) rfl (by decide) rfl ?_
            refine ev_subR f_X4_join (nx := 51) (l := 0) (u := 4) rfl l24 u14_4 (by decide : (1:Int) ≤ (1:Int32).toInt) (by decide : (1:Int32).toInt ≤ (1:Int)) rfl rfl (by decide) (by decide) rfl (fun z26 e26 l26 u26 => ?_)
            refine ev_ialdT f_X4_join (nx := 52) rfl s25 l26 (by decide) u26 (by decide) rfl (fun w27 e27 => ?_)
            refine ev_loc f_X4_join (nx := 53) rfl rfl rfl rfl ?_
            refine ev_if f_X4_join (t1 := 113) (t2 := 56) rfl rfl rfl (fun h28 => ?_) (fun h28 => ?_)
            · refine ev_loc f_X4_join (nx := 114) rfl rfl rfl rfl ?_
              refine ev_loc f_X4_join (nx := 116) rfl rfl rfl rfl ?_
              refine ev_loc f_X4_join (nx := 117) rfl rfl rfl rfl ?_
              refine ev_loc f_X4_join (nx := 118) rfl rfl rfl rfl ?_
              refine ev_loc f_X4_join (nx := 119) rfl rfl rfl rfl ?_
              obtain ⟨a29, e29, s29, o29⟩ := p_a1.2.2.2.1
              refine ev_getR f_X4_join (nx := 122) rfl p_a1.1 rfl rfl e29 rfl rfl ?_
              refine ev_loc f_X4_join (nx := 123) rfl rfl rfl rfl ?_
              refine ev_ialdT f_X4_join (nx := 124) rfl s29 l7 (by decide) u10 (by decide) rfl (fun w30 e30 => ?_)
              refine ev_loc f_X4_join (nx := 125) rfl rfl rfl rfl ?_
              obtain ⟨a31, e31, s31, o31⟩ := p_a1.2.2.2.2.1
              refine ev_getR f_X4_join (nx := 128) rfl p_a1.1 rfl rfl e31 rfl rfl ?_
              refine ev_loc f_X4_join (nx := 129) rfl rfl rfl rfl ?_
              refine ev_ialdT f_X4_join (nx := 130) rfl s31 l7 (by decide) u10 (by decide) rfl (fun w32 e32 => ?_)
              refine ev_loc f_X4_join (nx := 131) rfl rfl rfl rfl ?_
              obtain ⟨a33, e33, s33, o33⟩ := p_a1.2.2.2.2.2
              refine ev_getR f_X4_join (nx := 134) rfl p_a1.1 rfl rfl e33 rfl rfl ?_
              refine ev_loc f_X4_join (nx := 135) rfl rfl rfl rfl ?_
              refine ev_baldT f_X4_join (nx := 136) rfl s33 rfl l7 (by decide) u10 (by decide) rfl (fun w34 e34 => ?_)
              refine ev_c0 f_X4_join (nx := 139) (r := []) rfl rfl rfl rfl rfl rfl rfl (c_put hI (ar0) p_a0 (y14_4) (ar2) (ar3) (w30) (w32) (w34)) rfl hX rfl (fun gi35 gl35 gr35 hI hX hC35 => ?_)
              replace p_a0 := p_a0.ext hC35.2
              replace p_a1 := p_a1.ext hC35.2
              exact ev_ret f_X4_join rfl rfl rfl ⟨_, _, _, rfl, hI, hX, rfl⟩
            · have u36 : ar3.toInt ≤ 2147483646 := t_ltu (t_nle h28) (t_hi _) rfl
              have l37 : (-2147483647) ≤ w27.toInt := t_ltl (t_nle h28) (Int32.le_toInt _) rfl
              refine ev_loc f_X4_join (nx := 57) rfl rfl rfl rfl ?_
              refine ev_loc f_X4_join (nx := 59) rfl rfl rfl rfl ?_
              refine ev_loc f_X4_join (nx := 60) rfl rfl rfl rfl ?_
              obtain ⟨a38, e38, s38, o38⟩ := p_a0.2.1
              refine ev_getR f_X4_join (nx := 63) rfl p_a0.1 rfl rfl e38 rfl rfl ?_
              refine ev_loc f_X4_join (nx := 65) rfl rfl rfl rfl ?_
              refine ev_ic f_X4_join (nx := 66) (v := 1) rfl (by decide) rfl ?_
              refine ev_subR f_X4_join (nx := 67) (l := 0) (u := 4) rfl l24 u14_4 (by decide : (1:Int) ≤ (1:Int32).toInt) (by decide : (1:Int32).toInt ≤ (1:Int)) rfl rfl (by decide) (by decide) rfl (fun z39 e39 l39 u39 => ?_)
              refine ev_ialdT f_X4_join (nx := 68) rfl s38 l39 (by decide) u39 (by decide) rfl (fun w40 e40 => ?_)
              refine ev_loc f_X4_join (nx := 69) rfl rfl rfl rfl ?_
              refine ev_getR f_X4_join (nx := 72) (v := .ref a25) rfl p_a0.1 rfl rfl e25 rfl rfl ?_
              refine ev_loc f_X4_join (nx := 74) rfl rfl rfl rfl ?_
              refine ev_ic f_X4_join (nx := 75) (v := 1) rfl (by decide) rfl ?_
              refine ev_subR f_X4_join (nx := 76) (l := 0) (u := 4) rfl l24 u14_4 (by decide : (1:Int) ≤ (1:Int32).toInt) (by decide : (1:Int32).toInt ≤ (1:Int)) rfl rfl (by decide) (by decide) rfl (fun z41 e41 l41 u41 => ?_)
              refine ev_ialdT f_X4_join (nx := 77) rfl s25 l41 (by decide) u41 (by decide) rfl (fun w42 e42 => ?_)
              refine ev_loc f_X4_join (nx := 78) rfl rfl rfl rfl ?_
              obtain ⟨a43, e43, s43, o43⟩ := p_a0.2.2.2.1
              refine ev_getR f_X4_join (nx := 81) rfl p_a0.1 rfl rfl e43 rfl rfl ?_
              refine ev_loc f_X4_join (nx := 83) rfl rfl rfl rfl ?_
              refine ev_ic f_X4_join (nx := 84) (v := 1) rfl (by decide) rfl ?_
              refine ev_subR f_X4_join (nx := 85) (l := 0) (u := 4) rfl l24 u14_4 (by decide : (1:Int) ≤ (1:Int32).toInt) (by decide : (1:Int32).toInt ≤ (1:Int)) rfl rfl (by decide) (by decide) rfl (fun z44 e44 l44 u44 => ?_)
              refine ev_ialdT f_X4_join (nx := 86) rfl s43 l44 (by decide) u44 (by decide) rfl (fun w45 e45 => ?_)
              refine ev_loc f_X4_join (nx := 87) rfl rfl rfl rfl ?_
              obtain ⟨a46, e46, s46, o46⟩ := p_a0.2.2.2.2.1
              refine ev_getR f_X4_join (nx := 90) rfl p_a0.1 rfl rfl e46 rfl rfl ?_
              refine ev_loc f_X4_join (nx := 92) rfl rfl rfl rfl ?_
              refine ev_ic f_X4_join (nx := 93) (v := 1) rfl (by decide) rfl ?_
              refine ev_subR f_X4_join (nx := 94) (l := 0) (u := 4) rfl l24 u14_4 (by decide : (1:Int) ≤ (1:Int32).toInt) (by decide : (1:Int32).toInt ≤ (1:Int)) rfl rfl (by decide) (by decide) rfl (fun z47 e47 l47 u47 => ?_)
              refine ev_ialdT f_X4_join (nx := 95) rfl s46 l47 (by decide) u47 (by decide) rfl (fun w48 e48 => ?_)
              refine ev_loc f_X4_join (nx := 96) rfl rfl rfl rfl ?_
              obtain ⟨a49, e49, s49, o49⟩ := p_a0.2.2.2.2.2
              refine ev_getR f_X4_join (nx := 99) rfl p_a0.1 rfl rfl e49 rfl rfl ?_
              refine ev_loc f_X4_join (nx := 101) rfl rfl rfl rfl ?_
              refine ev_ic f_X4_join (nx := 102) (v := 1) rfl (by decide) rfl ?_
              refine ev_subR f_X4_join (nx := 103) (l := 0) (u := 4) rfl l24 u14_4 (by decide : (1:Int) ≤ (1:Int32).toInt) (by decide : (1:Int32).toInt ≤ (1:Int)) rfl rfl (by decide) (by decide) rfl (fun z50 e50 l50 u50 => ?_)
              refine ev_baldT f_X4_join (nx := 104) rfl s49 rfl l50 (by decide) u50 (by decide) rfl (fun w51 e51 => ?_)
              refine ev_c0 f_X4_join (nx := 107) (r := []) rfl rfl rfl rfl rfl rfl rfl (c_put hI (ar0) p_a0 (y14_4) (w40) (w42) (w45) (w48) (w51)) rfl hX rfl (fun gi52 gl52 gr52 hI hX hC52 => ?_)
              replace p_a0 := p_a0.ext hC52.2
              replace p_a1 := p_a1.ext hC52.2
              refine ev_incR f_X4_join (nx := 110) (c := (-1)) (l := 0) (u := 4) rfl rfl (by decide) (by decide) l24 u14_4 rfl rfl (by decide) (by decide) rfl (fun z53 e53 l53 u53 => ?_)
              refine ev_jmp f_X4_join (nx := 38) rfl rfl rfl ?_
              refine ev_sub (lo := [(4, .int z53), (0, .ref ar0), (1, .ref ar1), (2, .int ar2), (3, .int ar3)]) (by decide) (t_sc rfl (t_sc rfl (t_sc rfl (t_sc rfl (t_sc rfl t_sn))))) ?_
              exact ih14 _ (by omega) gi52 gl52 gr52 (z53) hI hX p_a0 p_a1 l53 (Int.le_trans u53 (by decide : (4:Int) ≤ 5)) rfl
        refine ev_sub (lo := [(4, .int (gi ar0 0)), (0, .ref ar0), (1, .ref ar1), (2, .int ar2), (3, .int ar3)]) (by decide) (t_sc rfl (t_sc rfl (t_sc rfl (t_sc rfl (t_sc rfl t_sn))))) ?_
        exact L14 _ g13 gl gr ((gi ar0 0)) hI hX p_a0 p_a1 l1 u4 rfl
      · exact ev_ret f_X4_join rfl rfl rfl ⟨_, _, _, rfl, hI, hX, rfl⟩