/-! ===== printed by cls.py: typed contracts of the class ===== -/
def wl_put : List (Nat × Nat) := [(7, 9999), (8, 9999), (9, 9999), (10, 9999), (11, 9999), (12, 9999), (14, 9999), (15, 9999), (16, 9999), (17, 9999), (18, 9999), (30, 9999), (31, 9999), (32, 9999), (33, 9999), (34, 9999), (36, 9999), (37, 9999), (38, 9999), (39, 9999), (40, 9999), (43, 9999), (44, 9999), (47, 9999), (48, 9999), (49, 9999), (50, 9999), (51, 9999), (53, 9999), (54, 9999), (55, 9999), (56, 9999), (57, 9999), (58, 9999), (59, 9999), (130, 9999), (133, 9999)]
theorem c_put {X : x_Ext} {d : Nat} {sh : List (Nat ⊕ (Nat × Nat))} {gi : Nat → Nat → Int32} {gl : Nat → Nat → Int64} {gr : Nat → Nat → Value} (hI : t_I sh gi gr) (ar0 : Nat) (p_a0 : t_Ln sh gr ar0) (ar1 : Int32) (ar2 : Int32) (ar3 : Int32) (ar4 : Int32) (ar5 : Int32) (ar6 : Int32) : x_Me X (d + 1) n_X4_put [.ref ar0, .int ar1, .int ar2, .int ar3, .int ar4, .int ar5, .int ar6] (sh, gi, gl, gr) (t_P wl_put sh gi gl gr t_Rn) := by
  have hX : t_X wl_put sh gi gl gr gi gl gr := t_X.rf
  refine me_i f_X4_put p_a0.1 rfl rfl rfl ?_
  refine ev_loc f_X4_put (nx := 1) rfl rfl rfl rfl ?_
  refine ev_if f_X4_put (t1 := 10) (t2 := 4) rfl rfl rfl (fun h1 => ?_) (fun h1 => ?_)
  · have u2 : ar1.toInt ≤ (-1) := t_ltu h1 (by decide : (0:Int32).toInt ≤ (0:Int)) rfl
    exact ev_ret f_X4_put rfl rfl rfl ⟨_, _, _, rfl, hI, hX, rfl⟩
  · have l3 : 0 ≤ ar1.toInt := t_lel (t_nlt h1) (by decide : (0:Int) ≤ (0:Int32).toInt)
    refine ev_loc f_X4_put (nx := 5) rfl rfl rfl rfl ?_
    refine ev_bp f_X4_put (nx := 7) (v := 6) rfl (by decide) rfl ?_
    refine ev_if f_X4_put (t1 := 11) (t2 := 10) rfl rfl rfl (fun h4 => ?_) (fun h4 => ?_)
    · have u5 : ar1.toInt ≤ 5 := t_ltu h4 (by decide : (6:Int32).toInt ≤ (6:Int)) rfl
      refine ev_loc f_X4_put (nx := 12) rfl rfl rfl rfl ?_
      obtain ⟨a6, e6, s6, o6⟩ := p_a0.2.1
      refine ev_getR f_X4_put (nx := 15) rfl p_a0.1 rfl rfl e6 rfl rfl ?_
      refine ev_loc f_X4_put (nx := 16) rfl rfl rfl rfl ?_
      refine ev_loc f_X4_put (nx := 17) rfl rfl rfl rfl ?_
      refine ev_iastT f_X4_put (nx := 18) rfl s6 l3 (by decide) u5 (by decide) rfl (hI.astO s6 o6 (by decide +kernel)) (hX.upI (t_inOA hI.wf s6 o6 rfl)) (fun g7 e7 hI hX => ?_)
      refine ev_loc f_X4_put (nx := 19) rfl rfl rfl rfl ?_
      obtain ⟨a8, e8, s8, o8⟩ := p_a0.2.2.1
      refine ev_getR f_X4_put (nx := 22) rfl p_a0.1 rfl rfl e8 rfl rfl ?_
      refine ev_loc f_X4_put (nx := 23) rfl rfl rfl rfl ?_
      refine ev_loc f_X4_put (nx := 24) rfl rfl rfl rfl ?_
      refine ev_iastT f_X4_put (nx := 25) rfl s8 l3 (by decide) u5 (by decide) rfl (hI.astO s8 o8 (by decide +kernel)) (hX.upI (t_inOA hI.wf s8 o8 rfl)) (fun g9 e9 hI hX => ?_)
      refine ev_loc f_X4_put (nx := 26) rfl rfl rfl rfl ?_
      obtain ⟨a10, e10, s10, o10⟩ := p_a0.2.2.2.1
      refine ev_getR f_X4_put (nx := 29) rfl p_a0.1 rfl rfl e10 rfl rfl ?_
      refine ev_loc f_X4_put (nx := 30) rfl rfl rfl rfl ?_
      refine ev_loc f_X4_put (nx := 32) rfl rfl rfl rfl ?_
      refine ev_iastT f_X4_put (nx := 33) rfl s10 l3 (by decide) u5 (by decide) rfl (hI.astO s10 o10 (by decide +kernel)) (hX.upI (t_inOA hI.wf s10 o10 rfl)) (fun g11 e11 hI hX => ?_)
      refine ev_loc f_X4_put (nx := 34) rfl rfl rfl rfl ?_
      obtain ⟨a12, e12, s12, o12⟩ := p_a0.2.2.2.2.1
      refine ev_getR f_X4_put (nx := 37) rfl p_a0.1 rfl rfl e12 rfl rfl ?_
      refine ev_loc f_X4_put (nx := 38) rfl rfl rfl rfl ?_
      refine ev_loc f_X4_put (nx := 40) rfl rfl rfl rfl ?_
      refine ev_iastT f_X4_put (nx := 41) rfl s12 l3 (by decide) u5 (by decide) rfl (hI.astO s12 o12 (by decide +kernel)) (hX.upI (t_inOA hI.wf s12 o12 rfl)) (fun g13 e13 hI hX => ?_)
      refine ev_loc f_X4_put (nx := 42) rfl rfl rfl rfl ?_
      obtain ⟨a14, e14, s14, o14⟩ := p_a0.2.2.2.2.2
      refine ev_getR f_X4_put (nx := 45) rfl p_a0.1 rfl rfl e14 rfl rfl ?_
      refine ev_loc f_X4_put (nx := 46) rfl rfl rfl rfl ?_
      refine ev_loc f_X4_put (nx := 48) rfl rfl rfl rfl ?_
      refine ev_zastT f_X4_put (nx := 49) rfl s14 l3 (by decide) u5 (by decide) rfl (fun x _ _ => (hI.astO s14 o14 (by decide +kernel))) (fun x => hX.upI (t_inOA hI.wf s14 o14 rfl)) (fun g15 x15 e15 hI hX => ?_)
      exact ev_ret f_X4_put rfl rfl rfl ⟨_, _, _, rfl, hI, hX, rfl⟩
    · have l16 : 6 ≤ ar1.toInt := t_lel (t_nlt h4) (by decide : (6:Int) ≤ (6:Int32).toInt)
      exact ev_ret f_X4_put rfl rfl rfl ⟨_, _, _, rfl, hI, hX, rfl⟩
def wl_join : List (Nat × Nat) := [(6, 0), (7, 9999), (8, 9999), (9, 9999), (10, 9999), (11, 9999), (12, 9999), (13, 0), (14, 9999), (15, 9999), (16, 9999), (17, 9999), (18, 9999), (29, 0), (30, 9999), (31, 9999), (32, 9999), (33, 9999), (34, 9999), (35, 0), (36, 9999), (37, 9999), (38, 9999), (39, 9999), (40, 9999), (43, 9999), (44, 9999), (46, 0), (47, 9999), (48, 9999), (49, 9999), (50, 9999), (51, 9999), (52, 0), (53, 9999), (54, 9999), (55, 9999), (56, 9999), (57, 9999), (58, 9999), (59, 9999), (113, 0), (130, 9999), (133, 9999)]
theorem c_join {X : x_Ext} {d : Nat} {sh : List (Nat ⊕ (Nat × Nat))} {gi : Nat → Nat → Int32} {gl : Nat → Nat → Int64} {gr : Nat → Nat → Value} (hI : t_I sh gi gr) (ar0 : Nat) (p_a0 : t_Ln sh gr ar0) (ar1 : Nat) (p_a1 : t_Ln sh gr ar1) (ar2 : Int32) (ar3 : Int32) : x_Me X (d + 2) n_X4_join [.ref ar0, .ref ar1, .int ar2, .int ar3] (sh, gi, gl, gr) (t_P wl_join sh gi gl gr t_Rn) := by
  have hX : t_X wl_join sh gi gl gr gi gl gr := t_X.rf
  refine me_i f_X4_join p_a0.1 rfl rfl rfl ?_
  refine ev_loc f_X4_join (nx := 1) rfl rfl rfl rfl ?_
  refine ev_getI f_X4_join (nx := 4) rfl p_a0.1 rfl rfl rfl ?_
  obtain ⟨l1, u1⟩ := hI.b p_a0.1 (rfl : t_bd 3 0 = some (0, 6))
  refine ev_bp f_X4_join (nx := 6) (v := 6) rfl (by decide) rfl ?_
  refine ev_if f_X4_join (t1 := 21) (t2 := 9) rfl rfl rfl (fun h2 => ?_) (fun h2 => ?_)
  · have l3 : 6 ≤ (gi ar0 0).toInt := t_lel h2 (by decide : (6:Int) ≤ (6:Int32).toInt)
    exact ev_ret f_X4_join rfl rfl rfl ⟨_, _, _, rfl, hI, hX, rfl⟩
  · have u4 : (gi ar0 0).toInt ≤ 5 := t_ltu (t_nle h2) (by decide : (6:Int32).toInt ≤ (6:Int)) rfl
    refine ev_loc f_X4_join (nx := 10) rfl rfl rfl rfl ?_
    refine ev_if f_X4_join (t1 := 21) (t2 := 13) rfl rfl rfl (fun h5 => ?_) (fun h5 => ?_)
    · have u6 : ar2.toInt ≤ (-1) := t_ltu h5 (by decide : (0:Int32).toInt ≤ (0:Int)) rfl
      exact ev_ret f_X4_join rfl rfl rfl ⟨_, _, _, rfl, hI, hX, rfl⟩
    · have l7 : 0 ≤ ar2.toInt := t_lel (t_nlt h5) (by decide : (0:Int) ≤ (0:Int32).toInt)
      refine ev_loc f_X4_join (nx := 14) rfl rfl rfl rfl ?_
      refine ev_loc f_X4_join (nx := 15) rfl rfl rfl rfl ?_
      refine ev_getI f_X4_join (nx := 18) rfl p_a1.1 rfl rfl rfl ?_
      obtain ⟨l8, u8⟩ := hI.b p_a1.1 (rfl : t_bd 3 0 = some (0, 6))
      refine ev_if f_X4_join (t1 := 22) (t2 := 21) rfl rfl rfl (fun h9 => ?_) (fun h9 => ?_)
      · have u10 : ar2.toInt ≤ 5 := t_ltu h9 u8 rfl
        have l11 : 1 ≤ (gi ar1 0).toInt := t_ltl h9 l7 rfl
        refine ev_loc f_X4_join (nx := 23) rfl rfl rfl rfl ?_
        refine ev_gvI f_X4_join (nx := 26) (w := (gi ar0 0)) rfl p_a0.1 rfl rfl rfl rfl ?_
        refine ev_loc f_X4_join (nx := 28) (lo' := [(4, .int (gi ar0 0)), (0, .ref ar0), (1, .ref ar1), (2, .int ar2), (3, .int ar3)]) rfl rfl rfl rfl ?_
        refine ev_loc f_X4_join (nx := 29) rfl rfl rfl rfl ?_
        refine ev_alu f_X4_join (nx := 30) rfl rfl rfl rfl ?_
        refine ev_gvI f_X4_join (nx := 33) (w := (gi ar0 0)) rfl p_a0.1 rfl rfl rfl rfl ?_
        refine ev_ic f_X4_join (nx := 34) (v := 1) rfl (by decide) rfl ?_
        refine ev_addC f_X4_join (nx := 35) (c := 1) (l := 1) (u := 6) rfl (by decide) l1 u4 rfl rfl (by decide) (by decide) rfl (fun z12 e12 l12 u12 => ?_)
        refine ev_putIT f_X4_join (nx := 38) rfl p_a0.1 rfl rfl rfl (hI.putB p_a0.1 rfl rfl l12 (by decide) u12 (by decide)) (hX.upI (t_inO hI.wf p_a0.1 (t_outO hI.wf p_a0.1 rfl) rfl)) (fun g13 e13 hI hX => ?_)
        have L14 : ∀ (m14 : Nat) (gi14 : Nat → Nat → Int32) (gl14 : Nat → Nat → Int64) (gr14 : Nat → Nat → Value) (y14_4 : Int32), t_I sh gi14 gr14 → t_X wl_join sh gi gl gr gi14 gl14 gr14 → t_Ln sh gr14 ar0 → t_Ln sh gr14 ar1 → 0 ≤ y14_4.toInt → y14_4.toInt ≤ 5 → gi14 ar0 0 = z12 → (y14_4.toInt - 0).toNat = m14 → x_Ev X (d + 2) n_X4_join 38 [(4, .int y14_4), (0, .ref ar0), (1, .ref ar1), (2, .int ar2), (3, .int ar3)] [] (sh, gi14, gl14, gr14) (t_P wl_join sh gi gl gr t_Rn) := by
          intro m14
          induction m14 using Nat.strongRecOn with
          | _ m14 ih14 =>
          intro gi14 gl14 gr14 y14_4 hI hX p_a0 p_a1 l14_4 u14_4 c14_0 hm14
          refine ev_loc f_X4_join (nx := 40) rfl rfl rfl rfl ?_
          refine ev_if f_X4_join (t1 := 113) (t2 := 43) rfl rfl rfl (fun h15 => ?_) (fun h15 => ?_)
          · have u16 : y14_4.toInt ≤ 0 := t_leu h15 (by decide : (0:Int32).toInt ≤ (0:Int))
            refine ev_loc f_X4_join (nx := 114) rfl rfl rfl rfl ?_
            refine ev_loc f_X4_join (nx := 116) rfl rfl rfl rfl ?_
            refine ev_loc f_X4_join (nx := 117) rfl rfl rfl rfl ?_
            refine ev_loc f_X4_join (nx := 118) rfl rfl rfl rfl ?_
            refine ev_loc f_X4_join (nx := 119) rfl rfl rfl rfl ?_
            obtain ⟨a17, e17, s17, o17⟩ := p_a1.2.2.2.1
            refine ev_getR f_X4_join (nx := 122) rfl p_a1.1 rfl rfl e17 rfl rfl ?_
            refine ev_loc f_X4_join (nx := 123) rfl rfl rfl rfl ?_
            refine ev_ialdT f_X4_join (nx := 124) rfl s17 l7 (by decide) u10 (by decide) rfl (fun w18 e18 => ?_)
            refine ev_loc f_X4_join (nx := 125) rfl rfl rfl rfl ?_
            obtain ⟨a19, e19, s19, o19⟩ := p_a1.2.2.2.2.1
            refine ev_getR f_X4_join (nx := 128) rfl p_a1.1 rfl rfl e19 rfl rfl ?_
            refine ev_loc f_X4_join (nx := 129) rfl rfl rfl rfl ?_
            refine ev_ialdT f_X4_join (nx := 130) rfl s19 l7 (by decide) u10 (by decide) rfl (fun w20 e20 => ?_)
            refine ev_loc f_X4_join (nx := 131) rfl rfl rfl rfl ?_
            obtain ⟨a21, e21, s21, o21⟩ := p_a1.2.2.2.2.2
            refine ev_getR f_X4_join (nx := 134) rfl p_a1.1 rfl rfl e21 rfl rfl ?_
            refine ev_loc f_X4_join (nx := 135) rfl rfl rfl rfl ?_
            refine ev_baldT f_X4_join (nx := 136) rfl s21 rfl l7 (by decide) u10 (by decide) rfl (fun w22 e22 => ?_)
            refine ev_c0 f_X4_join (nx := 139) (r := []) rfl rfl rfl rfl rfl rfl rfl (c_put hI (ar0) p_a0 (y14_4) (ar2) (ar3) (w18) (w20) (w22)) rfl hX rfl (fun gi23 gl23 gr23 hI hX hC23 => ?_)
            replace p_a0 := p_a0.ext hC23.2
            replace p_a1 := p_a1.ext hC23.2
            exact ev_ret f_X4_join rfl rfl rfl ⟨_, _, _, rfl, hI, hX, rfl⟩
          · have l24 : 1 ≤ y14_4.toInt := t_ltl (t_nle h15) (by decide : (0:Int) ≤ (0:Int32).toInt) rfl
            refine ev_loc f_X4_join (nx := 44) rfl rfl rfl rfl ?_
            obtain ⟨a25, e25, s25, o25⟩ := p_a0.2.2.1
            refine ev_getR f_X4_join (nx := 47) rfl p_a0.1 rfl rfl e25 rfl rfl ?_
            refine ev_loc f_X4_join (nx := 49) rfl rfl rfl rfl ?_
            refine ev_ic f_X4_join (nx := 50) (v := 1) rfl (by decide) rfl ?_
            refine ev_subC f_X4_join (nx := 51) (c := 1) (l := 0) (u := 4) rfl (by decide) l24 u14_4 rfl rfl (by decide) (by decide) rfl (fun z26 e26 l26 u26 => ?_)
            refine ev_ialdT f_X4_join (nx := 52) rfl s25 l26 (by decide) u26 (by decide) rfl (fun w27 e27 => ?_)
            refine ev_loc f_X4_join (nx := 53) rfl rfl rfl rfl ?_
            refine ev_if f_X4_join (t1 := 113) (t2 := 56) rfl rfl rfl (fun h28 => ?_) (fun h28 => ?_)
            · refine ev_loc f_X4_join (nx := 114) rfl rfl rfl rfl ?_
              refine ev_loc f_X4_join (nx := 116) rfl rfl rfl rfl ?_
              refine ev_loc f_X4_join (nx := 117) rfl rfl rfl rfl ?_
              refine ev_loc f_X4_join (nx := 118) rfl rfl rfl rfl ?_
              refine ev_loc f_X4_join (nx := 119) rfl rfl rfl rfl ?_
              obtain ⟨a29, e29, s29, o29⟩ := p_a1.2.2.2.1
              refine ev_getR f_X4_join (nx := 122) rfl p_a1.1 rfl rfl e29 rfl rfl ?_
              refine ev_loc f_X4_join (nx := 123) rfl rfl rfl rfl ?_
              refine ev_ialdT f_X4_join (nx := 124) rfl s29 l7 (by decide) u10 (by decide) rfl (fun w30 e30 => ?_)
              refine ev_loc f_X4_join (nx := 125) rfl rfl rfl rfl ?_
              obtain ⟨a31, e31, s31, o31⟩ := p_a1.2.2.2.2.1
              refine ev_getR f_X4_join (nx := 128) rfl p_a1.1 rfl rfl e31 rfl rfl ?_
              refine ev_loc f_X4_join (nx := 129) rfl rfl rfl rfl ?_
              refine ev_ialdT f_X4_join (nx := 130) rfl s31 l7 (by decide) u10 (by decide) rfl (fun w32 e32 => ?_)
              refine ev_loc f_X4_join (nx := 131) rfl rfl rfl rfl ?_
              obtain ⟨a33, e33, s33, o33⟩ := p_a1.2.2.2.2.2
              refine ev_getR f_X4_join (nx := 134) rfl p_a1.1 rfl rfl e33 rfl rfl ?_
              refine ev_loc f_X4_join (nx := 135) rfl rfl rfl rfl ?_
              refine ev_baldT f_X4_join (nx := 136) rfl s33 rfl l7 (by decide) u10 (by decide) rfl (fun w34 e34 => ?_)
              refine ev_c0 f_X4_join (nx := 139) (r := []) rfl rfl rfl rfl rfl rfl rfl (c_put hI (ar0) p_a0 (y14_4) (ar2) (ar3) (w30) (w32) (w34)) rfl hX rfl (fun gi35 gl35 gr35 hI hX hC35 => ?_)
              replace p_a0 := p_a0.ext hC35.2
              replace p_a1 := p_a1.ext hC35.2
              exact ev_ret f_X4_join rfl rfl rfl ⟨_, _, _, rfl, hI, hX, rfl⟩
            · have u36 : ar3.toInt ≤ 2147483646 := t_ltu (t_nle h28) (t_hi w27) rfl
              have l37 : (-2147483647) ≤ w27.toInt := t_ltl (t_nle h28) (t_lo ar3) rfl
              refine ev_loc f_X4_join (nx := 57) rfl rfl rfl rfl ?_
              refine ev_loc f_X4_join (nx := 59) rfl rfl rfl rfl ?_
              refine ev_loc f_X4_join (nx := 60) rfl rfl rfl rfl ?_
              obtain ⟨a38, e38, s38, o38⟩ := p_a0.2.1
              refine ev_getR f_X4_join (nx := 63) rfl p_a0.1 rfl rfl e38 rfl rfl ?_
              refine ev_loc f_X4_join (nx := 65) rfl rfl rfl rfl ?_
              refine ev_ic f_X4_join (nx := 66) (v := 1) rfl (by decide) rfl ?_
              refine ev_subC f_X4_join (nx := 67) (c := 1) (l := 0) (u := 4) rfl (by decide) l24 u14_4 rfl rfl (by decide) (by decide) rfl (fun z39 e39 l39 u39 => ?_)
              refine ev_ialdT f_X4_join (nx := 68) rfl s38 l39 (by decide) u39 (by decide) rfl (fun w40 e40 => ?_)
              refine ev_loc f_X4_join (nx := 69) rfl rfl rfl rfl ?_
              refine ev_getR f_X4_join (nx := 72) (v := .ref a25) rfl p_a0.1 rfl rfl e25 rfl rfl ?_
              refine ev_loc f_X4_join (nx := 74) rfl rfl rfl rfl ?_
              refine ev_ic f_X4_join (nx := 75) (v := 1) rfl (by decide) rfl ?_
              refine ev_subC f_X4_join (nx := 76) (c := 1) (l := 0) (u := 4) rfl (by decide) l24 u14_4 rfl rfl (by decide) (by decide) rfl (fun z41 e41 l41 u41 => ?_)
              refine ev_ialdT f_X4_join (nx := 77) rfl s25 l41 (by decide) u41 (by decide) rfl (fun w42 e42 => ?_)
              refine ev_loc f_X4_join (nx := 78) rfl rfl rfl rfl ?_
              obtain ⟨a43, e43, s43, o43⟩ := p_a0.2.2.2.1
              refine ev_getR f_X4_join (nx := 81) rfl p_a0.1 rfl rfl e43 rfl rfl ?_
              refine ev_loc f_X4_join (nx := 83) rfl rfl rfl rfl ?_
              refine ev_ic f_X4_join (nx := 84) (v := 1) rfl (by decide) rfl ?_
              refine ev_subC f_X4_join (nx := 85) (c := 1) (l := 0) (u := 4) rfl (by decide) l24 u14_4 rfl rfl (by decide) (by decide) rfl (fun z44 e44 l44 u44 => ?_)
              refine ev_ialdT f_X4_join (nx := 86) rfl s43 l44 (by decide) u44 (by decide) rfl (fun w45 e45 => ?_)
              refine ev_loc f_X4_join (nx := 87) rfl rfl rfl rfl ?_
              obtain ⟨a46, e46, s46, o46⟩ := p_a0.2.2.2.2.1
              refine ev_getR f_X4_join (nx := 90) rfl p_a0.1 rfl rfl e46 rfl rfl ?_
              refine ev_loc f_X4_join (nx := 92) rfl rfl rfl rfl ?_
              refine ev_ic f_X4_join (nx := 93) (v := 1) rfl (by decide) rfl ?_
              refine ev_subC f_X4_join (nx := 94) (c := 1) (l := 0) (u := 4) rfl (by decide) l24 u14_4 rfl rfl (by decide) (by decide) rfl (fun z47 e47 l47 u47 => ?_)
              refine ev_ialdT f_X4_join (nx := 95) rfl s46 l47 (by decide) u47 (by decide) rfl (fun w48 e48 => ?_)
              refine ev_loc f_X4_join (nx := 96) rfl rfl rfl rfl ?_
              obtain ⟨a49, e49, s49, o49⟩ := p_a0.2.2.2.2.2
              refine ev_getR f_X4_join (nx := 99) rfl p_a0.1 rfl rfl e49 rfl rfl ?_
              refine ev_loc f_X4_join (nx := 101) rfl rfl rfl rfl ?_
              refine ev_ic f_X4_join (nx := 102) (v := 1) rfl (by decide) rfl ?_
              refine ev_subC f_X4_join (nx := 103) (c := 1) (l := 0) (u := 4) rfl (by decide) l24 u14_4 rfl rfl (by decide) (by decide) rfl (fun z50 e50 l50 u50 => ?_)
              refine ev_baldT f_X4_join (nx := 104) rfl s49 rfl l50 (by decide) u50 (by decide) rfl (fun w51 e51 => ?_)
              refine ev_c0 f_X4_join (nx := 107) (r := []) rfl rfl rfl rfl rfl rfl rfl (c_put hI (ar0) p_a0 (y14_4) (w40) (w42) (w45) (w48) (w51)) rfl hX rfl (fun gi52 gl52 gr52 hI hX hC52 => ?_)
              replace p_a0 := p_a0.ext hC52.2
              replace p_a1 := p_a1.ext hC52.2
              refine ev_incR f_X4_join (nx := 110) (c := (-1)) (l := 0) (u := 4) rfl rfl (by decide) (by decide) l24 u14_4 rfl rfl (by decide) (by decide) rfl (fun z53 e53 l53 u53 => ?_)
              refine ev_jmp f_X4_join (nx := 38) rfl rfl rfl ?_
              refine ev_sub (lo := [(4, .int z53), (0, .ref ar0), (1, .ref ar1), (2, .int ar2), (3, .int ar3)]) rfl (t_sc rfl (t_sc rfl (t_sc rfl (t_sc rfl (t_sc rfl t_sn))))) ?_
              exact ih14 _ (by omega) gi52 gl52 gr52 (z53) hI hX p_a0 p_a1 l53 (Int.le_trans u53 (by decide : (4:Int) ≤ 5)) ((hC52.1 ar0 0 (t_ninO hI.wf p_a0.1 (t_outO hI.wf p_a0.1 rfl) rfl)).1.trans c14_0) rfl
        refine ev_sub (lo := [(4, .int (gi ar0 0)), (0, .ref ar0), (1, .ref ar1), (2, .int ar2), (3, .int ar3)]) rfl (t_sc rfl (t_sc rfl (t_sc rfl (t_sc rfl (t_sc rfl t_sn))))) ?_
        exact L14 _ g13 gl gr ((gi ar0 0)) hI hX p_a0 p_a1 l1 u4 (by rw [e13]; exact x_up2_at _ _ _ _ : g13 ar0 0 = z12) rfl
      · exact ev_ret f_X4_join rfl rfl rfl ⟨_, _, _, rfl, hI, hX, rfl⟩
def wl_soundOf : List (Nat × Nat) := []
theorem c_soundOf {X : x_Ext} {d : Nat} {sh : List (Nat ⊕ (Nat × Nat))} {gi : Nat → Nat → Int32} {gl : Nat → Nat → Int64} {gr : Nat → Nat → Value} (hI : t_I sh gi gr) (ar0 : Int64) : x_Me X (d + 1) n_X5_soundOf [.long ar0] (sh, gi, gl, gr) (t_P wl_soundOf sh gi gl gr t_Rl) := by
  have hX : t_X wl_soundOf sh gi gl gr gi gl gr := t_X.rf
  refine me_s f_X5_soundOf rfl rfl ?_
  refine ev_lc f_X5_soundOf (nx := 1) (v := 0) rfl (by decide) rfl ?_
  refine ev_loc f_X5_soundOf (nx := 2) (lo' := [(2, .long 0), (0, .long ar0)]) rfl rfl rfl rfl ?_
  refine ev_loc f_X5_soundOf (nx := 3) rfl rfl rfl rfl ?_
  refine ev_loc f_X5_soundOf (nx := 5) (lo' := [(4, .long ar0), (2, .long 0), (0, .long ar0)]) rfl rfl rfl rfl ?_
  refine ev_ic f_X5_soundOf (nx := 6) (v := 0) rfl (by decide) rfl ?_
  refine ev_loc f_X5_soundOf (nx := 8) (lo' := [(6, .int 0), (4, .long ar0), (2, .long 0), (0, .long ar0)]) rfl rfl rfl rfl ?_
  have L1 : ∀ (m1 : Nat) (gi1 : Nat → Nat → Int32) (gl1 : Nat → Nat → Int64) (gr1 : Nat → Nat → Value) (y1_6 : Int32) (y1_4 : Int64) (y1_2 : Int64), t_I sh gi1 gr1 → t_X wl_soundOf sh gi gl gr gi1 gl1 gr1 → 0 ≤ y1_6.toInt → y1_6.toInt ≤ 6 → (6 - y1_6.toInt).toNat = m1 → x_Ev X (d + 1) n_X5_soundOf 8 [(6, .int y1_6), (4, .long y1_4), (2, .long y1_2), (0, .long ar0)] [] (sh, gi1, gl1, gr1) (t_P wl_soundOf sh gi gl gr t_Rl) := by
    intro m1
    induction m1 using Nat.strongRecOn with
    | _ m1 ih1 =>
    intro gi1 gl1 gr1 y1_6 y1_4 y1_2 hI hX l1_6 u1_6 hm1
    refine ev_loc f_X5_soundOf (nx := 10) rfl rfl rfl rfl ?_
    refine ev_bp f_X5_soundOf (nx := 12) (v := 6) rfl (by decide) rfl ?_
    refine ev_if f_X5_soundOf (t1 := 65) (t2 := 15) rfl rfl rfl (fun h2 => ?_) (fun h2 => ?_)
    · have l3 : 6 ≤ y1_6.toInt := t_lel h2 (by decide : (6:Int) ≤ (6:Int32).toInt)
      refine ev_loc f_X5_soundOf (nx := 66) rfl rfl rfl rfl ?_
      exact ev_ret f_X5_soundOf rfl rfl rfl ⟨_, _, _, rfl, hI, hX, ⟨_, rfl⟩⟩
    · have u4 : y1_6.toInt ≤ 5 := t_ltu (t_nle h2) (by decide : (6:Int32).toInt ≤ (6:Int)) rfl
      refine ev_loc f_X5_soundOf (nx := 17) rfl rfl rfl rfl ?_
      refine ev_lc f_X5_soundOf (nx := 18) (v := 0) rfl (by decide) rfl ?_
      refine ev_anyI f_X5_soundOf (nx := 19) rfl rfl rfl rfl (fun z5 => ?_)
      refine ev_if f_X5_soundOf (t1 := 65) (t2 := 22) rfl rfl rfl (fun h6 => ?_) (fun h6 => ?_)
      · have u7 : z5.toInt ≤ 0 := t_equ h6 (by decide : (0:Int32).toInt ≤ (0:Int))
        have l8 : 0 ≤ z5.toInt := t_eql h6 (by decide : (0:Int) ≤ (0:Int32).toInt)
        refine ev_loc f_X5_soundOf (nx := 66) rfl rfl rfl rfl ?_
        exact ev_ret f_X5_soundOf rfl rfl rfl ⟨_, _, _, rfl, hI, hX, ⟨_, rfl⟩⟩
      · refine ev_loc f_X5_soundOf (nx := 24) rfl rfl rfl rfl ?_
        refine ev_ldL f_X5_soundOf (nx := 27) (v := 32) rfl (by decide) rfl ?_
        refine ev_lremN f_X5_soundOf (nx := 28) rfl (by decide) rfl (fun z9 e9 => ?_)
        refine ev_ldL f_X5_soundOf (nx := 31) (v := 12) rfl (by decide) rfl ?_
        refine ev_anyI f_X5_soundOf (nx := 32) rfl rfl rfl rfl (fun z10 => ?_)
        refine ev_if f_X5_soundOf (t1 := 35) (t2 := 45) rfl rfl rfl (fun h11 => ?_) (fun h11 => ?_)
        · have u12 : z10.toInt ≤ 0 := t_equ h11 (by decide : (0:Int32).toInt ≤ (0:Int))
          have l13 : 0 ≤ z10.toInt := t_eql h11 (by decide : (0:Int) ≤ (0:Int32).toInt)
          refine ev_ldL f_X5_soundOf (nx := 38) (v := 7) rfl (by decide) rfl ?_
          refine ev_loc f_X5_soundOf (nx := 39) rfl rfl rfl rfl ?_
          refine ev_ic f_X5_soundOf (nx := 40) (v := 4) rfl (by decide) rfl ?_
          refine ev_anyL f_X5_soundOf (nx := 41) rfl rfl rfl rfl (fun z14 => ?_)
          refine ev_anyL f_X5_soundOf (nx := 42) rfl rfl rfl rfl (fun z15 => ?_)
          refine ev_jmp f_X5_soundOf (nx := 50) rfl rfl rfl ?_
          refine ev_loc f_X5_soundOf (nx := 51) (lo' := [(2, .long z15), (6, .int y1_6), (4, .long y1_4), (0, .long ar0)]) rfl rfl rfl rfl ?_
          refine ev_loc f_X5_soundOf (nx := 53) rfl rfl rfl rfl ?_
          refine ev_ldL f_X5_soundOf (nx := 56) (v := 32) rfl (by decide) rfl ?_
          refine ev_ldivN f_X5_soundOf (nx := 57) rfl (by decide) rfl (fun z16 e16 => ?_)
          refine ev_loc f_X5_soundOf (nx := 59) (lo' := [(4, .long z16), (2, .long z15), (6, .int y1_6), (0, .long ar0)]) rfl rfl rfl rfl ?_
          refine ev_incR f_X5_soundOf (nx := 62) (c := 1) (l := 1) (u := 6) rfl rfl (by decide) (by decide) l1_6 u4 rfl rfl (by decide) (by decide) rfl (fun z17 e17 l17 u17 => ?_)
          refine ev_jmp f_X5_soundOf (nx := 8) rfl rfl rfl ?_
          refine ev_sub (lo := [(6, .int z17), (4, .long z16), (2, .long z15), (0, .long ar0)]) rfl (t_sc rfl (t_sc rfl (t_sc rfl (t_sc rfl t_sn)))) ?_
          exact ih1 _ (by omega) gi1 gl1 gr1 (z17) (z16) (z15) hI hX  (Int.le_trans (by decide : (0:Int) ≤ 1) l17) u17 rfl
        · refine ev_lc f_X5_soundOf (nx := 46) (v := 1) rfl (by decide) rfl ?_
          refine ev_loc f_X5_soundOf (nx := 47) rfl rfl rfl rfl ?_
          refine ev_ic f_X5_soundOf (nx := 48) (v := 2) rfl (by decide) rfl ?_
          refine ev_anyL f_X5_soundOf (nx := 49) rfl rfl rfl rfl (fun z18 => ?_)
          refine ev_anyL f_X5_soundOf (nx := 50) rfl rfl rfl rfl (fun z19 => ?_)
          refine ev_loc f_X5_soundOf (nx := 51) (lo' := [(2, .long z19), (6, .int y1_6), (4, .long y1_4), (0, .long ar0)]) rfl rfl rfl rfl ?_
          refine ev_loc f_X5_soundOf (nx := 53) rfl rfl rfl rfl ?_
          refine ev_ldL f_X5_soundOf (nx := 56) (v := 32) rfl (by decide) rfl ?_
          refine ev_ldivN f_X5_soundOf (nx := 57) rfl (by decide) rfl (fun z20 e20 => ?_)
          refine ev_loc f_X5_soundOf (nx := 59) (lo' := [(4, .long z20), (2, .long z19), (6, .int y1_6), (0, .long ar0)]) rfl rfl rfl rfl ?_
          refine ev_incR f_X5_soundOf (nx := 62) (c := 1) (l := 1) (u := 6) rfl rfl (by decide) (by decide) l1_6 u4 rfl rfl (by decide) (by decide) rfl (fun z21 e21 l21 u21 => ?_)
          refine ev_jmp f_X5_soundOf (nx := 8) rfl rfl rfl ?_
          refine ev_sub (lo := [(6, .int z21), (4, .long z20), (2, .long z19), (0, .long ar0)]) rfl (t_sc rfl (t_sc rfl (t_sc rfl (t_sc rfl t_sn)))) ?_
          exact ih1 _ (by omega) gi1 gl1 gr1 (z21) (z20) (z19) hI hX  (Int.le_trans (by decide : (0:Int) ≤ 1) l21) u21 rfl
  refine ev_sub (lo := [(6, .int 0), (4, .long ar0), (2, .long 0), (0, .long ar0)]) rfl (t_sc rfl (t_sc rfl (t_sc rfl (t_sc rfl t_sn)))) ?_
  exact L1 _ gi gl gr (0) (ar0) (0) hI hX  (by decide : (0:Int) ≤ (0:Int32).toInt) (Int.le_trans (by decide : (0:Int32).toInt ≤ (0:Int)) (by decide : (0:Int) ≤ 6)) rfl
def wl_heardOf : List (Nat × Nat) := []
theorem c_heardOf {X : x_Ext} {d : Nat} {sh : List (Nat ⊕ (Nat × Nat))} {gi : Nat → Nat → Int32} {gl : Nat → Nat → Int64} {gr : Nat → Nat → Value} (hI : t_I sh gi gr) (ar0 : Nat) (p_a0 : t_Rv sh gr ar0) (ar1 : Int32) : x_Me X (d + 2) n_X5_heardOf [.ref ar0, .int ar1] (sh, gi, gl, gr) (t_P wl_heardOf sh gi gl gr t_Rl) := by
  have hX : t_X wl_heardOf sh gi gl gr gi gl gr := t_X.rf
  refine me_i f_X5_heardOf p_a0.1 rfl rfl rfl ?_
  refine ev_loc f_X5_heardOf (nx := 1) rfl rfl rfl rfl ?_
  refine ev_if f_X5_heardOf (t1 := 28) (t2 := 4) rfl rfl rfl (fun h1 => ?_) (fun h1 => ?_)
  · have u2 : ar1.toInt ≤ (-1) := t_ltu h1 (by decide : (0:Int32).toInt ≤ (0:Int)) rfl
    refine ev_lc f_X5_heardOf (nx := 29) (v := 0) rfl (by decide) rfl ?_
    exact ev_ret f_X5_heardOf rfl rfl rfl ⟨_, _, _, rfl, hI, hX, ⟨_, rfl⟩⟩
  · have l3 : 0 ≤ ar1.toInt := t_lel (t_nlt h1) (by decide : (0:Int) ≤ (0:Int32).toInt)
    refine ev_loc f_X5_heardOf (nx := 5) rfl rfl rfl rfl ?_
    refine ev_loc f_X5_heardOf (nx := 6) rfl rfl rfl rfl ?_
    refine ev_getI f_X5_heardOf (nx := 9) rfl p_a0.1 rfl rfl rfl ?_
    obtain ⟨l4, u4⟩ := hI.b p_a0.1 (rfl : t_bd 4 0 = some (0, 6))
    refine ev_if f_X5_heardOf (t1 := 28) (t2 := 12) rfl rfl rfl (fun h5 => ?_) (fun h5 => ?_)
    · refine ev_lc f_X5_heardOf (nx := 29) (v := 0) rfl (by decide) rfl ?_
      exact ev_ret f_X5_heardOf rfl rfl rfl ⟨_, _, _, rfl, hI, hX, ⟨_, rfl⟩⟩
    · have u6 : ar1.toInt ≤ 5 := t_ltu (t_nle h5) u4 rfl
      have l7 : 1 ≤ (gi ar0 0).toInt := t_ltl (t_nle h5) l3 rfl
      refine ev_loc f_X5_heardOf (nx := 13) rfl rfl rfl rfl ?_
      obtain ⟨a8, e8, s8, o8⟩ := p_a0.2.2.1
      refine ev_getR f_X5_heardOf (nx := 16) rfl p_a0.1 rfl rfl e8 rfl rfl ?_
      refine ev_loc f_X5_heardOf (nx := 17) rfl rfl rfl rfl ?_
      refine ev_laldT f_X5_heardOf (nx := 18) rfl s8 l3 (by decide) u6 (by decide) rfl (fun w9 e9 => ?_)
      refine ev_loc f_X5_heardOf (nx := 19) rfl rfl rfl rfl ?_
      refine ev_getI f_X5_heardOf (nx := 22) rfl p_a0.1 rfl rfl rfl ?_
      refine ev_inS2 f_X5_heardOf (nx := 25) (lo2 := [(0, .long w9), (2, .int (gi ar0 6))]) rfl rfl rfl rfl f_X5_withEcho rfl rfl rfl rfl ?_
      refine ev_loc f_X5_withEcho (nx := 1) rfl rfl rfl rfl ?_
      refine ev_loc f_X5_withEcho (nx := 2) rfl rfl rfl rfl ?_
      refine ev_loc f_X5_withEcho (nx := 3) rfl rfl rfl rfl ?_
      refine ev_anyL f_X5_withEcho (nx := 4) rfl rfl rfl rfl (fun z10 => ?_)
      refine ev_anyL f_X5_withEcho (nx := 5) rfl rfl rfl rfl (fun z11 => ?_)
      refine ev_retK1 f_X5_withEcho rfl rfl rfl ?_
      refine ev_jmp f_X5_heardOf (nx := 29) rfl rfl rfl ?_
      exact ev_ret f_X5_heardOf rfl rfl rfl ⟨_, _, _, rfl, hI, hX, ⟨_, rfl⟩⟩
def wl_countBeats : List (Nat × Nat) := []
theorem c_countBeats {X : x_Ext} {d : Nat} {sh : List (Nat ⊕ (Nat × Nat))} {gi : Nat → Nat → Int32} {gl : Nat → Nat → Int64} {gr : Nat → Nat → Value} (hI : t_I sh gi gr) (ar0 : Nat) (p_a0 : t_Rv sh gr ar0) (ar1 : Int64) (ar2 : Int32) (ar3 : Int32) : x_Me X (d + 4) n_X5_countBeats [.ref ar0, .long ar1, .int ar2, .int ar3] (sh, gi, gl, gr) (t_P wl_countBeats sh gi gl gr (t_Ri (-2147483648) 2147483647)) := by
  have hX : t_X wl_countBeats sh gi gl gr gi gl gr := t_X.rf
  refine me_i f_X5_countBeats p_a0.1 rfl rfl rfl ?_
  refine ev_ic f_X5_countBeats (nx := 1) (v := 0) rfl (by decide) rfl ?_
  refine ev_loc f_X5_countBeats (nx := 3) (lo' := [(5, .int 0), (0, .ref ar0), (1, .long ar1), (3, .int ar2), (4, .int ar3)]) rfl rfl rfl rfl ?_
  refine ev_loc f_X5_countBeats (nx := 4) rfl rfl rfl rfl ?_
  refine ev_loc f_X5_countBeats (nx := 5) rfl rfl rfl rfl ?_
  refine ev_loc f_X5_countBeats (nx := 7) rfl rfl rfl rfl ?_
  refine ev_inV3 f_X5_countBeats (nx := 10) (lo2 := [(0, .ref ar0), (1, .int ar2), (2, .int ar3)]) rfl rfl rfl rfl f_X5_leastBeats p_a0.1 rfl rfl rfl rfl rfl ?_
  refine ev_loc f_X5_leastBeats (nx := 1) rfl rfl rfl rfl ?_
  refine ev_loc f_X5_leastBeats (nx := 2) rfl rfl rfl rfl ?_
  refine ev_if f_X5_leastBeats (t1 := 9) (t2 := 5) rfl rfl rfl (fun h1 => ?_) (fun h1 => ?_)
  · refine ev_ic f_X5_leastBeats (nx := 10) (v := 0) rfl (by decide) rfl ?_
    refine ev_retK1 f_X5_leastBeats rfl rfl rfl ?_
    refine ev_loc f_X5_countBeats (nx := 12) (lo' := [(6, .int 0), (5, .int 0), (0, .ref ar0), (1, .long ar1), (3, .int ar2), (4, .int ar3)]) rfl rfl rfl rfl ?_
    have L2 : ∀ (m2 : Nat) (gi2 : Nat → Nat → Int32) (gl2 : Nat → Nat → Int64) (gr2 : Nat → Nat → Value) (y2_6 : Int32) (y2_5 : Int32), t_I sh gi2 gr2 → t_X wl_countBeats sh gi gl gr gi2 gl2 gr2 → t_Rv sh gr2 ar0 → 0 ≤ y2_6.toInt → y2_6.toInt ≤ 13 → (13 - y2_6.toInt).toNat = m2 → x_Ev X (d + 4) n_X5_countBeats 12 [(6, .int y2_6), (5, .int y2_5), (0, .ref ar0), (1, .long ar1), (3, .int ar2), (4, .int ar3)] [] (sh, gi2, gl2, gr2) (t_P wl_countBeats sh gi gl gr (t_Ri (-2147483648) 2147483647)) := by
      intro m2
      induction m2 using Nat.strongRecOn with
      | _ m2 ih2 =>
      intro gi2 gl2 gr2 y2_6 y2_5 hI hX p_a0 l2_6 u2_6 hm2
      refine ev_loc f_X5_countBeats (nx := 14) rfl rfl rfl rfl ?_
      refine ev_bp f_X5_countBeats (nx := 16) (v := 12) rfl (by decide) rfl ?_
      refine ev_if f_X5_countBeats (t1 := 42) (t2 := 19) rfl rfl rfl (fun h3 => ?_) (fun h3 => ?_)
      · have l4 : 13 ≤ y2_6.toInt := t_ltl h3 (by decide : (12:Int) ≤ (12:Int32).toInt) rfl
        refine ev_loc f_X5_countBeats (nx := 44) rfl rfl rfl rfl ?_
        exact ev_ret f_X5_countBeats rfl rfl rfl ⟨_, _, _, rfl, hI, hX, ⟨_, rfl, (t_lo y2_5), (t_hi y2_5)⟩⟩
      · have u5 : y2_6.toInt ≤ 12 := t_leu (t_nlt h3) (by decide : (12:Int32).toInt ≤ (12:Int))
        refine ev_loc f_X5_countBeats (nx := 20) rfl rfl rfl rfl ?_
        refine ev_loc f_X5_countBeats (nx := 21) rfl rfl rfl rfl ?_
        refine ev_loc f_X5_countBeats (nx := 23) rfl rfl rfl rfl ?_
        refine ev_loc f_X5_countBeats (nx := 25) rfl rfl rfl rfl ?_
        refine ev_inV4 f_X5_countBeats (nx := 28) (lo2 := [(0, .ref ar0), (1, .int ar2), (2, .int ar3), (3, .int y2_6)]) rfl rfl rfl rfl f_X5_bothHeard p_a0.1 rfl rfl rfl rfl rfl ?_
        refine ev_loc f_X5_bothHeard (nx := 1) rfl rfl rfl rfl ?_
        refine ev_loc f_X5_bothHeard (nx := 2) rfl rfl rfl rfl ?_
        refine ev_cL f_X5_bothHeard (nx := 5) (r := []) rfl rfl rfl rfl rfl rfl rfl (c_heardOf hI (ar0) p_a0 (ar2)) rfl hX rfl (fun w6 gi6 gl6 gr6 hI hX hC6 => ?_)
        replace p_a0 := p_a0.ext hC6.2
        refine ev_loc f_X5_bothHeard (nx := 6) rfl rfl rfl rfl ?_
        refine ev_loc f_X5_bothHeard (nx := 7) rfl rfl rfl rfl ?_
        refine ev_cL f_X5_bothHeard (nx := 10) (r := [.long w6]) rfl rfl rfl rfl rfl rfl rfl (c_heardOf hI (ar0) p_a0 (ar3)) rfl hX rfl (fun w7 gi7 gl7 gr7 hI hX hC7 => ?_)
        replace p_a0 := p_a0.ext hC7.2
        refine ev_loc f_X5_bothHeard (nx := 11) rfl rfl rfl rfl ?_
        refine ev_anyL f_X5_bothHeard (nx := 12) rfl rfl rfl rfl (fun z8 => ?_)
        refine ev_anyL f_X5_bothHeard (nx := 13) rfl rfl rfl rfl (fun z9 => ?_)
        refine ev_retK1 f_X5_bothHeard rfl rfl rfl ?_
        refine ev_loc f_X5_countBeats (nx := 29) rfl rfl rfl rfl ?_
        refine ev_anyI f_X5_countBeats (nx := 30) rfl rfl rfl rfl (fun z10 => ?_)
        refine ev_if f_X5_countBeats (t1 := 33) (t2 := 36) rfl rfl rfl (fun h11 => ?_) (fun h11 => ?_)
        · have u12 : z10.toInt ≤ 0 := t_equ h11 (by decide : (0:Int32).toInt ≤ (0:Int))
          have l13 : 0 ≤ z10.toInt := t_eql h11 (by decide : (0:Int) ≤ (0:Int32).toInt)
          refine ev_incN f_X5_countBeats (nx := 36) rfl rfl (by decide) rfl (fun z14 => ?_)
          refine ev_incR f_X5_countBeats (nx := 39) (c := 1) (l := 1) (u := 13) rfl rfl (by decide) (by decide) l2_6 u5 rfl rfl (by decide) (by decide) rfl (fun z15 e15 l15 u15 => ?_)
          refine ev_jmp f_X5_countBeats (nx := 12) rfl rfl rfl ?_
          refine ev_sub (lo := [(6, .int z15), (5, .int z14), (0, .ref ar0), (1, .long ar1), (3, .int ar2), (4, .int ar3)]) rfl (t_sc rfl (t_sc rfl (t_sc rfl (t_sc rfl (t_sc rfl (t_sc rfl t_sn)))))) ?_
          exact ih2 _ (by omega) gi7 gl7 gr7 (z15) (z14) hI hX p_a0 (Int.le_trans (by decide : (0:Int) ≤ 1) l15) u15 rfl
        · refine ev_incR f_X5_countBeats (nx := 39) (c := 1) (l := 1) (u := 13) rfl rfl (by decide) (by decide) l2_6 u5 rfl rfl (by decide) (by decide) rfl (fun z16 e16 l16 u16 => ?_)
          refine ev_jmp f_X5_countBeats (nx := 12) rfl rfl rfl ?_
          refine ev_sub (lo := [(6, .int z16), (5, .int y2_5), (0, .ref ar0), (1, .long ar1), (3, .int ar2), (4, .int ar3)]) rfl (t_sc rfl (t_sc rfl (t_sc rfl (t_sc rfl (t_sc rfl (t_sc rfl t_sn)))))) ?_
          exact ih2 _ (by omega) gi7 gl7 gr7 (z16) (y2_5) hI hX p_a0 (Int.le_trans (by decide : (0:Int) ≤ 1) l16) u16 rfl
    refine ev_sub (lo := [(6, .int 0), (5, .int 0), (0, .ref ar0), (1, .long ar1), (3, .int ar2), (4, .int ar3)]) rfl (t_sc rfl (t_sc rfl (t_sc rfl (t_sc rfl (t_sc rfl (t_sc rfl t_sn)))))) ?_
    exact L2 _ gi gl gr (0) (0) hI hX p_a0 (by decide : (0:Int) ≤ (0:Int32).toInt) (Int.le_trans (by decide : (0:Int32).toInt ≤ (0:Int)) (by decide : (0:Int) ≤ 13)) rfl
  · have u17 : ar3.toInt ≤ 2147483646 := t_ltu (t_nle h1) (t_hi ar2) rfl
    have l18 : (-2147483647) ≤ ar2.toInt := t_ltl (t_nle h1) (t_lo ar3) rfl
    refine ev_ic f_X5_leastBeats (nx := 6) (v := 1) rfl (by decide) rfl ?_
    refine ev_jmp f_X5_leastBeats (nx := 10) rfl rfl rfl ?_
    refine ev_retK1 f_X5_leastBeats rfl rfl rfl ?_
    refine ev_loc f_X5_countBeats (nx := 12) (lo' := [(6, .int 1), (5, .int 0), (0, .ref ar0), (1, .long ar1), (3, .int ar2), (4, .int ar3)]) rfl rfl rfl rfl ?_
    have L19 : ∀ (m19 : Nat) (gi19 : Nat → Nat → Int32) (gl19 : Nat → Nat → Int64) (gr19 : Nat → Nat → Value) (y19_6 : Int32) (y19_5 : Int32), t_I sh gi19 gr19 → t_X wl_countBeats sh gi gl gr gi19 gl19 gr19 → t_Rv sh gr19 ar0 → 0 ≤ y19_6.toInt → y19_6.toInt ≤ 13 → (13 - y19_6.toInt).toNat = m19 → x_Ev X (d + 4) n_X5_countBeats 12 [(6, .int y19_6), (5, .int y19_5), (0, .ref ar0), (1, .long ar1), (3, .int ar2), (4, .int ar3)] [] (sh, gi19, gl19, gr19) (t_P wl_countBeats sh gi gl gr (t_Ri (-2147483648) 2147483647)) := by
      intro m19
      induction m19 using Nat.strongRecOn with
      | _ m19 ih19 =>
      intro gi19 gl19 gr19 y19_6 y19_5 hI hX p_a0 l19_6 u19_6 hm19
      refine ev_loc f_X5_countBeats (nx := 14) rfl rfl rfl rfl ?_
      refine ev_bp f_X5_countBeats (nx := 16) (v := 12) rfl (by decide) rfl ?_
      refine ev_if f_X5_countBeats (t1 := 42) (t2 := 19) rfl rfl rfl (fun h20 => ?_) (fun h20 => ?_)
      · have l21 : 13 ≤ y19_6.toInt := t_ltl h20 (by decide : (12:Int) ≤ (12:Int32).toInt) rfl
        refine ev_loc f_X5_countBeats (nx := 44) rfl rfl rfl rfl ?_
        exact ev_ret f_X5_countBeats rfl rfl rfl ⟨_, _, _, rfl, hI, hX, ⟨_, rfl, (t_lo y19_5), (t_hi y19_5)⟩⟩
      · have u22 : y19_6.toInt ≤ 12 := t_leu (t_nlt h20) (by decide : (12:Int32).toInt ≤ (12:Int))
        refine ev_loc f_X5_countBeats (nx := 20) rfl rfl rfl rfl ?_
        refine ev_loc f_X5_countBeats (nx := 21) rfl rfl rfl rfl ?_
        refine ev_loc f_X5_countBeats (nx := 23) rfl rfl rfl rfl ?_
        refine ev_loc f_X5_countBeats (nx := 25) rfl rfl rfl rfl ?_
        refine ev_inV4 f_X5_countBeats (nx := 28) (lo2 := [(0, .ref ar0), (1, .int ar2), (2, .int ar3), (3, .int y19_6)]) rfl rfl rfl rfl f_X5_bothHeard p_a0.1 rfl rfl rfl rfl rfl ?_
        refine ev_loc f_X5_bothHeard (nx := 1) rfl rfl rfl rfl ?_
        refine ev_loc f_X5_bothHeard (nx := 2) rfl rfl rfl rfl ?_
        refine ev_cL f_X5_bothHeard (nx := 5) (r := []) rfl rfl rfl rfl rfl rfl rfl (c_heardOf hI (ar0) p_a0 (ar2)) rfl hX rfl (fun w23 gi23 gl23 gr23 hI hX hC23 => ?_)
        replace p_a0 := p_a0.ext hC23.2
        refine ev_loc f_X5_bothHeard (nx := 6) rfl rfl rfl rfl ?_
        refine ev_loc f_X5_bothHeard (nx := 7) rfl rfl rfl rfl ?_
        refine ev_cL f_X5_bothHeard (nx := 10) (r := [.long w23]) rfl rfl rfl rfl rfl rfl rfl (c_heardOf hI (ar0) p_a0 (ar3)) rfl hX rfl (fun w24 gi24 gl24 gr24 hI hX hC24 => ?_)
        replace p_a0 := p_a0.ext hC24.2
        refine ev_loc f_X5_bothHeard (nx := 11) rfl rfl rfl rfl ?_
        refine ev_anyL f_X5_bothHeard (nx := 12) rfl rfl rfl rfl (fun z25 => ?_)
        refine ev_anyL f_X5_bothHeard (nx := 13) rfl rfl rfl rfl (fun z26 => ?_)
        refine ev_retK1 f_X5_bothHeard rfl rfl rfl ?_
        refine ev_loc f_X5_countBeats (nx := 29) rfl rfl rfl rfl ?_
        refine ev_anyI f_X5_countBeats (nx := 30) rfl rfl rfl rfl (fun z27 => ?_)
        refine ev_if f_X5_countBeats (t1 := 33) (t2 := 36) rfl rfl rfl (fun h28 => ?_) (fun h28 => ?_)
        · have u29 : z27.toInt ≤ 0 := t_equ h28 (by decide : (0:Int32).toInt ≤ (0:Int))
          have l30 : 0 ≤ z27.toInt := t_eql h28 (by decide : (0:Int) ≤ (0:Int32).toInt)
          refine ev_incN f_X5_countBeats (nx := 36) rfl rfl (by decide) rfl (fun z31 => ?_)
          refine ev_incR f_X5_countBeats (nx := 39) (c := 1) (l := 1) (u := 13) rfl rfl (by decide) (by decide) l19_6 u22 rfl rfl (by decide) (by decide) rfl (fun z32 e32 l32 u32 => ?_)
          refine ev_jmp f_X5_countBeats (nx := 12) rfl rfl rfl ?_
          refine ev_sub (lo := [(6, .int z32), (5, .int z31), (0, .ref ar0), (1, .long ar1), (3, .int ar2), (4, .int ar3)]) rfl (t_sc rfl (t_sc rfl (t_sc rfl (t_sc rfl (t_sc rfl (t_sc rfl t_sn)))))) ?_
          exact ih19 _ (by omega) gi24 gl24 gr24 (z32) (z31) hI hX p_a0 (Int.le_trans (by decide : (0:Int) ≤ 1) l32) u32 rfl
        · refine ev_incR f_X5_countBeats (nx := 39) (c := 1) (l := 1) (u := 13) rfl rfl (by decide) (by decide) l19_6 u22 rfl rfl (by decide) (by decide) rfl (fun z33 e33 l33 u33 => ?_)
          refine ev_jmp f_X5_countBeats (nx := 12) rfl rfl rfl ?_
          refine ev_sub (lo := [(6, .int z33), (5, .int y19_5), (0, .ref ar0), (1, .long ar1), (3, .int ar2), (4, .int ar3)]) rfl (t_sc rfl (t_sc rfl (t_sc rfl (t_sc rfl (t_sc rfl (t_sc rfl t_sn)))))) ?_
          exact ih19 _ (by omega) gi24 gl24 gr24 (z33) (y19_5) hI hX p_a0 (Int.le_trans (by decide : (0:Int) ≤ 1) l33) u33 rfl
    refine ev_sub (lo := [(6, .int 1), (5, .int 0), (0, .ref ar0), (1, .long ar1), (3, .int ar2), (4, .int ar3)]) rfl (t_sc rfl (t_sc rfl (t_sc rfl (t_sc rfl (t_sc rfl (t_sc rfl t_sn)))))) ?_
    exact L19 _ gi gl gr (1) (0) hI hX p_a0 (Int.le_trans (by decide : (0:Int) ≤ 1) (by decide : (1:Int) ≤ (1:Int32).toInt)) (Int.le_trans (by decide : (1:Int32).toInt ≤ (1:Int)) (by decide : (1:Int) ≤ 13)) rfl
def wl_countReadings : List (Nat × Nat) := []
theorem c_countReadings {X : x_Ext} {d : Nat} {sh : List (Nat ⊕ (Nat × Nat))} {gi : Nat → Nat → Int32} {gl : Nat → Nat → Int64} {gr : Nat → Nat → Value} (hI : t_I sh gi gr) (ar0 : Nat) (p_a0 : t_Rv sh gr ar0) (ar1 : Int64) (ar2 : Int32) : x_Me X (d + 5) n_X5_countReadings [.ref ar0, .long ar1, .int ar2] (sh, gi, gl, gr) (t_P wl_countReadings sh gi gl gr (t_Ri (-2147483648) 2147483647)) := by
  have hX : t_X wl_countReadings sh gi gl gr gi gl gr := t_X.rf
  refine me_i f_X5_countReadings p_a0.1 rfl rfl rfl ?_
  refine ev_ic f_X5_countReadings (nx := 1) (v := 0) rfl (by decide) rfl ?_
  refine ev_loc f_X5_countReadings (nx := 3) (lo' := [(4, .int 0), (0, .ref ar0), (1, .long ar1), (3, .int ar2)]) rfl rfl rfl rfl ?_
  refine ev_ic f_X5_countReadings (nx := 4) (v := 0) rfl (by decide) rfl ?_
  refine ev_loc f_X5_countReadings (nx := 6) (lo' := [(5, .int 0), (4, .int 0), (0, .ref ar0), (1, .long ar1), (3, .int ar2)]) rfl rfl rfl rfl ?_
  have L1 : ∀ (m1 : Nat) (gi1 : Nat → Nat → Int32) (gl1 : Nat → Nat → Int64) (gr1 : Nat → Nat → Value) (y1_5 : Int32) (y1_4 : Int32), t_I sh gi1 gr1 → t_X wl_countReadings sh gi gl gr gi1 gl1 gr1 → t_Rv sh gr1 ar0 → 0 ≤ y1_5.toInt → y1_5.toInt ≤ 6 → (6 - y1_5.toInt).toNat = m1 → x_Ev X (d + 5) n_X5_countReadings 6 [(5, .int y1_5), (4, .int y1_4), (0, .ref ar0), (1, .long ar1), (3, .int ar2)] [] (sh, gi1, gl1, gr1) (t_P wl_countReadings sh gi gl gr (t_Ri (-2147483648) 2147483647)) := by
    intro m1
    induction m1 using Nat.strongRecOn with
    | _ m1 ih1 =>
    intro gi1 gl1 gr1 y1_5 y1_4 hI hX p_a0 l1_5 u1_5 hm1
    refine ev_loc f_X5_countReadings (nx := 8) rfl rfl rfl rfl ?_
    refine ev_loc f_X5_countReadings (nx := 9) rfl rfl rfl rfl ?_
    refine ev_getI f_X5_countReadings (nx := 12) rfl p_a0.1 rfl rfl rfl ?_
    obtain ⟨l2, u2⟩ := hI.b p_a0.1 (rfl : t_bd 4 0 = some (0, 6))
    refine ev_if f_X5_countReadings (t1 := 95) (t2 := 15) rfl rfl rfl (fun h3 => ?_) (fun h3 => ?_)
    · refine ev_loc f_X5_countReadings (nx := 97) rfl rfl rfl rfl ?_
      exact ev_ret f_X5_countReadings rfl rfl rfl ⟨_, _, _, rfl, hI, hX, ⟨_, rfl, (t_lo y1_4), (t_hi y1_4)⟩⟩
    · have u4 : y1_5.toInt ≤ 5 := t_ltu (t_nle h3) u2 rfl
      have l5 : 1 ≤ (gi1 ar0 0).toInt := t_ltl (t_nle h3) l1_5 rfl
      refine ev_loc f_X5_countReadings (nx := 16) rfl rfl rfl rfl ?_
      refine ev_ic f_X5_countReadings (nx := 17) (v := -1) rfl (by decide) rfl ?_
      refine ev_if f_X5_countReadings (t1 := 26) (t2 := 20) rfl rfl rfl (fun h6 => ?_) (fun h6 => ?_)
      · have u7 : ar2.toInt ≤ (-1) := t_equ h6 (by decide : ((-1):Int32).toInt ≤ ((-1):Int))
        have l8 : (-1) ≤ ar2.toInt := t_eql h6 (by decide : ((-1):Int) ≤ ((-1):Int32).toInt)
        refine ev_loc f_X5_countReadings (nx := 27) rfl rfl rfl rfl ?_
        refine ev_loc f_X5_countReadings (nx := 29) rfl rfl rfl rfl ?_
        refine ev_cL f_X5_countReadings (nx := 32) (r := []) rfl rfl rfl rfl rfl rfl rfl (c_heardOf hI (ar0) p_a0 (y1_5)) rfl hX rfl (fun w9 gi9 gl9 gr9 hI hX hC9 => ?_)
        replace p_a0 := p_a0.ext hC9.2
        refine ev_loc f_X5_countReadings (nx := 33) rfl rfl rfl rfl ?_
        refine ev_anyI f_X5_countReadings (nx := 34) rfl rfl rfl rfl (fun z10 => ?_)
        refine ev_if f_X5_countReadings (t1 := 37) (t2 := 40) rfl rfl rfl (fun h11 => ?_) (fun h11 => ?_)
        · have u12 : z10.toInt ≤ 0 := t_equ h11 (by decide : (0:Int32).toInt ≤ (0:Int))
          have l13 : 0 ≤ z10.toInt := t_eql h11 (by decide : (0:Int) ≤ (0:Int32).toInt)
          refine ev_incN f_X5_countReadings (nx := 40) rfl rfl (by decide) rfl (fun z14 => ?_)
          refine ev_ic f_X5_countReadings (nx := 41) (v := 0) rfl (by decide) rfl ?_
          refine ev_loc f_X5_countReadings (nx := 43) (lo' := [(6, .int 0), (4, .int z14), (5, .int y1_5), (0, .ref ar0), (1, .long ar1), (3, .int ar2)]) rfl rfl rfl rfl ?_
          have L15 : ∀ (m15 : Nat) (gi15 : Nat → Nat → Int32) (gl15 : Nat → Nat → Int64) (gr15 : Nat → Nat → Value) (y15_6 : Int32) (y15_4 : Int32), t_I sh gi15 gr15 → t_X wl_countReadings sh gi gl gr gi15 gl15 gr15 → t_Rv sh gr15 ar0 → 0 ≤ y15_6.toInt → y15_6.toInt ≤ 6 → gi15 ar0 0 = (gi1 ar0 0) → (6 - y15_6.toInt).toNat = m15 → x_Ev X (d + 5) n_X5_countReadings 43 [(6, .int y15_6), (4, .int y15_4), (5, .int y1_5), (0, .ref ar0), (1, .long ar1), (3, .int ar2)] [] (sh, gi15, gl15, gr15) (t_P wl_countReadings sh gi gl gr (t_Ri (-2147483648) 2147483647)) := by
            intro m15
            induction m15 using Nat.strongRecOn with
            | _ m15 ih15 =>
            intro gi15 gl15 gr15 y15_6 y15_4 hI hX p_a0 l15_6 u15_6 c15_0 hm15
            refine ev_loc f_X5_countReadings (nx := 45) rfl rfl rfl rfl ?_
            refine ev_loc f_X5_countReadings (nx := 46) rfl rfl rfl rfl ?_
            refine ev_gvI f_X5_countReadings (nx := 49) (w := (gi1 ar0 0)) rfl p_a0.1 rfl rfl c15_0 rfl ?_
            refine ev_if f_X5_countReadings (t1 := 89) (t2 := 52) rfl rfl rfl (fun h16 => ?_) (fun h16 => ?_)
            · have l17 : 1 ≤ y15_6.toInt := t_lel h16 l5
              refine ev_incR f_X5_countReadings (nx := 92) (c := 1) (l := 1) (u := 6) rfl rfl (by decide) (by decide) l1_5 u4 rfl rfl (by decide) (by decide) rfl (fun z18 e18 l18 u18 => ?_)
              refine ev_jmp f_X5_countReadings (nx := 6) rfl rfl rfl ?_
              refine ev_sub (lo := [(5, .int z18), (4, .int y15_4), (0, .ref ar0), (1, .long ar1), (3, .int ar2)]) rfl (t_sc rfl (t_sc rfl (t_sc rfl (t_sc rfl (t_sc rfl t_sn))))) ?_
              exact ih1 _ (by omega) gi15 gl15 gr15 (z18) (y15_4) hI hX p_a0 (Int.le_trans (by decide : (0:Int) ≤ 1) l18) u18 rfl
            · have u19 : y15_6.toInt ≤ 5 := t_ltu (t_nle h16) u2 rfl
              refine ev_loc f_X5_countReadings (nx := 53) rfl rfl rfl rfl ?_
              refine ev_ic f_X5_countReadings (nx := 54) (v := -1) rfl (by decide) rfl ?_
              refine ev_t f_X5_countReadings (t1 := 69) (t2 := 57) rfl rfl rfl (t_eqT u7 l8 (by decide : ((-1):Int32).toInt ≤ ((-1):Int)) (by decide : ((-1):Int) ≤ ((-1):Int32).toInt)) ?_
              refine ev_loc f_X5_countReadings (nx := 71) rfl rfl rfl rfl ?_
              refine ev_loc f_X5_countReadings (nx := 72) rfl rfl rfl rfl ?_
              refine ev_loc f_X5_countReadings (nx := 73) rfl rfl rfl rfl ?_
              refine ev_loc f_X5_countReadings (nx := 75) rfl rfl rfl rfl ?_
              refine ev_loc f_X5_countReadings (nx := 77) rfl rfl rfl rfl ?_
              refine ev_cI f_X5_countReadings (nx := 80) (r := [.int y15_4]) rfl rfl rfl rfl rfl rfl rfl (c_countBeats hI (ar0) p_a0 (ar1) (y1_5) (y15_6)) rfl hX rfl (fun w20 gi20 gl20 gr20 l20 u20 hI hX hC20 => ?_)
              replace p_a0 := p_a0.ext hC20.2
              refine ev_anyI f_X5_countReadings (nx := 81) rfl rfl rfl rfl (fun z21 => ?_)
              refine ev_loc f_X5_countReadings (nx := 83) (lo' := [(4, .int z21), (6, .int y15_6), (5, .int y1_5), (0, .ref ar0), (1, .long ar1), (3, .int ar2)]) rfl rfl rfl rfl ?_
              refine ev_incR f_X5_countReadings (nx := 86) (c := 1) (l := 1) (u := 6) rfl rfl (by decide) (by decide) l15_6 u19 rfl rfl (by decide) (by decide) rfl (fun z22 e22 l22 u22 => ?_)
              refine ev_jmp f_X5_countReadings (nx := 43) rfl rfl rfl ?_
              refine ev_sub (lo := [(6, .int z22), (4, .int z21), (5, .int y1_5), (0, .ref ar0), (1, .long ar1), (3, .int ar2)]) rfl (t_sc rfl (t_sc rfl (t_sc rfl (t_sc rfl (t_sc rfl (t_sc rfl t_sn)))))) ?_
              exact ih15 _ (by omega) gi20 gl20 gr20 (z22) (z21) hI hX p_a0 (Int.le_trans (by decide : (0:Int) ≤ 1) l22) u22 ((hC20.1 ar0 0 (t_ninO hI.wf p_a0.1 (t_outO hI.wf p_a0.1 rfl) rfl)).1.trans c15_0) rfl
          refine ev_sub (lo := [(6, .int 0), (4, .int z14), (5, .int y1_5), (0, .ref ar0), (1, .long ar1), (3, .int ar2)]) rfl (t_sc rfl (t_sc rfl (t_sc rfl (t_sc rfl (t_sc rfl (t_sc rfl t_sn)))))) ?_
          exact L15 _ gi9 gl9 gr9 (0) (z14) hI hX p_a0 (by decide : (0:Int) ≤ (0:Int32).toInt) (Int.le_trans (by decide : (0:Int32).toInt ≤ (0:Int)) (by decide : (0:Int) ≤ 6)) ((hC9.1 ar0 0 (t_ninO hI.wf p_a0.1 (t_outO hI.wf p_a0.1 rfl) rfl)).1.trans rfl) rfl
        · refine ev_ic f_X5_countReadings (nx := 41) (v := 0) rfl (by decide) rfl ?_
          refine ev_loc f_X5_countReadings (nx := 43) (lo' := [(6, .int 0), (5, .int y1_5), (4, .int y1_4), (0, .ref ar0), (1, .long ar1), (3, .int ar2)]) rfl rfl rfl rfl ?_
          have L23 : ∀ (m23 : Nat) (gi23 : Nat → Nat → Int32) (gl23 : Nat → Nat → Int64) (gr23 : Nat → Nat → Value) (y23_6 : Int32) (y23_4 : Int32), t_I sh gi23 gr23 → t_X wl_countReadings sh gi gl gr gi23 gl23 gr23 → t_Rv sh gr23 ar0 → 0 ≤ y23_6.toInt → y23_6.toInt ≤ 6 → gi23 ar0 0 = (gi1 ar0 0) → (6 - y23_6.toInt).toNat = m23 → x_Ev X (d + 5) n_X5_countReadings 43 [(6, .int y23_6), (5, .int y1_5), (4, .int y23_4), (0, .ref ar0), (1, .long ar1), (3, .int ar2)] [] (sh, gi23, gl23, gr23) (t_P wl_countReadings sh gi gl gr (t_Ri (-2147483648) 2147483647)) := by
            intro m23
            induction m23 using Nat.strongRecOn with
            | _ m23 ih23 =>
            intro gi23 gl23 gr23 y23_6 y23_4 hI hX p_a0 l23_6 u23_6 c23_0 hm23
            refine ev_loc f_X5_countReadings (nx := 45) rfl rfl rfl rfl ?_
            refine ev_loc f_X5_countReadings (nx := 46) rfl rfl rfl rfl ?_
            refine ev_gvI f_X5_countReadings (nx := 49) (w := (gi1 ar0 0)) rfl p_a0.1 rfl rfl c23_0 rfl ?_
            refine ev_if f_X5_countReadings (t1 := 89) (t2 := 52) rfl rfl rfl (fun h24 => ?_) (fun h24 => ?_)
            · have l25 : 1 ≤ y23_6.toInt := t_lel h24 l5
              refine ev_incR f_X5_countReadings (nx := 92) (c := 1) (l := 1) (u := 6) rfl rfl (by decide) (by decide) l1_5 u4 rfl rfl (by decide) (by decide) rfl (fun z26 e26 l26 u26 => ?_)
              refine ev_jmp f_X5_countReadings (nx := 6) rfl rfl rfl ?_
              refine ev_sub (lo := [(5, .int z26), (4, .int y23_4), (0, .ref ar0), (1, .long ar1), (3, .int ar2)]) rfl (t_sc rfl (t_sc rfl (t_sc rfl (t_sc rfl (t_sc rfl t_sn))))) ?_
              exact ih1 _ (by omega) gi23 gl23 gr23 (z26) (y23_4) hI hX p_a0 (Int.le_trans (by decide : (0:Int) ≤ 1) l26) u26 rfl
            · have u27 : y23_6.toInt ≤ 5 := t_ltu (t_nle h24) u2 rfl
              refine ev_loc f_X5_countReadings (nx := 53) rfl rfl rfl rfl ?_
              refine ev_ic f_X5_countReadings (nx := 54) (v := -1) rfl (by decide) rfl ?_
              refine ev_t f_X5_countReadings (t1 := 69) (t2 := 57) rfl rfl rfl (t_eqT u7 l8 (by decide : ((-1):Int32).toInt ≤ ((-1):Int)) (by decide : ((-1):Int) ≤ ((-1):Int32).toInt)) ?_
              refine ev_loc f_X5_countReadings (nx := 71) rfl rfl rfl rfl ?_
              refine ev_loc f_X5_countReadings (nx := 72) rfl rfl rfl rfl ?_
              refine ev_loc f_X5_countReadings (nx := 73) rfl rfl rfl rfl ?_
              refine ev_loc f_X5_countReadings (nx := 75) rfl rfl rfl rfl ?_
              refine ev_loc f_X5_countReadings (nx := 77) rfl rfl rfl rfl ?_
              refine ev_cI f_X5_countReadings (nx := 80) (r := [.int y23_4]) rfl rfl rfl rfl rfl rfl rfl (c_countBeats hI (ar0) p_a0 (ar1) (y1_5) (y23_6)) rfl hX rfl (fun w28 gi28 gl28 gr28 l28 u28 hI hX hC28 => ?_)
              replace p_a0 := p_a0.ext hC28.2
              refine ev_anyI f_X5_countReadings (nx := 81) rfl rfl rfl rfl (fun z29 => ?_)
              refine ev_loc f_X5_countReadings (nx := 83) (lo' := [(4, .int z29), (6, .int y23_6), (5, .int y1_5), (0, .ref ar0), (1, .long ar1), (3, .int ar2)]) rfl rfl rfl rfl ?_
              refine ev_incR f_X5_countReadings (nx := 86) (c := 1) (l := 1) (u := 6) rfl rfl (by decide) (by decide) l23_6 u27 rfl rfl (by decide) (by decide) rfl (fun z30 e30 l30 u30 => ?_)
              refine ev_jmp f_X5_countReadings (nx := 43) rfl rfl rfl ?_
              refine ev_sub (lo := [(6, .int z30), (5, .int y1_5), (4, .int z29), (0, .ref ar0), (1, .long ar1), (3, .int ar2)]) rfl (t_sc rfl (t_sc rfl (t_sc rfl (t_sc rfl (t_sc rfl (t_sc rfl t_sn)))))) ?_
              exact ih23 _ (by omega) gi28 gl28 gr28 (z30) (z29) hI hX p_a0 (Int.le_trans (by decide : (0:Int) ≤ 1) l30) u30 ((hC28.1 ar0 0 (t_ninO hI.wf p_a0.1 (t_outO hI.wf p_a0.1 rfl) rfl)).1.trans c23_0) rfl
          refine ev_sub (lo := [(6, .int 0), (5, .int y1_5), (4, .int y1_4), (0, .ref ar0), (1, .long ar1), (3, .int ar2)]) rfl (t_sc rfl (t_sc rfl (t_sc rfl (t_sc rfl (t_sc rfl (t_sc rfl t_sn)))))) ?_
          exact L23 _ gi9 gl9 gr9 (0) (y1_4) hI hX p_a0 (by decide : (0:Int) ≤ (0:Int32).toInt) (Int.le_trans (by decide : (0:Int32).toInt ≤ (0:Int)) (by decide : (0:Int) ≤ 6)) ((hC9.1 ar0 0 (t_ninO hI.wf p_a0.1 (t_outO hI.wf p_a0.1 rfl) rfl)).1.trans rfl) rfl
      · refine ev_loc f_X5_countReadings (nx := 21) rfl rfl rfl rfl ?_
        refine ev_loc f_X5_countReadings (nx := 23) rfl rfl rfl rfl ?_
        refine ev_if f_X5_countReadings (t1 := 26) (t2 := 40) rfl rfl rfl (fun h31 => ?_) (fun h31 => ?_)
        · have u32 : ar2.toInt ≤ 5 := t_equ h31 u4
          have l33 : 0 ≤ ar2.toInt := t_eql h31 l1_5
          refine ev_loc f_X5_countReadings (nx := 27) rfl rfl rfl rfl ?_
          refine ev_loc f_X5_countReadings (nx := 29) rfl rfl rfl rfl ?_
          refine ev_cL f_X5_countReadings (nx := 32) (r := []) rfl rfl rfl rfl rfl rfl rfl (c_heardOf hI (ar0) p_a0 (y1_5)) rfl hX rfl (fun w34 gi34 gl34 gr34 hI hX hC34 => ?_)
          replace p_a0 := p_a0.ext hC34.2
          refine ev_loc f_X5_countReadings (nx := 33) rfl rfl rfl rfl ?_
          refine ev_anyI f_X5_countReadings (nx := 34) rfl rfl rfl rfl (fun z35 => ?_)
          refine ev_if f_X5_countReadings (t1 := 37) (t2 := 40) rfl rfl rfl (fun h36 => ?_) (fun h36 => ?_)
          · have u37 : z35.toInt ≤ 0 := t_equ h36 (by decide : (0:Int32).toInt ≤ (0:Int))
            have l38 : 0 ≤ z35.toInt := t_eql h36 (by decide : (0:Int) ≤ (0:Int32).toInt)
            refine ev_incN f_X5_countReadings (nx := 40) rfl rfl (by decide) rfl (fun z39 => ?_)
            refine ev_ic f_X5_countReadings (nx := 41) (v := 0) rfl (by decide) rfl ?_
            refine ev_loc f_X5_countReadings (nx := 43) (lo' := [(6, .int 0), (4, .int z39), (5, .int y1_5), (0, .ref ar0), (1, .long ar1), (3, .int ar2)]) rfl rfl rfl rfl ?_
            have L40 : ∀ (m40 : Nat) (gi40 : Nat → Nat → Int32) (gl40 : Nat → Nat → Int64) (gr40 : Nat → Nat → Value) (y40_6 : Int32) (y40_4 : Int32), t_I sh gi40 gr40 → t_X wl_countReadings sh gi gl gr gi40 gl40 gr40 → t_Rv sh gr40 ar0 → 0 ≤ y40_6.toInt → y40_6.toInt ≤ 6 → gi40 ar0 0 = (gi1 ar0 0) → (6 - y40_6.toInt).toNat = m40 → x_Ev X (d + 5) n_X5_countReadings 43 [(6, .int y40_6), (4, .int y40_4), (5, .int y1_5), (0, .ref ar0), (1, .long ar1), (3, .int ar2)] [] (sh, gi40, gl40, gr40) (t_P wl_countReadings sh gi gl gr (t_Ri (-2147483648) 2147483647)) := by
              intro m40
              induction m40 using Nat.strongRecOn with
              | _ m40 ih40 =>
              intro gi40 gl40 gr40 y40_6 y40_4 hI hX p_a0 l40_6 u40_6 c40_0 hm40
              refine ev_loc f_X5_countReadings (nx := 45) rfl rfl rfl rfl ?_
              refine ev_loc f_X5_countReadings (nx := 46) rfl rfl rfl rfl ?_
              refine ev_gvI f_X5_countReadings (nx := 49) (w := (gi1 ar0 0)) rfl p_a0.1 rfl rfl c40_0 rfl ?_
              refine ev_if f_X5_countReadings (t1 := 89) (t2 := 52) rfl rfl rfl (fun h41 => ?_) (fun h41 => ?_)
              · have l42 : 1 ≤ y40_6.toInt := t_lel h41 l5
                refine ev_incR f_X5_countReadings (nx := 92) (c := 1) (l := 1) (u := 6) rfl rfl (by decide) (by decide) l1_5 u4 rfl rfl (by decide) (by decide) rfl (fun z43 e43 l43 u43 => ?_)
                refine ev_jmp f_X5_countReadings (nx := 6) rfl rfl rfl ?_
                refine ev_sub (lo := [(5, .int z43), (4, .int y40_4), (0, .ref ar0), (1, .long ar1), (3, .int ar2)]) rfl (t_sc rfl (t_sc rfl (t_sc rfl (t_sc rfl (t_sc rfl t_sn))))) ?_
                exact ih1 _ (by omega) gi40 gl40 gr40 (z43) (y40_4) hI hX p_a0 (Int.le_trans (by decide : (0:Int) ≤ 1) l43) u43 rfl
              · have u44 : y40_6.toInt ≤ 5 := t_ltu (t_nle h41) u2 rfl
                refine ev_loc f_X5_countReadings (nx := 53) rfl rfl rfl rfl ?_
                refine ev_ic f_X5_countReadings (nx := 54) (v := -1) rfl (by decide) rfl ?_
                refine ev_f f_X5_countReadings (t1 := 69) (t2 := 57) rfl rfl rfl (t_neT' (by decide : ((-1):Int32).toInt ≤ ((-1):Int)) l33 (by decide)) ?_
                refine ev_loc f_X5_countReadings (nx := 58) rfl rfl rfl rfl ?_
                refine ev_loc f_X5_countReadings (nx := 60) rfl rfl rfl rfl ?_
                refine ev_if f_X5_countReadings (t1 := 69) (t2 := 63) rfl rfl rfl (fun h45 => ?_) (fun h45 => ?_)
                · refine ev_loc f_X5_countReadings (nx := 71) rfl rfl rfl rfl ?_
                  refine ev_loc f_X5_countReadings (nx := 72) rfl rfl rfl rfl ?_
                  refine ev_loc f_X5_countReadings (nx := 73) rfl rfl rfl rfl ?_
                  refine ev_loc f_X5_countReadings (nx := 75) rfl rfl rfl rfl ?_
                  refine ev_loc f_X5_countReadings (nx := 77) rfl rfl rfl rfl ?_
                  refine ev_cI f_X5_countReadings (nx := 80) (r := [.int y40_4]) rfl rfl rfl rfl rfl rfl rfl (c_countBeats hI (ar0) p_a0 (ar1) (y1_5) (y40_6)) rfl hX rfl (fun w46 gi46 gl46 gr46 l46 u46 hI hX hC46 => ?_)
                  replace p_a0 := p_a0.ext hC46.2
                  refine ev_anyI f_X5_countReadings (nx := 81) rfl rfl rfl rfl (fun z47 => ?_)
                  refine ev_loc f_X5_countReadings (nx := 83) (lo' := [(4, .int z47), (6, .int y40_6), (5, .int y1_5), (0, .ref ar0), (1, .long ar1), (3, .int ar2)]) rfl rfl rfl rfl ?_
                  refine ev_incR f_X5_countReadings (nx := 86) (c := 1) (l := 1) (u := 6) rfl rfl (by decide) (by decide) l40_6 u44 rfl rfl (by decide) (by decide) rfl (fun z48 e48 l48 u48 => ?_)
                  refine ev_jmp f_X5_countReadings (nx := 43) rfl rfl rfl ?_
                  refine ev_sub (lo := [(6, .int z48), (4, .int z47), (5, .int y1_5), (0, .ref ar0), (1, .long ar1), (3, .int ar2)]) rfl (t_sc rfl (t_sc rfl (t_sc rfl (t_sc rfl (t_sc rfl (t_sc rfl t_sn)))))) ?_
                  exact ih40 _ (by omega) gi46 gl46 gr46 (z48) (z47) hI hX p_a0 (Int.le_trans (by decide : (0:Int) ≤ 1) l48) u48 ((hC46.1 ar0 0 (t_ninO hI.wf p_a0.1 (t_outO hI.wf p_a0.1 rfl) rfl)).1.trans c40_0) rfl
                · refine ev_loc f_X5_countReadings (nx := 64) rfl rfl rfl rfl ?_
                  refine ev_loc f_X5_countReadings (nx := 66) rfl rfl rfl rfl ?_
                  refine ev_if f_X5_countReadings (t1 := 69) (t2 := 83) rfl rfl rfl (fun h49 => ?_) (fun h49 => ?_)
                  · refine ev_loc f_X5_countReadings (nx := 71) rfl rfl rfl rfl ?_
                    refine ev_loc f_X5_countReadings (nx := 72) rfl rfl rfl rfl ?_
                    refine ev_loc f_X5_countReadings (nx := 73) rfl rfl rfl rfl ?_
                    refine ev_loc f_X5_countReadings (nx := 75) rfl rfl rfl rfl ?_
                    refine ev_loc f_X5_countReadings (nx := 77) rfl rfl rfl rfl ?_
                    refine ev_cI f_X5_countReadings (nx := 80) (r := [.int y40_4]) rfl rfl rfl rfl rfl rfl rfl (c_countBeats hI (ar0) p_a0 (ar1) (y1_5) (y40_6)) rfl hX rfl (fun w50 gi50 gl50 gr50 l50 u50 hI hX hC50 => ?_)
                    replace p_a0 := p_a0.ext hC50.2
                    refine ev_anyI f_X5_countReadings (nx := 81) rfl rfl rfl rfl (fun z51 => ?_)
                    refine ev_loc f_X5_countReadings (nx := 83) (lo' := [(4, .int z51), (6, .int y40_6), (5, .int y1_5), (0, .ref ar0), (1, .long ar1), (3, .int ar2)]) rfl rfl rfl rfl ?_
                    refine ev_incR f_X5_countReadings (nx := 86) (c := 1) (l := 1) (u := 6) rfl rfl (by decide) (by decide) l40_6 u44 rfl rfl (by decide) (by decide) rfl (fun z52 e52 l52 u52 => ?_)
                    refine ev_jmp f_X5_countReadings (nx := 43) rfl rfl rfl ?_
                    refine ev_sub (lo := [(6, .int z52), (4, .int z51), (5, .int y1_5), (0, .ref ar0), (1, .long ar1), (3, .int ar2)]) rfl (t_sc rfl (t_sc rfl (t_sc rfl (t_sc rfl (t_sc rfl (t_sc rfl t_sn)))))) ?_
                    exact ih40 _ (by omega) gi50 gl50 gr50 (z52) (z51) hI hX p_a0 (Int.le_trans (by decide : (0:Int) ≤ 1) l52) u52 ((hC50.1 ar0 0 (t_ninO hI.wf p_a0.1 (t_outO hI.wf p_a0.1 rfl) rfl)).1.trans c40_0) rfl
                  · refine ev_incR f_X5_countReadings (nx := 86) (c := 1) (l := 1) (u := 6) rfl rfl (by decide) (by decide) l40_6 u44 rfl rfl (by decide) (by decide) rfl (fun z53 e53 l53 u53 => ?_)
                    refine ev_jmp f_X5_countReadings (nx := 43) rfl rfl rfl ?_
                    refine ev_sub (lo := [(6, .int z53), (4, .int y40_4), (5, .int y1_5), (0, .ref ar0), (1, .long ar1), (3, .int ar2)]) rfl (t_sc rfl (t_sc rfl (t_sc rfl (t_sc rfl (t_sc rfl (t_sc rfl t_sn)))))) ?_
                    exact ih40 _ (by omega) gi40 gl40 gr40 (z53) (y40_4) hI hX p_a0 (Int.le_trans (by decide : (0:Int) ≤ 1) l53) u53 c40_0 rfl
            refine ev_sub (lo := [(6, .int 0), (4, .int z39), (5, .int y1_5), (0, .ref ar0), (1, .long ar1), (3, .int ar2)]) rfl (t_sc rfl (t_sc rfl (t_sc rfl (t_sc rfl (t_sc rfl (t_sc rfl t_sn)))))) ?_
            exact L40 _ gi34 gl34 gr34 (0) (z39) hI hX p_a0 (by decide : (0:Int) ≤ (0:Int32).toInt) (Int.le_trans (by decide : (0:Int32).toInt ≤ (0:Int)) (by decide : (0:Int) ≤ 6)) ((hC34.1 ar0 0 (t_ninO hI.wf p_a0.1 (t_outO hI.wf p_a0.1 rfl) rfl)).1.trans rfl) rfl
          · refine ev_ic f_X5_countReadings (nx := 41) (v := 0) rfl (by decide) rfl ?_
            refine ev_loc f_X5_countReadings (nx := 43) (lo' := [(6, .int 0), (5, .int y1_5), (4, .int y1_4), (0, .ref ar0), (1, .long ar1), (3, .int ar2)]) rfl rfl rfl rfl ?_
            have L54 : ∀ (m54 : Nat) (gi54 : Nat → Nat → Int32) (gl54 : Nat → Nat → Int64) (gr54 : Nat → Nat → Value) (y54_6 : Int32) (y54_4 : Int32), t_I sh gi54 gr54 → t_X wl_countReadings sh gi gl gr gi54 gl54 gr54 → t_Rv sh gr54 ar0 → 0 ≤ y54_6.toInt → y54_6.toInt ≤ 6 → gi54 ar0 0 = (gi1 ar0 0) → (6 - y54_6.toInt).toNat = m54 → x_Ev X (d + 5) n_X5_countReadings 43 [(6, .int y54_6), (5, .int y1_5), (4, .int y54_4), (0, .ref ar0), (1, .long ar1), (3, .int ar2)] [] (sh, gi54, gl54, gr54) (t_P wl_countReadings sh gi gl gr (t_Ri (-2147483648) 2147483647)) := by
              intro m54
              induction m54 using Nat.strongRecOn with
              | _ m54 ih54 =>
              intro gi54 gl54 gr54 y54_6 y54_4 hI hX p_a0 l54_6 u54_6 c54_0 hm54
              refine ev_loc f_X5_countReadings (nx := 45) rfl rfl rfl rfl ?_
              refine ev_loc f_X5_countReadings (nx := 46) rfl rfl rfl rfl ?_
              refine ev_gvI f_X5_countReadings (nx := 49) (w := (gi1 ar0 0)) rfl p_a0.1 rfl rfl c54_0 rfl ?_
              refine ev_if f_X5_countReadings (t1 := 89) (t2 := 52) rfl rfl rfl (fun h55 => ?_) (fun h55 => ?_)
              · have l56 : 1 ≤ y54_6.toInt := t_lel h55 l5
                refine ev_incR f_X5_countReadings (nx := 92) (c := 1) (l := 1) (u := 6) rfl rfl (by decide) (by decide) l1_5 u4 rfl rfl (by decide) (by decide) rfl (fun z57 e57 l57 u57 => ?_)
                refine ev_jmp f_X5_countReadings (nx := 6) rfl rfl rfl ?_
                refine ev_sub (lo := [(5, .int z57), (4, .int y54_4), (0, .ref ar0), (1, .long ar1), (3, .int ar2)]) rfl (t_sc rfl (t_sc rfl (t_sc rfl (t_sc rfl (t_sc rfl t_sn))))) ?_
                exact ih1 _ (by omega) gi54 gl54 gr54 (z57) (y54_4) hI hX p_a0 (Int.le_trans (by decide : (0:Int) ≤ 1) l57) u57 rfl
              · have u58 : y54_6.toInt ≤ 5 := t_ltu (t_nle h55) u2 rfl
                refine ev_loc f_X5_countReadings (nx := 53) rfl rfl rfl rfl ?_
                refine ev_ic f_X5_countReadings (nx := 54) (v := -1) rfl (by decide) rfl ?_
                refine ev_f f_X5_countReadings (t1 := 69) (t2 := 57) rfl rfl rfl (t_neT' (by decide : ((-1):Int32).toInt ≤ ((-1):Int)) l33 (by decide)) ?_
                refine ev_loc f_X5_countReadings (nx := 58) rfl rfl rfl rfl ?_
                refine ev_loc f_X5_countReadings (nx := 60) rfl rfl rfl rfl ?_
                refine ev_if f_X5_countReadings (t1 := 69) (t2 := 63) rfl rfl rfl (fun h59 => ?_) (fun h59 => ?_)
                · refine ev_loc f_X5_countReadings (nx := 71) rfl rfl rfl rfl ?_
                  refine ev_loc f_X5_countReadings (nx := 72) rfl rfl rfl rfl ?_
                  refine ev_loc f_X5_countReadings (nx := 73) rfl rfl rfl rfl ?_
                  refine ev_loc f_X5_countReadings (nx := 75) rfl rfl rfl rfl ?_
                  refine ev_loc f_X5_countReadings (nx := 77) rfl rfl rfl rfl ?_
                  refine ev_cI f_X5_countReadings (nx := 80) (r := [.int y54_4]) rfl rfl rfl rfl rfl rfl rfl (c_countBeats hI (ar0) p_a0 (ar1) (y1_5) (y54_6)) rfl hX rfl (fun w60 gi60 gl60 gr60 l60 u60 hI hX hC60 => ?_)
                  replace p_a0 := p_a0.ext hC60.2
                  refine ev_anyI f_X5_countReadings (nx := 81) rfl rfl rfl rfl (fun z61 => ?_)
                  refine ev_loc f_X5_countReadings (nx := 83) (lo' := [(4, .int z61), (6, .int y54_6), (5, .int y1_5), (0, .ref ar0), (1, .long ar1), (3, .int ar2)]) rfl rfl rfl rfl ?_
                  refine ev_incR f_X5_countReadings (nx := 86) (c := 1) (l := 1) (u := 6) rfl rfl (by decide) (by decide) l54_6 u58 rfl rfl (by decide) (by decide) rfl (fun z62 e62 l62 u62 => ?_)
                  refine ev_jmp f_X5_countReadings (nx := 43) rfl rfl rfl ?_
                  refine ev_sub (lo := [(6, .int z62), (5, .int y1_5), (4, .int z61), (0, .ref ar0), (1, .long ar1), (3, .int ar2)]) rfl (t_sc rfl (t_sc rfl (t_sc rfl (t_sc rfl (t_sc rfl (t_sc rfl t_sn)))))) ?_
                  exact ih54 _ (by omega) gi60 gl60 gr60 (z62) (z61) hI hX p_a0 (Int.le_trans (by decide : (0:Int) ≤ 1) l62) u62 ((hC60.1 ar0 0 (t_ninO hI.wf p_a0.1 (t_outO hI.wf p_a0.1 rfl) rfl)).1.trans c54_0) rfl
                · refine ev_loc f_X5_countReadings (nx := 64) rfl rfl rfl rfl ?_
                  refine ev_loc f_X5_countReadings (nx := 66) rfl rfl rfl rfl ?_
                  refine ev_if f_X5_countReadings (t1 := 69) (t2 := 83) rfl rfl rfl (fun h63 => ?_) (fun h63 => ?_)
                  · refine ev_loc f_X5_countReadings (nx := 71) rfl rfl rfl rfl ?_
                    refine ev_loc f_X5_countReadings (nx := 72) rfl rfl rfl rfl ?_
                    refine ev_loc f_X5_countReadings (nx := 73) rfl rfl rfl rfl ?_
                    refine ev_loc f_X5_countReadings (nx := 75) rfl rfl rfl rfl ?_
                    refine ev_loc f_X5_countReadings (nx := 77) rfl rfl rfl rfl ?_
                    refine ev_cI f_X5_countReadings (nx := 80) (r := [.int y54_4]) rfl rfl rfl rfl rfl rfl rfl (c_countBeats hI (ar0) p_a0 (ar1) (y1_5) (y54_6)) rfl hX rfl (fun w64 gi64 gl64 gr64 l64 u64 hI hX hC64 => ?_)
                    replace p_a0 := p_a0.ext hC64.2
                    refine ev_anyI f_X5_countReadings (nx := 81) rfl rfl rfl rfl (fun z65 => ?_)
                    refine ev_loc f_X5_countReadings (nx := 83) (lo' := [(4, .int z65), (6, .int y54_6), (5, .int y1_5), (0, .ref ar0), (1, .long ar1), (3, .int ar2)]) rfl rfl rfl rfl ?_
                    refine ev_incR f_X5_countReadings (nx := 86) (c := 1) (l := 1) (u := 6) rfl rfl (by decide) (by decide) l54_6 u58 rfl rfl (by decide) (by decide) rfl (fun z66 e66 l66 u66 => ?_)
                    refine ev_jmp f_X5_countReadings (nx := 43) rfl rfl rfl ?_
                    refine ev_sub (lo := [(6, .int z66), (5, .int y1_5), (4, .int z65), (0, .ref ar0), (1, .long ar1), (3, .int ar2)]) rfl (t_sc rfl (t_sc rfl (t_sc rfl (t_sc rfl (t_sc rfl (t_sc rfl t_sn)))))) ?_
                    exact ih54 _ (by omega) gi64 gl64 gr64 (z66) (z65) hI hX p_a0 (Int.le_trans (by decide : (0:Int) ≤ 1) l66) u66 ((hC64.1 ar0 0 (t_ninO hI.wf p_a0.1 (t_outO hI.wf p_a0.1 rfl) rfl)).1.trans c54_0) rfl
                  · refine ev_incR f_X5_countReadings (nx := 86) (c := 1) (l := 1) (u := 6) rfl rfl (by decide) (by decide) l54_6 u58 rfl rfl (by decide) (by decide) rfl (fun z67 e67 l67 u67 => ?_)
                    refine ev_jmp f_X5_countReadings (nx := 43) rfl rfl rfl ?_
                    refine ev_sub (lo := [(6, .int z67), (5, .int y1_5), (4, .int y54_4), (0, .ref ar0), (1, .long ar1), (3, .int ar2)]) rfl (t_sc rfl (t_sc rfl (t_sc rfl (t_sc rfl (t_sc rfl (t_sc rfl t_sn)))))) ?_
                    exact ih54 _ (by omega) gi54 gl54 gr54 (z67) (y54_4) hI hX p_a0 (Int.le_trans (by decide : (0:Int) ≤ 1) l67) u67 c54_0 rfl
            refine ev_sub (lo := [(6, .int 0), (5, .int y1_5), (4, .int y1_4), (0, .ref ar0), (1, .long ar1), (3, .int ar2)]) rfl (t_sc rfl (t_sc rfl (t_sc rfl (t_sc rfl (t_sc rfl (t_sc rfl t_sn)))))) ?_
            exact L54 _ gi34 gl34 gr34 (0) (y1_4) hI hX p_a0 (by decide : (0:Int) ≤ (0:Int32).toInt) (Int.le_trans (by decide : (0:Int32).toInt ≤ (0:Int)) (by decide : (0:Int) ≤ 6)) ((hC34.1 ar0 0 (t_ninO hI.wf p_a0.1 (t_outO hI.wf p_a0.1 rfl) rfl)).1.trans rfl) rfl
        · refine ev_ic f_X5_countReadings (nx := 41) (v := 0) rfl (by decide) rfl ?_
          refine ev_loc f_X5_countReadings (nx := 43) (lo' := [(6, .int 0), (5, .int y1_5), (4, .int y1_4), (0, .ref ar0), (1, .long ar1), (3, .int ar2)]) rfl rfl rfl rfl ?_
          have L68 : ∀ (m68 : Nat) (gi68 : Nat → Nat → Int32) (gl68 : Nat → Nat → Int64) (gr68 : Nat → Nat → Value) (y68_6 : Int32) (y68_4 : Int32), t_I sh gi68 gr68 → t_X wl_countReadings sh gi gl gr gi68 gl68 gr68 → t_Rv sh gr68 ar0 → 0 ≤ y68_6.toInt → y68_6.toInt ≤ 6 → gi68 ar0 0 = (gi1 ar0 0) → (6 - y68_6.toInt).toNat = m68 → x_Ev X (d + 5) n_X5_countReadings 43 [(6, .int y68_6), (5, .int y1_5), (4, .int y68_4), (0, .ref ar0), (1, .long ar1), (3, .int ar2)] [] (sh, gi68, gl68, gr68) (t_P wl_countReadings sh gi gl gr (t_Ri (-2147483648) 2147483647)) := by
            intro m68
            induction m68 using Nat.strongRecOn with
            | _ m68 ih68 =>
            intro gi68 gl68 gr68 y68_6 y68_4 hI hX p_a0 l68_6 u68_6 c68_0 hm68
            refine ev_loc f_X5_countReadings (nx := 45) rfl rfl rfl rfl ?_
            refine ev_loc f_X5_countReadings (nx := 46) rfl rfl rfl rfl ?_
            refine ev_gvI f_X5_countReadings (nx := 49) (w := (gi1 ar0 0)) rfl p_a0.1 rfl rfl c68_0 rfl ?_
            refine ev_if f_X5_countReadings (t1 := 89) (t2 := 52) rfl rfl rfl (fun h69 => ?_) (fun h69 => ?_)
            · have l70 : 1 ≤ y68_6.toInt := t_lel h69 l5
              refine ev_incR f_X5_countReadings (nx := 92) (c := 1) (l := 1) (u := 6) rfl rfl (by decide) (by decide) l1_5 u4 rfl rfl (by decide) (by decide) rfl (fun z71 e71 l71 u71 => ?_)
              refine ev_jmp f_X5_countReadings (nx := 6) rfl rfl rfl ?_
              refine ev_sub (lo := [(5, .int z71), (4, .int y68_4), (0, .ref ar0), (1, .long ar1), (3, .int ar2)]) rfl (t_sc rfl (t_sc rfl (t_sc rfl (t_sc rfl (t_sc rfl t_sn))))) ?_
              exact ih1 _ (by omega) gi68 gl68 gr68 (z71) (y68_4) hI hX p_a0 (Int.le_trans (by decide : (0:Int) ≤ 1) l71) u71 rfl
            · have u72 : y68_6.toInt ≤ 5 := t_ltu (t_nle h69) u2 rfl
              refine ev_loc f_X5_countReadings (nx := 53) rfl rfl rfl rfl ?_
              refine ev_ic f_X5_countReadings (nx := 54) (v := -1) rfl (by decide) rfl ?_
              refine ev_if f_X5_countReadings (t1 := 69) (t2 := 57) rfl rfl rfl (fun h73 => ?_) (fun h73 => ?_)
              · have u74 : ar2.toInt ≤ (-1) := t_equ h73 (by decide : ((-1):Int32).toInt ≤ ((-1):Int))
                have l75 : (-1) ≤ ar2.toInt := t_eql h73 (by decide : ((-1):Int) ≤ ((-1):Int32).toInt)
                refine ev_loc f_X5_countReadings (nx := 71) rfl rfl rfl rfl ?_
                refine ev_loc f_X5_countReadings (nx := 72) rfl rfl rfl rfl ?_
                refine ev_loc f_X5_countReadings (nx := 73) rfl rfl rfl rfl ?_
                refine ev_loc f_X5_countReadings (nx := 75) rfl rfl rfl rfl ?_
                refine ev_loc f_X5_countReadings (nx := 77) rfl rfl rfl rfl ?_
                refine ev_cI f_X5_countReadings (nx := 80) (r := [.int y68_4]) rfl rfl rfl rfl rfl rfl rfl (c_countBeats hI (ar0) p_a0 (ar1) (y1_5) (y68_6)) rfl hX rfl (fun w76 gi76 gl76 gr76 l76 u76 hI hX hC76 => ?_)
                replace p_a0 := p_a0.ext hC76.2
                refine ev_anyI f_X5_countReadings (nx := 81) rfl rfl rfl rfl (fun z77 => ?_)
                refine ev_loc f_X5_countReadings (nx := 83) (lo' := [(4, .int z77), (6, .int y68_6), (5, .int y1_5), (0, .ref ar0), (1, .long ar1), (3, .int ar2)]) rfl rfl rfl rfl ?_
                refine ev_incR f_X5_countReadings (nx := 86) (c := 1) (l := 1) (u := 6) rfl rfl (by decide) (by decide) l68_6 u72 rfl rfl (by decide) (by decide) rfl (fun z78 e78 l78 u78 => ?_)
                refine ev_jmp f_X5_countReadings (nx := 43) rfl rfl rfl ?_
                refine ev_sub (lo := [(6, .int z78), (5, .int y1_5), (4, .int z77), (0, .ref ar0), (1, .long ar1), (3, .int ar2)]) rfl (t_sc rfl (t_sc rfl (t_sc rfl (t_sc rfl (t_sc rfl (t_sc rfl t_sn)))))) ?_
                exact ih68 _ (by omega) gi76 gl76 gr76 (z78) (z77) hI hX p_a0 (Int.le_trans (by decide : (0:Int) ≤ 1) l78) u78 ((hC76.1 ar0 0 (t_ninO hI.wf p_a0.1 (t_outO hI.wf p_a0.1 rfl) rfl)).1.trans c68_0) rfl
              · refine ev_loc f_X5_countReadings (nx := 58) rfl rfl rfl rfl ?_
                refine ev_loc f_X5_countReadings (nx := 60) rfl rfl rfl rfl ?_
                refine ev_if f_X5_countReadings (t1 := 69) (t2 := 63) rfl rfl rfl (fun h79 => ?_) (fun h79 => ?_)
                · have u80 : ar2.toInt ≤ 5 := t_equ h79 u4
                  have l81 : 0 ≤ ar2.toInt := t_eql h79 l1_5
                  refine ev_loc f_X5_countReadings (nx := 71) rfl rfl rfl rfl ?_
                  refine ev_loc f_X5_countReadings (nx := 72) rfl rfl rfl rfl ?_
                  refine ev_loc f_X5_countReadings (nx := 73) rfl rfl rfl rfl ?_
                  refine ev_loc f_X5_countReadings (nx := 75) rfl rfl rfl rfl ?_
                  refine ev_loc f_X5_countReadings (nx := 77) rfl rfl rfl rfl ?_
                  refine ev_cI f_X5_countReadings (nx := 80) (r := [.int y68_4]) rfl rfl rfl rfl rfl rfl rfl (c_countBeats hI (ar0) p_a0 (ar1) (y1_5) (y68_6)) rfl hX rfl (fun w82 gi82 gl82 gr82 l82 u82 hI hX hC82 => ?_)
                  replace p_a0 := p_a0.ext hC82.2
                  refine ev_anyI f_X5_countReadings (nx := 81) rfl rfl rfl rfl (fun z83 => ?_)
                  refine ev_loc f_X5_countReadings (nx := 83) (lo' := [(4, .int z83), (6, .int y68_6), (5, .int y1_5), (0, .ref ar0), (1, .long ar1), (3, .int ar2)]) rfl rfl rfl rfl ?_
                  refine ev_incR f_X5_countReadings (nx := 86) (c := 1) (l := 1) (u := 6) rfl rfl (by decide) (by decide) l68_6 u72 rfl rfl (by decide) (by decide) rfl (fun z84 e84 l84 u84 => ?_)
                  refine ev_jmp f_X5_countReadings (nx := 43) rfl rfl rfl ?_
                  refine ev_sub (lo := [(6, .int z84), (5, .int y1_5), (4, .int z83), (0, .ref ar0), (1, .long ar1), (3, .int ar2)]) rfl (t_sc rfl (t_sc rfl (t_sc rfl (t_sc rfl (t_sc rfl (t_sc rfl t_sn)))))) ?_
                  exact ih68 _ (by omega) gi82 gl82 gr82 (z84) (z83) hI hX p_a0 (Int.le_trans (by decide : (0:Int) ≤ 1) l84) u84 ((hC82.1 ar0 0 (t_ninO hI.wf p_a0.1 (t_outO hI.wf p_a0.1 rfl) rfl)).1.trans c68_0) rfl
                · refine ev_loc f_X5_countReadings (nx := 64) rfl rfl rfl rfl ?_
                  refine ev_loc f_X5_countReadings (nx := 66) rfl rfl rfl rfl ?_
                  refine ev_if f_X5_countReadings (t1 := 69) (t2 := 83) rfl rfl rfl (fun h85 => ?_) (fun h85 => ?_)
                  · have u86 : ar2.toInt ≤ 5 := t_equ h85 u72
                    have l87 : 0 ≤ ar2.toInt := t_eql h85 l68_6
                    refine ev_loc f_X5_countReadings (nx := 71) rfl rfl rfl rfl ?_
                    refine ev_loc f_X5_countReadings (nx := 72) rfl rfl rfl rfl ?_
                    refine ev_loc f_X5_countReadings (nx := 73) rfl rfl rfl rfl ?_
                    refine ev_loc f_X5_countReadings (nx := 75) rfl rfl rfl rfl ?_
                    refine ev_loc f_X5_countReadings (nx := 77) rfl rfl rfl rfl ?_
                    refine ev_cI f_X5_countReadings (nx := 80) (r := [.int y68_4]) rfl rfl rfl rfl rfl rfl rfl (c_countBeats hI (ar0) p_a0 (ar1) (y1_5) (y68_6)) rfl hX rfl (fun w88 gi88 gl88 gr88 l88 u88 hI hX hC88 => ?_)
                    replace p_a0 := p_a0.ext hC88.2
                    refine ev_anyI f_X5_countReadings (nx := 81) rfl rfl rfl rfl (fun z89 => ?_)
                    refine ev_loc f_X5_countReadings (nx := 83) (lo' := [(4, .int z89), (6, .int y68_6), (5, .int y1_5), (0, .ref ar0), (1, .long ar1), (3, .int ar2)]) rfl rfl rfl rfl ?_
                    refine ev_incR f_X5_countReadings (nx := 86) (c := 1) (l := 1) (u := 6) rfl rfl (by decide) (by decide) l68_6 u72 rfl rfl (by decide) (by decide) rfl (fun z90 e90 l90 u90 => ?_)
                    refine ev_jmp f_X5_countReadings (nx := 43) rfl rfl rfl ?_
                    refine ev_sub (lo := [(6, .int z90), (5, .int y1_5), (4, .int z89), (0, .ref ar0), (1, .long ar1), (3, .int ar2)]) rfl (t_sc rfl (t_sc rfl (t_sc rfl (t_sc rfl (t_sc rfl (t_sc rfl t_sn)))))) ?_
                    exact ih68 _ (by omega) gi88 gl88 gr88 (z90) (z89) hI hX p_a0 (Int.le_trans (by decide : (0:Int) ≤ 1) l90) u90 ((hC88.1 ar0 0 (t_ninO hI.wf p_a0.1 (t_outO hI.wf p_a0.1 rfl) rfl)).1.trans c68_0) rfl
                  · refine ev_incR f_X5_countReadings (nx := 86) (c := 1) (l := 1) (u := 6) rfl rfl (by decide) (by decide) l68_6 u72 rfl rfl (by decide) (by decide) rfl (fun z91 e91 l91 u91 => ?_)
                    refine ev_jmp f_X5_countReadings (nx := 43) rfl rfl rfl ?_
                    refine ev_sub (lo := [(6, .int z91), (5, .int y1_5), (4, .int y68_4), (0, .ref ar0), (1, .long ar1), (3, .int ar2)]) rfl (t_sc rfl (t_sc rfl (t_sc rfl (t_sc rfl (t_sc rfl (t_sc rfl t_sn)))))) ?_
                    exact ih68 _ (by omega) gi68 gl68 gr68 (z91) (y68_4) hI hX p_a0 (Int.le_trans (by decide : (0:Int) ≤ 1) l91) u91 c68_0 rfl
          refine ev_sub (lo := [(6, .int 0), (5, .int y1_5), (4, .int y1_4), (0, .ref ar0), (1, .long ar1), (3, .int ar2)]) rfl (t_sc rfl (t_sc rfl (t_sc rfl (t_sc rfl (t_sc rfl (t_sc rfl t_sn)))))) ?_
          exact L68 _ gi1 gl1 gr1 (0) (y1_4) hI hX p_a0 (by decide : (0:Int) ≤ (0:Int32).toInt) (Int.le_trans (by decide : (0:Int32).toInt ≤ (0:Int)) (by decide : (0:Int) ≤ 6)) rfl rfl
  refine ev_sub (lo := [(5, .int 0), (4, .int 0), (0, .ref ar0), (1, .long ar1), (3, .int ar2)]) rfl (t_sc rfl (t_sc rfl (t_sc rfl (t_sc rfl (t_sc rfl t_sn))))) ?_
  exact L1 _ gi gl gr (0) (0) hI hX p_a0 (by decide : (0:Int) ≤ (0:Int32).toInt) (Int.le_trans (by decide : (0:Int32).toInt ≤ (0:Int)) (by decide : (0:Int) ≤ 6)) rfl
def wl_couplesAlike : List (Nat × Nat) := []
theorem c_couplesAlike {X : x_Ext} {d : Nat} {sh : List (Nat ⊕ (Nat × Nat))} {gi : Nat → Nat → Int32} {gl : Nat → Nat → Int64} {gr : Nat → Nat → Value} (hI : t_I sh gi gr) (ar0 : Nat) (p_a0 : t_Rv sh gr ar0) (ar1 : Int32) : x_Me X (d + 2) n_X5_couplesAlike [.ref ar0, .int ar1] (sh, gi, gl, gr) (t_P wl_couplesAlike sh gi gl gr (t_Ri (-2147483648) 2147483647)) := by
  have hX : t_X wl_couplesAlike sh gi gl gr gi gl gr := t_X.rf
  refine me_i f_X5_couplesAlike p_a0.1 rfl rfl rfl ?_
  refine ev_ic f_X5_couplesAlike (nx := 1) (v := 0) rfl (by decide) rfl ?_
  refine ev_loc f_X5_couplesAlike (nx := 2) (lo' := [(2, .int 0), (0, .ref ar0), (1, .int ar1)]) rfl rfl rfl rfl ?_
  refine ev_ic f_X5_couplesAlike (nx := 3) (v := 0) rfl (by decide) rfl ?_
  refine ev_loc f_X5_couplesAlike (nx := 4) (lo' := [(3, .int 0), (2, .int 0), (0, .ref ar0), (1, .int ar1)]) rfl rfl rfl rfl ?_
  have L1 : ∀ (m1 : Nat) (gi1 : Nat → Nat → Int32) (gl1 : Nat → Nat → Int64) (gr1 : Nat → Nat → Value) (y1_3 : Int32) (y1_2 : Int32), t_I sh gi1 gr1 → t_X wl_couplesAlike sh gi gl gr gi1 gl1 gr1 → t_Rv sh gr1 ar0 → 0 ≤ y1_3.toInt → y1_3.toInt ≤ 6 → (6 - y1_3.toInt).toNat = m1 → x_Ev X (d + 2) n_X5_couplesAlike 4 [(3, .int y1_3), (2, .int y1_2), (0, .ref ar0), (1, .int ar1)] [] (sh, gi1, gl1, gr1) (t_P wl_couplesAlike sh gi gl gr (t_Ri (-2147483648) 2147483647)) := by
    intro m1
    induction m1 using Nat.strongRecOn with
    | _ m1 ih1 =>
    intro gi1 gl1 gr1 y1_3 y1_2 hI hX p_a0 l1_3 u1_3 hm1
    refine ev_loc f_X5_couplesAlike (nx := 5) rfl rfl rfl rfl ?_
    refine ev_loc f_X5_couplesAlike (nx := 6) rfl rfl rfl rfl ?_
    refine ev_getI f_X5_couplesAlike (nx := 9) rfl p_a0.1 rfl rfl rfl ?_
    obtain ⟨l2, u2⟩ := hI.b p_a0.1 (rfl : t_bd 4 0 = some (0, 6))
    refine ev_if f_X5_couplesAlike (t1 := 66) (t2 := 12) rfl rfl rfl (fun h3 => ?_) (fun h3 => ?_)
    · refine ev_loc f_X5_couplesAlike (nx := 67) rfl rfl rfl rfl ?_
      exact ev_ret f_X5_couplesAlike rfl rfl rfl ⟨_, _, _, rfl, hI, hX, ⟨_, rfl, (t_lo y1_2), (t_hi y1_2)⟩⟩
    · have u4 : y1_3.toInt ≤ 5 := t_ltu (t_nle h3) u2 rfl
      have l5 : 1 ≤ (gi1 ar0 0).toInt := t_ltl (t_nle h3) l1_3 rfl
      refine ev_loc f_X5_couplesAlike (nx := 13) rfl rfl rfl rfl ?_
      refine ev_ic f_X5_couplesAlike (nx := 14) (v := 1) rfl (by decide) rfl ?_
      refine ev_addC f_X5_couplesAlike (nx := 15) (c := 1) (l := 1) (u := 6) rfl (by decide) l1_3 u4 rfl rfl (by decide) (by decide) rfl (fun z6 e6 l6 u6 => ?_)
      refine ev_loc f_X5_couplesAlike (nx := 17) (lo' := [(4, .int z6), (3, .int y1_3), (2, .int y1_2), (0, .ref ar0), (1, .int ar1)]) rfl rfl rfl rfl ?_
      have L7 : ∀ (m7 : Nat) (gi7 : Nat → Nat → Int32) (gl7 : Nat → Nat → Int64) (gr7 : Nat → Nat → Value) (y7_4 : Int32) (y7_2 : Int32), t_I sh gi7 gr7 → t_X wl_couplesAlike sh gi gl gr gi7 gl7 gr7 → t_Rv sh gr7 ar0 → 1 ≤ y7_4.toInt → y7_4.toInt ≤ 6 → gi7 ar0 0 = (gi1 ar0 0) → (6 - y7_4.toInt).toNat = m7 → x_Ev X (d + 2) n_X5_couplesAlike 17 [(4, .int y7_4), (3, .int y1_3), (2, .int y7_2), (0, .ref ar0), (1, .int ar1)] [] (sh, gi7, gl7, gr7) (t_P wl_couplesAlike sh gi gl gr (t_Ri (-2147483648) 2147483647)) := by
        intro m7
        induction m7 using Nat.strongRecOn with
        | _ m7 ih7 =>
        intro gi7 gl7 gr7 y7_4 y7_2 hI hX p_a0 l7_4 u7_4 c7_0 hm7
        refine ev_loc f_X5_couplesAlike (nx := 19) rfl rfl rfl rfl ?_
        refine ev_loc f_X5_couplesAlike (nx := 20) rfl rfl rfl rfl ?_
        refine ev_gvI f_X5_couplesAlike (nx := 23) (w := (gi1 ar0 0)) rfl p_a0.1 rfl rfl c7_0 rfl ?_
        refine ev_if f_X5_couplesAlike (t1 := 60) (t2 := 26) rfl rfl rfl (fun h8 => ?_) (fun h8 => ?_)
        · refine ev_incR f_X5_couplesAlike (nx := 63) (c := 1) (l := 1) (u := 6) rfl rfl (by decide) (by decide) l1_3 u4 rfl rfl (by decide) (by decide) rfl (fun z9 e9 l9 u9 => ?_)
          refine ev_jmp f_X5_couplesAlike (nx := 4) rfl rfl rfl ?_
          refine ev_sub (lo := [(3, .int z9), (2, .int y7_2), (0, .ref ar0), (1, .int ar1)]) rfl (t_sc rfl (t_sc rfl (t_sc rfl (t_sc rfl t_sn)))) ?_
          exact ih1 _ (by omega) gi7 gl7 gr7 (z9) (y7_2) hI hX p_a0 (Int.le_trans (by decide : (0:Int) ≤ 1) l9) u9 rfl
        · have u10 : y7_4.toInt ≤ 5 := t_ltu (t_nle h8) u2 rfl
          have l11 : 2 ≤ (gi1 ar0 0).toInt := t_ltl (t_nle h8) l7_4 rfl
          refine ev_loc f_X5_couplesAlike (nx := 27) rfl rfl rfl rfl ?_
          obtain ⟨a12, e12, s12, o12⟩ := p_a0.2.2.1
          refine ev_getR f_X5_couplesAlike (nx := 30) rfl p_a0.1 rfl rfl e12 rfl rfl ?_
          refine ev_loc f_X5_couplesAlike (nx := 31) rfl rfl rfl rfl ?_
          refine ev_laldT f_X5_couplesAlike (nx := 32) rfl s12 l1_3 (by decide) u4 (by decide) rfl (fun w13 e13 => ?_)
          refine ev_loc f_X5_couplesAlike (nx := 33) rfl rfl rfl rfl ?_
          refine ev_inS2 f_X5_couplesAlike (nx := 36) (lo2 := [(0, .long w13), (2, .int ar1)]) rfl rfl rfl rfl f_X5_withEcho rfl rfl rfl rfl ?_
          refine ev_loc f_X5_withEcho (nx := 1) rfl rfl rfl rfl ?_
          refine ev_loc f_X5_withEcho (nx := 2) rfl rfl rfl rfl ?_
          refine ev_loc f_X5_withEcho (nx := 3) rfl rfl rfl rfl ?_
          refine ev_anyL f_X5_withEcho (nx := 4) rfl rfl rfl rfl (fun z14 => ?_)
          refine ev_anyL f_X5_withEcho (nx := 5) rfl rfl rfl rfl (fun z15 => ?_)
          refine ev_retK1 f_X5_withEcho rfl rfl rfl ?_
          refine ev_loc f_X5_couplesAlike (nx := 37) rfl rfl rfl rfl ?_
          refine ev_getR f_X5_couplesAlike (nx := 40) (v := .ref a12) rfl p_a0.1 rfl rfl e12 rfl rfl ?_
          refine ev_loc f_X5_couplesAlike (nx := 42) rfl rfl rfl rfl ?_
          refine ev_laldT f_X5_couplesAlike (nx := 43) rfl s12 l7_4 (by decide) u10 (by decide) rfl (fun w16 e16 => ?_)
          refine ev_loc f_X5_couplesAlike (nx := 44) rfl rfl rfl rfl ?_
          refine ev_inS2 f_X5_couplesAlike (nx := 47) (lo2 := [(0, .long w16), (2, .int ar1)]) rfl rfl rfl rfl f_X5_withEcho rfl rfl rfl rfl ?_
          refine ev_loc f_X5_withEcho (nx := 1) rfl rfl rfl rfl ?_
          refine ev_loc f_X5_withEcho (nx := 2) rfl rfl rfl rfl ?_
          refine ev_loc f_X5_withEcho (nx := 3) rfl rfl rfl rfl ?_
          refine ev_anyL f_X5_withEcho (nx := 4) rfl rfl rfl rfl (fun z17 => ?_)
          refine ev_anyL f_X5_withEcho (nx := 5) rfl rfl rfl rfl (fun z18 => ?_)
          refine ev_retK1 f_X5_withEcho rfl rfl rfl ?_
          refine ev_anyI f_X5_couplesAlike (nx := 48) rfl rfl rfl rfl (fun z19 => ?_)
          refine ev_if f_X5_couplesAlike (t1 := 51) (t2 := 54) rfl rfl rfl (fun h20 => ?_) (fun h20 => ?_)
          · have u21 : z19.toInt ≤ 0 := t_equ h20 (by decide : (0:Int32).toInt ≤ (0:Int))
            have l22 : 0 ≤ z19.toInt := t_eql h20 (by decide : (0:Int) ≤ (0:Int32).toInt)
            refine ev_incN f_X5_couplesAlike (nx := 54) rfl rfl (by decide) rfl (fun z23 => ?_)
            refine ev_incR f_X5_couplesAlike (nx := 57) (c := 1) (l := 2) (u := 6) rfl rfl (by decide) (by decide) l7_4 u10 rfl rfl (by decide) (by decide) rfl (fun z24 e24 l24 u24 => ?_)
            refine ev_jmp f_X5_couplesAlike (nx := 17) rfl rfl rfl ?_
            refine ev_sub (lo := [(4, .int z24), (3, .int y1_3), (2, .int z23), (0, .ref ar0), (1, .int ar1)]) rfl (t_sc rfl (t_sc rfl (t_sc rfl (t_sc rfl (t_sc rfl t_sn))))) ?_
            exact ih7 _ (by omega) gi7 gl7 gr7 (z24) (z23) hI hX p_a0 (Int.le_trans (by decide : (1:Int) ≤ 2) l24) u24 c7_0 rfl
          · refine ev_incR f_X5_couplesAlike (nx := 57) (c := 1) (l := 2) (u := 6) rfl rfl (by decide) (by decide) l7_4 u10 rfl rfl (by decide) (by decide) rfl (fun z25 e25 l25 u25 => ?_)
            refine ev_jmp f_X5_couplesAlike (nx := 17) rfl rfl rfl ?_
            refine ev_sub (lo := [(4, .int z25), (3, .int y1_3), (2, .int y7_2), (0, .ref ar0), (1, .int ar1)]) rfl (t_sc rfl (t_sc rfl (t_sc rfl (t_sc rfl (t_sc rfl t_sn))))) ?_
            exact ih7 _ (by omega) gi7 gl7 gr7 (z25) (y7_2) hI hX p_a0 (Int.le_trans (by decide : (1:Int) ≤ 2) l25) u25 c7_0 rfl
      refine ev_sub (lo := [(4, .int z6), (3, .int y1_3), (2, .int y1_2), (0, .ref ar0), (1, .int ar1)]) rfl (t_sc rfl (t_sc rfl (t_sc rfl (t_sc rfl (t_sc rfl t_sn))))) ?_
      exact L7 _ gi1 gl1 gr1 (z6) (y1_2) hI hX p_a0 l6 u6 rfl rfl
  refine ev_sub (lo := [(3, .int 0), (2, .int 0), (0, .ref ar0), (1, .int ar1)]) rfl (t_sc rfl (t_sc rfl (t_sc rfl (t_sc rfl t_sn)))) ?_
  exact L1 _ gi gl gr (0) (0) hI hX p_a0 (by decide : (0:Int) ≤ (0:Int32).toInt) (Int.le_trans (by decide : (0:Int32).toInt ≤ (0:Int)) (by decide : (0:Int) ≤ 6)) rfl
def wl_stepWord : List (Nat × Nat) := [(118, 2), (118, 3), (118, 5), (118, 6), (118, 7)]
theorem c_stepWord {X : x_Ext} {d : Nat} {sh : List (Nat ⊕ (Nat × Nat))} {gi : Nat → Nat → Int32} {gl : Nat → Nat → Int64} {gr : Nat → Nat → Value} (hI : t_I sh gi gr) (ar0 : Nat) (p_a0 : t_Tk sh gr ar0) : x_Me X (d + 1) n_X9_stepWord [.ref ar0] (sh, gi, gl, gr) (t_P wl_stepWord sh gi gl gr t_Rn) := by
  have hX : t_X wl_stepWord sh gi gl gr gi gl gr := t_X.rf
  refine me_i f_X9_stepWord p_a0.1 rfl rfl rfl ?_
  refine ev_loc f_X9_stepWord (nx := 1) rfl rfl rfl rfl ?_
  refine ev_ic f_X9_stepWord (nx := 2) (v := 0) rfl (by decide) rfl ?_
  refine ev_putIT f_X9_stepWord (nx := 5) rfl p_a0.1 rfl rfl rfl (hI.put0 p_a0.1 rfl rfl) (hX.upI (t_inO hI.wf p_a0.1 (t_outO hI.wf p_a0.1 rfl) rfl)) (fun g1 e1 hI hX => ?_)
  refine ev_loc f_X9_stepWord (nx := 6) rfl rfl rfl rfl ?_
  refine ev_lc f_X9_stepWord (nx := 7) (v := 0) rfl (by decide) rfl ?_
  refine ev_putLT f_X9_stepWord (nx := 10) rfl p_a0.1 rfl rfl rfl (hX.upL (t_inO hI.wf p_a0.1 (t_outO hI.wf p_a0.1 rfl) rfl)) (fun g2 e2 hX => ?_)
  have L3 : ∀ (m3 : Nat) (gi3 : Nat → Nat → Int32) (gl3 : Nat → Nat → Int64) (gr3 : Nat → Nat → Value), t_I sh gi3 gr3 → t_X wl_stepWord sh gi gl gr gi3 gl3 gr3 → t_Tk sh gr3 ar0 → gi3 ar0 3 = 0 → (900 - (gi3 ar0 2).toInt).toNat = m3 → x_Ev X (d + 1) n_X9_stepWord 10 [(0, .ref ar0)] [] (sh, gi3, gl3, gr3) (t_P wl_stepWord sh gi gl gr t_Rn) := by
    intro m3
    induction m3 using Nat.strongRecOn with
    | _ m3 ih3 =>
    intro gi3 gl3 gr3 hI hX p_a0 c3_0 hm3
    refine ev_loc f_X9_stepWord (nx := 11) rfl rfl rfl rfl ?_
    refine ev_getI f_X9_stepWord (nx := 14) rfl p_a0.1 rfl rfl rfl ?_
    obtain ⟨l4, u4⟩ := hI.b p_a0.1 (rfl : t_bd 8 2 = some (0, 900))
    refine ev_loc f_X9_stepWord (nx := 15) rfl rfl rfl rfl ?_
    refine ev_getI f_X9_stepWord (nx := 18) rfl p_a0.1 rfl rfl rfl ?_
    obtain ⟨l5, u5⟩ := hI.b p_a0.1 (rfl : t_bd 8 1 = some (0, 900))
    refine ev_if f_X9_stepWord (t1 := 90) (t2 := 21) rfl rfl rfl (fun h6 => ?_) (fun h6 => ?_)
    · refine ev_loc f_X9_stepWord (nx := 91) rfl rfl rfl rfl ?_
      refine ev_loc f_X9_stepWord (nx := 92) rfl rfl rfl rfl ?_
      refine ev_gvI f_X9_stepWord (nx := 95) (w := (gi3 ar0 2)) rfl p_a0.1 rfl rfl rfl rfl ?_
      refine ev_loc f_X9_stepWord (nx := 96) rfl rfl rfl rfl ?_
      refine ev_getI f_X9_stepWord (nx := 99) rfl p_a0.1 rfl rfl rfl ?_
      obtain ⟨l7, u7⟩ := hI.b p_a0.1 (rfl : t_bd 8 4 = some (0, 900))
      refine ev_subR f_X9_stepWord (nx := 100) (l := (-900)) (u := 900) rfl l4 u4 l7 u7 rfl rfl (by decide) (by decide) rfl (fun z8 e8 l8 u8 => ?_)
      refine ev_putIT f_X9_stepWord (nx := 103) rfl p_a0.1 rfl rfl rfl (hI.put0 p_a0.1 rfl rfl) (hX.upI (t_inO hI.wf p_a0.1 (t_outO hI.wf p_a0.1 rfl) rfl)) (fun g9 e9 hI hX => ?_)
      refine ev_ic f_X9_stepWord (nx := 104) (v := 0) rfl (by decide) rfl ?_
      refine ev_loc f_X9_stepWord (nx := 105) (lo' := [(1, .int 0), (0, .ref ar0)]) rfl rfl rfl rfl ?_
      have L10 : ∀ (m10 : Nat) (gi10 : Nat → Nat → Int32) (gl10 : Nat → Nat → Int64) (gr10 : Nat → Nat → Value) (y10_1 : Int32), t_I sh gi10 gr10 → t_X wl_stepWord sh gi gl gr gi10 gl10 gr10 → t_Tk sh gr10 ar0 → 0 ≤ y10_1.toInt → y10_1.toInt ≤ 29 → gi10 ar0 1 = (gi3 ar0 1) → gi10 ar0 2 = (gi3 ar0 2) → gi10 ar0 3 = 0 → gi10 ar0 4 = (gi3 ar0 4) → (29 - y10_1.toInt).toNat = m10 → x_Ev X (d + 1) n_X9_stepWord 105 [(1, .int y10_1), (0, .ref ar0)] [] (sh, gi10, gl10, gr10) (t_P wl_stepWord sh gi gl gr t_Rn) := by
        intro m10
        induction m10 using Nat.strongRecOn with
        | _ m10 ih10 =>
        intro gi10 gl10 gr10 y10_1 hI hX p_a0 l10_1 u10_1 c10_0 c10_1 c10_2 c10_3 hm10
        refine ev_loc f_X9_stepWord (nx := 106) rfl rfl rfl rfl ?_
        refine ev_heap f_X9_stepWord (nx := 109) rfl rfl rfl rfl ?_
        refine ev_heap f_X9_stepWord (nx := 110) (st' := .int 27 :: [.int y10_1]) rfl rfl rfl rfl ?_
        refine ev_if f_X9_stepWord (t1 := 153) (t2 := 113) rfl rfl rfl (fun h11 => ?_) (fun h11 => ?_)
        · have l12 : 27 ≤ y10_1.toInt := t_lel h11 (by decide : (27:Int) ≤ (27:Int32).toInt)
          exact ev_ret f_X9_stepWord rfl rfl rfl ⟨_, _, _, rfl, hI, hX, rfl⟩
        · have u13 : y10_1.toInt ≤ 26 := t_ltu (t_nle h11) (by decide : (27:Int32).toInt ≤ (27:Int)) rfl
          refine ev_loc f_X9_stepWord (nx := 114) rfl rfl rfl rfl ?_
          refine ev_getI f_X9_stepWord (nx := 117) rfl p_a0.1 rfl rfl rfl ?_
          refine ev_bp f_X9_stepWord (nx := 119) (v := 8) rfl (by decide) rfl ?_
          refine ev_if f_X9_stepWord (t1 := 153) (t2 := 122) rfl rfl rfl (fun h14 => ?_) (fun h14 => ?_)
          · have l15 : 9 ≤ (gi10 ar0 5).toInt := t_ltl h14 (by decide : (8:Int) ≤ (8:Int32).toInt) rfl
            exact ev_ret f_X9_stepWord rfl rfl rfl ⟨_, _, _, rfl, hI, hX, rfl⟩
          · have u16 : (gi10 ar0 5).toInt ≤ 8 := t_leu (t_nlt h14) (by decide : (8:Int32).toInt ≤ (8:Int))
            refine ev_heap f_X9_stepWord (nx := 125) rfl rfl rfl rfl ?_
            refine ev_loc f_X9_stepWord (nx := 126) rfl rfl rfl rfl ?_
            refine t_kwa f_X9_stepWord (nx := 127) rfl l10_1 (by decide) u13 (by decide) rfl (fun k17 lt17 => ?_)
            refine t_kwl f_X9_stepWord (nx := 130) rfl lt17 rfl (fun w18 => ?_)
            refine ev_loc f_X9_stepWord (nx := 131) rfl rfl rfl rfl ?_
            refine ev_getL f_X9_stepWord (nx := 134) rfl p_a0.1 rfl rfl rfl ?_
            refine ev_anyI f_X9_stepWord (nx := 135) rfl rfl rfl rfl (fun z19 => ?_)
            refine ev_if f_X9_stepWord (t1 := 138) (t2 := 147) rfl rfl rfl (fun h20 => ?_) (fun h20 => ?_)
            · have u21 : z19.toInt ≤ 0 := t_equ h20 (by decide : (0:Int32).toInt ≤ (0:Int))
              have l22 : 0 ≤ z19.toInt := t_eql h20 (by decide : (0:Int) ≤ (0:Int32).toInt)
              refine ev_loc f_X9_stepWord (nx := 139) rfl rfl rfl rfl ?_
              refine ev_heap f_X9_stepWord (nx := 142) rfl rfl rfl rfl ?_
              refine ev_loc f_X9_stepWord (nx := 143) rfl rfl rfl rfl ?_
              refine t_kwa f_X9_stepWord (nx := 144) rfl l10_1 (by decide) u13 (by decide) rfl (fun k23 lt23 => ?_)
              have hE24 := t_eqf_up (gr := gr10) (j := 7) (v := .retAddr k23) p_a0.1 rfl
              have hT24 := t_keyw hI (v := .retAddr k23) p_a0.1 (Or.inr ⟨_, rfl, lt23⟩)
              replace p_a0 := p_a0.ext hE24
              refine ev_putRT f_X9_stepWord (nx := 147) rfl p_a0.1 rfl rfl rfl rfl hT24 (hX.upR (t_inO hI.wf p_a0.1 (t_outO hI.wf p_a0.1 rfl) rfl) hE24) (fun g24 e24 hI hX => ?_)
              rw [← e24] at p_a0
              refine ev_incR f_X9_stepWord (nx := 150) (c := 1) (l := 1) (u := 27) rfl rfl (by decide) (by decide) l10_1 u13 rfl rfl (by decide) (by decide) rfl (fun z25 e25 l25 u25 => ?_)
              refine ev_jmp f_X9_stepWord (nx := 105) rfl rfl rfl ?_
              refine ev_sub (lo := [(1, .int z25), (0, .ref ar0)]) rfl (t_sc rfl (t_sc rfl t_sn)) ?_
              exact ih10 _ (by omega) gi10 gl10 g24 (z25) hI hX p_a0 (Int.le_trans (by decide : (0:Int) ≤ 1) l25) (Int.le_trans u25 (by decide : (27:Int) ≤ 29)) c10_0 c10_1 c10_2 c10_3 rfl
            · refine ev_incR f_X9_stepWord (nx := 150) (c := 1) (l := 1) (u := 27) rfl rfl (by decide) (by decide) l10_1 u13 rfl rfl (by decide) (by decide) rfl (fun z26 e26 l26 u26 => ?_)
              refine ev_jmp f_X9_stepWord (nx := 105) rfl rfl rfl ?_
              refine ev_sub (lo := [(1, .int z26), (0, .ref ar0)]) rfl (t_sc rfl (t_sc rfl t_sn)) ?_
              exact ih10 _ (by omega) gi10 gl10 gr10 (z26) hI hX p_a0 (Int.le_trans (by decide : (0:Int) ≤ 1) l26) (Int.le_trans u26 (by decide : (27:Int) ≤ 29)) c10_0 c10_1 c10_2 c10_3 rfl
      refine ev_sub (lo := [(1, .int 0), (0, .ref ar0)]) rfl (t_sc rfl (t_sc rfl t_sn)) ?_
      exact L10 _ g9 gl3 gr3 (0) hI hX p_a0 (by decide : (0:Int) ≤ (0:Int32).toInt) (Int.le_trans (by decide : (0:Int32).toInt ≤ (0:Int)) (by decide : (0:Int) ≤ 29)) ((by rw [e9]; exact x_up2_off (Or.inr (by decide)) : g9 ar0 1 = gi3 ar0 1).trans rfl) ((by rw [e9]; exact x_up2_off (Or.inr (by decide)) : g9 ar0 2 = gi3 ar0 2).trans rfl) ((by rw [e9]; exact x_up2_off (Or.inr (by decide)) : g9 ar0 3 = gi3 ar0 3).trans c3_0) ((by rw [e9]; exact x_up2_off (Or.inr (by decide)) : g9 ar0 4 = gi3 ar0 4).trans rfl) rfl
    · have u27 : (gi3 ar0 2).toInt ≤ 899 := t_ltu (t_nle h6) u5 rfl
      have l28 : 1 ≤ (gi3 ar0 1).toInt := t_ltl (t_nle h6) l4 rfl
      refine ev_loc f_X9_stepWord (nx := 22) rfl rfl rfl rfl ?_
      have e29 := p_a0.2
      refine ev_getR f_X9_stepWord (nx := 25) rfl p_a0.1 rfl rfl e29 rfl rfl ?_
      refine ev_loc f_X9_stepWord (nx := 26) rfl rfl rfl rfl ?_
      refine ev_gvI f_X9_stepWord (nx := 29) (w := (gi3 ar0 2)) rfl p_a0.1 rfl rfl rfl rfl ?_
      refine ev_baldT f_X9_stepWord (nx := 30) rfl (hI.wf.s rfl) rfl l4 (by decide) u27 (by decide) rfl (fun w30 e30 => ?_)
      refine ev_bp f_X9_stepWord (nx := 32) (v := 97) rfl (by decide) rfl ?_
      refine ev_if f_X9_stepWord (t1 := 90) (t2 := 35) rfl rfl rfl (fun h31 => ?_) (fun h31 => ?_)
      · have u32 : w30.toInt ≤ 96 := t_ltu h31 (by decide : (97:Int32).toInt ≤ (97:Int)) rfl
        refine ev_loc f_X9_stepWord (nx := 91) rfl rfl rfl rfl ?_
        refine ev_loc f_X9_stepWord (nx := 92) rfl rfl rfl rfl ?_
        refine ev_gvI f_X9_stepWord (nx := 95) (w := (gi3 ar0 2)) rfl p_a0.1 rfl rfl rfl rfl ?_
        refine ev_loc f_X9_stepWord (nx := 96) rfl rfl rfl rfl ?_
        refine ev_getI f_X9_stepWord (nx := 99) rfl p_a0.1 rfl rfl rfl ?_
        obtain ⟨l33, u33⟩ := hI.b p_a0.1 (rfl : t_bd 8 4 = some (0, 900))
        refine ev_subR f_X9_stepWord (nx := 100) (l := (-900)) (u := 899) rfl l4 u27 l33 u33 rfl rfl (by decide) (by decide) rfl (fun z34 e34 l34 u34 => ?_)
        refine ev_putIT f_X9_stepWord (nx := 103) rfl p_a0.1 rfl rfl rfl (hI.put0 p_a0.1 rfl rfl) (hX.upI (t_inO hI.wf p_a0.1 (t_outO hI.wf p_a0.1 rfl) rfl)) (fun g35 e35 hI hX => ?_)
        refine ev_ic f_X9_stepWord (nx := 104) (v := 0) rfl (by decide) rfl ?_
        refine ev_loc f_X9_stepWord (nx := 105) (lo' := [(1, .int 0), (0, .ref ar0)]) rfl rfl rfl rfl ?_
        have L36 : ∀ (m36 : Nat) (gi36 : Nat → Nat → Int32) (gl36 : Nat → Nat → Int64) (gr36 : Nat → Nat → Value) (y36_1 : Int32), t_I sh gi36 gr36 → t_X wl_stepWord sh gi gl gr gi36 gl36 gr36 → t_Tk sh gr36 ar0 → 0 ≤ y36_1.toInt → y36_1.toInt ≤ 29 → gi36 ar0 1 = (gi3 ar0 1) → gi36 ar0 2 = (gi3 ar0 2) → gi36 ar0 3 = 0 → gi36 ar0 4 = (gi3 ar0 4) → (29 - y36_1.toInt).toNat = m36 → x_Ev X (d + 1) n_X9_stepWord 105 [(1, .int y36_1), (0, .ref ar0)] [] (sh, gi36, gl36, gr36) (t_P wl_stepWord sh gi gl gr t_Rn) := by
          intro m36
          induction m36 using Nat.strongRecOn with
          | _ m36 ih36 =>
          intro gi36 gl36 gr36 y36_1 hI hX p_a0 l36_1 u36_1 c36_0 c36_1 c36_2 c36_3 hm36
          refine ev_loc f_X9_stepWord (nx := 106) rfl rfl rfl rfl ?_
          refine ev_heap f_X9_stepWord (nx := 109) rfl rfl rfl rfl ?_
          refine ev_heap f_X9_stepWord (nx := 110) (st' := .int 27 :: [.int y36_1]) rfl rfl rfl rfl ?_
          refine ev_if f_X9_stepWord (t1 := 153) (t2 := 113) rfl rfl rfl (fun h37 => ?_) (fun h37 => ?_)
          · have l38 : 27 ≤ y36_1.toInt := t_lel h37 (by decide : (27:Int) ≤ (27:Int32).toInt)
            exact ev_ret f_X9_stepWord rfl rfl rfl ⟨_, _, _, rfl, hI, hX, rfl⟩
          · have u39 : y36_1.toInt ≤ 26 := t_ltu (t_nle h37) (by decide : (27:Int32).toInt ≤ (27:Int)) rfl
            refine ev_loc f_X9_stepWord (nx := 114) rfl rfl rfl rfl ?_
            refine ev_getI f_X9_stepWord (nx := 117) rfl p_a0.1 rfl rfl rfl ?_
            refine ev_bp f_X9_stepWord (nx := 119) (v := 8) rfl (by decide) rfl ?_
            refine ev_if f_X9_stepWord (t1 := 153) (t2 := 122) rfl rfl rfl (fun h40 => ?_) (fun h40 => ?_)
            · have l41 : 9 ≤ (gi36 ar0 5).toInt := t_ltl h40 (by decide : (8:Int) ≤ (8:Int32).toInt) rfl
              exact ev_ret f_X9_stepWord rfl rfl rfl ⟨_, _, _, rfl, hI, hX, rfl⟩
            · have u42 : (gi36 ar0 5).toInt ≤ 8 := t_leu (t_nlt h40) (by decide : (8:Int32).toInt ≤ (8:Int))
              refine ev_heap f_X9_stepWord (nx := 125) rfl rfl rfl rfl ?_
              refine ev_loc f_X9_stepWord (nx := 126) rfl rfl rfl rfl ?_
              refine t_kwa f_X9_stepWord (nx := 127) rfl l36_1 (by decide) u39 (by decide) rfl (fun k43 lt43 => ?_)
              refine t_kwl f_X9_stepWord (nx := 130) rfl lt43 rfl (fun w44 => ?_)
              refine ev_loc f_X9_stepWord (nx := 131) rfl rfl rfl rfl ?_
              refine ev_getL f_X9_stepWord (nx := 134) rfl p_a0.1 rfl rfl rfl ?_
              refine ev_anyI f_X9_stepWord (nx := 135) rfl rfl rfl rfl (fun z45 => ?_)
              refine ev_if f_X9_stepWord (t1 := 138) (t2 := 147) rfl rfl rfl (fun h46 => ?_) (fun h46 => ?_)
              · have u47 : z45.toInt ≤ 0 := t_equ h46 (by decide : (0:Int32).toInt ≤ (0:Int))
                have l48 : 0 ≤ z45.toInt := t_eql h46 (by decide : (0:Int) ≤ (0:Int32).toInt)
                refine ev_loc f_X9_stepWord (nx := 139) rfl rfl rfl rfl ?_
                refine ev_heap f_X9_stepWord (nx := 142) rfl rfl rfl rfl ?_
                refine ev_loc f_X9_stepWord (nx := 143) rfl rfl rfl rfl ?_
                refine t_kwa f_X9_stepWord (nx := 144) rfl l36_1 (by decide) u39 (by decide) rfl (fun k49 lt49 => ?_)
                have hE50 := t_eqf_up (gr := gr36) (j := 7) (v := .retAddr k49) p_a0.1 rfl
                have hT50 := t_keyw hI (v := .retAddr k49) p_a0.1 (Or.inr ⟨_, rfl, lt49⟩)
                replace p_a0 := p_a0.ext hE50
                refine ev_putRT f_X9_stepWord (nx := 147) rfl p_a0.1 rfl rfl rfl rfl hT50 (hX.upR (t_inO hI.wf p_a0.1 (t_outO hI.wf p_a0.1 rfl) rfl) hE50) (fun g50 e50 hI hX => ?_)
                rw [← e50] at p_a0
                refine ev_incR f_X9_stepWord (nx := 150) (c := 1) (l := 1) (u := 27) rfl rfl (by decide) (by decide) l36_1 u39 rfl rfl (by decide) (by decide) rfl (fun z51 e51 l51 u51 => ?_)
                refine ev_jmp f_X9_stepWord (nx := 105) rfl rfl rfl ?_
                refine ev_sub (lo := [(1, .int z51), (0, .ref ar0)]) rfl (t_sc rfl (t_sc rfl t_sn)) ?_
                exact ih36 _ (by omega) gi36 gl36 g50 (z51) hI hX p_a0 (Int.le_trans (by decide : (0:Int) ≤ 1) l51) (Int.le_trans u51 (by decide : (27:Int) ≤ 29)) c36_0 c36_1 c36_2 c36_3 rfl
              · refine ev_incR f_X9_stepWord (nx := 150) (c := 1) (l := 1) (u := 27) rfl rfl (by decide) (by decide) l36_1 u39 rfl rfl (by decide) (by decide) rfl (fun z52 e52 l52 u52 => ?_)
                refine ev_jmp f_X9_stepWord (nx := 105) rfl rfl rfl ?_
                refine ev_sub (lo := [(1, .int z52), (0, .ref ar0)]) rfl (t_sc rfl (t_sc rfl t_sn)) ?_
                exact ih36 _ (by omega) gi36 gl36 gr36 (z52) hI hX p_a0 (Int.le_trans (by decide : (0:Int) ≤ 1) l52) (Int.le_trans u52 (by decide : (27:Int) ≤ 29)) c36_0 c36_1 c36_2 c36_3 rfl
        refine ev_sub (lo := [(1, .int 0), (0, .ref ar0)]) rfl (t_sc rfl (t_sc rfl t_sn)) ?_
        exact L36 _ g35 gl3 gr3 (0) hI hX p_a0 (by decide : (0:Int) ≤ (0:Int32).toInt) (Int.le_trans (by decide : (0:Int32).toInt ≤ (0:Int)) (by decide : (0:Int) ≤ 29)) ((by rw [e35]; exact x_up2_off (Or.inr (by decide)) : g35 ar0 1 = gi3 ar0 1).trans rfl) ((by rw [e35]; exact x_up2_off (Or.inr (by decide)) : g35 ar0 2 = gi3 ar0 2).trans rfl) ((by rw [e35]; exact x_up2_off (Or.inr (by decide)) : g35 ar0 3 = gi3 ar0 3).trans c3_0) ((by rw [e35]; exact x_up2_off (Or.inr (by decide)) : g35 ar0 4 = gi3 ar0 4).trans rfl) rfl
      · have l53 : 97 ≤ w30.toInt := t_lel (t_nlt h31) (by decide : (97:Int) ≤ (97:Int32).toInt)
        refine ev_loc f_X9_stepWord (nx := 36) rfl rfl rfl rfl ?_
        refine ev_getR f_X9_stepWord (nx := 39) (v := .ref 2) rfl p_a0.1 rfl rfl e29 rfl rfl ?_
        refine ev_loc f_X9_stepWord (nx := 40) rfl rfl rfl rfl ?_
        refine ev_gvI f_X9_stepWord (nx := 43) (w := (gi3 ar0 2)) rfl p_a0.1 rfl rfl rfl rfl ?_
        refine ev_baldT f_X9_stepWord (nx := 44) rfl (hI.wf.s rfl) rfl l4 (by decide) u27 (by decide) rfl (fun w54 e54 => ?_)
        refine ev_bp f_X9_stepWord (nx := 46) (v := 122) rfl (by decide) rfl ?_
        refine ev_if f_X9_stepWord (t1 := 90) (t2 := 49) rfl rfl rfl (fun h55 => ?_) (fun h55 => ?_)
        · have l56 : 123 ≤ w54.toInt := t_ltl h55 (by decide : (122:Int) ≤ (122:Int32).toInt) rfl
          refine ev_loc f_X9_stepWord (nx := 91) rfl rfl rfl rfl ?_
          refine ev_loc f_X9_stepWord (nx := 92) rfl rfl rfl rfl ?_
          refine ev_gvI f_X9_stepWord (nx := 95) (w := (gi3 ar0 2)) rfl p_a0.1 rfl rfl rfl rfl ?_
          refine ev_loc f_X9_stepWord (nx := 96) rfl rfl rfl rfl ?_
          refine ev_getI f_X9_stepWord (nx := 99) rfl p_a0.1 rfl rfl rfl ?_
          obtain ⟨l57, u57⟩ := hI.b p_a0.1 (rfl : t_bd 8 4 = some (0, 900))
          refine ev_subR f_X9_stepWord (nx := 100) (l := (-900)) (u := 899) rfl l4 u27 l57 u57 rfl rfl (by decide) (by decide) rfl (fun z58 e58 l58 u58 => ?_)
          refine ev_putIT f_X9_stepWord (nx := 103) rfl p_a0.1 rfl rfl rfl (hI.put0 p_a0.1 rfl rfl) (hX.upI (t_inO hI.wf p_a0.1 (t_outO hI.wf p_a0.1 rfl) rfl)) (fun g59 e59 hI hX => ?_)
          refine ev_ic f_X9_stepWord (nx := 104) (v := 0) rfl (by decide) rfl ?_
          refine ev_loc f_X9_stepWord (nx := 105) (lo' := [(1, .int 0), (0, .ref ar0)]) rfl rfl rfl rfl ?_
          have L60 : ∀ (m60 : Nat) (gi60 : Nat → Nat → Int32) (gl60 : Nat → Nat → Int64) (gr60 : Nat → Nat → Value) (y60_1 : Int32), t_I sh gi60 gr60 → t_X wl_stepWord sh gi gl gr gi60 gl60 gr60 → t_Tk sh gr60 ar0 → 0 ≤ y60_1.toInt → y60_1.toInt ≤ 29 → gi60 ar0 1 = (gi3 ar0 1) → gi60 ar0 2 = (gi3 ar0 2) → gi60 ar0 3 = 0 → gi60 ar0 4 = (gi3 ar0 4) → (29 - y60_1.toInt).toNat = m60 → x_Ev X (d + 1) n_X9_stepWord 105 [(1, .int y60_1), (0, .ref ar0)] [] (sh, gi60, gl60, gr60) (t_P wl_stepWord sh gi gl gr t_Rn) := by
            intro m60
            induction m60 using Nat.strongRecOn with
            | _ m60 ih60 =>
            intro gi60 gl60 gr60 y60_1 hI hX p_a0 l60_1 u60_1 c60_0 c60_1 c60_2 c60_3 hm60
            refine ev_loc f_X9_stepWord (nx := 106) rfl rfl rfl rfl ?_
            refine ev_heap f_X9_stepWord (nx := 109) rfl rfl rfl rfl ?_
            refine ev_heap f_X9_stepWord (nx := 110) (st' := .int 27 :: [.int y60_1]) rfl rfl rfl rfl ?_
            refine ev_if f_X9_stepWord (t1 := 153) (t2 := 113) rfl rfl rfl (fun h61 => ?_) (fun h61 => ?_)
            · have l62 : 27 ≤ y60_1.toInt := t_lel h61 (by decide : (27:Int) ≤ (27:Int32).toInt)
              exact ev_ret f_X9_stepWord rfl rfl rfl ⟨_, _, _, rfl, hI, hX, rfl⟩
            · have u63 : y60_1.toInt ≤ 26 := t_ltu (t_nle h61) (by decide : (27:Int32).toInt ≤ (27:Int)) rfl
              refine ev_loc f_X9_stepWord (nx := 114) rfl rfl rfl rfl ?_
              refine ev_getI f_X9_stepWord (nx := 117) rfl p_a0.1 rfl rfl rfl ?_
              refine ev_bp f_X9_stepWord (nx := 119) (v := 8) rfl (by decide) rfl ?_
              refine ev_if f_X9_stepWord (t1 := 153) (t2 := 122) rfl rfl rfl (fun h64 => ?_) (fun h64 => ?_)
              · have l65 : 9 ≤ (gi60 ar0 5).toInt := t_ltl h64 (by decide : (8:Int) ≤ (8:Int32).toInt) rfl
                exact ev_ret f_X9_stepWord rfl rfl rfl ⟨_, _, _, rfl, hI, hX, rfl⟩
              · have u66 : (gi60 ar0 5).toInt ≤ 8 := t_leu (t_nlt h64) (by decide : (8:Int32).toInt ≤ (8:Int))
                refine ev_heap f_X9_stepWord (nx := 125) rfl rfl rfl rfl ?_
                refine ev_loc f_X9_stepWord (nx := 126) rfl rfl rfl rfl ?_
                refine t_kwa f_X9_stepWord (nx := 127) rfl l60_1 (by decide) u63 (by decide) rfl (fun k67 lt67 => ?_)
                refine t_kwl f_X9_stepWord (nx := 130) rfl lt67 rfl (fun w68 => ?_)
                refine ev_loc f_X9_stepWord (nx := 131) rfl rfl rfl rfl ?_
                refine ev_getL f_X9_stepWord (nx := 134) rfl p_a0.1 rfl rfl rfl ?_
                refine ev_anyI f_X9_stepWord (nx := 135) rfl rfl rfl rfl (fun z69 => ?_)
                refine ev_if f_X9_stepWord (t1 := 138) (t2 := 147) rfl rfl rfl (fun h70 => ?_) (fun h70 => ?_)
                · have u71 : z69.toInt ≤ 0 := t_equ h70 (by decide : (0:Int32).toInt ≤ (0:Int))
                  have l72 : 0 ≤ z69.toInt := t_eql h70 (by decide : (0:Int) ≤ (0:Int32).toInt)
                  refine ev_loc f_X9_stepWord (nx := 139) rfl rfl rfl rfl ?_
                  refine ev_heap f_X9_stepWord (nx := 142) rfl rfl rfl rfl ?_
                  refine ev_loc f_X9_stepWord (nx := 143) rfl rfl rfl rfl ?_
                  refine t_kwa f_X9_stepWord (nx := 144) rfl l60_1 (by decide) u63 (by decide) rfl (fun k73 lt73 => ?_)
                  have hE74 := t_eqf_up (gr := gr60) (j := 7) (v := .retAddr k73) p_a0.1 rfl
                  have hT74 := t_keyw hI (v := .retAddr k73) p_a0.1 (Or.inr ⟨_, rfl, lt73⟩)
                  replace p_a0 := p_a0.ext hE74
                  refine ev_putRT f_X9_stepWord (nx := 147) rfl p_a0.1 rfl rfl rfl rfl hT74 (hX.upR (t_inO hI.wf p_a0.1 (t_outO hI.wf p_a0.1 rfl) rfl) hE74) (fun g74 e74 hI hX => ?_)
                  rw [← e74] at p_a0
                  refine ev_incR f_X9_stepWord (nx := 150) (c := 1) (l := 1) (u := 27) rfl rfl (by decide) (by decide) l60_1 u63 rfl rfl (by decide) (by decide) rfl (fun z75 e75 l75 u75 => ?_)
                  refine ev_jmp f_X9_stepWord (nx := 105) rfl rfl rfl ?_
                  refine ev_sub (lo := [(1, .int z75), (0, .ref ar0)]) rfl (t_sc rfl (t_sc rfl t_sn)) ?_
                  exact ih60 _ (by omega) gi60 gl60 g74 (z75) hI hX p_a0 (Int.le_trans (by decide : (0:Int) ≤ 1) l75) (Int.le_trans u75 (by decide : (27:Int) ≤ 29)) c60_0 c60_1 c60_2 c60_3 rfl
                · refine ev_incR f_X9_stepWord (nx := 150) (c := 1) (l := 1) (u := 27) rfl rfl (by decide) (by decide) l60_1 u63 rfl rfl (by decide) (by decide) rfl (fun z76 e76 l76 u76 => ?_)
                  refine ev_jmp f_X9_stepWord (nx := 105) rfl rfl rfl ?_
                  refine ev_sub (lo := [(1, .int z76), (0, .ref ar0)]) rfl (t_sc rfl (t_sc rfl t_sn)) ?_
                  exact ih60 _ (by omega) gi60 gl60 gr60 (z76) hI hX p_a0 (Int.le_trans (by decide : (0:Int) ≤ 1) l76) (Int.le_trans u76 (by decide : (27:Int) ≤ 29)) c60_0 c60_1 c60_2 c60_3 rfl
          refine ev_sub (lo := [(1, .int 0), (0, .ref ar0)]) rfl (t_sc rfl (t_sc rfl t_sn)) ?_
          exact L60 _ g59 gl3 gr3 (0) hI hX p_a0 (by decide : (0:Int) ≤ (0:Int32).toInt) (Int.le_trans (by decide : (0:Int32).toInt ≤ (0:Int)) (by decide : (0:Int) ≤ 29)) ((by rw [e59]; exact x_up2_off (Or.inr (by decide)) : g59 ar0 1 = gi3 ar0 1).trans rfl) ((by rw [e59]; exact x_up2_off (Or.inr (by decide)) : g59 ar0 2 = gi3 ar0 2).trans rfl) ((by rw [e59]; exact x_up2_off (Or.inr (by decide)) : g59 ar0 3 = gi3 ar0 3).trans c3_0) ((by rw [e59]; exact x_up2_off (Or.inr (by decide)) : g59 ar0 4 = gi3 ar0 4).trans rfl) rfl
        · have u77 : w54.toInt ≤ 122 := t_leu (t_nlt h55) (by decide : (122:Int32).toInt ≤ (122:Int))
          refine ev_loc f_X9_stepWord (nx := 50) rfl rfl rfl rfl ?_
          refine ev_loc f_X9_stepWord (nx := 51) rfl rfl rfl rfl ?_
          refine ev_getL f_X9_stepWord (nx := 54) rfl p_a0.1 rfl rfl rfl ?_
          refine ev_ldL f_X9_stepWord (nx := 57) (v := 32) rfl (by decide) rfl ?_
          refine ev_anyL f_X9_stepWord (nx := 58) rfl rfl rfl rfl (fun z78 => ?_)
          refine ev_loc f_X9_stepWord (nx := 59) rfl rfl rfl rfl ?_
          refine ev_getR f_X9_stepWord (nx := 62) (v := .ref 2) rfl p_a0.1 rfl rfl e29 rfl rfl ?_
          refine ev_loc f_X9_stepWord (nx := 63) rfl rfl rfl rfl ?_
          refine ev_gvI f_X9_stepWord (nx := 66) (w := (gi3 ar0 2)) rfl p_a0.1 rfl rfl rfl rfl ?_
          refine ev_baldT f_X9_stepWord (nx := 67) rfl (hI.wf.s rfl) rfl l4 (by decide) u27 (by decide) rfl (fun w79 e79 => ?_)
          refine ev_bp f_X9_stepWord (nx := 69) (v := 97) rfl (by decide) rfl ?_
          refine ev_anyI f_X9_stepWord (nx := 70) rfl rfl rfl rfl (fun z80 => ?_)
          refine ev_ic f_X9_stepWord (nx := 71) (v := 1) rfl (by decide) rfl ?_
          refine ev_anyI f_X9_stepWord (nx := 72) rfl rfl rfl rfl (fun z81 => ?_)
          refine ev_anyL f_X9_stepWord (nx := 73) rfl rfl rfl rfl (fun z82 => ?_)
          refine ev_anyL f_X9_stepWord (nx := 74) rfl rfl rfl rfl (fun z83 => ?_)
          refine ev_putLT f_X9_stepWord (nx := 77) rfl p_a0.1 rfl rfl rfl (hX.upL (t_inO hI.wf p_a0.1 (t_outO hI.wf p_a0.1 rfl) rfl)) (fun g84 e84 hX => ?_)
          refine ev_loc f_X9_stepWord (nx := 78) rfl rfl rfl rfl ?_
          refine ev_alu f_X9_stepWord (nx := 79) rfl rfl rfl rfl ?_
          refine ev_gvI f_X9_stepWord (nx := 82) (w := (gi3 ar0 2)) rfl p_a0.1 rfl rfl rfl rfl ?_
          refine ev_ic f_X9_stepWord (nx := 83) (v := 1) rfl (by decide) rfl ?_
          refine ev_addC f_X9_stepWord (nx := 84) (c := 1) (l := 1) (u := 900) rfl (by decide) l4 u27 rfl rfl (by decide) (by decide) rfl (fun z85 e85 l85 u85 => ?_)
          refine ev_putIT f_X9_stepWord (nx := 87) rfl p_a0.1 rfl rfl rfl (hI.putB p_a0.1 rfl rfl l85 (by decide) u85 (by decide)) (hX.upI (t_inO hI.wf p_a0.1 (t_outO hI.wf p_a0.1 rfl) rfl)) (fun g86 e86 hI hX => ?_)
          refine ev_jmp f_X9_stepWord (nx := 10) rfl rfl rfl ?_
          refine ev_sub (lo := [(0, .ref ar0)]) rfl (t_sc rfl t_sn) ?_
          have hq3 := ((by rw [e86]; exact x_up2_at _ _ _ _ : g86 ar0 2 = z85) : g86 ar0 2 = z85)
          exact ih3 _ (by rw [hq3]; omega) g86 g84 gr3  hI hX p_a0 ((by rw [e86]; exact x_up2_off (Or.inr (by decide)) : g86 ar0 3 = gi3 ar0 3).trans c3_0) rfl
  refine ev_sub (lo := [(0, .ref ar0)]) rfl (t_sc rfl t_sn) ?_
  exact L3 _ g1 g2 gr  hI hX p_a0 (by rw [e1]; exact x_up2_at _ _ _ _ : g1 ar0 3 = 0) rfl
def wl_stepNumber : List (Nat × Nat) := [(118, 2), (118, 3), (118, 8)]
theorem c_stepNumber {X : x_Ext} {d : Nat} {sh : List (Nat ⊕ (Nat × Nat))} {gi : Nat → Nat → Int32} {gl : Nat → Nat → Int64} {gr : Nat → Nat → Value} (hI : t_I sh gi gr) (ar0 : Nat) (p_a0 : t_Tk sh gr ar0) : x_Me X (d + 1) n_X9_stepNumber [.ref ar0] (sh, gi, gl, gr) (t_P wl_stepNumber sh gi gl gr t_Rn) := by
  have hX : t_X wl_stepNumber sh gi gl gr gi gl gr := t_X.rf
  refine me_i f_X9_stepNumber p_a0.1 rfl rfl rfl ?_
  refine ev_loc f_X9_stepNumber (nx := 1) rfl rfl rfl rfl ?_
  refine ev_ic f_X9_stepNumber (nx := 2) (v := 0) rfl (by decide) rfl ?_
  refine ev_putIT f_X9_stepNumber (nx := 5) rfl p_a0.1 rfl rfl rfl (hI.put0 p_a0.1 rfl rfl) (hX.upI (t_inO hI.wf p_a0.1 (t_outO hI.wf p_a0.1 rfl) rfl)) (fun g1 e1 hI hX => ?_)
  have L2 : ∀ (m2 : Nat) (gi2 : Nat → Nat → Int32) (gl2 : Nat → Nat → Int64) (gr2 : Nat → Nat → Value), t_I sh gi2 gr2 → t_X wl_stepNumber sh gi gl gr gi2 gl2 gr2 → t_Tk sh gr2 ar0 → (900 - (gi2 ar0 2).toInt).toNat = m2 → x_Ev X (d + 1) n_X9_stepNumber 5 [(0, .ref ar0)] [] (sh, gi2, gl2, gr2) (t_P wl_stepNumber sh gi gl gr t_Rn) := by
    intro m2
    induction m2 using Nat.strongRecOn with
    | _ m2 ih2 =>
    intro gi2 gl2 gr2 hI hX p_a0 hm2
    refine ev_loc f_X9_stepNumber (nx := 6) rfl rfl rfl rfl ?_
    refine ev_getI f_X9_stepNumber (nx := 9) rfl p_a0.1 rfl rfl rfl ?_
    obtain ⟨l3, u3⟩ := hI.b p_a0.1 (rfl : t_bd 8 2 = some (0, 900))
    refine ev_loc f_X9_stepNumber (nx := 10) rfl rfl rfl rfl ?_
    refine ev_getI f_X9_stepNumber (nx := 13) rfl p_a0.1 rfl rfl rfl ?_
    obtain ⟨l4, u4⟩ := hI.b p_a0.1 (rfl : t_bd 8 1 = some (0, 900))
    refine ev_if f_X9_stepNumber (t1 := 81) (t2 := 16) rfl rfl rfl (fun h5 => ?_) (fun h5 => ?_)
    · refine ev_loc f_X9_stepNumber (nx := 82) rfl rfl rfl rfl ?_
      refine ev_loc f_X9_stepNumber (nx := 83) rfl rfl rfl rfl ?_
      refine ev_gvI f_X9_stepNumber (nx := 86) (w := (gi2 ar0 2)) rfl p_a0.1 rfl rfl rfl rfl ?_
      refine ev_loc f_X9_stepNumber (nx := 87) rfl rfl rfl rfl ?_
      refine ev_getI f_X9_stepNumber (nx := 90) rfl p_a0.1 rfl rfl rfl ?_
      obtain ⟨l6, u6⟩ := hI.b p_a0.1 (rfl : t_bd 8 4 = some (0, 900))
      refine ev_subR f_X9_stepNumber (nx := 91) (l := (-900)) (u := 900) rfl l3 u3 l6 u6 rfl rfl (by decide) (by decide) rfl (fun z7 e7 l7 u7 => ?_)
      refine ev_ic f_X9_stepNumber (nx := 92) (v := 4) rfl (by decide) rfl ?_
      refine ev_if f_X9_stepNumber (t1 := 99) (t2 := 95) rfl rfl rfl (fun h8 => ?_) (fun h8 => ?_)
      · have u9 : z7.toInt ≤ 4 := t_leu h8 (by decide : (4:Int32).toInt ≤ (4:Int))
        refine ev_ic f_X9_stepNumber (nx := 100) (v := 1) rfl (by decide) rfl ?_
        refine ev_putIT f_X9_stepNumber (nx := 103) rfl p_a0.1 rfl rfl rfl (hI.put0 p_a0.1 rfl rfl) (hX.upI (t_inO hI.wf p_a0.1 (t_outO hI.wf p_a0.1 rfl) rfl)) (fun g10 e10 hI hX => ?_)
        exact ev_ret f_X9_stepNumber rfl rfl rfl ⟨_, _, _, rfl, hI, hX, rfl⟩
      · have l11 : 5 ≤ z7.toInt := t_ltl (t_nle h8) (by decide : (4:Int) ≤ (4:Int32).toInt) rfl
        have u12 : (gi2 ar0 4).toInt ≤ 895 := by have := u3; omega
        refine ev_ic f_X9_stepNumber (nx := 96) (v := 4) rfl (by decide) rfl ?_
        refine ev_jmp f_X9_stepNumber (nx := 100) rfl rfl rfl ?_
        refine ev_putIT f_X9_stepNumber (nx := 103) rfl p_a0.1 rfl rfl rfl (hI.put0 p_a0.1 rfl rfl) (hX.upI (t_inO hI.wf p_a0.1 (t_outO hI.wf p_a0.1 rfl) rfl)) (fun g13 e13 hI hX => ?_)
        exact ev_ret f_X9_stepNumber rfl rfl rfl ⟨_, _, _, rfl, hI, hX, rfl⟩
    · have u14 : (gi2 ar0 2).toInt ≤ 899 := t_ltu (t_nle h5) u4 rfl
      have l15 : 1 ≤ (gi2 ar0 1).toInt := t_ltl (t_nle h5) l3 rfl
      refine ev_loc f_X9_stepNumber (nx := 17) rfl rfl rfl rfl ?_
      have e16 := p_a0.2
      refine ev_getR f_X9_stepNumber (nx := 20) rfl p_a0.1 rfl rfl e16 rfl rfl ?_
      refine ev_loc f_X9_stepNumber (nx := 21) rfl rfl rfl rfl ?_
      refine ev_gvI f_X9_stepNumber (nx := 24) (w := (gi2 ar0 2)) rfl p_a0.1 rfl rfl rfl rfl ?_
      refine ev_baldT f_X9_stepNumber (nx := 25) rfl (hI.wf.s rfl) rfl l3 (by decide) u14 (by decide) rfl (fun w17 e17 => ?_)
      refine ev_bp f_X9_stepNumber (nx := 27) (v := 48) rfl (by decide) rfl ?_
      refine ev_if f_X9_stepNumber (t1 := 81) (t2 := 30) rfl rfl rfl (fun h18 => ?_) (fun h18 => ?_)
      · have u19 : w17.toInt ≤ 47 := t_ltu h18 (by decide : (48:Int32).toInt ≤ (48:Int)) rfl
        refine ev_loc f_X9_stepNumber (nx := 82) rfl rfl rfl rfl ?_
        refine ev_loc f_X9_stepNumber (nx := 83) rfl rfl rfl rfl ?_
        refine ev_gvI f_X9_stepNumber (nx := 86) (w := (gi2 ar0 2)) rfl p_a0.1 rfl rfl rfl rfl ?_
        refine ev_loc f_X9_stepNumber (nx := 87) rfl rfl rfl rfl ?_
        refine ev_getI f_X9_stepNumber (nx := 90) rfl p_a0.1 rfl rfl rfl ?_
        obtain ⟨l20, u20⟩ := hI.b p_a0.1 (rfl : t_bd 8 4 = some (0, 900))
        refine ev_subR f_X9_stepNumber (nx := 91) (l := (-900)) (u := 899) rfl l3 u14 l20 u20 rfl rfl (by decide) (by decide) rfl (fun z21 e21 l21 u21 => ?_)
        refine ev_ic f_X9_stepNumber (nx := 92) (v := 4) rfl (by decide) rfl ?_
        refine ev_if f_X9_stepNumber (t1 := 99) (t2 := 95) rfl rfl rfl (fun h22 => ?_) (fun h22 => ?_)
        · have u23 : z21.toInt ≤ 4 := t_leu h22 (by decide : (4:Int32).toInt ≤ (4:Int))
          refine ev_ic f_X9_stepNumber (nx := 100) (v := 1) rfl (by decide) rfl ?_
          refine ev_putIT f_X9_stepNumber (nx := 103) rfl p_a0.1 rfl rfl rfl (hI.put0 p_a0.1 rfl rfl) (hX.upI (t_inO hI.wf p_a0.1 (t_outO hI.wf p_a0.1 rfl) rfl)) (fun g24 e24 hI hX => ?_)
          exact ev_ret f_X9_stepNumber rfl rfl rfl ⟨_, _, _, rfl, hI, hX, rfl⟩
        · have l25 : 5 ≤ z21.toInt := t_ltl (t_nle h22) (by decide : (4:Int) ≤ (4:Int32).toInt) rfl
          have u26 : (gi2 ar0 4).toInt ≤ 894 := by have := u14; omega
          refine ev_ic f_X9_stepNumber (nx := 96) (v := 4) rfl (by decide) rfl ?_
          refine ev_jmp f_X9_stepNumber (nx := 100) rfl rfl rfl ?_
          refine ev_putIT f_X9_stepNumber (nx := 103) rfl p_a0.1 rfl rfl rfl (hI.put0 p_a0.1 rfl rfl) (hX.upI (t_inO hI.wf p_a0.1 (t_outO hI.wf p_a0.1 rfl) rfl)) (fun g27 e27 hI hX => ?_)
          exact ev_ret f_X9_stepNumber rfl rfl rfl ⟨_, _, _, rfl, hI, hX, rfl⟩
      · have l28 : 48 ≤ w17.toInt := t_lel (t_nlt h18) (by decide : (48:Int) ≤ (48:Int32).toInt)
        refine ev_loc f_X9_stepNumber (nx := 31) rfl rfl rfl rfl ?_
        refine ev_getR f_X9_stepNumber (nx := 34) (v := .ref 2) rfl p_a0.1 rfl rfl e16 rfl rfl ?_
        refine ev_loc f_X9_stepNumber (nx := 35) rfl rfl rfl rfl ?_
        refine ev_gvI f_X9_stepNumber (nx := 38) (w := (gi2 ar0 2)) rfl p_a0.1 rfl rfl rfl rfl ?_
        refine ev_baldT f_X9_stepNumber (nx := 39) rfl (hI.wf.s rfl) rfl l3 (by decide) u14 (by decide) rfl (fun w29 e29 => ?_)
        refine ev_bp f_X9_stepNumber (nx := 41) (v := 57) rfl (by decide) rfl ?_
        refine ev_if f_X9_stepNumber (t1 := 81) (t2 := 44) rfl rfl rfl (fun h30 => ?_) (fun h30 => ?_)
        · have l31 : 58 ≤ w29.toInt := t_ltl h30 (by decide : (57:Int) ≤ (57:Int32).toInt) rfl
          refine ev_loc f_X9_stepNumber (nx := 82) rfl rfl rfl rfl ?_
          refine ev_loc f_X9_stepNumber (nx := 83) rfl rfl rfl rfl ?_
          refine ev_gvI f_X9_stepNumber (nx := 86) (w := (gi2 ar0 2)) rfl p_a0.1 rfl rfl rfl rfl ?_
          refine ev_loc f_X9_stepNumber (nx := 87) rfl rfl rfl rfl ?_
          refine ev_getI f_X9_stepNumber (nx := 90) rfl p_a0.1 rfl rfl rfl ?_
          obtain ⟨l32, u32⟩ := hI.b p_a0.1 (rfl : t_bd 8 4 = some (0, 900))
          refine ev_subR f_X9_stepNumber (nx := 91) (l := (-900)) (u := 899) rfl l3 u14 l32 u32 rfl rfl (by decide) (by decide) rfl (fun z33 e33 l33 u33 => ?_)
          refine ev_ic f_X9_stepNumber (nx := 92) (v := 4) rfl (by decide) rfl ?_
          refine ev_if f_X9_stepNumber (t1 := 99) (t2 := 95) rfl rfl rfl (fun h34 => ?_) (fun h34 => ?_)
          · have u35 : z33.toInt ≤ 4 := t_leu h34 (by decide : (4:Int32).toInt ≤ (4:Int))
            refine ev_ic f_X9_stepNumber (nx := 100) (v := 1) rfl (by decide) rfl ?_
            refine ev_putIT f_X9_stepNumber (nx := 103) rfl p_a0.1 rfl rfl rfl (hI.put0 p_a0.1 rfl rfl) (hX.upI (t_inO hI.wf p_a0.1 (t_outO hI.wf p_a0.1 rfl) rfl)) (fun g36 e36 hI hX => ?_)
            exact ev_ret f_X9_stepNumber rfl rfl rfl ⟨_, _, _, rfl, hI, hX, rfl⟩
          · have l37 : 5 ≤ z33.toInt := t_ltl (t_nle h34) (by decide : (4:Int) ≤ (4:Int32).toInt) rfl
            have u38 : (gi2 ar0 4).toInt ≤ 894 := by have := u14; omega
            refine ev_ic f_X9_stepNumber (nx := 96) (v := 4) rfl (by decide) rfl ?_
            refine ev_jmp f_X9_stepNumber (nx := 100) rfl rfl rfl ?_
            refine ev_putIT f_X9_stepNumber (nx := 103) rfl p_a0.1 rfl rfl rfl (hI.put0 p_a0.1 rfl rfl) (hX.upI (t_inO hI.wf p_a0.1 (t_outO hI.wf p_a0.1 rfl) rfl)) (fun g39 e39 hI hX => ?_)
            exact ev_ret f_X9_stepNumber rfl rfl rfl ⟨_, _, _, rfl, hI, hX, rfl⟩
        · have u40 : w29.toInt ≤ 57 := t_leu (t_nlt h30) (by decide : (57:Int32).toInt ≤ (57:Int))
          refine ev_loc f_X9_stepNumber (nx := 45) rfl rfl rfl rfl ?_
          refine ev_loc f_X9_stepNumber (nx := 46) rfl rfl rfl rfl ?_
          refine ev_getI f_X9_stepNumber (nx := 49) rfl p_a0.1 rfl rfl rfl ?_
          refine ev_bp f_X9_stepNumber (nx := 51) (v := 10) rfl (by decide) rfl ?_
          refine ev_anyI f_X9_stepNumber (nx := 52) rfl rfl rfl rfl (fun z41 => ?_)
          refine ev_loc f_X9_stepNumber (nx := 53) rfl rfl rfl rfl ?_
          refine ev_getR f_X9_stepNumber (nx := 56) (v := .ref 2) rfl p_a0.1 rfl rfl e16 rfl rfl ?_
          refine ev_loc f_X9_stepNumber (nx := 57) rfl rfl rfl rfl ?_
          refine ev_gvI f_X9_stepNumber (nx := 60) (w := (gi2 ar0 2)) rfl p_a0.1 rfl rfl rfl rfl ?_
          refine ev_baldT f_X9_stepNumber (nx := 61) rfl (hI.wf.s rfl) rfl l3 (by decide) u14 (by decide) rfl (fun w42 e42 => ?_)
          refine ev_bp f_X9_stepNumber (nx := 63) (v := 48) rfl (by decide) rfl ?_
          refine ev_anyI f_X9_stepNumber (nx := 64) rfl rfl rfl rfl (fun z43 => ?_)
          refine ev_anyI f_X9_stepNumber (nx := 65) rfl rfl rfl rfl (fun z44 => ?_)
          refine ev_putIT f_X9_stepNumber (nx := 68) rfl p_a0.1 rfl rfl rfl (hI.put0 p_a0.1 rfl rfl) (hX.upI (t_inO hI.wf p_a0.1 (t_outO hI.wf p_a0.1 rfl) rfl)) (fun g45 e45 hI hX => ?_)
          refine ev_loc f_X9_stepNumber (nx := 69) rfl rfl rfl rfl ?_
          refine ev_alu f_X9_stepNumber (nx := 70) rfl rfl rfl rfl ?_
          refine ev_gvI f_X9_stepNumber (nx := 73) (w := (gi2 ar0 2)) rfl p_a0.1 rfl rfl ((by rw [e45]; exact x_up2_off (Or.inr (by decide)) : g45 ar0 2 = gi2 ar0 2).trans rfl) rfl ?_
          refine ev_ic f_X9_stepNumber (nx := 74) (v := 1) rfl (by decide) rfl ?_
          refine ev_addC f_X9_stepNumber (nx := 75) (c := 1) (l := 1) (u := 900) rfl (by decide) l3 u14 rfl rfl (by decide) (by decide) rfl (fun z46 e46 l46 u46 => ?_)
          refine ev_putIT f_X9_stepNumber (nx := 78) rfl p_a0.1 rfl rfl rfl (hI.putB p_a0.1 rfl rfl l46 (by decide) u46 (by decide)) (hX.upI (t_inO hI.wf p_a0.1 (t_outO hI.wf p_a0.1 rfl) rfl)) (fun g47 e47 hI hX => ?_)
          refine ev_jmp f_X9_stepNumber (nx := 5) rfl rfl rfl ?_
          refine ev_sub (lo := [(0, .ref ar0)]) rfl (t_sc rfl t_sn) ?_
          have hq2 := ((by rw [e47]; exact x_up2_at _ _ _ _ : g47 ar0 2 = z46) : g47 ar0 2 = z46)
          exact ih2 _ (by rw [hq2]; omega) g47 gl2 gr2  hI hX p_a0 rfl
  refine ev_sub (lo := [(0, .ref ar0)]) rfl (t_sc rfl t_sn) ?_
  exact L2 _ g1 gl gr  hI hX p_a0 rfl
def wl_step : List (Nat × Nat) := [(118, 2), (118, 3), (118, 4), (118, 5), (118, 6), (118, 7), (118, 8), (118, 9)]
theorem c_step {X : x_Ext} {d : Nat} {sh : List (Nat ⊕ (Nat × Nat))} {gi : Nat → Nat → Int32} {gl : Nat → Nat → Int64} {gr : Nat → Nat → Value} (hI : t_I sh gi gr) (ar0 : Nat) (p_a0 : t_Tk sh gr ar0) : x_Me X (d + 2) n_X9_step [.ref ar0] (sh, gi, gl, gr) (t_P wl_step sh gi gl gr t_Rn) := by
  have hX : t_X wl_step sh gi gl gr gi gl gr := t_X.rf
  refine me_i f_X9_step p_a0.1 rfl rfl rfl ?_
  have L1 : ∀ (m1 : Nat) (gi1 : Nat → Nat → Int32) (gl1 : Nat → Nat → Int64) (gr1 : Nat → Nat → Value), t_I sh gi1 gr1 → t_X wl_step sh gi gl gr gi1 gl1 gr1 → t_Tk sh gr1 ar0 → (900 - (gi1 ar0 2).toInt).toNat = m1 → x_Ev X (d + 2) n_X9_step 0 [(0, .ref ar0)] [] (sh, gi1, gl1, gr1) (t_P wl_step sh gi gl gr t_Rn) := by
    intro m1
    induction m1 using Nat.strongRecOn with
    | _ m1 ih1 =>
    intro gi1 gl1 gr1 hI hX p_a0 hm1
    refine ev_loc f_X9_step (nx := 1) rfl rfl rfl rfl ?_
    refine ev_getI f_X9_step (nx := 4) rfl p_a0.1 rfl rfl rfl ?_
    obtain ⟨l2, u2⟩ := hI.b p_a0.1 (rfl : t_bd 8 2 = some (0, 900))
    refine ev_loc f_X9_step (nx := 5) rfl rfl rfl rfl ?_
    refine ev_getI f_X9_step (nx := 8) rfl p_a0.1 rfl rfl rfl ?_
    obtain ⟨l3, u3⟩ := hI.b p_a0.1 (rfl : t_bd 8 1 = some (0, 900))
    refine ev_if f_X9_step (t1 := 52) (t2 := 11) rfl rfl rfl (fun h4 => ?_) (fun h4 => ?_)
    · refine ev_loc f_X9_step (nx := 53) rfl rfl rfl rfl ?_
      refine ev_loc f_X9_step (nx := 54) rfl rfl rfl rfl ?_
      refine ev_gvI f_X9_step (nx := 57) (w := (gi1 ar0 2)) rfl p_a0.1 rfl rfl rfl rfl ?_
      refine ev_putIT f_X9_step (nx := 60) rfl p_a0.1 rfl rfl rfl (hI.putB p_a0.1 rfl rfl l2 (by decide) u2 (by decide)) (hX.upI (t_inO hI.wf p_a0.1 (t_outO hI.wf p_a0.1 rfl) rfl)) (fun g5 e5 hI hX => ?_)
      refine ev_loc f_X9_step (nx := 61) rfl rfl rfl rfl ?_
      refine ev_alu f_X9_step (nx := 62) rfl rfl rfl rfl ?_
      have hE6 := t_eqf_up (gr := gr1) (j := 7) (v := .null) p_a0.1 rfl
      have hT6 := t_keyw hI (v := .null) p_a0.1 (Or.inl rfl)
      replace p_a0 := p_a0.ext hE6
      refine ev_putRT f_X9_step (nx := 65) rfl p_a0.1 rfl rfl rfl rfl hT6 (hX.upR (t_inO hI.wf p_a0.1 (t_outO hI.wf p_a0.1 rfl) rfl) hE6) (fun g6 e6 hI hX => ?_)
      rw [← e6] at p_a0
      refine ev_loc f_X9_step (nx := 66) rfl rfl rfl rfl ?_
      refine ev_gvI f_X9_step (nx := 69) (w := (gi1 ar0 2)) rfl p_a0.1 rfl rfl ((by rw [e5]; exact x_up2_off (Or.inr (by decide)) : g5 ar0 2 = gi1 ar0 2).trans rfl) rfl ?_
      refine ev_loc f_X9_step (nx := 70) rfl rfl rfl rfl ?_
      refine ev_gvI f_X9_step (nx := 73) (w := (gi1 ar0 1)) rfl p_a0.1 rfl rfl ((by rw [e5]; exact x_up2_off (Or.inr (by decide)) : g5 ar0 1 = gi1 ar0 1).trans rfl) rfl ?_
      refine ev_if f_X9_step (t1 := 82) (t2 := 76) rfl rfl rfl (fun h7 => ?_) (fun h7 => ?_)
      · have u8 : (gi1 ar0 2).toInt ≤ 899 := t_ltu h7 u3 rfl
        have l9 : 1 ≤ (gi1 ar0 1).toInt := t_ltl h7 l2 rfl
        refine ev_loc f_X9_step (nx := 83) rfl rfl rfl rfl ?_
        have e10 := p_a0.2
        refine ev_getR f_X9_step (nx := 86) rfl p_a0.1 rfl rfl e10 rfl rfl ?_
        refine ev_loc f_X9_step (nx := 87) rfl rfl rfl rfl ?_
        refine ev_gvI f_X9_step (nx := 90) (w := (gi1 ar0 2)) rfl p_a0.1 rfl rfl ((by rw [e5]; exact x_up2_off (Or.inr (by decide)) : g5 ar0 2 = gi1 ar0 2).trans rfl) rfl ?_
        refine ev_baldT f_X9_step (nx := 91) rfl (hI.wf.s rfl) rfl l2 (by decide) u8 (by decide) rfl (fun w11 e11 => ?_)
        refine ev_loc f_X9_step (nx := 92) (lo' := [(1, .int w11), (0, .ref ar0)]) rfl rfl rfl rfl ?_
        refine ev_loc f_X9_step (nx := 93) rfl rfl rfl rfl ?_
        refine ev_bp f_X9_step (nx := 95) (v := 97) rfl (by decide) rfl ?_
        refine ev_if f_X9_step (t1 := 111) (t2 := 98) rfl rfl rfl (fun h12 => ?_) (fun h12 => ?_)
        · have u13 : w11.toInt ≤ 96 := t_ltu h12 (by decide : (97:Int32).toInt ≤ (97:Int)) rfl
          refine ev_loc f_X9_step (nx := 112) rfl rfl rfl rfl ?_
          refine ev_bp f_X9_step (nx := 114) (v := 48) rfl (by decide) rfl ?_
          refine ev_if f_X9_step (t1 := 130) (t2 := 117) rfl rfl rfl (fun h14 => ?_) (fun h14 => ?_)
          · have u15 : w11.toInt ≤ 47 := t_ltu h14 (by decide : (48:Int32).toInt ≤ (48:Int)) rfl
            refine ev_loc f_X9_step (nx := 131) rfl rfl rfl rfl ?_
            refine ev_loc f_X9_step (nx := 132) rfl rfl rfl rfl ?_
            refine ev_inS1 f_X9_step (nx := 135) (lo2 := [(0, .int w11)]) rfl rfl rfl rfl f_X9_isSign rfl rfl rfl rfl ?_
            refine ev_loc f_X9_isSign (nx := 1) rfl rfl rfl rfl ?_
            refine ev_bp f_X9_isSign (nx := 3) (v := 59) rfl (by decide) rfl ?_
            refine ev_f f_X9_isSign (t1 := 36) (t2 := 6) rfl rfl rfl (t_neT u15 (by decide : (59:Int) ≤ (59:Int32).toInt) (by decide)) ?_
            refine ev_loc f_X9_isSign (nx := 7) rfl rfl rfl rfl ?_
            refine ev_bp f_X9_isSign (nx := 9) (v := 60) rfl (by decide) rfl ?_
            refine ev_f f_X9_isSign (t1 := 36) (t2 := 12) rfl rfl rfl (t_neT u15 (by decide : (60:Int) ≤ (60:Int32).toInt) (by decide)) ?_
            refine ev_loc f_X9_isSign (nx := 13) rfl rfl rfl rfl ?_
            refine ev_bp f_X9_isSign (nx := 15) (v := 62) rfl (by decide) rfl ?_
            refine ev_f f_X9_isSign (t1 := 36) (t2 := 18) rfl rfl rfl (t_neT u15 (by decide : (62:Int) ≤ (62:Int32).toInt) (by decide)) ?_
            refine ev_loc f_X9_isSign (nx := 19) rfl rfl rfl rfl ?_
            refine ev_bp f_X9_isSign (nx := 21) (v := 61) rfl (by decide) rfl ?_
            refine ev_f f_X9_isSign (t1 := 36) (t2 := 24) rfl rfl rfl (t_neT u15 (by decide : (61:Int) ≤ (61:Int32).toInt) (by decide)) ?_
            refine ev_loc f_X9_isSign (nx := 25) rfl rfl rfl rfl ?_
            refine ev_bp f_X9_isSign (nx := 27) (v := 40) rfl (by decide) rfl ?_
            refine ev_if f_X9_isSign (t1 := 36) (t2 := 30) rfl rfl rfl (fun h16 => ?_) (fun h16 => ?_)
            · have u17 : w11.toInt ≤ 40 := t_equ h16 (by decide : (40:Int32).toInt ≤ (40:Int))
              have l18 : 40 ≤ w11.toInt := t_eql h16 (by decide : (40:Int) ≤ (40:Int32).toInt)
              refine ev_ic f_X9_isSign (nx := 37) (v := 1) rfl (by decide) rfl ?_
              refine ev_jmp f_X9_isSign (nx := 41) rfl rfl rfl ?_
              refine ev_retK1 f_X9_isSign rfl rfl rfl ?_
              refine ev_f f_X9_step (t1 := 142) (t2 := 138) rfl rfl rfl (by decide) ?_
              refine ev_ic f_X9_step (nx := 139) (v := 2) rfl (by decide) rfl ?_
              refine ev_jmp f_X9_step (nx := 143) rfl rfl rfl ?_
              refine ev_putIT f_X9_step (nx := 146) rfl p_a0.1 rfl rfl rfl (hI.put0 p_a0.1 rfl rfl) (hX.upI (t_inO hI.wf p_a0.1 (t_outO hI.wf p_a0.1 rfl) rfl)) (fun g19 e19 hI hX => ?_)
              refine ev_loc f_X9_step (nx := 147) rfl rfl rfl rfl ?_
              refine ev_loc f_X9_step (nx := 148) rfl rfl rfl rfl ?_
              refine ev_putIT f_X9_step (nx := 151) rfl p_a0.1 rfl rfl rfl (hI.put0 p_a0.1 rfl rfl) (hX.upI (t_inO hI.wf p_a0.1 (t_outO hI.wf p_a0.1 rfl) rfl)) (fun g20 e20 hI hX => ?_)
              refine ev_loc f_X9_step (nx := 152) rfl rfl rfl rfl ?_
              refine ev_alu f_X9_step (nx := 153) rfl rfl rfl rfl ?_
              refine ev_gvI f_X9_step (nx := 156) (w := (gi1 ar0 2)) rfl p_a0.1 rfl rfl ((by rw [e20]; exact x_up2_off (Or.inr (by decide)) : g20 ar0 2 = g19 ar0 2).trans ((by rw [e19]; exact x_up2_off (Or.inr (by decide)) : g19 ar0 2 = g5 ar0 2).trans ((by rw [e5]; exact x_up2_off (Or.inr (by decide)) : g5 ar0 2 = gi1 ar0 2).trans rfl))) rfl ?_
              refine ev_ic f_X9_step (nx := 157) (v := 1) rfl (by decide) rfl ?_
              refine ev_addC f_X9_step (nx := 158) (c := 1) (l := 1) (u := 900) rfl (by decide) l2 u8 rfl rfl (by decide) (by decide) rfl (fun z21 e21 l21 u21 => ?_)
              refine ev_putIT f_X9_step (nx := 161) rfl p_a0.1 rfl rfl rfl (hI.putB p_a0.1 rfl rfl l21 (by decide) u21 (by decide)) (hX.upI (t_inO hI.wf p_a0.1 (t_outO hI.wf p_a0.1 rfl) rfl)) (fun g22 e22 hI hX => ?_)
              exact ev_ret f_X9_step rfl rfl rfl ⟨_, _, _, rfl, hI, hX, rfl⟩
            · refine ev_loc f_X9_isSign (nx := 31) rfl rfl rfl rfl ?_
              refine ev_bp f_X9_isSign (nx := 33) (v := 41) rfl (by decide) rfl ?_
              refine ev_if f_X9_isSign (t1 := 36) (t2 := 40) rfl rfl rfl (fun h23 => ?_) (fun h23 => ?_)
              · have u24 : w11.toInt ≤ 41 := t_equ h23 (by decide : (41:Int32).toInt ≤ (41:Int))
                have l25 : 41 ≤ w11.toInt := t_eql h23 (by decide : (41:Int) ≤ (41:Int32).toInt)
                refine ev_ic f_X9_isSign (nx := 37) (v := 1) rfl (by decide) rfl ?_
                refine ev_jmp f_X9_isSign (nx := 41) rfl rfl rfl ?_
                refine ev_retK1 f_X9_isSign rfl rfl rfl ?_
                refine ev_f f_X9_step (t1 := 142) (t2 := 138) rfl rfl rfl (by decide) ?_
                refine ev_ic f_X9_step (nx := 139) (v := 2) rfl (by decide) rfl ?_
                refine ev_jmp f_X9_step (nx := 143) rfl rfl rfl ?_
                refine ev_putIT f_X9_step (nx := 146) rfl p_a0.1 rfl rfl rfl (hI.put0 p_a0.1 rfl rfl) (hX.upI (t_inO hI.wf p_a0.1 (t_outO hI.wf p_a0.1 rfl) rfl)) (fun g26 e26 hI hX => ?_)
                refine ev_loc f_X9_step (nx := 147) rfl rfl rfl rfl ?_
                refine ev_loc f_X9_step (nx := 148) rfl rfl rfl rfl ?_
                refine ev_putIT f_X9_step (nx := 151) rfl p_a0.1 rfl rfl rfl (hI.put0 p_a0.1 rfl rfl) (hX.upI (t_inO hI.wf p_a0.1 (t_outO hI.wf p_a0.1 rfl) rfl)) (fun g27 e27 hI hX => ?_)
                refine ev_loc f_X9_step (nx := 152) rfl rfl rfl rfl ?_
                refine ev_alu f_X9_step (nx := 153) rfl rfl rfl rfl ?_
                refine ev_gvI f_X9_step (nx := 156) (w := (gi1 ar0 2)) rfl p_a0.1 rfl rfl ((by rw [e27]; exact x_up2_off (Or.inr (by decide)) : g27 ar0 2 = g26 ar0 2).trans ((by rw [e26]; exact x_up2_off (Or.inr (by decide)) : g26 ar0 2 = g5 ar0 2).trans ((by rw [e5]; exact x_up2_off (Or.inr (by decide)) : g5 ar0 2 = gi1 ar0 2).trans rfl))) rfl ?_
                refine ev_ic f_X9_step (nx := 157) (v := 1) rfl (by decide) rfl ?_
                refine ev_addC f_X9_step (nx := 158) (c := 1) (l := 1) (u := 900) rfl (by decide) l2 u8 rfl rfl (by decide) (by decide) rfl (fun z28 e28 l28 u28 => ?_)
                refine ev_putIT f_X9_step (nx := 161) rfl p_a0.1 rfl rfl rfl (hI.putB p_a0.1 rfl rfl l28 (by decide) u28 (by decide)) (hX.upI (t_inO hI.wf p_a0.1 (t_outO hI.wf p_a0.1 rfl) rfl)) (fun g29 e29 hI hX => ?_)
                exact ev_ret f_X9_step rfl rfl rfl ⟨_, _, _, rfl, hI, hX, rfl⟩
              · refine ev_ic f_X9_isSign (nx := 41) (v := 0) rfl (by decide) rfl ?_
                refine ev_retK1 f_X9_isSign rfl rfl rfl ?_
                refine ev_t f_X9_step (t1 := 142) (t2 := 138) rfl rfl rfl (by decide) ?_
                refine ev_ic f_X9_step (nx := 143) (v := 4) rfl (by decide) rfl ?_
                refine ev_putIT f_X9_step (nx := 146) rfl p_a0.1 rfl rfl rfl (hI.put0 p_a0.1 rfl rfl) (hX.upI (t_inO hI.wf p_a0.1 (t_outO hI.wf p_a0.1 rfl) rfl)) (fun g30 e30 hI hX => ?_)
                refine ev_loc f_X9_step (nx := 147) rfl rfl rfl rfl ?_
                refine ev_loc f_X9_step (nx := 148) rfl rfl rfl rfl ?_
                refine ev_putIT f_X9_step (nx := 151) rfl p_a0.1 rfl rfl rfl (hI.put0 p_a0.1 rfl rfl) (hX.upI (t_inO hI.wf p_a0.1 (t_outO hI.wf p_a0.1 rfl) rfl)) (fun g31 e31 hI hX => ?_)
                refine ev_loc f_X9_step (nx := 152) rfl rfl rfl rfl ?_
                refine ev_alu f_X9_step (nx := 153) rfl rfl rfl rfl ?_
                refine ev_gvI f_X9_step (nx := 156) (w := (gi1 ar0 2)) rfl p_a0.1 rfl rfl ((by rw [e31]; exact x_up2_off (Or.inr (by decide)) : g31 ar0 2 = g30 ar0 2).trans ((by rw [e30]; exact x_up2_off (Or.inr (by decide)) : g30 ar0 2 = g5 ar0 2).trans ((by rw [e5]; exact x_up2_off (Or.inr (by decide)) : g5 ar0 2 = gi1 ar0 2).trans rfl))) rfl ?_
                refine ev_ic f_X9_step (nx := 157) (v := 1) rfl (by decide) rfl ?_
                refine ev_addC f_X9_step (nx := 158) (c := 1) (l := 1) (u := 900) rfl (by decide) l2 u8 rfl rfl (by decide) (by decide) rfl (fun z32 e32 l32 u32 => ?_)
                refine ev_putIT f_X9_step (nx := 161) rfl p_a0.1 rfl rfl rfl (hI.putB p_a0.1 rfl rfl l32 (by decide) u32 (by decide)) (hX.upI (t_inO hI.wf p_a0.1 (t_outO hI.wf p_a0.1 rfl) rfl)) (fun g33 e33 hI hX => ?_)
                exact ev_ret f_X9_step rfl rfl rfl ⟨_, _, _, rfl, hI, hX, rfl⟩
          · have l34 : 48 ≤ w11.toInt := t_lel (t_nlt h14) (by decide : (48:Int) ≤ (48:Int32).toInt)
            refine ev_loc f_X9_step (nx := 118) rfl rfl rfl rfl ?_
            refine ev_bp f_X9_step (nx := 120) (v := 57) rfl (by decide) rfl ?_
            refine ev_if f_X9_step (t1 := 130) (t2 := 123) rfl rfl rfl (fun h35 => ?_) (fun h35 => ?_)
            · have l36 : 58 ≤ w11.toInt := t_ltl h35 (by decide : (57:Int) ≤ (57:Int32).toInt) rfl
              refine ev_loc f_X9_step (nx := 131) rfl rfl rfl rfl ?_
              refine ev_loc f_X9_step (nx := 132) rfl rfl rfl rfl ?_
              refine ev_inS1 f_X9_step (nx := 135) (lo2 := [(0, .int w11)]) rfl rfl rfl rfl f_X9_isSign rfl rfl rfl rfl ?_
              refine ev_loc f_X9_isSign (nx := 1) rfl rfl rfl rfl ?_
              refine ev_bp f_X9_isSign (nx := 3) (v := 59) rfl (by decide) rfl ?_
              refine ev_if f_X9_isSign (t1 := 36) (t2 := 6) rfl rfl rfl (fun h37 => ?_) (fun h37 => ?_)
              · have u38 : w11.toInt ≤ 59 := t_equ h37 (by decide : (59:Int32).toInt ≤ (59:Int))
                have l39 : 59 ≤ w11.toInt := t_eql h37 (by decide : (59:Int) ≤ (59:Int32).toInt)
                refine ev_ic f_X9_isSign (nx := 37) (v := 1) rfl (by decide) rfl ?_
                refine ev_jmp f_X9_isSign (nx := 41) rfl rfl rfl ?_
                refine ev_retK1 f_X9_isSign rfl rfl rfl ?_
                refine ev_f f_X9_step (t1 := 142) (t2 := 138) rfl rfl rfl (by decide) ?_
                refine ev_ic f_X9_step (nx := 139) (v := 2) rfl (by decide) rfl ?_
                refine ev_jmp f_X9_step (nx := 143) rfl rfl rfl ?_
                refine ev_putIT f_X9_step (nx := 146) rfl p_a0.1 rfl rfl rfl (hI.put0 p_a0.1 rfl rfl) (hX.upI (t_inO hI.wf p_a0.1 (t_outO hI.wf p_a0.1 rfl) rfl)) (fun g40 e40 hI hX => ?_)
                refine ev_loc f_X9_step (nx := 147) rfl rfl rfl rfl ?_
                refine ev_loc f_X9_step (nx := 148) rfl rfl rfl rfl ?_
                refine ev_putIT f_X9_step (nx := 151) rfl p_a0.1 rfl rfl rfl (hI.put0 p_a0.1 rfl rfl) (hX.upI (t_inO hI.wf p_a0.1 (t_outO hI.wf p_a0.1 rfl) rfl)) (fun g41 e41 hI hX => ?_)
                refine ev_loc f_X9_step (nx := 152) rfl rfl rfl rfl ?_
                refine ev_alu f_X9_step (nx := 153) rfl rfl rfl rfl ?_
                refine ev_gvI f_X9_step (nx := 156) (w := (gi1 ar0 2)) rfl p_a0.1 rfl rfl ((by rw [e41]; exact x_up2_off (Or.inr (by decide)) : g41 ar0 2 = g40 ar0 2).trans ((by rw [e40]; exact x_up2_off (Or.inr (by decide)) : g40 ar0 2 = g5 ar0 2).trans ((by rw [e5]; exact x_up2_off (Or.inr (by decide)) : g5 ar0 2 = gi1 ar0 2).trans rfl))) rfl ?_
                refine ev_ic f_X9_step (nx := 157) (v := 1) rfl (by decide) rfl ?_
                refine ev_addC f_X9_step (nx := 158) (c := 1) (l := 1) (u := 900) rfl (by decide) l2 u8 rfl rfl (by decide) (by decide) rfl (fun z42 e42 l42 u42 => ?_)
                refine ev_putIT f_X9_step (nx := 161) rfl p_a0.1 rfl rfl rfl (hI.putB p_a0.1 rfl rfl l42 (by decide) u42 (by decide)) (hX.upI (t_inO hI.wf p_a0.1 (t_outO hI.wf p_a0.1 rfl) rfl)) (fun g43 e43 hI hX => ?_)
                exact ev_ret f_X9_step rfl rfl rfl ⟨_, _, _, rfl, hI, hX, rfl⟩
              · refine ev_loc f_X9_isSign (nx := 7) rfl rfl rfl rfl ?_
                refine ev_bp f_X9_isSign (nx := 9) (v := 60) rfl (by decide) rfl ?_
                refine ev_if f_X9_isSign (t1 := 36) (t2 := 12) rfl rfl rfl (fun h44 => ?_) (fun h44 => ?_)
                · have u45 : w11.toInt ≤ 60 := t_equ h44 (by decide : (60:Int32).toInt ≤ (60:Int))
                  have l46 : 60 ≤ w11.toInt := t_eql h44 (by decide : (60:Int) ≤ (60:Int32).toInt)
                  refine ev_ic f_X9_isSign (nx := 37) (v := 1) rfl (by decide) rfl ?_
                  refine ev_jmp f_X9_isSign (nx := 41) rfl rfl rfl ?_
                  refine ev_retK1 f_X9_isSign rfl rfl rfl ?_
                  refine ev_f f_X9_step (t1 := 142) (t2 := 138) rfl rfl rfl (by decide) ?_
                  refine ev_ic f_X9_step (nx := 139) (v := 2) rfl (by decide) rfl ?_
                  refine ev_jmp f_X9_step (nx := 143) rfl rfl rfl ?_
                  refine ev_putIT f_X9_step (nx := 146) rfl p_a0.1 rfl rfl rfl (hI.put0 p_a0.1 rfl rfl) (hX.upI (t_inO hI.wf p_a0.1 (t_outO hI.wf p_a0.1 rfl) rfl)) (fun g47 e47 hI hX => ?_)
                  refine ev_loc f_X9_step (nx := 147) rfl rfl rfl rfl ?_
                  refine ev_loc f_X9_step (nx := 148) rfl rfl rfl rfl ?_
                  refine ev_putIT f_X9_step (nx := 151) rfl p_a0.1 rfl rfl rfl (hI.put0 p_a0.1 rfl rfl) (hX.upI (t_inO hI.wf p_a0.1 (t_outO hI.wf p_a0.1 rfl) rfl)) (fun g48 e48 hI hX => ?_)
                  refine ev_loc f_X9_step (nx := 152) rfl rfl rfl rfl ?_
                  refine ev_alu f_X9_step (nx := 153) rfl rfl rfl rfl ?_
                  refine ev_gvI f_X9_step (nx := 156) (w := (gi1 ar0 2)) rfl p_a0.1 rfl rfl ((by rw [e48]; exact x_up2_off (Or.inr (by decide)) : g48 ar0 2 = g47 ar0 2).trans ((by rw [e47]; exact x_up2_off (Or.inr (by decide)) : g47 ar0 2 = g5 ar0 2).trans ((by rw [e5]; exact x_up2_off (Or.inr (by decide)) : g5 ar0 2 = gi1 ar0 2).trans rfl))) rfl ?_
                  refine ev_ic f_X9_step (nx := 157) (v := 1) rfl (by decide) rfl ?_
                  refine ev_addC f_X9_step (nx := 158) (c := 1) (l := 1) (u := 900) rfl (by decide) l2 u8 rfl rfl (by decide) (by decide) rfl (fun z49 e49 l49 u49 => ?_)
                  refine ev_putIT f_X9_step (nx := 161) rfl p_a0.1 rfl rfl rfl (hI.putB p_a0.1 rfl rfl l49 (by decide) u49 (by decide)) (hX.upI (t_inO hI.wf p_a0.1 (t_outO hI.wf p_a0.1 rfl) rfl)) (fun g50 e50 hI hX => ?_)
                  exact ev_ret f_X9_step rfl rfl rfl ⟨_, _, _, rfl, hI, hX, rfl⟩
                · refine ev_loc f_X9_isSign (nx := 13) rfl rfl rfl rfl ?_
                  refine ev_bp f_X9_isSign (nx := 15) (v := 62) rfl (by decide) rfl ?_
                  refine ev_if f_X9_isSign (t1 := 36) (t2 := 18) rfl rfl rfl (fun h51 => ?_) (fun h51 => ?_)
                  · have u52 : w11.toInt ≤ 62 := t_equ h51 (by decide : (62:Int32).toInt ≤ (62:Int))
                    have l53 : 62 ≤ w11.toInt := t_eql h51 (by decide : (62:Int) ≤ (62:Int32).toInt)
                    refine ev_ic f_X9_isSign (nx := 37) (v := 1) rfl (by decide) rfl ?_
                    refine ev_jmp f_X9_isSign (nx := 41) rfl rfl rfl ?_
                    refine ev_retK1 f_X9_isSign rfl rfl rfl ?_
                    refine ev_f f_X9_step (t1 := 142) (t2 := 138) rfl rfl rfl (by decide) ?_
                    refine ev_ic f_X9_step (nx := 139) (v := 2) rfl (by decide) rfl ?_
                    refine ev_jmp f_X9_step (nx := 143) rfl rfl rfl ?_
                    refine ev_putIT f_X9_step (nx := 146) rfl p_a0.1 rfl rfl rfl (hI.put0 p_a0.1 rfl rfl) (hX.upI (t_inO hI.wf p_a0.1 (t_outO hI.wf p_a0.1 rfl) rfl)) (fun g54 e54 hI hX => ?_)
                    refine ev_loc f_X9_step (nx := 147) rfl rfl rfl rfl ?_
                    refine ev_loc f_X9_step (nx := 148) rfl rfl rfl rfl ?_
                    refine ev_putIT f_X9_step (nx := 151) rfl p_a0.1 rfl rfl rfl (hI.put0 p_a0.1 rfl rfl) (hX.upI (t_inO hI.wf p_a0.1 (t_outO hI.wf p_a0.1 rfl) rfl)) (fun g55 e55 hI hX => ?_)
                    refine ev_loc f_X9_step (nx := 152) rfl rfl rfl rfl ?_
                    refine ev_alu f_X9_step (nx := 153) rfl rfl rfl rfl ?_
                    refine ev_gvI f_X9_step (nx := 156) (w := (gi1 ar0 2)) rfl p_a0.1 rfl rfl ((by rw [e55]; exact x_up2_off (Or.inr (by decide)) : g55 ar0 2 = g54 ar0 2).trans ((by rw [e54]; exact x_up2_off (Or.inr (by decide)) : g54 ar0 2 = g5 ar0 2).trans ((by rw [e5]; exact x_up2_off (Or.inr (by decide)) : g5 ar0 2 = gi1 ar0 2).trans rfl))) rfl ?_
                    refine ev_ic f_X9_step (nx := 157) (v := 1) rfl (by decide) rfl ?_
                    refine ev_addC f_X9_step (nx := 158) (c := 1) (l := 1) (u := 900) rfl (by decide) l2 u8 rfl rfl (by decide) (by decide) rfl (fun z56 e56 l56 u56 => ?_)
                    refine ev_putIT f_X9_step (nx := 161) rfl p_a0.1 rfl rfl rfl (hI.putB p_a0.1 rfl rfl l56 (by decide) u56 (by decide)) (hX.upI (t_inO hI.wf p_a0.1 (t_outO hI.wf p_a0.1 rfl) rfl)) (fun g57 e57 hI hX => ?_)
                    exact ev_ret f_X9_step rfl rfl rfl ⟨_, _, _, rfl, hI, hX, rfl⟩
                  · refine ev_loc f_X9_isSign (nx := 19) rfl rfl rfl rfl ?_
                    refine ev_bp f_X9_isSign (nx := 21) (v := 61) rfl (by decide) rfl ?_
                    refine ev_if f_X9_isSign (t1 := 36) (t2 := 24) rfl rfl rfl (fun h58 => ?_) (fun h58 => ?_)
                    · have u59 : w11.toInt ≤ 61 := t_equ h58 (by decide : (61:Int32).toInt ≤ (61:Int))
                      have l60 : 61 ≤ w11.toInt := t_eql h58 (by decide : (61:Int) ≤ (61:Int32).toInt)
                      refine ev_ic f_X9_isSign (nx := 37) (v := 1) rfl (by decide) rfl ?_
                      refine ev_jmp f_X9_isSign (nx := 41) rfl rfl rfl ?_
                      refine ev_retK1 f_X9_isSign rfl rfl rfl ?_
                      refine ev_f f_X9_step (t1 := 142) (t2 := 138) rfl rfl rfl (by decide) ?_
                      refine ev_ic f_X9_step (nx := 139) (v := 2) rfl (by decide) rfl ?_
                      refine ev_jmp f_X9_step (nx := 143) rfl rfl rfl ?_
                      refine ev_putIT f_X9_step (nx := 146) rfl p_a0.1 rfl rfl rfl (hI.put0 p_a0.1 rfl rfl) (hX.upI (t_inO hI.wf p_a0.1 (t_outO hI.wf p_a0.1 rfl) rfl)) (fun g61 e61 hI hX => ?_)
                      refine ev_loc f_X9_step (nx := 147) rfl rfl rfl rfl ?_
                      refine ev_loc f_X9_step (nx := 148) rfl rfl rfl rfl ?_
                      refine ev_putIT f_X9_step (nx := 151) rfl p_a0.1 rfl rfl rfl (hI.put0 p_a0.1 rfl rfl) (hX.upI (t_inO hI.wf p_a0.1 (t_outO hI.wf p_a0.1 rfl) rfl)) (fun g62 e62 hI hX => ?_)
                      refine ev_loc f_X9_step (nx := 152) rfl rfl rfl rfl ?_
                      refine ev_alu f_X9_step (nx := 153) rfl rfl rfl rfl ?_
                      refine ev_gvI f_X9_step (nx := 156) (w := (gi1 ar0 2)) rfl p_a0.1 rfl rfl ((by rw [e62]; exact x_up2_off (Or.inr (by decide)) : g62 ar0 2 = g61 ar0 2).trans ((by rw [e61]; exact x_up2_off (Or.inr (by decide)) : g61 ar0 2 = g5 ar0 2).trans ((by rw [e5]; exact x_up2_off (Or.inr (by decide)) : g5 ar0 2 = gi1 ar0 2).trans rfl))) rfl ?_
                      refine ev_ic f_X9_step (nx := 157) (v := 1) rfl (by decide) rfl ?_
                      refine ev_addC f_X9_step (nx := 158) (c := 1) (l := 1) (u := 900) rfl (by decide) l2 u8 rfl rfl (by decide) (by decide) rfl (fun z63 e63 l63 u63 => ?_)
                      refine ev_putIT f_X9_step (nx := 161) rfl p_a0.1 rfl rfl rfl (hI.putB p_a0.1 rfl rfl l63 (by decide) u63 (by decide)) (hX.upI (t_inO hI.wf p_a0.1 (t_outO hI.wf p_a0.1 rfl) rfl)) (fun g64 e64 hI hX => ?_)
                      exact ev_ret f_X9_step rfl rfl rfl ⟨_, _, _, rfl, hI, hX, rfl⟩
                    · refine ev_loc f_X9_isSign (nx := 25) rfl rfl rfl rfl ?_
                      refine ev_bp f_X9_isSign (nx := 27) (v := 40) rfl (by decide) rfl ?_
                      refine ev_f f_X9_isSign (t1 := 36) (t2 := 30) rfl rfl rfl (t_neT' (by decide : (40:Int32).toInt ≤ (40:Int)) l36 (by decide)) ?_
                      refine ev_loc f_X9_isSign (nx := 31) rfl rfl rfl rfl ?_
                      refine ev_bp f_X9_isSign (nx := 33) (v := 41) rfl (by decide) rfl ?_
                      refine ev_f f_X9_isSign (t1 := 36) (t2 := 40) rfl rfl rfl (t_neT' (by decide : (41:Int32).toInt ≤ (41:Int)) l36 (by decide)) ?_
                      refine ev_ic f_X9_isSign (nx := 41) (v := 0) rfl (by decide) rfl ?_
                      refine ev_retK1 f_X9_isSign rfl rfl rfl ?_
                      refine ev_t f_X9_step (t1 := 142) (t2 := 138) rfl rfl rfl (by decide) ?_
                      refine ev_ic f_X9_step (nx := 143) (v := 4) rfl (by decide) rfl ?_
                      refine ev_putIT f_X9_step (nx := 146) rfl p_a0.1 rfl rfl rfl (hI.put0 p_a0.1 rfl rfl) (hX.upI (t_inO hI.wf p_a0.1 (t_outO hI.wf p_a0.1 rfl) rfl)) (fun g65 e65 hI hX => ?_)
                      refine ev_loc f_X9_step (nx := 147) rfl rfl rfl rfl ?_
                      refine ev_loc f_X9_step (nx := 148) rfl rfl rfl rfl ?_
                      refine ev_putIT f_X9_step (nx := 151) rfl p_a0.1 rfl rfl rfl (hI.put0 p_a0.1 rfl rfl) (hX.upI (t_inO hI.wf p_a0.1 (t_outO hI.wf p_a0.1 rfl) rfl)) (fun g66 e66 hI hX => ?_)
                      refine ev_loc f_X9_step (nx := 152) rfl rfl rfl rfl ?_
                      refine ev_alu f_X9_step (nx := 153) rfl rfl rfl rfl ?_
                      refine ev_gvI f_X9_step (nx := 156) (w := (gi1 ar0 2)) rfl p_a0.1 rfl rfl ((by rw [e66]; exact x_up2_off (Or.inr (by decide)) : g66 ar0 2 = g65 ar0 2).trans ((by rw [e65]; exact x_up2_off (Or.inr (by decide)) : g65 ar0 2 = g5 ar0 2).trans ((by rw [e5]; exact x_up2_off (Or.inr (by decide)) : g5 ar0 2 = gi1 ar0 2).trans rfl))) rfl ?_
                      refine ev_ic f_X9_step (nx := 157) (v := 1) rfl (by decide) rfl ?_
                      refine ev_addC f_X9_step (nx := 158) (c := 1) (l := 1) (u := 900) rfl (by decide) l2 u8 rfl rfl (by decide) (by decide) rfl (fun z67 e67 l67 u67 => ?_)
                      refine ev_putIT f_X9_step (nx := 161) rfl p_a0.1 rfl rfl rfl (hI.putB p_a0.1 rfl rfl l67 (by decide) u67 (by decide)) (hX.upI (t_inO hI.wf p_a0.1 (t_outO hI.wf p_a0.1 rfl) rfl)) (fun g68 e68 hI hX => ?_)
                      exact ev_ret f_X9_step rfl rfl rfl ⟨_, _, _, rfl, hI, hX, rfl⟩
            · have u69 : w11.toInt ≤ 57 := t_leu (t_nlt h35) (by decide : (57:Int32).toInt ≤ (57:Int))
              refine ev_loc f_X9_step (nx := 124) rfl rfl rfl rfl ?_
              refine ev_c0 f_X9_step (nx := 127) (r := []) rfl rfl rfl rfl rfl rfl rfl (c_stepNumber hI (ar0) p_a0) rfl hX rfl (fun gi70 gl70 gr70 hI hX hC70 => ?_)
              replace p_a0 := p_a0.ext hC70.2
              refine ev_jmp f_X9_step (nx := 161) rfl rfl rfl ?_
              exact ev_ret f_X9_step rfl rfl rfl ⟨_, _, _, rfl, hI, hX, rfl⟩
        · have l71 : 97 ≤ w11.toInt := t_lel (t_nlt h12) (by decide : (97:Int) ≤ (97:Int32).toInt)
          refine ev_loc f_X9_step (nx := 99) rfl rfl rfl rfl ?_
          refine ev_bp f_X9_step (nx := 101) (v := 122) rfl (by decide) rfl ?_
          refine ev_if f_X9_step (t1 := 111) (t2 := 104) rfl rfl rfl (fun h72 => ?_) (fun h72 => ?_)
          · have l73 : 123 ≤ w11.toInt := t_ltl h72 (by decide : (122:Int) ≤ (122:Int32).toInt) rfl
            refine ev_loc f_X9_step (nx := 112) rfl rfl rfl rfl ?_
            refine ev_bp f_X9_step (nx := 114) (v := 48) rfl (by decide) rfl ?_
            refine ev_f f_X9_step (t1 := 130) (t2 := 117) rfl rfl rfl (t_ltF (by decide : (48:Int32).toInt ≤ (48:Int)) l73 (by decide)) ?_
            refine ev_loc f_X9_step (nx := 118) rfl rfl rfl rfl ?_
            refine ev_bp f_X9_step (nx := 120) (v := 57) rfl (by decide) rfl ?_
            refine ev_t f_X9_step (t1 := 130) (t2 := 123) rfl rfl rfl (t_ltT (by decide : (57:Int32).toInt ≤ (57:Int)) l73 (by decide)) ?_
            refine ev_loc f_X9_step (nx := 131) rfl rfl rfl rfl ?_
            refine ev_loc f_X9_step (nx := 132) rfl rfl rfl rfl ?_
            refine ev_inS1 f_X9_step (nx := 135) (lo2 := [(0, .int w11)]) rfl rfl rfl rfl f_X9_isSign rfl rfl rfl rfl ?_
            refine ev_loc f_X9_isSign (nx := 1) rfl rfl rfl rfl ?_
            refine ev_bp f_X9_isSign (nx := 3) (v := 59) rfl (by decide) rfl ?_
            refine ev_f f_X9_isSign (t1 := 36) (t2 := 6) rfl rfl rfl (t_neT' (by decide : (59:Int32).toInt ≤ (59:Int)) l73 (by decide)) ?_
            refine ev_loc f_X9_isSign (nx := 7) rfl rfl rfl rfl ?_
            refine ev_bp f_X9_isSign (nx := 9) (v := 60) rfl (by decide) rfl ?_
            refine ev_f f_X9_isSign (t1 := 36) (t2 := 12) rfl rfl rfl (t_neT' (by decide : (60:Int32).toInt ≤ (60:Int)) l73 (by decide)) ?_
            refine ev_loc f_X9_isSign (nx := 13) rfl rfl rfl rfl ?_
            refine ev_bp f_X9_isSign (nx := 15) (v := 62) rfl (by decide) rfl ?_
            refine ev_f f_X9_isSign (t1 := 36) (t2 := 18) rfl rfl rfl (t_neT' (by decide : (62:Int32).toInt ≤ (62:Int)) l73 (by decide)) ?_
            refine ev_loc f_X9_isSign (nx := 19) rfl rfl rfl rfl ?_
            refine ev_bp f_X9_isSign (nx := 21) (v := 61) rfl (by decide) rfl ?_
            refine ev_f f_X9_isSign (t1 := 36) (t2 := 24) rfl rfl rfl (t_neT' (by decide : (61:Int32).toInt ≤ (61:Int)) l73 (by decide)) ?_
            refine ev_loc f_X9_isSign (nx := 25) rfl rfl rfl rfl ?_
            refine ev_bp f_X9_isSign (nx := 27) (v := 40) rfl (by decide) rfl ?_
            refine ev_f f_X9_isSign (t1 := 36) (t2 := 30) rfl rfl rfl (t_neT' (by decide : (40:Int32).toInt ≤ (40:Int)) l73 (by decide)) ?_
            refine ev_loc f_X9_isSign (nx := 31) rfl rfl rfl rfl ?_
            refine ev_bp f_X9_isSign (nx := 33) (v := 41) rfl (by decide) rfl ?_
            refine ev_f f_X9_isSign (t1 := 36) (t2 := 40) rfl rfl rfl (t_neT' (by decide : (41:Int32).toInt ≤ (41:Int)) l73 (by decide)) ?_
            refine ev_ic f_X9_isSign (nx := 41) (v := 0) rfl (by decide) rfl ?_
            refine ev_retK1 f_X9_isSign rfl rfl rfl ?_
            refine ev_t f_X9_step (t1 := 142) (t2 := 138) rfl rfl rfl (by decide) ?_
            refine ev_ic f_X9_step (nx := 143) (v := 4) rfl (by decide) rfl ?_
            refine ev_putIT f_X9_step (nx := 146) rfl p_a0.1 rfl rfl rfl (hI.put0 p_a0.1 rfl rfl) (hX.upI (t_inO hI.wf p_a0.1 (t_outO hI.wf p_a0.1 rfl) rfl)) (fun g74 e74 hI hX => ?_)
            refine ev_loc f_X9_step (nx := 147) rfl rfl rfl rfl ?_
            refine ev_loc f_X9_step (nx := 148) rfl rfl rfl rfl ?_
            refine ev_putIT f_X9_step (nx := 151) rfl p_a0.1 rfl rfl rfl (hI.put0 p_a0.1 rfl rfl) (hX.upI (t_inO hI.wf p_a0.1 (t_outO hI.wf p_a0.1 rfl) rfl)) (fun g75 e75 hI hX => ?_)
            refine ev_loc f_X9_step (nx := 152) rfl rfl rfl rfl ?_
            refine ev_alu f_X9_step (nx := 153) rfl rfl rfl rfl ?_
            refine ev_gvI f_X9_step (nx := 156) (w := (gi1 ar0 2)) rfl p_a0.1 rfl rfl ((by rw [e75]; exact x_up2_off (Or.inr (by decide)) : g75 ar0 2 = g74 ar0 2).trans ((by rw [e74]; exact x_up2_off (Or.inr (by decide)) : g74 ar0 2 = g5 ar0 2).trans ((by rw [e5]; exact x_up2_off (Or.inr (by decide)) : g5 ar0 2 = gi1 ar0 2).trans rfl))) rfl ?_
            refine ev_ic f_X9_step (nx := 157) (v := 1) rfl (by decide) rfl ?_
            refine ev_addC f_X9_step (nx := 158) (c := 1) (l := 1) (u := 900) rfl (by decide) l2 u8 rfl rfl (by decide) (by decide) rfl (fun z76 e76 l76 u76 => ?_)
            refine ev_putIT f_X9_step (nx := 161) rfl p_a0.1 rfl rfl rfl (hI.putB p_a0.1 rfl rfl l76 (by decide) u76 (by decide)) (hX.upI (t_inO hI.wf p_a0.1 (t_outO hI.wf p_a0.1 rfl) rfl)) (fun g77 e77 hI hX => ?_)
            exact ev_ret f_X9_step rfl rfl rfl ⟨_, _, _, rfl, hI, hX, rfl⟩
          · have u78 : w11.toInt ≤ 122 := t_leu (t_nlt h72) (by decide : (122:Int32).toInt ≤ (122:Int))
            refine ev_loc f_X9_step (nx := 105) rfl rfl rfl rfl ?_
            refine ev_c0 f_X9_step (nx := 108) (r := []) rfl rfl rfl rfl rfl rfl rfl (c_stepWord hI (ar0) p_a0) rfl hX rfl (fun gi79 gl79 gr79 hI hX hC79 => ?_)
            replace p_a0 := p_a0.ext hC79.2
            refine ev_jmp f_X9_step (nx := 161) rfl rfl rfl ?_
            exact ev_ret f_X9_step rfl rfl rfl ⟨_, _, _, rfl, hI, hX, rfl⟩
      · refine ev_loc f_X9_step (nx := 77) rfl rfl rfl rfl ?_
        refine ev_ic f_X9_step (nx := 78) (v := 3) rfl (by decide) rfl ?_
        refine ev_putIT f_X9_step (nx := 81) rfl p_a0.1 rfl rfl rfl (hI.put0 p_a0.1 rfl rfl) (hX.upI (t_inO hI.wf p_a0.1 (t_outO hI.wf p_a0.1 rfl) rfl)) (fun g80 e80 hI hX => ?_)
        exact ev_ret f_X9_step rfl rfl rfl ⟨_, _, _, rfl, hI, hX, rfl⟩
    · have u81 : (gi1 ar0 2).toInt ≤ 899 := t_ltu (t_nle h4) u3 rfl
      have l82 : 1 ≤ (gi1 ar0 1).toInt := t_ltl (t_nle h4) l2 rfl
      refine ev_loc f_X9_step (nx := 12) rfl rfl rfl rfl ?_
      have e83 := p_a0.2
      refine ev_getR f_X9_step (nx := 15) rfl p_a0.1 rfl rfl e83 rfl rfl ?_
      refine ev_loc f_X9_step (nx := 16) rfl rfl rfl rfl ?_
      refine ev_gvI f_X9_step (nx := 19) (w := (gi1 ar0 2)) rfl p_a0.1 rfl rfl rfl rfl ?_
      refine ev_baldT f_X9_step (nx := 20) rfl (hI.wf.s rfl) rfl l2 (by decide) u81 (by decide) rfl (fun w84 e84 => ?_)
      refine ev_bp f_X9_step (nx := 22) (v := 32) rfl (by decide) rfl ?_
      refine ev_if f_X9_step (t1 := 39) (t2 := 25) rfl rfl rfl (fun h85 => ?_) (fun h85 => ?_)
      · have u86 : w84.toInt ≤ 32 := t_equ h85 (by decide : (32:Int32).toInt ≤ (32:Int))
        have l87 : 32 ≤ w84.toInt := t_eql h85 (by decide : (32:Int) ≤ (32:Int32).toInt)
        refine ev_loc f_X9_step (nx := 40) rfl rfl rfl rfl ?_
        refine ev_alu f_X9_step (nx := 41) rfl rfl rfl rfl ?_
        refine ev_gvI f_X9_step (nx := 44) (w := (gi1 ar0 2)) rfl p_a0.1 rfl rfl rfl rfl ?_
        refine ev_ic f_X9_step (nx := 45) (v := 1) rfl (by decide) rfl ?_
        refine ev_addC f_X9_step (nx := 46) (c := 1) (l := 1) (u := 900) rfl (by decide) l2 u81 rfl rfl (by decide) (by decide) rfl (fun z88 e88 l88 u88 => ?_)
        refine ev_putIT f_X9_step (nx := 49) rfl p_a0.1 rfl rfl rfl (hI.putB p_a0.1 rfl rfl l88 (by decide) u88 (by decide)) (hX.upI (t_inO hI.wf p_a0.1 (t_outO hI.wf p_a0.1 rfl) rfl)) (fun g89 e89 hI hX => ?_)
        refine ev_jmp f_X9_step (nx := 0) rfl rfl rfl ?_
        refine ev_sub (lo := [(0, .ref ar0)]) rfl (t_sc rfl t_sn) ?_
        have hq1 := ((by rw [e89]; exact x_up2_at _ _ _ _ : g89 ar0 2 = z88) : g89 ar0 2 = z88)
        exact ih1 _ (by rw [hq1]; omega) g89 gl1 gr1  hI hX p_a0 rfl
      · refine ev_loc f_X9_step (nx := 26) rfl rfl rfl rfl ?_
        refine ev_getR f_X9_step (nx := 29) (v := .ref 2) rfl p_a0.1 rfl rfl e83 rfl rfl ?_
        refine ev_loc f_X9_step (nx := 30) rfl rfl rfl rfl ?_
        refine ev_gvI f_X9_step (nx := 33) (w := (gi1 ar0 2)) rfl p_a0.1 rfl rfl rfl rfl ?_
        refine ev_baldT f_X9_step (nx := 34) rfl (hI.wf.s rfl) rfl l2 (by decide) u81 (by decide) rfl (fun w90 e90 => ?_)
        refine ev_bp f_X9_step (nx := 36) (v := 10) rfl (by decide) rfl ?_
        refine ev_if f_X9_step (t1 := 39) (t2 := 52) rfl rfl rfl (fun h91 => ?_) (fun h91 => ?_)
        · have u92 : w90.toInt ≤ 10 := t_equ h91 (by decide : (10:Int32).toInt ≤ (10:Int))
          have l93 : 10 ≤ w90.toInt := t_eql h91 (by decide : (10:Int) ≤ (10:Int32).toInt)
          refine ev_loc f_X9_step (nx := 40) rfl rfl rfl rfl ?_
          refine ev_alu f_X9_step (nx := 41) rfl rfl rfl rfl ?_
          refine ev_gvI f_X9_step (nx := 44) (w := (gi1 ar0 2)) rfl p_a0.1 rfl rfl rfl rfl ?_
          refine ev_ic f_X9_step (nx := 45) (v := 1) rfl (by decide) rfl ?_
          refine ev_addC f_X9_step (nx := 46) (c := 1) (l := 1) (u := 900) rfl (by decide) l2 u81 rfl rfl (by decide) (by decide) rfl (fun z94 e94 l94 u94 => ?_)
          refine ev_putIT f_X9_step (nx := 49) rfl p_a0.1 rfl rfl rfl (hI.putB p_a0.1 rfl rfl l94 (by decide) u94 (by decide)) (hX.upI (t_inO hI.wf p_a0.1 (t_outO hI.wf p_a0.1 rfl) rfl)) (fun g95 e95 hI hX => ?_)
          refine ev_jmp f_X9_step (nx := 0) rfl rfl rfl ?_
          refine ev_sub (lo := [(0, .ref ar0)]) rfl (t_sc rfl t_sn) ?_
          have hq1 := ((by rw [e95]; exact x_up2_at _ _ _ _ : g95 ar0 2 = z94) : g95 ar0 2 = z94)
          exact ih1 _ (by rw [hq1]; omega) g95 gl1 gr1  hI hX p_a0 rfl
        · refine ev_loc f_X9_step (nx := 53) rfl rfl rfl rfl ?_
          refine ev_loc f_X9_step (nx := 54) rfl rfl rfl rfl ?_
          refine ev_gvI f_X9_step (nx := 57) (w := (gi1 ar0 2)) rfl p_a0.1 rfl rfl rfl rfl ?_
          refine ev_putIT f_X9_step (nx := 60) rfl p_a0.1 rfl rfl rfl (hI.putB p_a0.1 rfl rfl l2 (by decide) u81 (by decide)) (hX.upI (t_inO hI.wf p_a0.1 (t_outO hI.wf p_a0.1 rfl) rfl)) (fun g96 e96 hI hX => ?_)
          refine ev_loc f_X9_step (nx := 61) rfl rfl rfl rfl ?_
          refine ev_alu f_X9_step (nx := 62) rfl rfl rfl rfl ?_
          have hE97 := t_eqf_up (gr := gr1) (j := 7) (v := .null) p_a0.1 rfl
          have hT97 := t_keyw hI (v := .null) p_a0.1 (Or.inl rfl)
          replace p_a0 := p_a0.ext hE97
          refine ev_putRT f_X9_step (nx := 65) rfl p_a0.1 rfl rfl rfl rfl hT97 (hX.upR (t_inO hI.wf p_a0.1 (t_outO hI.wf p_a0.1 rfl) rfl) hE97) (fun g97 e97 hI hX => ?_)
          rw [← e97] at p_a0
          refine ev_loc f_X9_step (nx := 66) rfl rfl rfl rfl ?_
          refine ev_gvI f_X9_step (nx := 69) (w := (gi1 ar0 2)) rfl p_a0.1 rfl rfl ((by rw [e96]; exact x_up2_off (Or.inr (by decide)) : g96 ar0 2 = gi1 ar0 2).trans rfl) rfl ?_
          refine ev_loc f_X9_step (nx := 70) rfl rfl rfl rfl ?_
          refine ev_gvI f_X9_step (nx := 73) (w := (gi1 ar0 1)) rfl p_a0.1 rfl rfl ((by rw [e96]; exact x_up2_off (Or.inr (by decide)) : g96 ar0 1 = gi1 ar0 1).trans rfl) rfl ?_
          refine ev_if f_X9_step (t1 := 82) (t2 := 76) rfl rfl rfl (fun h98 => ?_) (fun h98 => ?_)
          · refine ev_loc f_X9_step (nx := 83) rfl rfl rfl rfl ?_
            refine ev_getR f_X9_step (nx := 86) (v := .ref 2) rfl p_a0.1 rfl rfl ((by rw [e97]; exact x_up2_off (Or.inr (by decide)) : g97 ar0 0 = gr1 ar0 0).trans e83) rfl rfl ?_
            refine ev_loc f_X9_step (nx := 87) rfl rfl rfl rfl ?_
            refine ev_gvI f_X9_step (nx := 90) (w := (gi1 ar0 2)) rfl p_a0.1 rfl rfl ((by rw [e96]; exact x_up2_off (Or.inr (by decide)) : g96 ar0 2 = gi1 ar0 2).trans rfl) rfl ?_
            refine ev_baldT f_X9_step (nx := 91) rfl (hI.wf.s rfl) rfl l2 (by decide) u81 (by decide) rfl (fun w99 e99 => ?_)
            refine ev_loc f_X9_step (nx := 92) (lo' := [(1, .int w99), (0, .ref ar0)]) rfl rfl rfl rfl ?_
            refine ev_loc f_X9_step (nx := 93) rfl rfl rfl rfl ?_
            refine ev_bp f_X9_step (nx := 95) (v := 97) rfl (by decide) rfl ?_
            refine ev_if f_X9_step (t1 := 111) (t2 := 98) rfl rfl rfl (fun h100 => ?_) (fun h100 => ?_)
            · have u101 : w99.toInt ≤ 96 := t_ltu h100 (by decide : (97:Int32).toInt ≤ (97:Int)) rfl
              refine ev_loc f_X9_step (nx := 112) rfl rfl rfl rfl ?_
              refine ev_bp f_X9_step (nx := 114) (v := 48) rfl (by decide) rfl ?_
              refine ev_if f_X9_step (t1 := 130) (t2 := 117) rfl rfl rfl (fun h102 => ?_) (fun h102 => ?_)
              · have u103 : w99.toInt ≤ 47 := t_ltu h102 (by decide : (48:Int32).toInt ≤ (48:Int)) rfl
                refine ev_loc f_X9_step (nx := 131) rfl rfl rfl rfl ?_
                refine ev_loc f_X9_step (nx := 132) rfl rfl rfl rfl ?_
                refine ev_inS1 f_X9_step (nx := 135) (lo2 := [(0, .int w99)]) rfl rfl rfl rfl f_X9_isSign rfl rfl rfl rfl ?_
                refine ev_loc f_X9_isSign (nx := 1) rfl rfl rfl rfl ?_
                refine ev_bp f_X9_isSign (nx := 3) (v := 59) rfl (by decide) rfl ?_
                refine ev_f f_X9_isSign (t1 := 36) (t2 := 6) rfl rfl rfl (t_neT u103 (by decide : (59:Int) ≤ (59:Int32).toInt) (by decide)) ?_
                refine ev_loc f_X9_isSign (nx := 7) rfl rfl rfl rfl ?_
                refine ev_bp f_X9_isSign (nx := 9) (v := 60) rfl (by decide) rfl ?_
                refine ev_f f_X9_isSign (t1 := 36) (t2 := 12) rfl rfl rfl (t_neT u103 (by decide : (60:Int) ≤ (60:Int32).toInt) (by decide)) ?_
                refine ev_loc f_X9_isSign (nx := 13) rfl rfl rfl rfl ?_
                refine ev_bp f_X9_isSign (nx := 15) (v := 62) rfl (by decide) rfl ?_
                refine ev_f f_X9_isSign (t1 := 36) (t2 := 18) rfl rfl rfl (t_neT u103 (by decide : (62:Int) ≤ (62:Int32).toInt) (by decide)) ?_
                refine ev_loc f_X9_isSign (nx := 19) rfl rfl rfl rfl ?_
                refine ev_bp f_X9_isSign (nx := 21) (v := 61) rfl (by decide) rfl ?_
                refine ev_f f_X9_isSign (t1 := 36) (t2 := 24) rfl rfl rfl (t_neT u103 (by decide : (61:Int) ≤ (61:Int32).toInt) (by decide)) ?_
                refine ev_loc f_X9_isSign (nx := 25) rfl rfl rfl rfl ?_
                refine ev_bp f_X9_isSign (nx := 27) (v := 40) rfl (by decide) rfl ?_
                refine ev_if f_X9_isSign (t1 := 36) (t2 := 30) rfl rfl rfl (fun h104 => ?_) (fun h104 => ?_)
                · have u105 : w99.toInt ≤ 40 := t_equ h104 (by decide : (40:Int32).toInt ≤ (40:Int))
                  have l106 : 40 ≤ w99.toInt := t_eql h104 (by decide : (40:Int) ≤ (40:Int32).toInt)
                  refine ev_ic f_X9_isSign (nx := 37) (v := 1) rfl (by decide) rfl ?_
                  refine ev_jmp f_X9_isSign (nx := 41) rfl rfl rfl ?_
                  refine ev_retK1 f_X9_isSign rfl rfl rfl ?_
                  refine ev_f f_X9_step (t1 := 142) (t2 := 138) rfl rfl rfl (by decide) ?_
                  refine ev_ic f_X9_step (nx := 139) (v := 2) rfl (by decide) rfl ?_
                  refine ev_jmp f_X9_step (nx := 143) rfl rfl rfl ?_
                  refine ev_putIT f_X9_step (nx := 146) rfl p_a0.1 rfl rfl rfl (hI.put0 p_a0.1 rfl rfl) (hX.upI (t_inO hI.wf p_a0.1 (t_outO hI.wf p_a0.1 rfl) rfl)) (fun g107 e107 hI hX => ?_)
                  refine ev_loc f_X9_step (nx := 147) rfl rfl rfl rfl ?_
                  refine ev_loc f_X9_step (nx := 148) rfl rfl rfl rfl ?_
                  refine ev_putIT f_X9_step (nx := 151) rfl p_a0.1 rfl rfl rfl (hI.put0 p_a0.1 rfl rfl) (hX.upI (t_inO hI.wf p_a0.1 (t_outO hI.wf p_a0.1 rfl) rfl)) (fun g108 e108 hI hX => ?_)
                  refine ev_loc f_X9_step (nx := 152) rfl rfl rfl rfl ?_
                  refine ev_alu f_X9_step (nx := 153) rfl rfl rfl rfl ?_
                  refine ev_gvI f_X9_step (nx := 156) (w := (gi1 ar0 2)) rfl p_a0.1 rfl rfl ((by rw [e108]; exact x_up2_off (Or.inr (by decide)) : g108 ar0 2 = g107 ar0 2).trans ((by rw [e107]; exact x_up2_off (Or.inr (by decide)) : g107 ar0 2 = g96 ar0 2).trans ((by rw [e96]; exact x_up2_off (Or.inr (by decide)) : g96 ar0 2 = gi1 ar0 2).trans rfl))) rfl ?_
                  refine ev_ic f_X9_step (nx := 157) (v := 1) rfl (by decide) rfl ?_
                  refine ev_addC f_X9_step (nx := 158) (c := 1) (l := 1) (u := 900) rfl (by decide) l2 u81 rfl rfl (by decide) (by decide) rfl (fun z109 e109 l109 u109 => ?_)
                  refine ev_putIT f_X9_step (nx := 161) rfl p_a0.1 rfl rfl rfl (hI.putB p_a0.1 rfl rfl l109 (by decide) u109 (by decide)) (hX.upI (t_inO hI.wf p_a0.1 (t_outO hI.wf p_a0.1 rfl) rfl)) (fun g110 e110 hI hX => ?_)
                  exact ev_ret f_X9_step rfl rfl rfl ⟨_, _, _, rfl, hI, hX, rfl⟩
                · refine ev_loc f_X9_isSign (nx := 31) rfl rfl rfl rfl ?_
                  refine ev_bp f_X9_isSign (nx := 33) (v := 41) rfl (by decide) rfl ?_
                  refine ev_if f_X9_isSign (t1 := 36) (t2 := 40) rfl rfl rfl (fun h111 => ?_) (fun h111 => ?_)
                  · have u112 : w99.toInt ≤ 41 := t_equ h111 (by decide : (41:Int32).toInt ≤ (41:Int))
                    have l113 : 41 ≤ w99.toInt := t_eql h111 (by decide : (41:Int) ≤ (41:Int32).toInt)
                    refine ev_ic f_X9_isSign (nx := 37) (v := 1) rfl (by decide) rfl ?_
                    refine ev_jmp f_X9_isSign (nx := 41) rfl rfl rfl ?_
                    refine ev_retK1 f_X9_isSign rfl rfl rfl ?_
                    refine ev_f f_X9_step (t1 := 142) (t2 := 138) rfl rfl rfl (by decide) ?_
                    refine ev_ic f_X9_step (nx := 139) (v := 2) rfl (by decide) rfl ?_
                    refine ev_jmp f_X9_step (nx := 143) rfl rfl rfl ?_
                    refine ev_putIT f_X9_step (nx := 146) rfl p_a0.1 rfl rfl rfl (hI.put0 p_a0.1 rfl rfl) (hX.upI (t_inO hI.wf p_a0.1 (t_outO hI.wf p_a0.1 rfl) rfl)) (fun g114 e114 hI hX => ?_)
                    refine ev_loc f_X9_step (nx := 147) rfl rfl rfl rfl ?_
                    refine ev_loc f_X9_step (nx := 148) rfl rfl rfl rfl ?_
                    refine ev_putIT f_X9_step (nx := 151) rfl p_a0.1 rfl rfl rfl (hI.put0 p_a0.1 rfl rfl) (hX.upI (t_inO hI.wf p_a0.1 (t_outO hI.wf p_a0.1 rfl) rfl)) (fun g115 e115 hI hX => ?_)
                    refine ev_loc f_X9_step (nx := 152) rfl rfl rfl rfl ?_
                    refine ev_alu f_X9_step (nx := 153) rfl rfl rfl rfl ?_
                    refine ev_gvI f_X9_step (nx := 156) (w := (gi1 ar0 2)) rfl p_a0.1 rfl rfl ((by rw [e115]; exact x_up2_off (Or.inr (by decide)) : g115 ar0 2 = g114 ar0 2).trans ((by rw [e114]; exact x_up2_off (Or.inr (by decide)) : g114 ar0 2 = g96 ar0 2).trans ((by rw [e96]; exact x_up2_off (Or.inr (by decide)) : g96 ar0 2 = gi1 ar0 2).trans rfl))) rfl ?_
                    refine ev_ic f_X9_step (nx := 157) (v := 1) rfl (by decide) rfl ?_
                    refine ev_addC f_X9_step (nx := 158) (c := 1) (l := 1) (u := 900) rfl (by decide) l2 u81 rfl rfl (by decide) (by decide) rfl (fun z116 e116 l116 u116 => ?_)
                    refine ev_putIT f_X9_step (nx := 161) rfl p_a0.1 rfl rfl rfl (hI.putB p_a0.1 rfl rfl l116 (by decide) u116 (by decide)) (hX.upI (t_inO hI.wf p_a0.1 (t_outO hI.wf p_a0.1 rfl) rfl)) (fun g117 e117 hI hX => ?_)
                    exact ev_ret f_X9_step rfl rfl rfl ⟨_, _, _, rfl, hI, hX, rfl⟩
                  · refine ev_ic f_X9_isSign (nx := 41) (v := 0) rfl (by decide) rfl ?_
                    refine ev_retK1 f_X9_isSign rfl rfl rfl ?_
                    refine ev_t f_X9_step (t1 := 142) (t2 := 138) rfl rfl rfl (by decide) ?_
                    refine ev_ic f_X9_step (nx := 143) (v := 4) rfl (by decide) rfl ?_
                    refine ev_putIT f_X9_step (nx := 146) rfl p_a0.1 rfl rfl rfl (hI.put0 p_a0.1 rfl rfl) (hX.upI (t_inO hI.wf p_a0.1 (t_outO hI.wf p_a0.1 rfl) rfl)) (fun g118 e118 hI hX => ?_)
                    refine ev_loc f_X9_step (nx := 147) rfl rfl rfl rfl ?_
                    refine ev_loc f_X9_step (nx := 148) rfl rfl rfl rfl ?_
                    refine ev_putIT f_X9_step (nx := 151) rfl p_a0.1 rfl rfl rfl (hI.put0 p_a0.1 rfl rfl) (hX.upI (t_inO hI.wf p_a0.1 (t_outO hI.wf p_a0.1 rfl) rfl)) (fun g119 e119 hI hX => ?_)
                    refine ev_loc f_X9_step (nx := 152) rfl rfl rfl rfl ?_
                    refine ev_alu f_X9_step (nx := 153) rfl rfl rfl rfl ?_
                    refine ev_gvI f_X9_step (nx := 156) (w := (gi1 ar0 2)) rfl p_a0.1 rfl rfl ((by rw [e119]; exact x_up2_off (Or.inr (by decide)) : g119 ar0 2 = g118 ar0 2).trans ((by rw [e118]; exact x_up2_off (Or.inr (by decide)) : g118 ar0 2 = g96 ar0 2).trans ((by rw [e96]; exact x_up2_off (Or.inr (by decide)) : g96 ar0 2 = gi1 ar0 2).trans rfl))) rfl ?_
                    refine ev_ic f_X9_step (nx := 157) (v := 1) rfl (by decide) rfl ?_
                    refine ev_addC f_X9_step (nx := 158) (c := 1) (l := 1) (u := 900) rfl (by decide) l2 u81 rfl rfl (by decide) (by decide) rfl (fun z120 e120 l120 u120 => ?_)
                    refine ev_putIT f_X9_step (nx := 161) rfl p_a0.1 rfl rfl rfl (hI.putB p_a0.1 rfl rfl l120 (by decide) u120 (by decide)) (hX.upI (t_inO hI.wf p_a0.1 (t_outO hI.wf p_a0.1 rfl) rfl)) (fun g121 e121 hI hX => ?_)
                    exact ev_ret f_X9_step rfl rfl rfl ⟨_, _, _, rfl, hI, hX, rfl⟩
              · have l122 : 48 ≤ w99.toInt := t_lel (t_nlt h102) (by decide : (48:Int) ≤ (48:Int32).toInt)
                refine ev_loc f_X9_step (nx := 118) rfl rfl rfl rfl ?_
                refine ev_bp f_X9_step (nx := 120) (v := 57) rfl (by decide) rfl ?_
                refine ev_if f_X9_step (t1 := 130) (t2 := 123) rfl rfl rfl (fun h123 => ?_) (fun h123 => ?_)
                · have l124 : 58 ≤ w99.toInt := t_ltl h123 (by decide : (57:Int) ≤ (57:Int32).toInt) rfl
                  refine ev_loc f_X9_step (nx := 131) rfl rfl rfl rfl ?_
                  refine ev_loc f_X9_step (nx := 132) rfl rfl rfl rfl ?_
                  refine ev_inS1 f_X9_step (nx := 135) (lo2 := [(0, .int w99)]) rfl rfl rfl rfl f_X9_isSign rfl rfl rfl rfl ?_
                  refine ev_loc f_X9_isSign (nx := 1) rfl rfl rfl rfl ?_
                  refine ev_bp f_X9_isSign (nx := 3) (v := 59) rfl (by decide) rfl ?_
                  refine ev_if f_X9_isSign (t1 := 36) (t2 := 6) rfl rfl rfl (fun h125 => ?_) (fun h125 => ?_)
                  · have u126 : w99.toInt ≤ 59 := t_equ h125 (by decide : (59:Int32).toInt ≤ (59:Int))
                    have l127 : 59 ≤ w99.toInt := t_eql h125 (by decide : (59:Int) ≤ (59:Int32).toInt)
                    refine ev_ic f_X9_isSign (nx := 37) (v := 1) rfl (by decide) rfl ?_
                    refine ev_jmp f_X9_isSign (nx := 41) rfl rfl rfl ?_
                    refine ev_retK1 f_X9_isSign rfl rfl rfl ?_
                    refine ev_f f_X9_step (t1 := 142) (t2 := 138) rfl rfl rfl (by decide) ?_
                    refine ev_ic f_X9_step (nx := 139) (v := 2) rfl (by decide) rfl ?_
                    refine ev_jmp f_X9_step (nx := 143) rfl rfl rfl ?_
                    refine ev_putIT f_X9_step (nx := 146) rfl p_a0.1 rfl rfl rfl (hI.put0 p_a0.1 rfl rfl) (hX.upI (t_inO hI.wf p_a0.1 (t_outO hI.wf p_a0.1 rfl) rfl)) (fun g128 e128 hI hX => ?_)
                    refine ev_loc f_X9_step (nx := 147) rfl rfl rfl rfl ?_
                    refine ev_loc f_X9_step (nx := 148) rfl rfl rfl rfl ?_
                    refine ev_putIT f_X9_step (nx := 151) rfl p_a0.1 rfl rfl rfl (hI.put0 p_a0.1 rfl rfl) (hX.upI (t_inO hI.wf p_a0.1 (t_outO hI.wf p_a0.1 rfl) rfl)) (fun g129 e129 hI hX => ?_)
                    refine ev_loc f_X9_step (nx := 152) rfl rfl rfl rfl ?_
                    refine ev_alu f_X9_step (nx := 153) rfl rfl rfl rfl ?_
                    refine ev_gvI f_X9_step (nx := 156) (w := (gi1 ar0 2)) rfl p_a0.1 rfl rfl ((by rw [e129]; exact x_up2_off (Or.inr (by decide)) : g129 ar0 2 = g128 ar0 2).trans ((by rw [e128]; exact x_up2_off (Or.inr (by decide)) : g128 ar0 2 = g96 ar0 2).trans ((by rw [e96]; exact x_up2_off (Or.inr (by decide)) : g96 ar0 2 = gi1 ar0 2).trans rfl))) rfl ?_
                    refine ev_ic f_X9_step (nx := 157) (v := 1) rfl (by decide) rfl ?_
                    refine ev_addC f_X9_step (nx := 158) (c := 1) (l := 1) (u := 900) rfl (by decide) l2 u81 rfl rfl (by decide) (by decide) rfl (fun z130 e130 l130 u130 => ?_)
                    refine ev_putIT f_X9_step (nx := 161) rfl p_a0.1 rfl rfl rfl (hI.putB p_a0.1 rfl rfl l130 (by decide) u130 (by decide)) (hX.upI (t_inO hI.wf p_a0.1 (t_outO hI.wf p_a0.1 rfl) rfl)) (fun g131 e131 hI hX => ?_)
                    exact ev_ret f_X9_step rfl rfl rfl ⟨_, _, _, rfl, hI, hX, rfl⟩
                  · refine ev_loc f_X9_isSign (nx := 7) rfl rfl rfl rfl ?_
                    refine ev_bp f_X9_isSign (nx := 9) (v := 60) rfl (by decide) rfl ?_
                    refine ev_if f_X9_isSign (t1 := 36) (t2 := 12) rfl rfl rfl (fun h132 => ?_) (fun h132 => ?_)
                    · have u133 : w99.toInt ≤ 60 := t_equ h132 (by decide : (60:Int32).toInt ≤ (60:Int))
                      have l134 : 60 ≤ w99.toInt := t_eql h132 (by decide : (60:Int) ≤ (60:Int32).toInt)
                      refine ev_ic f_X9_isSign (nx := 37) (v := 1) rfl (by decide) rfl ?_
                      refine ev_jmp f_X9_isSign (nx := 41) rfl rfl rfl ?_
                      refine ev_retK1 f_X9_isSign rfl rfl rfl ?_
                      refine ev_f f_X9_step (t1 := 142) (t2 := 138) rfl rfl rfl (by decide) ?_
                      refine ev_ic f_X9_step (nx := 139) (v := 2) rfl (by decide) rfl ?_
                      refine ev_jmp f_X9_step (nx := 143) rfl rfl rfl ?_
                      refine ev_putIT f_X9_step (nx := 146) rfl p_a0.1 rfl rfl rfl (hI.put0 p_a0.1 rfl rfl) (hX.upI (t_inO hI.wf p_a0.1 (t_outO hI.wf p_a0.1 rfl) rfl)) (fun g135 e135 hI hX => ?_)
                      refine ev_loc f_X9_step (nx := 147) rfl rfl rfl rfl ?_
                      refine ev_loc f_X9_step (nx := 148) rfl rfl rfl rfl ?_
                      refine ev_putIT f_X9_step (nx := 151) rfl p_a0.1 rfl rfl rfl (hI.put0 p_a0.1 rfl rfl) (hX.upI (t_inO hI.wf p_a0.1 (t_outO hI.wf p_a0.1 rfl) rfl)) (fun g136 e136 hI hX => ?_)
                      refine ev_loc f_X9_step (nx := 152) rfl rfl rfl rfl ?_
                      refine ev_alu f_X9_step (nx := 153) rfl rfl rfl rfl ?_
                      refine ev_gvI f_X9_step (nx := 156) (w := (gi1 ar0 2)) rfl p_a0.1 rfl rfl ((by rw [e136]; exact x_up2_off (Or.inr (by decide)) : g136 ar0 2 = g135 ar0 2).trans ((by rw [e135]; exact x_up2_off (Or.inr (by decide)) : g135 ar0 2 = g96 ar0 2).trans ((by rw [e96]; exact x_up2_off (Or.inr (by decide)) : g96 ar0 2 = gi1 ar0 2).trans rfl))) rfl ?_
                      refine ev_ic f_X9_step (nx := 157) (v := 1) rfl (by decide) rfl ?_
                      refine ev_addC f_X9_step (nx := 158) (c := 1) (l := 1) (u := 900) rfl (by decide) l2 u81 rfl rfl (by decide) (by decide) rfl (fun z137 e137 l137 u137 => ?_)
                      refine ev_putIT f_X9_step (nx := 161) rfl p_a0.1 rfl rfl rfl (hI.putB p_a0.1 rfl rfl l137 (by decide) u137 (by decide)) (hX.upI (t_inO hI.wf p_a0.1 (t_outO hI.wf p_a0.1 rfl) rfl)) (fun g138 e138 hI hX => ?_)
                      exact ev_ret f_X9_step rfl rfl rfl ⟨_, _, _, rfl, hI, hX, rfl⟩
                    · refine ev_loc f_X9_isSign (nx := 13) rfl rfl rfl rfl ?_
                      refine ev_bp f_X9_isSign (nx := 15) (v := 62) rfl (by decide) rfl ?_
                      refine ev_if f_X9_isSign (t1 := 36) (t2 := 18) rfl rfl rfl (fun h139 => ?_) (fun h139 => ?_)
                      · have u140 : w99.toInt ≤ 62 := t_equ h139 (by decide : (62:Int32).toInt ≤ (62:Int))
                        have l141 : 62 ≤ w99.toInt := t_eql h139 (by decide : (62:Int) ≤ (62:Int32).toInt)
                        refine ev_ic f_X9_isSign (nx := 37) (v := 1) rfl (by decide) rfl ?_
                        refine ev_jmp f_X9_isSign (nx := 41) rfl rfl rfl ?_
                        refine ev_retK1 f_X9_isSign rfl rfl rfl ?_
                        refine ev_f f_X9_step (t1 := 142) (t2 := 138) rfl rfl rfl (by decide) ?_
                        refine ev_ic f_X9_step (nx := 139) (v := 2) rfl (by decide) rfl ?_
                        refine ev_jmp f_X9_step (nx := 143) rfl rfl rfl ?_
                        refine ev_putIT f_X9_step (nx := 146) rfl p_a0.1 rfl rfl rfl (hI.put0 p_a0.1 rfl rfl) (hX.upI (t_inO hI.wf p_a0.1 (t_outO hI.wf p_a0.1 rfl) rfl)) (fun g142 e142 hI hX => ?_)
                        refine ev_loc f_X9_step (nx := 147) rfl rfl rfl rfl ?_
                        refine ev_loc f_X9_step (nx := 148) rfl rfl rfl rfl ?_
                        refine ev_putIT f_X9_step (nx := 151) rfl p_a0.1 rfl rfl rfl (hI.put0 p_a0.1 rfl rfl) (hX.upI (t_inO hI.wf p_a0.1 (t_outO hI.wf p_a0.1 rfl) rfl)) (fun g143 e143 hI hX => ?_)
                        refine ev_loc f_X9_step (nx := 152) rfl rfl rfl rfl ?_
                        refine ev_alu f_X9_step (nx := 153) rfl rfl rfl rfl ?_
                        refine ev_gvI f_X9_step (nx := 156) (w := (gi1 ar0 2)) rfl p_a0.1 rfl rfl ((by rw [e143]; exact x_up2_off (Or.inr (by decide)) : g143 ar0 2 = g142 ar0 2).trans ((by rw [e142]; exact x_up2_off (Or.inr (by decide)) : g142 ar0 2 = g96 ar0 2).trans ((by rw [e96]; exact x_up2_off (Or.inr (by decide)) : g96 ar0 2 = gi1 ar0 2).trans rfl))) rfl ?_
                        refine ev_ic f_X9_step (nx := 157) (v := 1) rfl (by decide) rfl ?_
                        refine ev_addC f_X9_step (nx := 158) (c := 1) (l := 1) (u := 900) rfl (by decide) l2 u81 rfl rfl (by decide) (by decide) rfl (fun z144 e144 l144 u144 => ?_)
                        refine ev_putIT f_X9_step (nx := 161) rfl p_a0.1 rfl rfl rfl (hI.putB p_a0.1 rfl rfl l144 (by decide) u144 (by decide)) (hX.upI (t_inO hI.wf p_a0.1 (t_outO hI.wf p_a0.1 rfl) rfl)) (fun g145 e145 hI hX => ?_)
                        exact ev_ret f_X9_step rfl rfl rfl ⟨_, _, _, rfl, hI, hX, rfl⟩
                      · refine ev_loc f_X9_isSign (nx := 19) rfl rfl rfl rfl ?_
                        refine ev_bp f_X9_isSign (nx := 21) (v := 61) rfl (by decide) rfl ?_
                        refine ev_if f_X9_isSign (t1 := 36) (t2 := 24) rfl rfl rfl (fun h146 => ?_) (fun h146 => ?_)
                        · have u147 : w99.toInt ≤ 61 := t_equ h146 (by decide : (61:Int32).toInt ≤ (61:Int))
                          have l148 : 61 ≤ w99.toInt := t_eql h146 (by decide : (61:Int) ≤ (61:Int32).toInt)
                          refine ev_ic f_X9_isSign (nx := 37) (v := 1) rfl (by decide) rfl ?_
                          refine ev_jmp f_X9_isSign (nx := 41) rfl rfl rfl ?_
                          refine ev_retK1 f_X9_isSign rfl rfl rfl ?_
                          refine ev_f f_X9_step (t1 := 142) (t2 := 138) rfl rfl rfl (by decide) ?_
                          refine ev_ic f_X9_step (nx := 139) (v := 2) rfl (by decide) rfl ?_
                          refine ev_jmp f_X9_step (nx := 143) rfl rfl rfl ?_
                          refine ev_putIT f_X9_step (nx := 146) rfl p_a0.1 rfl rfl rfl (hI.put0 p_a0.1 rfl rfl) (hX.upI (t_inO hI.wf p_a0.1 (t_outO hI.wf p_a0.1 rfl) rfl)) (fun g149 e149 hI hX => ?_)
                          refine ev_loc f_X9_step (nx := 147) rfl rfl rfl rfl ?_
                          refine ev_loc f_X9_step (nx := 148) rfl rfl rfl rfl ?_
                          refine ev_putIT f_X9_step (nx := 151) rfl p_a0.1 rfl rfl rfl (hI.put0 p_a0.1 rfl rfl) (hX.upI (t_inO hI.wf p_a0.1 (t_outO hI.wf p_a0.1 rfl) rfl)) (fun g150 e150 hI hX => ?_)
                          refine ev_loc f_X9_step (nx := 152) rfl rfl rfl rfl ?_
                          refine ev_alu f_X9_step (nx := 153) rfl rfl rfl rfl ?_
                          refine ev_gvI f_X9_step (nx := 156) (w := (gi1 ar0 2)) rfl p_a0.1 rfl rfl ((by rw [e150]; exact x_up2_off (Or.inr (by decide)) : g150 ar0 2 = g149 ar0 2).trans ((by rw [e149]; exact x_up2_off (Or.inr (by decide)) : g149 ar0 2 = g96 ar0 2).trans ((by rw [e96]; exact x_up2_off (Or.inr (by decide)) : g96 ar0 2 = gi1 ar0 2).trans rfl))) rfl ?_
                          refine ev_ic f_X9_step (nx := 157) (v := 1) rfl (by decide) rfl ?_
                          refine ev_addC f_X9_step (nx := 158) (c := 1) (l := 1) (u := 900) rfl (by decide) l2 u81 rfl rfl (by decide) (by decide) rfl (fun z151 e151 l151 u151 => ?_)
                          refine ev_putIT f_X9_step (nx := 161) rfl p_a0.1 rfl rfl rfl (hI.putB p_a0.1 rfl rfl l151 (by decide) u151 (by decide)) (hX.upI (t_inO hI.wf p_a0.1 (t_outO hI.wf p_a0.1 rfl) rfl)) (fun g152 e152 hI hX => ?_)
                          exact ev_ret f_X9_step rfl rfl rfl ⟨_, _, _, rfl, hI, hX, rfl⟩
                        · refine ev_loc f_X9_isSign (nx := 25) rfl rfl rfl rfl ?_
                          refine ev_bp f_X9_isSign (nx := 27) (v := 40) rfl (by decide) rfl ?_
                          refine ev_f f_X9_isSign (t1 := 36) (t2 := 30) rfl rfl rfl (t_neT' (by decide : (40:Int32).toInt ≤ (40:Int)) l124 (by decide)) ?_
                          refine ev_loc f_X9_isSign (nx := 31) rfl rfl rfl rfl ?_
                          refine ev_bp f_X9_isSign (nx := 33) (v := 41) rfl (by decide) rfl ?_
                          refine ev_f f_X9_isSign (t1 := 36) (t2 := 40) rfl rfl rfl (t_neT' (by decide : (41:Int32).toInt ≤ (41:Int)) l124 (by decide)) ?_
                          refine ev_ic f_X9_isSign (nx := 41) (v := 0) rfl (by decide) rfl ?_
                          refine ev_retK1 f_X9_isSign rfl rfl rfl ?_
                          refine ev_t f_X9_step (t1 := 142) (t2 := 138) rfl rfl rfl (by decide) ?_
                          refine ev_ic f_X9_step (nx := 143) (v := 4) rfl (by decide) rfl ?_
                          refine ev_putIT f_X9_step (nx := 146) rfl p_a0.1 rfl rfl rfl (hI.put0 p_a0.1 rfl rfl) (hX.upI (t_inO hI.wf p_a0.1 (t_outO hI.wf p_a0.1 rfl) rfl)) (fun g153 e153 hI hX => ?_)
                          refine ev_loc f_X9_step (nx := 147) rfl rfl rfl rfl ?_
                          refine ev_loc f_X9_step (nx := 148) rfl rfl rfl rfl ?_
                          refine ev_putIT f_X9_step (nx := 151) rfl p_a0.1 rfl rfl rfl (hI.put0 p_a0.1 rfl rfl) (hX.upI (t_inO hI.wf p_a0.1 (t_outO hI.wf p_a0.1 rfl) rfl)) (fun g154 e154 hI hX => ?_)
                          refine ev_loc f_X9_step (nx := 152) rfl rfl rfl rfl ?_
                          refine ev_alu f_X9_step (nx := 153) rfl rfl rfl rfl ?_
                          refine ev_gvI f_X9_step (nx := 156) (w := (gi1 ar0 2)) rfl p_a0.1 rfl rfl ((by rw [e154]; exact x_up2_off (Or.inr (by decide)) : g154 ar0 2 = g153 ar0 2).trans ((by rw [e153]; exact x_up2_off (Or.inr (by decide)) : g153 ar0 2 = g96 ar0 2).trans ((by rw [e96]; exact x_up2_off (Or.inr (by decide)) : g96 ar0 2 = gi1 ar0 2).trans rfl))) rfl ?_
                          refine ev_ic f_X9_step (nx := 157) (v := 1) rfl (by decide) rfl ?_
                          refine ev_addC f_X9_step (nx := 158) (c := 1) (l := 1) (u := 900) rfl (by decide) l2 u81 rfl rfl (by decide) (by decide) rfl (fun z155 e155 l155 u155 => ?_)
                          refine ev_putIT f_X9_step (nx := 161) rfl p_a0.1 rfl rfl rfl (hI.putB p_a0.1 rfl rfl l155 (by decide) u155 (by decide)) (hX.upI (t_inO hI.wf p_a0.1 (t_outO hI.wf p_a0.1 rfl) rfl)) (fun g156 e156 hI hX => ?_)
                          exact ev_ret f_X9_step rfl rfl rfl ⟨_, _, _, rfl, hI, hX, rfl⟩
                · have u157 : w99.toInt ≤ 57 := t_leu (t_nlt h123) (by decide : (57:Int32).toInt ≤ (57:Int))
                  refine ev_loc f_X9_step (nx := 124) rfl rfl rfl rfl ?_
                  refine ev_c0 f_X9_step (nx := 127) (r := []) rfl rfl rfl rfl rfl rfl rfl (c_stepNumber hI (ar0) p_a0) rfl hX rfl (fun gi158 gl158 gr158 hI hX hC158 => ?_)
                  replace p_a0 := p_a0.ext hC158.2
                  refine ev_jmp f_X9_step (nx := 161) rfl rfl rfl ?_
                  exact ev_ret f_X9_step rfl rfl rfl ⟨_, _, _, rfl, hI, hX, rfl⟩
            · have l159 : 97 ≤ w99.toInt := t_lel (t_nlt h100) (by decide : (97:Int) ≤ (97:Int32).toInt)
              refine ev_loc f_X9_step (nx := 99) rfl rfl rfl rfl ?_
              refine ev_bp f_X9_step (nx := 101) (v := 122) rfl (by decide) rfl ?_
              refine ev_if f_X9_step (t1 := 111) (t2 := 104) rfl rfl rfl (fun h160 => ?_) (fun h160 => ?_)
              · have l161 : 123 ≤ w99.toInt := t_ltl h160 (by decide : (122:Int) ≤ (122:Int32).toInt) rfl
                refine ev_loc f_X9_step (nx := 112) rfl rfl rfl rfl ?_
                refine ev_bp f_X9_step (nx := 114) (v := 48) rfl (by decide) rfl ?_
                refine ev_f f_X9_step (t1 := 130) (t2 := 117) rfl rfl rfl (t_ltF (by decide : (48:Int32).toInt ≤ (48:Int)) l161 (by decide)) ?_
                refine ev_loc f_X9_step (nx := 118) rfl rfl rfl rfl ?_
                refine ev_bp f_X9_step (nx := 120) (v := 57) rfl (by decide) rfl ?_
                refine ev_t f_X9_step (t1 := 130) (t2 := 123) rfl rfl rfl (t_ltT (by decide : (57:Int32).toInt ≤ (57:Int)) l161 (by decide)) ?_
                refine ev_loc f_X9_step (nx := 131) rfl rfl rfl rfl ?_
                refine ev_loc f_X9_step (nx := 132) rfl rfl rfl rfl ?_
                refine ev_inS1 f_X9_step (nx := 135) (lo2 := [(0, .int w99)]) rfl rfl rfl rfl f_X9_isSign rfl rfl rfl rfl ?_
                refine ev_loc f_X9_isSign (nx := 1) rfl rfl rfl rfl ?_
                refine ev_bp f_X9_isSign (nx := 3) (v := 59) rfl (by decide) rfl ?_
                refine ev_f f_X9_isSign (t1 := 36) (t2 := 6) rfl rfl rfl (t_neT' (by decide : (59:Int32).toInt ≤ (59:Int)) l161 (by decide)) ?_
                refine ev_loc f_X9_isSign (nx := 7) rfl rfl rfl rfl ?_
                refine ev_bp f_X9_isSign (nx := 9) (v := 60) rfl (by decide) rfl ?_
                refine ev_f f_X9_isSign (t1 := 36) (t2 := 12) rfl rfl rfl (t_neT' (by decide : (60:Int32).toInt ≤ (60:Int)) l161 (by decide)) ?_
                refine ev_loc f_X9_isSign (nx := 13) rfl rfl rfl rfl ?_
                refine ev_bp f_X9_isSign (nx := 15) (v := 62) rfl (by decide) rfl ?_
                refine ev_f f_X9_isSign (t1 := 36) (t2 := 18) rfl rfl rfl (t_neT' (by decide : (62:Int32).toInt ≤ (62:Int)) l161 (by decide)) ?_
                refine ev_loc f_X9_isSign (nx := 19) rfl rfl rfl rfl ?_
                refine ev_bp f_X9_isSign (nx := 21) (v := 61) rfl (by decide) rfl ?_
                refine ev_f f_X9_isSign (t1 := 36) (t2 := 24) rfl rfl rfl (t_neT' (by decide : (61:Int32).toInt ≤ (61:Int)) l161 (by decide)) ?_
                refine ev_loc f_X9_isSign (nx := 25) rfl rfl rfl rfl ?_
                refine ev_bp f_X9_isSign (nx := 27) (v := 40) rfl (by decide) rfl ?_
                refine ev_f f_X9_isSign (t1 := 36) (t2 := 30) rfl rfl rfl (t_neT' (by decide : (40:Int32).toInt ≤ (40:Int)) l161 (by decide)) ?_
                refine ev_loc f_X9_isSign (nx := 31) rfl rfl rfl rfl ?_
                refine ev_bp f_X9_isSign (nx := 33) (v := 41) rfl (by decide) rfl ?_
                refine ev_f f_X9_isSign (t1 := 36) (t2 := 40) rfl rfl rfl (t_neT' (by decide : (41:Int32).toInt ≤ (41:Int)) l161 (by decide)) ?_
                refine ev_ic f_X9_isSign (nx := 41) (v := 0) rfl (by decide) rfl ?_
                refine ev_retK1 f_X9_isSign rfl rfl rfl ?_
                refine ev_t f_X9_step (t1 := 142) (t2 := 138) rfl rfl rfl (by decide) ?_
                refine ev_ic f_X9_step (nx := 143) (v := 4) rfl (by decide) rfl ?_
                refine ev_putIT f_X9_step (nx := 146) rfl p_a0.1 rfl rfl rfl (hI.put0 p_a0.1 rfl rfl) (hX.upI (t_inO hI.wf p_a0.1 (t_outO hI.wf p_a0.1 rfl) rfl)) (fun g162 e162 hI hX => ?_)
                refine ev_loc f_X9_step (nx := 147) rfl rfl rfl rfl ?_
                refine ev_loc f_X9_step (nx := 148) rfl rfl rfl rfl ?_
                refine ev_putIT f_X9_step (nx := 151) rfl p_a0.1 rfl rfl rfl (hI.put0 p_a0.1 rfl rfl) (hX.upI (t_inO hI.wf p_a0.1 (t_outO hI.wf p_a0.1 rfl) rfl)) (fun g163 e163 hI hX => ?_)
                refine ev_loc f_X9_step (nx := 152) rfl rfl rfl rfl ?_
                refine ev_alu f_X9_step (nx := 153) rfl rfl rfl rfl ?_
                refine ev_gvI f_X9_step (nx := 156) (w := (gi1 ar0 2)) rfl p_a0.1 rfl rfl ((by rw [e163]; exact x_up2_off (Or.inr (by decide)) : g163 ar0 2 = g162 ar0 2).trans ((by rw [e162]; exact x_up2_off (Or.inr (by decide)) : g162 ar0 2 = g96 ar0 2).trans ((by rw [e96]; exact x_up2_off (Or.inr (by decide)) : g96 ar0 2 = gi1 ar0 2).trans rfl))) rfl ?_
                refine ev_ic f_X9_step (nx := 157) (v := 1) rfl (by decide) rfl ?_
                refine ev_addC f_X9_step (nx := 158) (c := 1) (l := 1) (u := 900) rfl (by decide) l2 u81 rfl rfl (by decide) (by decide) rfl (fun z164 e164 l164 u164 => ?_)
                refine ev_putIT f_X9_step (nx := 161) rfl p_a0.1 rfl rfl rfl (hI.putB p_a0.1 rfl rfl l164 (by decide) u164 (by decide)) (hX.upI (t_inO hI.wf p_a0.1 (t_outO hI.wf p_a0.1 rfl) rfl)) (fun g165 e165 hI hX => ?_)
                exact ev_ret f_X9_step rfl rfl rfl ⟨_, _, _, rfl, hI, hX, rfl⟩
              · have u166 : w99.toInt ≤ 122 := t_leu (t_nlt h160) (by decide : (122:Int32).toInt ≤ (122:Int))
                refine ev_loc f_X9_step (nx := 105) rfl rfl rfl rfl ?_
                refine ev_c0 f_X9_step (nx := 108) (r := []) rfl rfl rfl rfl rfl rfl rfl (c_stepWord hI (ar0) p_a0) rfl hX rfl (fun gi167 gl167 gr167 hI hX hC167 => ?_)
                replace p_a0 := p_a0.ext hC167.2
                refine ev_jmp f_X9_step (nx := 161) rfl rfl rfl ?_
                exact ev_ret f_X9_step rfl rfl rfl ⟨_, _, _, rfl, hI, hX, rfl⟩
          · have u168 : (gi1 ar0 1).toInt ≤ 899 := t_leu (t_nlt h98) u81
            have l169 : 1 ≤ (gi1 ar0 2).toInt := t_lel (t_nlt h98) l82
            refine ev_loc f_X9_step (nx := 77) rfl rfl rfl rfl ?_
            refine ev_ic f_X9_step (nx := 78) (v := 3) rfl (by decide) rfl ?_
            refine ev_putIT f_X9_step (nx := 81) rfl p_a0.1 rfl rfl rfl (hI.put0 p_a0.1 rfl rfl) (hX.upI (t_inO hI.wf p_a0.1 (t_outO hI.wf p_a0.1 rfl) rfl)) (fun g170 e170 hI hX => ?_)
            exact ev_ret f_X9_step rfl rfl rfl ⟨_, _, _, rfl, hI, hX, rfl⟩
  refine ev_sub (lo := [(0, .ref ar0)]) rfl (t_sc rfl t_sn) ?_
  exact L1 _ gi gl gr  hI hX p_a0 rfl
