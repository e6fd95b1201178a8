/-! ===== printed by cls.py: typed contracts of the class ===== -/
noncomputable def wl_couplesAlike : List (Nat × Nat) := []
theorem c_couplesAlike {X : x_Ext} {d : Nat} {sh : List (Nat ⊕ (Nat × Nat))} {gi : Nat → Nat → Int32} {gl : Nat → Nat → Int64} {gr : Nat → Nat → Value} (hI : t_I sh gi gr) (ar0 : Nat) (p_a0 : t_Rv sh gr ar0) (ar1 : Int32) : x_Me X (d + 2) n_X5_couplesAlike [.ref ar0, .int ar1] (sh, gi, gl, gr) (t_P wl_couplesAlike sh gi gl gr (t_Ri (-2147483648) 2147483647)) := by
  have hX : t_X wl_couplesAlike sh gi gl gr gi gl gr := t_X.rf
  refine me_i f_X5_couplesAlike p_a0.1 rfl rfl rfl ?_
  refine ev_ic f_X5_couplesAlike (nx := 1) (v := 0) rfl (by decide) rfl ?_
  refine ev_loc f_X5_couplesAlike (nx := 2) (lo' := [(2, .int 0), (0, .ref ar0), (1, .int ar1)]) rfl rfl rfl rfl ?_
  refine ev_ic f_X5_couplesAlike (nx := 3) (v := 0) rfl (by decide) rfl ?_
  refine ev_loc f_X5_couplesAlike (nx := 4) (lo' := [(3, .int 0), (2, .int 0), (0, .ref ar0), (1, .int ar1)]) rfl rfl rfl rfl ?_
  have L1 : ∀ (m1 : Nat) (gi1 : Nat → Nat → Int32) (gl1 : Nat → Nat → Int64) (gr1 : Nat → Nat → Value) (y1_3 : Int32) (y1_2 : Int32), t_I sh gi1 gr1 → t_X wl_couplesAlike sh gi gl gr gi1 gl1 gr1 → t_Rv sh gr1 ar0 → 0 ≤ y1_3.toInt → y1_3.toInt ≤ 6 → (6 - y1_3.toInt).toNat = m1 → x_Ev X (d + 2) n_X5_couplesAlike 4 [(3, .int y1_3), (2, .int y1_2), (0, .ref ar0), (1, .int ar1)] [] (sh, gi1, gl1, gr1) (t_P wl_couplesAlike sh gi gl gr (t_Ri (-2147483648) 2147483647)) := by
    intro m1
    induction m1 using Nat.strongRecOn with
    | _ m1 ih1 =>
    intro gi1 gl1 gr1 y1_3 y1_2 hI hX p_a0 l1_3 u1_3 hm1
    refine ev_loc f_X5_couplesAlike (nx := 5) rfl rfl rfl rfl ?_
    refine ev_loc f_X5_couplesAlike (nx := 6) rfl rfl rfl rfl ?_
    refine ev_getI f_X5_couplesAlike (nx := 9) rfl p_a0.1 rfl rfl rfl ?_
    obtain ⟨l2, u2⟩ := hI.b p_a0.1 (t_bdK rfl : t_bd 4 0 = some (0, 6))
    refine ev_if f_X5_couplesAlike (t1 := 66) (t2 := 12) rfl rfl rfl (fun h3 => ?_) (fun h3 => ?_)
    · refine ev_loc f_X5_couplesAlike (nx := 67) rfl rfl rfl rfl ?_
      exact ev_ret f_X5_couplesAlike rfl rfl rfl ⟨_, _, _, rfl, hI, hX, ⟨_, rfl, (t_lo y1_2), (t_hi y1_2)⟩⟩
    · have u4 : y1_3.toInt ≤ 5 := t_ltu (t_nle h3) u2 rfl
      have l5 : 1 ≤ (gi1 ar0 0).toInt := t_ltl (t_nle h3) l1_3 rfl
      refine ev_loc f_X5_couplesAlike (nx := 13) rfl rfl rfl rfl ?_
      refine ev_ic f_X5_couplesAlike (nx := 14) (v := 1) rfl (by decide) rfl ?_
      refine ev_addC f_X5_couplesAlike (nx := 15) (c := 1) (l := 1) (u := 6) rfl (by decide) l1_3 u4 rfl rfl (by decide) (by decide) rfl (fun z6 e6 l6 u6 => ?_)
      refine ev_loc f_X5_couplesAlike (nx := 17) (lo' := [(4, .int z6), (3, .int y1_3), (2, .int y1_2), (0, .ref ar0), (1, .int ar1)]) rfl rfl rfl rfl ?_
      have L7 : ∀ (m7 : Nat) (gi7 : Nat → Nat → Int32) (gl7 : Nat → Nat → Int64) (gr7 : Nat → Nat → Value) (y7_4 : Int32) (y7_2 : Int32), t_I sh gi7 gr7 → t_X wl_couplesAlike sh gi gl gr gi7 gl7 gr7 → t_Rv sh gr7 ar0 → 1 ≤ y7_4.toInt → y7_4.toInt ≤ 6 → gi7 ar0 0 = (gi1 ar0 0) → (6 - y7_4.toInt).toNat = m7 → x_Ev X (d + 2) n_X5_couplesAlike 17 [(4, .int y7_4), (3, .int y1_3), (2, .int y7_2), (0, .ref ar0), (1, .int ar1)] [] (sh, gi7, gl7, gr7) (t_P wl_couplesAlike sh gi gl gr (t_Ri (-2147483648) 2147483647)) := by
        intro m7
        induction m7 using Nat.strongRecOn with
        | _ m7 ih7 =>
        intro gi7 gl7 gr7 y7_4 y7_2 hI hX p_a0 l7_4 u7_4 c7_0 hm7
        refine ev_loc f_X5_couplesAlike (nx := 19) rfl rfl rfl rfl ?_
        refine ev_loc f_X5_couplesAlike (nx := 20) rfl rfl rfl rfl ?_
        refine ev_gvI f_X5_couplesAlike (nx := 23) (w := (gi1 ar0 0)) rfl p_a0.1 rfl rfl c7_0 rfl ?_
        refine ev_if f_X5_couplesAlike (t1 := 60) (t2 := 26) rfl rfl rfl (fun h8 => ?_) (fun h8 => ?_)
        · refine ev_incR f_X5_couplesAlike (nx := 63) (c := 1) (l := 1) (u := 6) rfl rfl (by decide) (by decide) l1_3 u4 rfl rfl (by decide) (by decide) rfl (fun z9 e9 l9 u9 => ?_)
          refine ev_jmp f_X5_couplesAlike (nx := 4) rfl rfl rfl ?_
          refine ev_sub (lo := [(3, .int z9), (2, .int y7_2), (0, .ref ar0), (1, .int ar1)]) rfl (t_sc rfl (t_sc rfl (t_sc rfl (t_sc rfl t_sn)))) ?_
          exact ih1 _ (by omega) gi7 gl7 gr7 (z9) (y7_2) hI hX p_a0 (Int.le_trans (by decide : (0:Int) ≤ 1) l9) u9 rfl
        · have u10 : y7_4.toInt ≤ 5 := t_ltu (t_nle h8) u2 rfl
          have l11 : 2 ≤ (gi1 ar0 0).toInt := t_ltl (t_nle h8) l7_4 rfl
          refine ev_loc f_X5_couplesAlike (nx := 27) rfl rfl rfl rfl ?_
          obtain ⟨a12, e12, s12, o12⟩ := p_a0.2.2.1
          refine ev_getR f_X5_couplesAlike (nx := 30) rfl p_a0.1 rfl rfl e12 rfl rfl ?_
          refine ev_loc f_X5_couplesAlike (nx := 31) rfl rfl rfl rfl ?_
          refine ev_laldT f_X5_couplesAlike (nx := 32) rfl s12 l1_3 (by decide) u4 (by decide) rfl (fun w13 e13 => ?_)
          refine ev_loc f_X5_couplesAlike (nx := 33) rfl rfl rfl rfl ?_
          refine ev_inS2 f_X5_couplesAlike (nx := 36) (lo2 := [(0, .long w13), (2, .int ar1)]) rfl rfl rfl rfl f_X5_withEcho rfl rfl rfl rfl ?_
          refine ev_loc f_X5_withEcho (nx := 1) rfl rfl rfl rfl ?_
          refine ev_loc f_X5_withEcho (nx := 2) rfl rfl rfl rfl ?_
          refine ev_loc f_X5_withEcho (nx := 3) rfl rfl rfl rfl ?_
          refine ev_anyL f_X5_withEcho (nx := 4) rfl rfl rfl rfl (fun z14 => ?_)
          refine ev_anyL f_X5_withEcho (nx := 5) rfl rfl rfl rfl (fun z15 => ?_)
          refine ev_retK1 f_X5_withEcho rfl rfl rfl ?_
          refine ev_loc f_X5_couplesAlike (nx := 37) rfl rfl rfl rfl ?_
          refine ev_getR f_X5_couplesAlike (nx := 40) (v := .ref a12) rfl p_a0.1 rfl rfl e12 rfl rfl ?_
          refine ev_loc f_X5_couplesAlike (nx := 42) rfl rfl rfl rfl ?_
          refine ev_laldT f_X5_couplesAlike (nx := 43) rfl s12 l7_4 (by decide) u10 (by decide) rfl (fun w16 e16 => ?_)
          refine ev_loc f_X5_couplesAlike (nx := 44) rfl rfl rfl rfl ?_
          refine ev_inS2 f_X5_couplesAlike (nx := 47) (lo2 := [(0, .long w16), (2, .int ar1)]) rfl rfl rfl rfl f_X5_withEcho rfl rfl rfl rfl ?_
          refine ev_loc f_X5_withEcho (nx := 1) rfl rfl rfl rfl ?_
          refine ev_loc f_X5_withEcho (nx := 2) rfl rfl rfl rfl ?_
          refine ev_loc f_X5_withEcho (nx := 3) rfl rfl rfl rfl ?_
          refine ev_anyL f_X5_withEcho (nx := 4) rfl rfl rfl rfl (fun z17 => ?_)
          refine ev_anyL f_X5_withEcho (nx := 5) rfl rfl rfl rfl (fun z18 => ?_)
          refine ev_retK1 f_X5_withEcho rfl rfl rfl ?_
          refine ev_anyI f_X5_couplesAlike (nx := 48) rfl rfl rfl rfl (fun z19 => ?_)
          refine ev_if f_X5_couplesAlike (t1 := 51) (t2 := 54) rfl rfl rfl (fun h20 => ?_) (fun h20 => ?_)
          · have u21 : z19.toInt ≤ 0 := t_equ h20 (by decide : (0:Int32).toInt ≤ (0:Int))
            have l22 : 0 ≤ z19.toInt := t_eql h20 (by decide : (0:Int) ≤ (0:Int32).toInt)
            refine ev_incN f_X5_couplesAlike (nx := 54) rfl rfl (by decide) rfl (fun z23 => ?_)
            refine ev_incR f_X5_couplesAlike (nx := 57) (c := 1) (l := 2) (u := 6) rfl rfl (by decide) (by decide) l7_4 u10 rfl rfl (by decide) (by decide) rfl (fun z24 e24 l24 u24 => ?_)
            refine ev_jmp f_X5_couplesAlike (nx := 17) rfl rfl rfl ?_
            refine ev_sub (lo := [(4, .int z24), (3, .int y1_3), (2, .int z23), (0, .ref ar0), (1, .int ar1)]) rfl (t_sc rfl (t_sc rfl (t_sc rfl (t_sc rfl (t_sc rfl t_sn))))) ?_
            exact ih7 _ (by omega) gi7 gl7 gr7 (z24) (z23) hI hX p_a0 (Int.le_trans (by decide : (1:Int) ≤ 2) l24) u24 c7_0 rfl
          · refine ev_incR f_X5_couplesAlike (nx := 57) (c := 1) (l := 2) (u := 6) rfl rfl (by decide) (by decide) l7_4 u10 rfl rfl (by decide) (by decide) rfl (fun z25 e25 l25 u25 => ?_)
            refine ev_jmp f_X5_couplesAlike (nx := 17) rfl rfl rfl ?_
            refine ev_sub (lo := [(4, .int z25), (3, .int y1_3), (2, .int y7_2), (0, .ref ar0), (1, .int ar1)]) rfl (t_sc rfl (t_sc rfl (t_sc rfl (t_sc rfl (t_sc rfl t_sn))))) ?_
            exact ih7 _ (by omega) gi7 gl7 gr7 (z25) (y7_2) hI hX p_a0 (Int.le_trans (by decide : (1:Int) ≤ 2) l25) u25 c7_0 rfl
      refine ev_sub (lo := [(4, .int z6), (3, .int y1_3), (2, .int y1_2), (0, .ref ar0), (1, .int ar1)]) rfl (t_sc rfl (t_sc rfl (t_sc rfl (t_sc rfl (t_sc rfl t_sn))))) ?_
      exact L7 _ gi1 gl1 gr1 (z6) (y1_2) hI hX p_a0 l6 u6 rfl rfl
  refine ev_sub (lo := [(3, .int 0), (2, .int 0), (0, .ref ar0), (1, .int ar1)]) rfl (t_sc rfl (t_sc rfl (t_sc rfl (t_sc rfl t_sn)))) ?_
  exact L1 _ gi gl gr (0) (0) hI hX p_a0 (by decide : (0:Int) ≤ (0:Int32).toInt) (Int.le_trans (by decide : (0:Int32).toInt ≤ (0:Int)) (by decide : (0:Int) ≤ 6)) rfl
noncomputable def wl_stepWord : List (Nat × Nat) := [(118, 2), (118, 3), (118, 5), (118, 6), (118, 7)]
theorem c_stepWord {X : x_Ext} {d : Nat} {sh : List (Nat ⊕ (Nat × Nat))} {gi : Nat → Nat → Int32} {gl : Nat → Nat → Int64} {gr : Nat → Nat → Value} (hI : t_I sh gi gr) (ar0 : Nat) (p_a0 : t_Tk sh gr ar0) : x_Me X (d + 1) n_X9_stepWord [.ref ar0] (sh, gi, gl, gr) (t_P wl_stepWord sh gi gl gr t_Rn) := by
  have hX : t_X wl_stepWord sh gi gl gr gi gl gr := t_X.rf
  refine me_i f_X9_stepWord p_a0.1 rfl rfl rfl ?_
  refine ev_loc f_X9_stepWord (nx := 1) rfl rfl rfl rfl ?_
  refine ev_ic f_X9_stepWord (nx := 2) (v := 0) rfl (by decide) rfl ?_
  refine ev_putIT f_X9_stepWord (nx := 5) rfl p_a0.1 rfl rfl rfl (hI.put0 p_a0.1 rfl rfl) (hX.upI (t_inO hI.wf p_a0.1 (t_outO hI.wf p_a0.1 rfl) rfl)) (fun g1 e1 hI hX => ?_)
  refine ev_loc f_X9_stepWord (nx := 6) rfl rfl rfl rfl ?_
  refine ev_lc f_X9_stepWord (nx := 7) (v := 0) rfl (by decide) rfl ?_
  refine ev_putLT f_X9_stepWord (nx := 10) rfl p_a0.1 rfl rfl rfl (hX.upL (t_inO hI.wf p_a0.1 (t_outO hI.wf p_a0.1 rfl) rfl)) (fun g2 e2 hX => ?_)
  have L3 : ∀ (m3 : Nat) (gi3 : Nat → Nat → Int32) (gl3 : Nat → Nat → Int64) (gr3 : Nat → Nat → Value), t_I sh gi3 gr3 → t_X wl_stepWord sh gi gl gr gi3 gl3 gr3 → t_Tk sh gr3 ar0 → gi3 ar0 3 = 0 → (900 - (gi3 ar0 2).toInt).toNat = m3 → x_Ev X (d + 1) n_X9_stepWord 10 [(0, .ref ar0)] [] (sh, gi3, gl3, gr3) (t_P wl_stepWord sh gi gl gr t_Rn) := by
    intro m3
    induction m3 using Nat.strongRecOn with
    | _ m3 ih3 =>
    intro gi3 gl3 gr3 hI hX p_a0 c3_0 hm3
    refine ev_loc f_X9_stepWord (nx := 11) rfl rfl rfl rfl ?_
    refine ev_getI f_X9_stepWord (nx := 14) rfl p_a0.1 rfl rfl rfl ?_
    obtain ⟨l4, u4⟩ := hI.b p_a0.1 (t_bdK rfl : t_bd 8 2 = some (0, 900))
    refine ev_loc f_X9_stepWord (nx := 15) rfl rfl rfl rfl ?_
    refine ev_getI f_X9_stepWord (nx := 18) rfl p_a0.1 rfl rfl rfl ?_
    obtain ⟨l5, u5⟩ := hI.b p_a0.1 (t_bdK rfl : t_bd 8 1 = some (0, 900))
    refine ev_if f_X9_stepWord (t1 := 90) (t2 := 21) rfl rfl rfl (fun h6 => ?_) (fun h6 => ?_)
    · refine ev_loc f_X9_stepWord (nx := 91) rfl rfl rfl rfl ?_
      refine ev_loc f_X9_stepWord (nx := 92) rfl rfl rfl rfl ?_
      refine ev_gvI f_X9_stepWord (nx := 95) (w := (gi3 ar0 2)) rfl p_a0.1 rfl rfl rfl rfl ?_
      refine ev_loc f_X9_stepWord (nx := 96) rfl rfl rfl rfl ?_
      refine ev_getI f_X9_stepWord (nx := 99) rfl p_a0.1 rfl rfl rfl ?_
      obtain ⟨l7, u7⟩ := hI.b p_a0.1 (t_bdK rfl : t_bd 8 4 = some (0, 900))
      refine ev_subR f_X9_stepWord (nx := 100) (l := (-900)) (u := 900) rfl l4 u4 l7 u7 rfl rfl (by decide) (by decide) rfl (fun z8 e8 l8 u8 => ?_)
      refine ev_putIT f_X9_stepWord (nx := 103) rfl p_a0.1 rfl rfl rfl (hI.put0 p_a0.1 rfl rfl) (hX.upI (t_inO hI.wf p_a0.1 (t_outO hI.wf p_a0.1 rfl) rfl)) (fun g9 e9 hI hX => ?_)
      refine ev_ic f_X9_stepWord (nx := 104) (v := 0) rfl (by decide) rfl ?_
      refine ev_loc f_X9_stepWord (nx := 105) (lo' := [(1, .int 0), (0, .ref ar0)]) rfl rfl rfl rfl ?_
      have L10 : ∀ (m10 : Nat) (gi10 : Nat → Nat → Int32) (gl10 : Nat → Nat → Int64) (gr10 : Nat → Nat → Value) (y10_1 : Int32), t_I sh gi10 gr10 → t_X wl_stepWord sh gi gl gr gi10 gl10 gr10 → t_Tk sh gr10 ar0 → 0 ≤ y10_1.toInt → y10_1.toInt ≤ 29 → gi10 ar0 1 = (gi3 ar0 1) → gi10 ar0 2 = (gi3 ar0 2) → gi10 ar0 3 = 0 → gi10 ar0 4 = (gi3 ar0 4) → (29 - y10_1.toInt).toNat = m10 → x_Ev X (d + 1) n_X9_stepWord 105 [(1, .int y10_1), (0, .ref ar0)] [] (sh, gi10, gl10, gr10) (t_P wl_stepWord sh gi gl gr t_Rn) := by
        intro m10
        induction m10 using Nat.strongRecOn with
        | _ m10 ih10 =>
        intro gi10 gl10 gr10 y10_1 hI hX p_a0 l10_1 u10_1 c10_0 c10_1 c10_2 c10_3 hm10
        refine ev_loc f_X9_stepWord (nx := 106) rfl rfl rfl rfl ?_
        refine ev_heap f_X9_stepWord (nx := 109) rfl rfl rfl rfl ?_
        refine ev_heap f_X9_stepWord (nx := 110) (st' := .int 27 :: [.int y10_1]) rfl rfl rfl rfl ?_
        refine ev_if f_X9_stepWord (t1 := 153) (t2 := 113) rfl rfl rfl (fun h11 => ?_) (fun h11 => ?_)
        · have l12 : 27 ≤ y10_1.toInt := t_lel h11 (by decide : (27:Int) ≤ (27:Int32).toInt)
          exact ev_ret f_X9_stepWord rfl rfl rfl ⟨_, _, _, rfl, hI, hX, rfl⟩
        · have u13 : y10_1.toInt ≤ 26 := t_ltu (t_nle h11) (by decide : (27:Int32).toInt ≤ (27:Int)) rfl
          refine ev_loc f_X9_stepWord (nx := 114) rfl rfl rfl rfl ?_
          refine ev_getI f_X9_stepWord (nx := 117) rfl p_a0.1 rfl rfl rfl ?_
          refine ev_bp f_X9_stepWord (nx := 119) (v := 8) rfl (by decide) rfl ?_
          refine ev_if f_X9_stepWord (t1 := 153) (t2 := 122) rfl rfl rfl (fun h14 => ?_) (fun h14 => ?_)
          · have l15 : 9 ≤ (gi10 ar0 5).toInt := t_ltl h14 (by decide : (8:Int) ≤ (8:Int32).toInt) rfl
            exact ev_ret f_X9_stepWord rfl rfl rfl ⟨_, _, _, rfl, hI, hX, rfl⟩
          · have u16 : (gi10 ar0 5).toInt ≤ 8 := t_leu (t_nlt h14) (by decide : (8:Int32).toInt ≤ (8:Int))
            refine ev_heap f_X9_stepWord (nx := 125) rfl rfl rfl rfl ?_
            refine ev_loc f_X9_stepWord (nx := 126) rfl rfl rfl rfl ?_
            refine t_kwa f_X9_stepWord (nx := 127) rfl l10_1 (by decide) u13 (by decide) rfl (fun k17 lt17 => ?_)
            refine t_kwl f_X9_stepWord (nx := 130) rfl lt17 rfl (fun w18 => ?_)
            refine ev_loc f_X9_stepWord (nx := 131) rfl rfl rfl rfl ?_
            refine ev_getL f_X9_stepWord (nx := 134) rfl p_a0.1 rfl rfl rfl ?_
            refine ev_anyI f_X9_stepWord (nx := 135) rfl rfl rfl rfl (fun z19 => ?_)
            refine ev_if f_X9_stepWord (t1 := 138) (t2 := 147) rfl rfl rfl (fun h20 => ?_) (fun h20 => ?_)
            · have u21 : z19.toInt ≤ 0 := t_equ h20 (by decide : (0:Int32).toInt ≤ (0:Int))
              have l22 : 0 ≤ z19.toInt := t_eql h20 (by decide : (0:Int) ≤ (0:Int32).toInt)
              refine ev_loc f_X9_stepWord (nx := 139) rfl rfl rfl rfl ?_
              refine ev_heap f_X9_stepWord (nx := 142) rfl rfl rfl rfl ?_
              refine ev_loc f_X9_stepWord (nx := 143) rfl rfl rfl rfl ?_
              refine t_kwa f_X9_stepWord (nx := 144) rfl l10_1 (by decide) u13 (by decide) rfl (fun k23 lt23 => ?_)
              have hE24 := t_eqf_up (gr := gr10) (j := 7) (v := .retAddr k23) p_a0.1 rfl
              have hT24 := t_keyw hI (v := .retAddr k23) p_a0.1 (Or.inr ⟨_, rfl, lt23⟩)
              replace p_a0 := p_a0.ext hE24
              refine ev_putRT f_X9_stepWord (nx := 147) rfl p_a0.1 rfl rfl rfl rfl hT24 (hX.upR (t_inO hI.wf p_a0.1 (t_outO hI.wf p_a0.1 rfl) rfl) hE24) (fun g24 e24 hI hX => ?_)
              rw [← e24] at p_a0
              refine ev_incR f_X9_stepWord (nx := 150) (c := 1) (l := 1) (u := 27) rfl rfl (by decide) (by decide) l10_1 u13 rfl rfl (by decide) (by decide) rfl (fun z25 e25 l25 u25 => ?_)
              refine ev_jmp f_X9_stepWord (nx := 105) rfl rfl rfl ?_
              refine ev_sub (lo := [(1, .int z25), (0, .ref ar0)]) rfl (t_sc rfl (t_sc rfl t_sn)) ?_
              exact ih10 _ (by omega) gi10 gl10 g24 (z25) hI hX p_a0 (Int.le_trans (by decide : (0:Int) ≤ 1) l25) (Int.le_trans u25 (by decide : (27:Int) ≤ 29)) c10_0 c10_1 c10_2 c10_3 rfl
            · refine ev_incR f_X9_stepWord (nx := 150) (c := 1) (l := 1) (u := 27) rfl rfl (by decide) (by decide) l10_1 u13 rfl rfl (by decide) (by decide) rfl (fun z26 e26 l26 u26 => ?_)
              refine ev_jmp f_X9_stepWord (nx := 105) rfl rfl rfl ?_
              refine ev_sub (lo := [(1, .int z26), (0, .ref ar0)]) rfl (t_sc rfl (t_sc rfl t_sn)) ?_
              exact ih10 _ (by omega) gi10 gl10 gr10 (z26) hI hX p_a0 (Int.le_trans (by decide : (0:Int) ≤ 1) l26) (Int.le_trans u26 (by decide : (27:Int) ≤ 29)) c10_0 c10_1 c10_2 c10_3 rfl
      refine ev_sub (lo := [(1, .int 0), (0, .ref ar0)]) rfl (t_sc rfl (t_sc rfl t_sn)) ?_
      exact L10 _ g9 gl3 gr3 (0) hI hX p_a0 (by decide : (0:Int) ≤ (0:Int32).toInt) (Int.le_trans (by decide : (0:Int32).toInt ≤ (0:Int)) (by decide : (0:Int) ≤ 29)) ((by rw [e9]; exact x_up2_off (Or.inr (by decide)) : g9 ar0 1 = gi3 ar0 1).trans rfl) ((by rw [e9]; exact x_up2_off (Or.inr (by decide)) : g9 ar0 2 = gi3 ar0 2).trans rfl) ((by rw [e9]; exact x_up2_off (Or.inr (by decide)) : g9 ar0 3 = gi3 ar0 3).trans c3_0) ((by rw [e9]; exact x_up2_off (Or.inr (by decide)) : g9 ar0 4 = gi3 ar0 4).trans rfl) rfl
    · have u27 : (gi3 ar0 2).toInt ≤ 899 := t_ltu (t_nle h6) u5 rfl
      have l28 : 1 ≤ (gi3 ar0 1).toInt := t_ltl (t_nle h6) l4 rfl
      refine ev_loc f_X9_stepWord (nx := 22) rfl rfl rfl rfl ?_
      have e29 := p_a0.2
      refine ev_getR f_X9_stepWord (nx := 25) rfl p_a0.1 rfl rfl e29 rfl rfl ?_
      refine ev_loc f_X9_stepWord (nx := 26) rfl rfl rfl rfl ?_
      refine ev_gvI f_X9_stepWord (nx := 29) (w := (gi3 ar0 2)) rfl p_a0.1 rfl rfl rfl rfl ?_
      refine ev_baldT f_X9_stepWord (nx := 30) rfl (hI.wf.s rfl) rfl l4 (by decide) u27 (by decide) rfl (fun w30 e30 => ?_)
      refine ev_bp f_X9_stepWord (nx := 32) (v := 97) rfl (by decide) rfl ?_
      refine ev_if f_X9_stepWord (t1 := 90) (t2 := 35) rfl rfl rfl (fun h31 => ?_) (fun h31 => ?_)
      · have u32 : w30.toInt ≤ 96 := t_ltu h31 (by decide : (97:Int32).toInt ≤ (97:Int)) rfl
        refine ev_loc f_X9_stepWord (nx := 91) rfl rfl rfl rfl ?_
        refine ev_loc f_X9_stepWord (nx := 92) rfl rfl rfl rfl ?_
        refine ev_gvI f_X9_stepWord (nx := 95) (w := (gi3 ar0 2)) rfl p_a0.1 rfl rfl rfl rfl ?_
        refine ev_loc f_X9_stepWord (nx := 96) rfl rfl rfl rfl ?_
        refine ev_getI f_X9_stepWord (nx := 99) rfl p_a0.1 rfl rfl rfl ?_
        obtain ⟨l33, u33⟩ := hI.b p_a0.1 (t_bdK rfl : t_bd 8 4 = some (0, 900))
        refine ev_subR f_X9_stepWord (nx := 100) (l := (-900)) (u := 899) rfl l4 u27 l33 u33 rfl rfl (by decide) (by decide) rfl (fun z34 e34 l34 u34 => ?_)
        refine ev_putIT f_X9_stepWord (nx := 103) rfl p_a0.1 rfl rfl rfl (hI.put0 p_a0.1 rfl rfl) (hX.upI (t_inO hI.wf p_a0.1 (t_outO hI.wf p_a0.1 rfl) rfl)) (fun g35 e35 hI hX => ?_)
        refine ev_ic f_X9_stepWord (nx := 104) (v := 0) rfl (by decide) rfl ?_
        refine ev_loc f_X9_stepWord (nx := 105) (lo' := [(1, .int 0), (0, .ref ar0)]) rfl rfl rfl rfl ?_
        have L36 : ∀ (m36 : Nat) (gi36 : Nat → Nat → Int32) (gl36 : Nat → Nat → Int64) (gr36 : Nat → Nat → Value) (y36_1 : Int32), t_I sh gi36 gr36 → t_X wl_stepWord sh gi gl gr gi36 gl36 gr36 → t_Tk sh gr36 ar0 → 0 ≤ y36_1.toInt → y36_1.toInt ≤ 29 → gi36 ar0 1 = (gi3 ar0 1) → gi36 ar0 2 = (gi3 ar0 2) → gi36 ar0 3 = 0 → gi36 ar0 4 = (gi3 ar0 4) → (29 - y36_1.toInt).toNat = m36 → x_Ev X (d + 1) n_X9_stepWord 105 [(1, .int y36_1), (0, .ref ar0)] [] (sh, gi36, gl36, gr36) (t_P wl_stepWord sh gi gl gr t_Rn) := by
          intro m36
          induction m36 using Nat.strongRecOn with
          | _ m36 ih36 =>
          intro gi36 gl36 gr36 y36_1 hI hX p_a0 l36_1 u36_1 c36_0 c36_1 c36_2 c36_3 hm36
          refine ev_loc f_X9_stepWord (nx := 106) rfl rfl rfl rfl ?_
          refine ev_heap f_X9_stepWord (nx := 109) rfl rfl rfl rfl ?_
          refine ev_heap f_X9_stepWord (nx := 110) (st' := .int 27 :: [.int y36_1]) rfl rfl rfl rfl ?_
          refine ev_if f_X9_stepWord (t1 := 153) (t2 := 113) rfl rfl rfl (fun h37 => ?_) (fun h37 => ?_)
          · have l38 : 27 ≤ y36_1.toInt := t_lel h37 (by decide : (27:Int) ≤ (27:Int32).toInt)
            exact ev_ret f_X9_stepWord rfl rfl rfl ⟨_, _, _, rfl, hI, hX, rfl⟩
          · have u39 : y36_1.toInt ≤ 26 := t_ltu (t_nle h37) (by decide : (27:Int32).toInt ≤ (27:Int)) rfl
            refine ev_loc f_X9_stepWord (nx := 114) rfl rfl rfl rfl ?_
            refine ev_getI f_X9_stepWord (nx := 117) rfl p_a0.1 rfl rfl rfl ?_
            refine ev_bp f_X9_stepWord (nx := 119) (v := 8) rfl (by decide) rfl ?_
            refine ev_if f_X9_stepWord (t1 := 153) (t2 := 122) rfl rfl rfl (fun h40 => ?_) (fun h40 => ?_)
            · have l41 : 9 ≤ (gi36 ar0 5).toInt := t_ltl h40 (by decide : (8:Int) ≤ (8:Int32).toInt) rfl
              exact ev_ret f_X9_stepWord rfl rfl rfl ⟨_, _, _, rfl, hI, hX, rfl⟩
            · have u42 : (gi36 ar0 5).toInt ≤ 8 := t_leu (t_nlt h40) (by decide : (8:Int32).toInt ≤ (8:Int))
              refine ev_heap f_X9_stepWord (nx := 125) rfl rfl rfl rfl ?_
              refine ev_loc f_X9_stepWord (nx := 126) rfl rfl rfl rfl ?_
              refine t_kwa f_X9_stepWord (nx := 127) rfl l36_1 (by decide) u39 (by decide) rfl (fun k43 lt43 => ?_)
              refine t_kwl f_X9_stepWord (nx := 130) rfl lt43 rfl (fun w44 => ?_)
              refine ev_loc f_X9_stepWord (nx := 131) rfl rfl rfl rfl ?_
              refine ev_getL f_X9_stepWord (nx := 134) rfl p_a0.1 rfl rfl rfl ?_
              refine ev_anyI f_X9_stepWord (nx := 135) rfl rfl rfl rfl (fun z45 => ?_)
              refine ev_if f_X9_stepWord (t1 := 138) (t2 := 147) rfl rfl rfl (fun h46 => ?_) (fun h46 => ?_)
              · have u47 : z45.toInt ≤ 0 := t_equ h46 (by decide : (0:Int32).toInt ≤ (0:Int))
                have l48 : 0 ≤ z45.toInt := t_eql h46 (by decide : (0:Int) ≤ (0:Int32).toInt)
                refine ev_loc f_X9_stepWord (nx := 139) rfl rfl rfl rfl ?_
                refine ev_heap f_X9_stepWord (nx := 142) rfl rfl rfl rfl ?_
                refine ev_loc f_X9_stepWord (nx := 143) rfl rfl rfl rfl ?_
                refine t_kwa f_X9_stepWord (nx := 144) rfl l36_1 (by decide) u39 (by decide) rfl (fun k49 lt49 => ?_)
                have hE50 := t_eqf_up (gr := gr36) (j := 7) (v := .retAddr k49) p_a0.1 rfl
                have hT50 := t_keyw hI (v := .retAddr k49) p_a0.1 (Or.inr ⟨_, rfl, lt49⟩)
                replace p_a0 := p_a0.ext hE50
                refine ev_putRT f_X9_stepWord (nx := 147) rfl p_a0.1 rfl rfl rfl rfl hT50 (hX.upR (t_inO hI.wf p_a0.1 (t_outO hI.wf p_a0.1 rfl) rfl) hE50) (fun g50 e50 hI hX => ?_)
                rw [← e50] at p_a0
                refine ev_incR f_X9_stepWord (nx := 150) (c := 1) (l := 1) (u := 27) rfl rfl (by decide) (by decide) l36_1 u39 rfl rfl (by decide) (by decide) rfl (fun z51 e51 l51 u51 => ?_)
                refine ev_jmp f_X9_stepWord (nx := 105) rfl rfl rfl ?_
                refine ev_sub (lo := [(1, .int z51), (0, .ref ar0)]) rfl (t_sc rfl (t_sc rfl t_sn)) ?_
                exact ih36 _ (by omega) gi36 gl36 g50 (z51) hI hX p_a0 (Int.le_trans (by decide : (0:Int) ≤ 1) l51) (Int.le_trans u51 (by decide : (27:Int) ≤ 29)) c36_0 c36_1 c36_2 c36_3 rfl
              · refine ev_incR f_X9_stepWord (nx := 150) (c := 1) (l := 1) (u := 27) rfl rfl (by decide) (by decide) l36_1 u39 rfl rfl (by decide) (by decide) rfl (fun z52 e52 l52 u52 => ?_)
                refine ev_jmp f_X9_stepWord (nx := 105) rfl rfl rfl ?_
                refine ev_sub (lo := [(1, .int z52), (0, .ref ar0)]) rfl (t_sc rfl (t_sc rfl t_sn)) ?_
                exact ih36 _ (by omega) gi36 gl36 gr36 (z52) hI hX p_a0 (Int.le_trans (by decide : (0:Int) ≤ 1) l52) (Int.le_trans u52 (by decide : (27:Int) ≤ 29)) c36_0 c36_1 c36_2 c36_3 rfl
        refine ev_sub (lo := [(1, .int 0), (0, .ref ar0)]) rfl (t_sc rfl (t_sc rfl t_sn)) ?_
        exact L36 _ g35 gl3 gr3 (0) hI hX p_a0 (by decide : (0:Int) ≤ (0:Int32).toInt) (Int.le_trans (by decide : (0:Int32).toInt ≤ (0:Int)) (by decide : (0:Int) ≤ 29)) ((by rw [e35]; exact x_up2_off (Or.inr (by decide)) : g35 ar0 1 = gi3 ar0 1).trans rfl) ((by rw [e35]; exact x_up2_off (Or.inr (by decide)) : g35 ar0 2 = gi3 ar0 2).trans rfl) ((by rw [e35]; exact x_up2_off (Or.inr (by decide)) : g35 ar0 3 = gi3 ar0 3).trans c3_0) ((by rw [e35]; exact x_up2_off (Or.inr (by decide)) : g35 ar0 4 = gi3 ar0 4).trans rfl) rfl
      · have l53 : 97 ≤ w30.toInt := t_lel (t_nlt h31) (by decide : (97:Int) ≤ (97:Int32).toInt)
        refine ev_loc f_X9_stepWord (nx := 36) rfl rfl rfl rfl ?_
        refine ev_getR f_X9_stepWord (nx := 39) (v := .ref 2) rfl p_a0.1 rfl rfl e29 rfl rfl ?_
        refine ev_loc f_X9_stepWord (nx := 40) rfl rfl rfl rfl ?_
        refine ev_gvI f_X9_stepWord (nx := 43) (w := (gi3 ar0 2)) rfl p_a0.1 rfl rfl rfl rfl ?_
        refine ev_baldT f_X9_stepWord (nx := 44) rfl (hI.wf.s rfl) rfl l4 (by decide) u27 (by decide) rfl (fun w54 e54 => ?_)
        refine ev_bp f_X9_stepWord (nx := 46) (v := 122) rfl (by decide) rfl ?_
        refine ev_if f_X9_stepWord (t1 := 90) (t2 := 49) rfl rfl rfl (fun h55 => ?_) (fun h55 => ?_)
        · have l56 : 123 ≤ w54.toInt := t_ltl h55 (by decide : (122:Int) ≤ (122:Int32).toInt) rfl
          refine ev_loc f_X9_stepWord (nx := 91) rfl rfl rfl rfl ?_
          refine ev_loc f_X9_stepWord (nx := 92) rfl rfl rfl rfl ?_
          refine ev_gvI f_X9_stepWord (nx := 95) (w := (gi3 ar0 2)) rfl p_a0.1 rfl rfl rfl rfl ?_
          refine ev_loc f_X9_stepWord (nx := 96) rfl rfl rfl rfl ?_
          refine ev_getI f_X9_stepWord (nx := 99) rfl p_a0.1 rfl rfl rfl ?_
          obtain ⟨l57, u57⟩ := hI.b p_a0.1 (t_bdK rfl : t_bd 8 4 = some (0, 900))
          refine ev_subR f_X9_stepWord (nx := 100) (l := (-900)) (u := 899) rfl l4 u27 l57 u57 rfl rfl (by decide) (by decide) rfl (fun z58 e58 l58 u58 => ?_)
          refine ev_putIT f_X9_stepWord (nx := 103) rfl p_a0.1 rfl rfl rfl (hI.put0 p_a0.1 rfl rfl) (hX.upI (t_inO hI.wf p_a0.1 (t_outO hI.wf p_a0.1 rfl) rfl)) (fun g59 e59 hI hX => ?_)
          refine ev_ic f_X9_stepWord (nx := 104) (v := 0) rfl (by decide) rfl ?_
          refine ev_loc f_X9_stepWord (nx := 105) (lo' := [(1, .int 0), (0, .ref ar0)]) rfl rfl rfl rfl ?_
          have L60 : ∀ (m60 : Nat) (gi60 : Nat → Nat → Int32) (gl60 : Nat → Nat → Int64) (gr60 : Nat → Nat → Value) (y60_1 : Int32), t_I sh gi60 gr60 → t_X wl_stepWord sh gi gl gr gi60 gl60 gr60 → t_Tk sh gr60 ar0 → 0 ≤ y60_1.toInt → y60_1.toInt ≤ 29 → gi60 ar0 1 = (gi3 ar0 1) → gi60 ar0 2 = (gi3 ar0 2) → gi60 ar0 3 = 0 → gi60 ar0 4 = (gi3 ar0 4) → (29 - y60_1.toInt).toNat = m60 → x_Ev X (d + 1) n_X9_stepWord 105 [(1, .int y60_1), (0, .ref ar0)] [] (sh, gi60, gl60, gr60) (t_P wl_stepWord sh gi gl gr t_Rn) := by
            intro m60
            induction m60 using Nat.strongRecOn with
            | _ m60 ih60 =>
            intro gi60 gl60 gr60 y60_1 hI hX p_a0 l60_1 u60_1 c60_0 c60_1 c60_2 c60_3 hm60
            refine ev_loc f_X9_stepWord (nx := 106) rfl rfl rfl rfl ?_
            refine ev_heap f_X9_stepWord (nx := 109) rfl rfl rfl rfl ?_
            refine ev_heap f_X9_stepWord (nx := 110) (st' := .int 27 :: [.int y60_1]) rfl rfl rfl rfl ?_
            refine ev_if f_X9_stepWord (t1 := 153) (t2 := 113) rfl rfl rfl (fun h61 => ?_) (fun h61 => ?_)
            · have l62 : 27 ≤ y60_1.toInt := t_lel h61 (by decide : (27:Int) ≤ (27:Int32).toInt)
              exact ev_ret f_X9_stepWord rfl rfl rfl ⟨_, _, _, rfl, hI, hX, rfl⟩
            · have u63 : y60_1.toInt ≤ 26 := t_ltu (t_nle h61) (by decide : (27:Int32).toInt ≤ (27:Int)) rfl
              refine ev_loc f_X9_stepWord (nx := 114) rfl rfl rfl rfl ?_
              refine ev_getI f_X9_stepWord (nx := 117) rfl p_a0.1 rfl rfl rfl ?_
              refine ev_bp f_X9_stepWord (nx := 119) (v := 8) rfl (by decide) rfl ?_
              refine ev_if f_X9_stepWord (t1 := 153) (t2 := 122) rfl rfl rfl (fun h64 => ?_) (fun h64 => ?_)
              · have l65 : 9 ≤ (gi60 ar0 5).toInt := t_ltl h64 (by decide : (8:Int) ≤ (8:Int32).toInt) rfl
                exact ev_ret f_X9_stepWord rfl rfl rfl ⟨_, _, _, rfl, hI, hX, rfl⟩
              · have u66 : (gi60 ar0 5).toInt ≤ 8 := t_leu (t_nlt h64) (by decide : (8:Int32).toInt ≤ (8:Int))
                refine ev_heap f_X9_stepWord (nx := 125) rfl rfl rfl rfl ?_
                refine ev_loc f_X9_stepWord (nx := 126) rfl rfl rfl rfl ?_
                refine t_kwa f_X9_stepWord (nx := 127) rfl l60_1 (by decide) u63 (by decide) rfl (fun k67 lt67 => ?_)
                refine t_kwl f_X9_stepWord (nx := 130) rfl lt67 rfl (fun w68 => ?_)
                refine ev_loc f_X9_stepWord (nx := 131) rfl rfl rfl rfl ?_
                refine ev_getL f_X9_stepWord (nx := 134) rfl p_a0.1 rfl rfl rfl ?_
                refine ev_anyI f_X9_stepWord (nx := 135) rfl rfl rfl rfl (fun z69 => ?_)
                refine ev_if f_X9_stepWord (t1 := 138) (t2 := 147) rfl rfl rfl (fun h70 => ?_) (fun h70 => ?_)
                · have u71 : z69.toInt ≤ 0 := t_equ h70 (by decide : (0:Int32).toInt ≤ (0:Int))
                  have l72 : 0 ≤ z69.toInt := t_eql h70 (by decide : (0:Int) ≤ (0:Int32).toInt)
                  refine ev_loc f_X9_stepWord (nx := 139) rfl rfl rfl rfl ?_
                  refine ev_heap f_X9_stepWord (nx := 142) rfl rfl rfl rfl ?_
                  refine ev_loc f_X9_stepWord (nx := 143) rfl rfl rfl rfl ?_
                  refine t_kwa f_X9_stepWord (nx := 144) rfl l60_1 (by decide) u63 (by decide) rfl (fun k73 lt73 => ?_)
                  have hE74 := t_eqf_up (gr := gr60) (j := 7) (v := .retAddr k73) p_a0.1 rfl
                  have hT74 := t_keyw hI (v := .retAddr k73) p_a0.1 (Or.inr ⟨_, rfl, lt73⟩)
                  replace p_a0 := p_a0.ext hE74
                  refine ev_putRT f_X9_stepWord (nx := 147) rfl p_a0.1 rfl rfl rfl rfl hT74 (hX.upR (t_inO hI.wf p_a0.1 (t_outO hI.wf p_a0.1 rfl) rfl) hE74) (fun g74 e74 hI hX => ?_)
                  rw [← e74] at p_a0
                  refine ev_incR f_X9_stepWord (nx := 150) (c := 1) (l := 1) (u := 27) rfl rfl (by decide) (by decide) l60_1 u63 rfl rfl (by decide) (by decide) rfl (fun z75 e75 l75 u75 => ?_)
                  refine ev_jmp f_X9_stepWord (nx := 105) rfl rfl rfl ?_
                  refine ev_sub (lo := [(1, .int z75), (0, .ref ar0)]) rfl (t_sc rfl (t_sc rfl t_sn)) ?_
                  exact ih60 _ (by omega) gi60 gl60 g74 (z75) hI hX p_a0 (Int.le_trans (by decide : (0:Int) ≤ 1) l75) (Int.le_trans u75 (by decide : (27:Int) ≤ 29)) c60_0 c60_1 c60_2 c60_3 rfl
                · refine ev_incR f_X9_stepWord (nx := 150) (c := 1) (l := 1) (u := 27) rfl rfl (by decide) (by decide) l60_1 u63 rfl rfl (by decide) (by decide) rfl (fun z76 e76 l76 u76 => ?_)
                  refine ev_jmp f_X9_stepWord (nx := 105) rfl rfl rfl ?_
                  refine ev_sub (lo := [(1, .int z76), (0, .ref ar0)]) rfl (t_sc rfl (t_sc rfl t_sn)) ?_
                  exact ih60 _ (by omega) gi60 gl60 gr60 (z76) hI hX p_a0 (Int.le_trans (by decide : (0:Int) ≤ 1) l76) (Int.le_trans u76 (by decide : (27:Int) ≤ 29)) c60_0 c60_1 c60_2 c60_3 rfl
          refine ev_sub (lo := [(1, .int 0), (0, .ref ar0)]) rfl (t_sc rfl (t_sc rfl t_sn)) ?_
          exact L60 _ g59 gl3 gr3 (0) hI hX p_a0 (by decide : (0:Int) ≤ (0:Int32).toInt) (Int.le_trans (by decide : (0:Int32).toInt ≤ (0:Int)) (by decide : (0:Int) ≤ 29)) ((by rw [e59]; exact x_up2_off (Or.inr (by decide)) : g59 ar0 1 = gi3 ar0 1).trans rfl) ((by rw [e59]; exact x_up2_off (Or.inr (by decide)) : g59 ar0 2 = gi3 ar0 2).trans rfl) ((by rw [e59]; exact x_up2_off (Or.inr (by decide)) : g59 ar0 3 = gi3 ar0 3).trans c3_0) ((by rw [e59]; exact x_up2_off (Or.inr (by decide)) : g59 ar0 4 = gi3 ar0 4).trans rfl) rfl
        · have u77 : w54.toInt ≤ 122 := t_leu (t_nlt h55) (by decide : (122:Int32).toInt ≤ (122:Int))
          refine ev_loc f_X9_stepWord (nx := 50) rfl rfl rfl rfl ?_
          refine ev_loc f_X9_stepWord (nx := 51) rfl rfl rfl rfl ?_
          refine ev_getL f_X9_stepWord (nx := 54) rfl p_a0.1 rfl rfl rfl ?_
          refine ev_ldL f_X9_stepWord (nx := 57) (v := 32) rfl (by decide) rfl ?_
          refine ev_anyL f_X9_stepWord (nx := 58) rfl rfl rfl rfl (fun z78 => ?_)
          refine ev_loc f_X9_stepWord (nx := 59) rfl rfl rfl rfl ?_
          refine ev_getR f_X9_stepWord (nx := 62) (v := .ref 2) rfl p_a0.1 rfl rfl e29 rfl rfl ?_
          refine ev_loc f_X9_stepWord (nx := 63) rfl rfl rfl rfl ?_
          refine ev_gvI f_X9_stepWord (nx := 66) (w := (gi3 ar0 2)) rfl p_a0.1 rfl rfl rfl rfl ?_
          refine ev_baldT f_X9_stepWord (nx := 67) rfl (hI.wf.s rfl) rfl l4 (by decide) u27 (by decide) rfl (fun w79 e79 => ?_)
          refine ev_bp f_X9_stepWord (nx := 69) (v := 97) rfl (by decide) rfl ?_
          refine ev_anyI f_X9_stepWord (nx := 70) rfl rfl rfl rfl (fun z80 => ?_)
          refine ev_ic f_X9_stepWord (nx := 71) (v := 1) rfl (by decide) rfl ?_
          refine ev_anyI f_X9_stepWord (nx := 72) rfl rfl rfl rfl (fun z81 => ?_)
          refine ev_anyL f_X9_stepWord (nx := 73) rfl rfl rfl rfl (fun z82 => ?_)
          refine ev_anyL f_X9_stepWord (nx := 74) rfl rfl rfl rfl (fun z83 => ?_)
          refine ev_putLT f_X9_stepWord (nx := 77) rfl p_a0.1 rfl rfl rfl (hX.upL (t_inO hI.wf p_a0.1 (t_outO hI.wf p_a0.1 rfl) rfl)) (fun g84 e84 hX => ?_)
          refine ev_loc f_X9_stepWord (nx := 78) rfl rfl rfl rfl ?_
          refine ev_alu f_X9_stepWord (nx := 79) rfl rfl rfl rfl ?_
          refine ev_gvI f_X9_stepWord (nx := 82) (w := (gi3 ar0 2)) rfl p_a0.1 rfl rfl rfl rfl ?_
          refine ev_ic f_X9_stepWord (nx := 83) (v := 1) rfl (by decide) rfl ?_
          refine ev_addC f_X9_stepWord (nx := 84) (c := 1) (l := 1) (u := 900) rfl (by decide) l4 u27 rfl rfl (by decide) (by decide) rfl (fun z85 e85 l85 u85 => ?_)
          refine ev_putIT f_X9_stepWord (nx := 87) rfl p_a0.1 rfl rfl rfl (hI.putB p_a0.1 rfl rfl l85 (by decide) u85 (by decide)) (hX.upI (t_inO hI.wf p_a0.1 (t_outO hI.wf p_a0.1 rfl) rfl)) (fun g86 e86 hI hX => ?_)
          refine ev_jmp f_X9_stepWord (nx := 10) rfl rfl rfl ?_
          refine ev_sub (lo := [(0, .ref ar0)]) rfl (t_sc rfl t_sn) ?_
          have hq3 := ((by rw [e86]; exact x_up2_at _ _ _ _ : g86 ar0 2 = z85) : g86 ar0 2 = z85)
          exact ih3 _ (by rw [hq3]; omega) g86 g84 gr3  hI hX p_a0 ((by rw [e86]; exact x_up2_off (Or.inr (by decide)) : g86 ar0 3 = gi3 ar0 3).trans c3_0) rfl
  refine ev_sub (lo := [(0, .ref ar0)]) rfl (t_sc rfl t_sn) ?_
  exact L3 _ g1 g2 gr  hI hX p_a0 (by rw [e1]; exact x_up2_at _ _ _ _ : g1 ar0 3 = 0) rfl
noncomputable def wl_stepNumber : List (Nat × Nat) := [(118, 2), (118, 3), (118, 8)]
theorem c_stepNumber {X : x_Ext} {d : Nat} {sh : List (Nat ⊕ (Nat × Nat))} {gi : Nat → Nat → Int32} {gl : Nat → Nat → Int64} {gr : Nat → Nat → Value} (hI : t_I sh gi gr) (ar0 : Nat) (p_a0 : t_Tk sh gr ar0) : x_Me X (d + 1) n_X9_stepNumber [.ref ar0] (sh, gi, gl, gr) (t_P wl_stepNumber sh gi gl gr t_Rn) := by
  have hX : t_X wl_stepNumber sh gi gl gr gi gl gr := t_X.rf
  refine me_i f_X9_stepNumber p_a0.1 rfl rfl rfl ?_
  refine ev_loc f_X9_stepNumber (nx := 1) rfl rfl rfl rfl ?_
  refine ev_ic f_X9_stepNumber (nx := 2) (v := 0) rfl (by decide) rfl ?_
  refine ev_putIT f_X9_stepNumber (nx := 5) rfl p_a0.1 rfl rfl rfl (hI.put0 p_a0.1 rfl rfl) (hX.upI (t_inO hI.wf p_a0.1 (t_outO hI.wf p_a0.1 rfl) rfl)) (fun g1 e1 hI hX => ?_)
  have L2 : ∀ (m2 : Nat) (gi2 : Nat → Nat → Int32) (gl2 : Nat → Nat → Int64) (gr2 : Nat → Nat → Value), t_I sh gi2 gr2 → t_X wl_stepNumber sh gi gl gr gi2 gl2 gr2 → t_Tk sh gr2 ar0 → (900 - (gi2 ar0 2).toInt).toNat = m2 → x_Ev X (d + 1) n_X9_stepNumber 5 [(0, .ref ar0)] [] (sh, gi2, gl2, gr2) (t_P wl_stepNumber sh gi gl gr t_Rn) := by
    intro m2
    induction m2 using Nat.strongRecOn with
    | _ m2 ih2 =>
    intro gi2 gl2 gr2 hI hX p_a0 hm2
    refine ev_loc f_X9_stepNumber (nx := 6) rfl rfl rfl rfl ?_
    refine ev_getI f_X9_stepNumber (nx := 9) rfl p_a0.1 rfl rfl rfl ?_
    obtain ⟨l3, u3⟩ := hI.b p_a0.1 (t_bdK rfl : t_bd 8 2 = some (0, 900))
    refine ev_loc f_X9_stepNumber (nx := 10) rfl rfl rfl rfl ?_
    refine ev_getI f_X9_stepNumber (nx := 13) rfl p_a0.1 rfl rfl rfl ?_
    obtain ⟨l4, u4⟩ := hI.b p_a0.1 (t_bdK rfl : t_bd 8 1 = some (0, 900))
    refine ev_if f_X9_stepNumber (t1 := 81) (t2 := 16) rfl rfl rfl (fun h5 => ?_) (fun h5 => ?_)
    · refine ev_loc f_X9_stepNumber (nx := 82) rfl rfl rfl rfl ?_
      refine ev_loc f_X9_stepNumber (nx := 83) rfl rfl rfl rfl ?_
      refine ev_gvI f_X9_stepNumber (nx := 86) (w := (gi2 ar0 2)) rfl p_a0.1 rfl rfl rfl rfl ?_
      refine ev_loc f_X9_stepNumber (nx := 87) rfl rfl rfl rfl ?_
      refine ev_getI f_X9_stepNumber (nx := 90) rfl p_a0.1 rfl rfl rfl ?_
      obtain ⟨l6, u6⟩ := hI.b p_a0.1 (t_bdK rfl : t_bd 8 4 = some (0, 900))
      refine ev_subR f_X9_stepNumber (nx := 91) (l := (-900)) (u := 900) rfl l3 u3 l6 u6 rfl rfl (by decide) (by decide) rfl (fun z7 e7 l7 u7 => ?_)
      refine ev_ic f_X9_stepNumber (nx := 92) (v := 4) rfl (by decide) rfl ?_
      refine ev_if f_X9_stepNumber (t1 := 99) (t2 := 95) rfl rfl rfl (fun h8 => ?_) (fun h8 => ?_)
      · have u9 : z7.toInt ≤ 4 := t_leu h8 (by decide : (4:Int32).toInt ≤ (4:Int))
        refine ev_ic f_X9_stepNumber (nx := 100) (v := 1) rfl (by decide) rfl ?_
        refine ev_putIT f_X9_stepNumber (nx := 103) rfl p_a0.1 rfl rfl rfl (hI.put0 p_a0.1 rfl rfl) (hX.upI (t_inO hI.wf p_a0.1 (t_outO hI.wf p_a0.1 rfl) rfl)) (fun g10 e10 hI hX => ?_)
        exact ev_ret f_X9_stepNumber rfl rfl rfl ⟨_, _, _, rfl, hI, hX, rfl⟩
      · have l11 : 5 ≤ z7.toInt := t_ltl (t_nle h8) (by decide : (4:Int) ≤ (4:Int32).toInt) rfl
        have u12 : (gi2 ar0 4).toInt ≤ 895 := by have := u3; omega
        refine ev_ic f_X9_stepNumber (nx := 96) (v := 4) rfl (by decide) rfl ?_
        refine ev_jmp f_X9_stepNumber (nx := 100) rfl rfl rfl ?_
        refine ev_putIT f_X9_stepNumber (nx := 103) rfl p_a0.1 rfl rfl rfl (hI.put0 p_a0.1 rfl rfl) (hX.upI (t_inO hI.wf p_a0.1 (t_outO hI.wf p_a0.1 rfl) rfl)) (fun g13 e13 hI hX => ?_)
        exact ev_ret f_X9_stepNumber rfl rfl rfl ⟨_, _, _, rfl, hI, hX, rfl⟩
    · have u14 : (gi2 ar0 2).toInt ≤ 899 := t_ltu (t_nle h5) u4 rfl
      have l15 : 1 ≤ (gi2 ar0 1).toInt := t_ltl (t_nle h5) l3 rfl
      refine ev_loc f_X9_stepNumber (nx := 17) rfl rfl rfl rfl ?_
      have e16 := p_a0.2
      refine ev_getR f_X9_stepNumber (nx := 20) rfl p_a0.1 rfl rfl e16 rfl rfl ?_
      refine ev_loc f_X9_stepNumber (nx := 21) rfl rfl rfl rfl ?_
      refine ev_gvI f_X9_stepNumber (nx := 24) (w := (gi2 ar0 2)) rfl p_a0.1 rfl rfl rfl rfl ?_
      refine ev_baldT f_X9_stepNumber (nx := 25) rfl (hI.wf.s rfl) rfl l3 (by decide) u14 (by decide) rfl (fun w17 e17 => ?_)
      refine ev_bp f_X9_stepNumber (nx := 27) (v := 48) rfl (by decide) rfl ?_
      refine ev_if f_X9_stepNumber (t1 := 81) (t2 := 30) rfl rfl rfl (fun h18 => ?_) (fun h18 => ?_)
      · have u19 : w17.toInt ≤ 47 := t_ltu h18 (by decide : (48:Int32).toInt ≤ (48:Int)) rfl
        refine ev_loc f_X9_stepNumber (nx := 82) rfl rfl rfl rfl ?_
        refine ev_loc f_X9_stepNumber (nx := 83) rfl rfl rfl rfl ?_
        refine ev_gvI f_X9_stepNumber (nx := 86) (w := (gi2 ar0 2)) rfl p_a0.1 rfl rfl rfl rfl ?_
        refine ev_loc f_X9_stepNumber (nx := 87) rfl rfl rfl rfl ?_
        refine ev_getI f_X9_stepNumber (nx := 90) rfl p_a0.1 rfl rfl rfl ?_
        obtain ⟨l20, u20⟩ := hI.b p_a0.1 (t_bdK rfl : t_bd 8 4 = some (0, 900))
        refine ev_subR f_X9_stepNumber (nx := 91) (l := (-900)) (u := 899) rfl l3 u14 l20 u20 rfl rfl (by decide) (by decide) rfl (fun z21 e21 l21 u21 => ?_)
        refine ev_ic f_X9_stepNumber (nx := 92) (v := 4) rfl (by decide) rfl ?_
        refine ev_if f_X9_stepNumber (t1 := 99) (t2 := 95) rfl rfl rfl (fun h22 => ?_) (fun h22 => ?_)
        · have u23 : z21.toInt ≤ 4 := t_leu h22 (by decide : (4:Int32).toInt ≤ (4:Int))
          refine ev_ic f_X9_stepNumber (nx := 100) (v := 1) rfl (by decide) rfl ?_
          refine ev_putIT f_X9_stepNumber (nx := 103) rfl p_a0.1 rfl rfl rfl (hI.put0 p_a0.1 rfl rfl) (hX.upI (t_inO hI.wf p_a0.1 (t_outO hI.wf p_a0.1 rfl) rfl)) (fun g24 e24 hI hX => ?_)
          exact ev_ret f_X9_stepNumber rfl rfl rfl ⟨_, _, _, rfl, hI, hX, rfl⟩
        · have l25 : 5 ≤ z21.toInt := t_ltl (t_nle h22) (by decide : (4:Int) ≤ (4:Int32).toInt) rfl
          have u26 : (gi2 ar0 4).toInt ≤ 894 := by have := u14; omega
          refine ev_ic f_X9_stepNumber (nx := 96) (v := 4) rfl (by decide) rfl ?_
          refine ev_jmp f_X9_stepNumber (nx := 100) rfl rfl rfl ?_
          refine ev_putIT f_X9_stepNumber (nx := 103) rfl p_a0.1 rfl rfl rfl (hI.put0 p_a0.1 rfl rfl) (hX.upI (t_inO hI.wf p_a0.1 (t_outO hI.wf p_a0.1 rfl) rfl)) (fun g27 e27 hI hX => ?_)
          exact ev_ret f_X9_stepNumber rfl rfl rfl ⟨_, _, _, rfl, hI, hX, rfl⟩
      · have l28 : 48 ≤ w17.toInt := t_lel (t_nlt h18) (by decide : (48:Int) ≤ (48:Int32).toInt)
        refine ev_loc f_X9_stepNumber (nx := 31) rfl rfl rfl rfl ?_
        refine ev_getR f_X9_stepNumber (nx := 34) (v := .ref 2) rfl p_a0.1 rfl rfl e16 rfl rfl ?_
        refine ev_loc f_X9_stepNumber (nx := 35) rfl rfl rfl rfl ?_
        refine ev_gvI f_X9_stepNumber (nx := 38) (w := (gi2 ar0 2)) rfl p_a0.1 rfl rfl rfl rfl ?_
        refine ev_baldT f_X9_stepNumber (nx := 39) rfl (hI.wf.s rfl) rfl l3 (by decide) u14 (by decide) rfl (fun w29 e29 => ?_)
        refine ev_bp f_X9_stepNumber (nx := 41) (v := 57) rfl (by decide) rfl ?_
        refine ev_if f_X9_stepNumber (t1 := 81) (t2 := 44) rfl rfl rfl (fun h30 => ?_) (fun h30 => ?_)
        · have l31 : 58 ≤ w29.toInt := t_ltl h30 (by decide : (57:Int) ≤ (57:Int32).toInt) rfl
          refine ev_loc f_X9_stepNumber (nx := 82) rfl rfl rfl rfl ?_
          refine ev_loc f_X9_stepNumber (nx := 83) rfl rfl rfl rfl ?_
          refine ev_gvI f_X9_stepNumber (nx := 86) (w := (gi2 ar0 2)) rfl p_a0.1 rfl rfl rfl rfl ?_
          refine ev_loc f_X9_stepNumber (nx := 87) rfl rfl rfl rfl ?_
          refine ev_getI f_X9_stepNumber (nx := 90) rfl p_a0.1 rfl rfl rfl ?_
          obtain ⟨l32, u32⟩ := hI.b p_a0.1 (t_bdK rfl : t_bd 8 4 = some (0, 900))
          refine ev_subR f_X9_stepNumber (nx := 91) (l := (-900)) (u := 899) rfl l3 u14 l32 u32 rfl rfl (by decide) (by decide) rfl (fun z33 e33 l33 u33 => ?_)
          refine ev_ic f_X9_stepNumber (nx := 92) (v := 4) rfl (by decide) rfl ?_
          refine ev_if f_X9_stepNumber (t1 := 99) (t2 := 95) rfl rfl rfl (fun h34 => ?_) (fun h34 => ?_)
          · have u35 : z33.toInt ≤ 4 := t_leu h34 (by decide : (4:Int32).toInt ≤ (4:Int))
            refine ev_ic f_X9_stepNumber (nx := 100) (v := 1) rfl (by decide) rfl ?_
            refine ev_putIT f_X9_stepNumber (nx := 103) rfl p_a0.1 rfl rfl rfl (hI.put0 p_a0.1 rfl rfl) (hX.upI (t_inO hI.wf p_a0.1 (t_outO hI.wf p_a0.1 rfl) rfl)) (fun g36 e36 hI hX => ?_)
            exact ev_ret f_X9_stepNumber rfl rfl rfl ⟨_, _, _, rfl, hI, hX, rfl⟩
          · have l37 : 5 ≤ z33.toInt := t_ltl (t_nle h34) (by decide : (4:Int) ≤ (4:Int32).toInt) rfl
            have u38 : (gi2 ar0 4).toInt ≤ 894 := by have := u14; omega
            refine ev_ic f_X9_stepNumber (nx := 96) (v := 4) rfl (by decide) rfl ?_
            refine ev_jmp f_X9_stepNumber (nx := 100) rfl rfl rfl ?_
            refine ev_putIT f_X9_stepNumber (nx := 103) rfl p_a0.1 rfl rfl rfl (hI.put0 p_a0.1 rfl rfl) (hX.upI (t_inO hI.wf p_a0.1 (t_outO hI.wf p_a0.1 rfl) rfl)) (fun g39 e39 hI hX => ?_)
            exact ev_ret f_X9_stepNumber rfl rfl rfl ⟨_, _, _, rfl, hI, hX, rfl⟩
        · have u40 : w29.toInt ≤ 57 := t_leu (t_nlt h30) (by decide : (57:Int32).toInt ≤ (57:Int))
          refine ev_loc f_X9_stepNumber (nx := 45) rfl rfl rfl rfl ?_
          refine ev_loc f_X9_stepNumber (nx := 46) rfl rfl rfl rfl ?_
          refine ev_getI f_X9_stepNumber (nx := 49) rfl p_a0.1 rfl rfl rfl ?_
          refine ev_bp f_X9_stepNumber (nx := 51) (v := 10) rfl (by decide) rfl ?_
          refine ev_anyI f_X9_stepNumber (nx := 52) rfl rfl rfl rfl (fun z41 => ?_)
          refine ev_loc f_X9_stepNumber (nx := 53) rfl rfl rfl rfl ?_
          refine ev_getR f_X9_stepNumber (nx := 56) (v := .ref 2) rfl p_a0.1 rfl rfl e16 rfl rfl ?_
          refine ev_loc f_X9_stepNumber (nx := 57) rfl rfl rfl rfl ?_
          refine ev_gvI f_X9_stepNumber (nx := 60) (w := (gi2 ar0 2)) rfl p_a0.1 rfl rfl rfl rfl ?_
          refine ev_baldT f_X9_stepNumber (nx := 61) rfl (hI.wf.s rfl) rfl l3 (by decide) u14 (by decide) rfl (fun w42 e42 => ?_)
          refine ev_bp f_X9_stepNumber (nx := 63) (v := 48) rfl (by decide) rfl ?_
          refine ev_anyI f_X9_stepNumber (nx := 64) rfl rfl rfl rfl (fun z43 => ?_)
          refine ev_anyI f_X9_stepNumber (nx := 65) rfl rfl rfl rfl (fun z44 => ?_)
          refine ev_putIT f_X9_stepNumber (nx := 68) rfl p_a0.1 rfl rfl rfl (hI.put0 p_a0.1 rfl rfl) (hX.upI (t_inO hI.wf p_a0.1 (t_outO hI.wf p_a0.1 rfl) rfl)) (fun g45 e45 hI hX => ?_)
          refine ev_loc f_X9_stepNumber (nx := 69) rfl rfl rfl rfl ?_
          refine ev_alu f_X9_stepNumber (nx := 70) rfl rfl rfl rfl ?_
          refine ev_gvI f_X9_stepNumber (nx := 73) (w := (gi2 ar0 2)) rfl p_a0.1 rfl rfl ((by rw [e45]; exact x_up2_off (Or.inr (by decide)) : g45 ar0 2 = gi2 ar0 2).trans rfl) rfl ?_
          refine ev_ic f_X9_stepNumber (nx := 74) (v := 1) rfl (by decide) rfl ?_
          refine ev_addC f_X9_stepNumber (nx := 75) (c := 1) (l := 1) (u := 900) rfl (by decide) l3 u14 rfl rfl (by decide) (by decide) rfl (fun z46 e46 l46 u46 => ?_)
          refine ev_putIT f_X9_stepNumber (nx := 78) rfl p_a0.1 rfl rfl rfl (hI.putB p_a0.1 rfl rfl l46 (by decide) u46 (by decide)) (hX.upI (t_inO hI.wf p_a0.1 (t_outO hI.wf p_a0.1 rfl) rfl)) (fun g47 e47 hI hX => ?_)
          refine ev_jmp f_X9_stepNumber (nx := 5) rfl rfl rfl ?_
          refine ev_sub (lo := [(0, .ref ar0)]) rfl (t_sc rfl t_sn) ?_
          have hq2 := ((by rw [e47]; exact x_up2_at _ _ _ _ : g47 ar0 2 = z46) : g47 ar0 2 = z46)
          exact ih2 _ (by rw [hq2]; omega) g47 gl2 gr2  hI hX p_a0 rfl
  refine ev_sub (lo := [(0, .ref ar0)]) rfl (t_sc rfl t_sn) ?_
  exact L2 _ g1 gl gr  hI hX p_a0 rfl
noncomputable def wl_step : List (Nat × Nat) := [(118, 2), (118, 3), (118, 4), (118, 5), (118, 6), (118, 7), (118, 8), (118, 9)]
theorem c_step {X : x_Ext} {d : Nat} {sh : List (Nat ⊕ (Nat × Nat))} {gi : Nat → Nat → Int32} {gl : Nat → Nat → Int64} {gr : Nat → Nat → Value} (hI : t_I sh gi gr) (ar0 : Nat) (p_a0 : t_Tk sh gr ar0) : x_Me X (d + 2) n_X9_step [.ref ar0] (sh, gi, gl, gr) (t_P wl_step sh gi gl gr t_Rn) := by
  have hX : t_X wl_step sh gi gl gr gi gl gr := t_X.rf
  refine me_i f_X9_step p_a0.1 rfl rfl rfl ?_
  have L1 : ∀ (m1 : Nat) (gi1 : Nat → Nat → Int32) (gl1 : Nat → Nat → Int64) (gr1 : Nat → Nat → Value), t_I sh gi1 gr1 → t_X wl_step sh gi gl gr gi1 gl1 gr1 → t_Tk sh gr1 ar0 → (900 - (gi1 ar0 2).toInt).toNat = m1 → x_Ev X (d + 2) n_X9_step 0 [(0, .ref ar0)] [] (sh, gi1, gl1, gr1) (t_P wl_step sh gi gl gr t_Rn) := by
    intro m1
    induction m1 using Nat.strongRecOn with
    | _ m1 ih1 =>
    intro gi1 gl1 gr1 hI hX p_a0 hm1
    refine ev_loc f_X9_step (nx := 1) rfl rfl rfl rfl ?_
    refine ev_getI f_X9_step (nx := 4) rfl p_a0.1 rfl rfl rfl ?_
    obtain ⟨l2, u2⟩ := hI.b p_a0.1 (t_bdK rfl : t_bd 8 2 = some (0, 900))
    refine ev_loc f_X9_step (nx := 5) rfl rfl rfl rfl ?_
    refine ev_getI f_X9_step (nx := 8) rfl p_a0.1 rfl rfl rfl ?_
    obtain ⟨l3, u3⟩ := hI.b p_a0.1 (t_bdK rfl : t_bd 8 1 = some (0, 900))
    refine ev_if f_X9_step (t1 := 52) (t2 := 11) rfl rfl rfl (fun h4 => ?_) (fun h4 => ?_)
    · refine ev_loc f_X9_step (nx := 53) rfl rfl rfl rfl ?_
      refine ev_loc f_X9_step (nx := 54) rfl rfl rfl rfl ?_
      refine ev_gvI f_X9_step (nx := 57) (w := (gi1 ar0 2)) rfl p_a0.1 rfl rfl rfl rfl ?_
      refine ev_putIT f_X9_step (nx := 60) rfl p_a0.1 rfl rfl rfl (hI.putB p_a0.1 rfl rfl l2 (by decide) u2 (by decide)) (hX.upI (t_inO hI.wf p_a0.1 (t_outO hI.wf p_a0.1 rfl) rfl)) (fun g5 e5 hI hX => ?_)
      refine ev_loc f_X9_step (nx := 61) rfl rfl rfl rfl ?_
      refine ev_alu f_X9_step (nx := 62) rfl rfl rfl rfl ?_
      have hE6 := t_eqf_up (gr := gr1) (j := 7) (v := .null) p_a0.1 rfl
      have hT6 := t_keyw hI (v := .null) p_a0.1 (Or.inl rfl)
      replace p_a0 := p_a0.ext hE6
      refine ev_putRT f_X9_step (nx := 65) rfl p_a0.1 rfl rfl rfl rfl hT6 (hX.upR (t_inO hI.wf p_a0.1 (t_outO hI.wf p_a0.1 rfl) rfl) hE6) (fun g6 e6 hI hX => ?_)
      rw [← e6] at p_a0
      refine ev_loc f_X9_step (nx := 66) rfl rfl rfl rfl ?_
      refine ev_gvI f_X9_step (nx := 69) (w := (gi1 ar0 2)) rfl p_a0.1 rfl rfl ((by rw [e5]; exact x_up2_off (Or.inr (by decide)) : g5 ar0 2 = gi1 ar0 2).trans rfl) rfl ?_
      refine ev_loc f_X9_step (nx := 70) rfl rfl rfl rfl ?_
      refine ev_gvI f_X9_step (nx := 73) (w := (gi1 ar0 1)) rfl p_a0.1 rfl rfl ((by rw [e5]; exact x_up2_off (Or.inr (by decide)) : g5 ar0 1 = gi1 ar0 1).trans rfl) rfl ?_
      refine ev_if f_X9_step (t1 := 82) (t2 := 76) rfl rfl rfl (fun h7 => ?_) (fun h7 => ?_)
      · have u8 : (gi1 ar0 2).toInt ≤ 899 := t_ltu h7 u3 rfl
        have l9 : 1 ≤ (gi1 ar0 1).toInt := t_ltl h7 l2 rfl
        refine ev_loc f_X9_step (nx := 83) rfl rfl rfl rfl ?_
        have e10 := p_a0.2
        refine ev_getR f_X9_step (nx := 86) rfl p_a0.1 rfl rfl e10 rfl rfl ?_
        refine ev_loc f_X9_step (nx := 87) rfl rfl rfl rfl ?_
        refine ev_gvI f_X9_step (nx := 90) (w := (gi1 ar0 2)) rfl p_a0.1 rfl rfl ((by rw [e5]; exact x_up2_off (Or.inr (by decide)) : g5 ar0 2 = gi1 ar0 2).trans rfl) rfl ?_
        refine ev_baldT f_X9_step (nx := 91) rfl (hI.wf.s rfl) rfl l2 (by decide) u8 (by decide) rfl (fun w11 e11 => ?_)
        refine ev_loc f_X9_step (nx := 92) (lo' := [(1, .int w11), (0, .ref ar0)]) rfl rfl rfl rfl ?_
        refine ev_loc f_X9_step (nx := 93) rfl rfl rfl rfl ?_
        refine ev_bp f_X9_step (nx := 95) (v := 97) rfl (by decide) rfl ?_
        refine ev_if f_X9_step (t1 := 111) (t2 := 98) rfl rfl rfl (fun h12 => ?_) (fun h12 => ?_)
        · have u13 : w11.toInt ≤ 96 := t_ltu h12 (by decide : (97:Int32).toInt ≤ (97:Int)) rfl
          refine ev_loc f_X9_step (nx := 112) rfl rfl rfl rfl ?_
          refine ev_bp f_X9_step (nx := 114) (v := 48) rfl (by decide) rfl ?_
          refine ev_if f_X9_step (t1 := 130) (t2 := 117) rfl rfl rfl (fun h14 => ?_) (fun h14 => ?_)
          · have u15 : w11.toInt ≤ 47 := t_ltu h14 (by decide : (48:Int32).toInt ≤ (48:Int)) rfl
            refine ev_loc f_X9_step (nx := 131) rfl rfl rfl rfl ?_
            refine ev_loc f_X9_step (nx := 132) rfl rfl rfl rfl ?_
            refine ev_inS1 f_X9_step (nx := 135) (lo2 := [(0, .int w11)]) rfl rfl rfl rfl f_X9_isSign rfl rfl rfl rfl ?_
            refine ev_loc f_X9_isSign (nx := 1) rfl rfl rfl rfl ?_
            refine ev_bp f_X9_isSign (nx := 3) (v := 59) rfl (by decide) rfl ?_
            refine ev_f f_X9_isSign (t1 := 36) (t2 := 6) rfl rfl rfl (t_neT u15 (by decide : (59:Int) ≤ (59:Int32).toInt) (by decide)) ?_
            refine ev_loc f_X9_isSign (nx := 7) rfl rfl rfl rfl ?_
            refine ev_bp f_X9_isSign (nx := 9) (v := 60) rfl (by decide) rfl ?_
            refine ev_f f_X9_isSign (t1 := 36) (t2 := 12) rfl rfl rfl (t_neT u15 (by decide : (60:Int) ≤ (60:Int32).toInt) (by decide)) ?_
            refine ev_loc f_X9_isSign (nx := 13) rfl rfl rfl rfl ?_
            refine ev_bp f_X9_isSign (nx := 15) (v := 62) rfl (by decide) rfl ?_
            refine ev_f f_X9_isSign (t1 := 36) (t2 := 18) rfl rfl rfl (t_neT u15 (by decide : (62:Int) ≤ (62:Int32).toInt) (by decide)) ?_
            refine ev_loc f_X9_isSign (nx := 19) rfl rfl rfl rfl ?_
            refine ev_bp f_X9_isSign (nx := 21) (v := 61) rfl (by decide) rfl ?_
            refine ev_f f_X9_isSign (t1 := 36) (t2 := 24) rfl rfl rfl (t_neT u15 (by decide : (61:Int) ≤ (61:Int32).toInt) (by decide)) ?_
            refine ev_loc f_X9_isSign (nx := 25) rfl rfl rfl rfl ?_
            refine ev_bp f_X9_isSign (nx := 27) (v := 40) rfl (by decide) rfl ?_
            refine ev_if f_X9_isSign (t1 := 36) (t2 := 30) rfl rfl rfl (fun h16 => ?_) (fun h16 => ?_)
            · have u17 : w11.toInt ≤ 40 := t_equ h16 (by decide : (40:Int32).toInt ≤ (40:Int))
              have l18 : 40 ≤ w11.toInt := t_eql h16 (by decide : (40:Int) ≤ (40:Int32).toInt)
              refine ev_ic f_X9_isSign (nx := 37) (v := 1) rfl (by decide) rfl ?_
              refine ev_jmp f_X9_isSign (nx := 41) rfl rfl rfl ?_
              refine ev_retK1 f_X9_isSign rfl rfl rfl ?_
              refine ev_f f_X9_step (t1 := 142) (t2 := 138) rfl rfl rfl (by decide) ?_
              refine ev_ic f_X9_step (nx := 139) (v := 2) rfl (by decide) rfl ?_
              refine ev_jmp f_X9_step (nx := 143) rfl rfl rfl ?_
              refine ev_putIT f_X9_step (nx := 146) rfl p_a0.1 rfl rfl rfl (hI.put0 p_a0.1 rfl rfl) (hX.upI (t_inO hI.wf p_a0.1 (t_outO hI.wf p_a0.1 rfl) rfl)) (fun g19 e19 hI hX => ?_)
              refine ev_loc f_X9_step (nx := 147) rfl rfl rfl rfl ?_
              refine ev_loc f_X9_step (nx := 148) rfl rfl rfl rfl ?_
              refine ev_putIT f_X9_step (nx := 151) rfl p_a0.1 rfl rfl rfl (hI.put0 p_a0.1 rfl rfl) (hX.upI (t_inO hI.wf p_a0.1 (t_outO hI.wf p_a0.1 rfl) rfl)) (fun g20 e20 hI hX => ?_)
              refine ev_loc f_X9_step (nx := 152) rfl rfl rfl rfl ?_
              refine ev_alu f_X9_step (nx := 153) rfl rfl rfl rfl ?_
              refine ev_gvI f_X9_step (nx := 156) (w := (gi1 ar0 2)) rfl p_a0.1 rfl rfl ((by rw [e20]; exact x_up2_off (Or.inr (by decide)) : g20 ar0 2 = g19 ar0 2).trans ((by rw [e19]; exact x_up2_off (Or.inr (by decide)) : g19 ar0 2 = g5 ar0 2).trans ((by rw [e5]; exact x_up2_off (Or.inr (by decide)) : g5 ar0 2 = gi1 ar0 2).trans rfl))) rfl ?_
              refine ev_ic f_X9_step (nx := 157) (v := 1) rfl (by decide) rfl ?_
              refine ev_addC f_X9_step (nx := 158) (c := 1) (l := 1) (u := 900) rfl (by decide) l2 u8 rfl rfl (by decide) (by decide) rfl (fun z21 e21 l21 u21 => ?_)
              refine ev_putIT f_X9_step (nx := 161) rfl p_a0.1 rfl rfl rfl (hI.putB p_a0.1 rfl rfl l21 (by decide) u21 (by decide)) (hX.upI (t_inO hI.wf p_a0.1 (t_outO hI.wf p_a0.1 rfl) rfl)) (fun g22 e22 hI hX => ?_)
              exact ev_ret f_X9_step rfl rfl rfl ⟨_, _, _, rfl, hI, hX, rfl⟩
            · refine ev_loc f_X9_isSign (nx := 31) rfl rfl rfl rfl ?_
              refine ev_bp f_X9_isSign (nx := 33) (v := 41) rfl (by decide) rfl ?_
              refine ev_if f_X9_isSign (t1 := 36) (t2 := 40) rfl rfl rfl (fun h23 => ?_) (fun h23 => ?_)
              · have u24 : w11.toInt ≤ 41 := t_equ h23 (by decide : (41:Int32).toInt ≤ (41:Int))
                have l25 : 41 ≤ w11.toInt := t_eql h23 (by decide : (41:Int) ≤ (41:Int32).toInt)
                refine ev_ic f_X9_isSign (nx := 37) (v := 1) rfl (by decide) rfl ?_
                refine ev_jmp f_X9_isSign (nx := 41) rfl rfl rfl ?_
                refine ev_retK1 f_X9_isSign rfl rfl rfl ?_
                refine ev_f f_X9_step (t1 := 142) (t2 := 138) rfl rfl rfl (by decide) ?_
                refine ev_ic f_X9_step (nx := 139) (v := 2) rfl (by decide) rfl ?_
                refine ev_jmp f_X9_step (nx := 143) rfl rfl rfl ?_
                refine ev_putIT f_X9_step (nx := 146) rfl p_a0.1 rfl rfl rfl (hI.put0 p_a0.1 rfl rfl) (hX.upI (t_inO hI.wf p_a0.1 (t_outO hI.wf p_a0.1 rfl) rfl)) (fun g26 e26 hI hX => ?_)
                refine ev_loc f_X9_step (nx := 147) rfl rfl rfl rfl ?_
                refine ev_loc f_X9_step (nx := 148) rfl rfl rfl rfl ?_
                refine ev_putIT f_X9_step (nx := 151) rfl p_a0.1 rfl rfl rfl (hI.put0 p_a0.1 rfl rfl) (hX.upI (t_inO hI.wf p_a0.1 (t_outO hI.wf p_a0.1 rfl) rfl)) (fun g27 e27 hI hX => ?_)
                refine ev_loc f_X9_step (nx := 152) rfl rfl rfl rfl ?_
                refine ev_alu f_X9_step (nx := 153) rfl rfl rfl rfl ?_
                refine ev_gvI f_X9_step (nx := 156) (w := (gi1 ar0 2)) rfl p_a0.1 rfl rfl ((by rw [e27]; exact x_up2_off (Or.inr (by decide)) : g27 ar0 2 = g26 ar0 2).trans ((by rw [e26]; exact x_up2_off (Or.inr (by decide)) : g26 ar0 2 = g5 ar0 2).trans ((by rw [e5]; exact x_up2_off (Or.inr (by decide)) : g5 ar0 2 = gi1 ar0 2).trans rfl))) rfl ?_
                refine ev_ic f_X9_step (nx := 157) (v := 1) rfl (by decide) rfl ?_
                refine ev_addC f_X9_step (nx := 158) (c := 1) (l := 1) (u := 900) rfl (by decide) l2 u8 rfl rfl (by decide) (by decide) rfl (fun z28 e28 l28 u28 => ?_)
                refine ev_putIT f_X9_step (nx := 161) rfl p_a0.1 rfl rfl rfl (hI.putB p_a0.1 rfl rfl l28 (by decide) u28 (by decide)) (hX.upI (t_inO hI.wf p_a0.1 (t_outO hI.wf p_a0.1 rfl) rfl)) (fun g29 e29 hI hX => ?_)
                exact ev_ret f_X9_step rfl rfl rfl ⟨_, _, _, rfl, hI, hX, rfl⟩
              · refine ev_ic f_X9_isSign (nx := 41) (v := 0) rfl (by decide) rfl ?_
                refine ev_retK1 f_X9_isSign rfl rfl rfl ?_
                refine ev_t f_X9_step (t1 := 142) (t2 := 138) rfl rfl rfl (by decide) ?_
                refine ev_ic f_X9_step (nx := 143) (v := 4) rfl (by decide) rfl ?_
                refine ev_putIT f_X9_step (nx := 146) rfl p_a0.1 rfl rfl rfl (hI.put0 p_a0.1 rfl rfl) (hX.upI (t_inO hI.wf p_a0.1 (t_outO hI.wf p_a0.1 rfl) rfl)) (fun g30 e30 hI hX => ?_)
                refine ev_loc f_X9_step (nx := 147) rfl rfl rfl rfl ?_
                refine ev_loc f_X9_step (nx := 148) rfl rfl rfl rfl ?_
                refine ev_putIT f_X9_step (nx := 151) rfl p_a0.1 rfl rfl rfl (hI.put0 p_a0.1 rfl rfl) (hX.upI (t_inO hI.wf p_a0.1 (t_outO hI.wf p_a0.1 rfl) rfl)) (fun g31 e31 hI hX => ?_)
                refine ev_loc f_X9_step (nx := 152) rfl rfl rfl rfl ?_
                refine ev_alu f_X9_step (nx := 153) rfl rfl rfl rfl ?_
                refine ev_gvI f_X9_step (nx := 156) (w := (gi1 ar0 2)) rfl p_a0.1 rfl rfl ((by rw [e31]; exact x_up2_off (Or.inr (by decide)) : g31 ar0 2 = g30 ar0 2).trans ((by rw [e30]; exact x_up2_off (Or.inr (by decide)) : g30 ar0 2 = g5 ar0 2).trans ((by rw [e5]; exact x_up2_off (Or.inr (by decide)) : g5 ar0 2 = gi1 ar0 2).trans rfl))) rfl ?_
                refine ev_ic f_X9_step (nx := 157) (v := 1) rfl (by decide) rfl ?_
                refine ev_addC f_X9_step (nx := 158) (c := 1) (l := 1) (u := 900) rfl (by decide) l2 u8 rfl rfl (by decide) (by decide) rfl (fun z32 e32 l32 u32 => ?_)
                refine ev_putIT f_X9_step (nx := 161) rfl p_a0.1 rfl rfl rfl (hI.putB p_a0.1 rfl rfl l32 (by decide) u32 (by decide)) (hX.upI (t_inO hI.wf p_a0.1 (t_outO hI.wf p_a0.1 rfl) rfl)) (fun g33 e33 hI hX => ?_)
                exact ev_ret f_X9_step rfl rfl rfl ⟨_, _, _, rfl, hI, hX, rfl⟩
          · have l34 : 48 ≤ w11.toInt := t_lel (t_nlt h14) (by decide : (48:Int) ≤ (48:Int32).toInt)
            refine ev_loc f_X9_step (nx := 118) rfl rfl rfl rfl ?_
            refine ev_bp f_X9_step (nx := 120) (v := 57) rfl (by decide) rfl ?_
            refine ev_if f_X9_step (t1 := 130) (t2 := 123) rfl rfl rfl (fun h35 => ?_) (fun h35 => ?_)
            · have l36 : 58 ≤ w11.toInt := t_ltl h35 (by decide : (57:Int) ≤ (57:Int32).toInt) rfl
              refine ev_loc f_X9_step (nx := 131) rfl rfl rfl rfl ?_
              refine ev_loc f_X9_step (nx := 132) rfl rfl rfl rfl ?_
              refine ev_inS1 f_X9_step (nx := 135) (lo2 := [(0, .int w11)]) rfl rfl rfl rfl f_X9_isSign rfl rfl rfl rfl ?_
              refine ev_loc f_X9_isSign (nx := 1) rfl rfl rfl rfl ?_
              refine ev_bp f_X9_isSign (nx := 3) (v := 59) rfl (by decide) rfl ?_
              refine ev_if f_X9_isSign (t1 := 36) (t2 := 6) rfl rfl rfl (fun h37 => ?_) (fun h37 => ?_)
              · have u38 : w11.toInt ≤ 59 := t_equ h37 (by decide : (59:Int32).toInt ≤ (59:Int))
                have l39 : 59 ≤ w11.toInt := t_eql h37 (by decide : (59:Int) ≤ (59:Int32).toInt)
                refine ev_ic f_X9_isSign (nx := 37) (v := 1) rfl (by decide) rfl ?_
                refine ev_jmp f_X9_isSign (nx := 41) rfl rfl rfl ?_
                refine ev_retK1 f_X9_isSign rfl rfl rfl ?_
                refine ev_f f_X9_step (t1 := 142) (t2 := 138) rfl rfl rfl (by decide) ?_
                refine ev_ic f_X9_step (nx := 139) (v := 2) rfl (by decide) rfl ?_
                refine ev_jmp f_X9_step (nx := 143) rfl rfl rfl ?_
                refine ev_putIT f_X9_step (nx := 146) rfl p_a0.1 rfl rfl rfl (hI.put0 p_a0.1 rfl rfl) (hX.upI (t_inO hI.wf p_a0.1 (t_outO hI.wf p_a0.1 rfl) rfl)) (fun g40 e40 hI hX => ?_)
                refine ev_loc f_X9_step (nx := 147) rfl rfl rfl rfl ?_
                refine ev_loc f_X9_step (nx := 148) rfl rfl rfl rfl ?_
                refine ev_putIT f_X9_step (nx := 151) rfl p_a0.1 rfl rfl rfl (hI.put0 p_a0.1 rfl rfl) (hX.upI (t_inO hI.wf p_a0.1 (t_outO hI.wf p_a0.1 rfl) rfl)) (fun g41 e41 hI hX => ?_)
                refine ev_loc f_X9_step (nx := 152) rfl rfl rfl rfl ?_
                refine ev_alu f_X9_step (nx := 153) rfl rfl rfl rfl ?_
                refine ev_gvI f_X9_step (nx := 156) (w := (gi1 ar0 2)) rfl p_a0.1 rfl rfl ((by rw [e41]; exact x_up2_off (Or.inr (by decide)) : g41 ar0 2 = g40 ar0 2).trans ((by rw [e40]; exact x_up2_off (Or.inr (by decide)) : g40 ar0 2 = g5 ar0 2).trans ((by rw [e5]; exact x_up2_off (Or.inr (by decide)) : g5 ar0 2 = gi1 ar0 2).trans rfl))) rfl ?_
                refine ev_ic f_X9_step (nx := 157) (v := 1) rfl (by decide) rfl ?_
                refine ev_addC f_X9_step (nx := 158) (c := 1) (l := 1) (u := 900) rfl (by decide) l2 u8 rfl rfl (by decide) (by decide) rfl (fun z42 e42 l42 u42 => ?_)
                refine ev_putIT f_X9_step (nx := 161) rfl p_a0.1 rfl rfl rfl (hI.putB p_a0.1 rfl rfl l42 (by decide) u42 (by decide)) (hX.upI (t_inO hI.wf p_a0.1 (t_outO hI.wf p_a0.1 rfl) rfl)) (fun g43 e43 hI hX => ?_)
                exact ev_ret f_X9_step rfl rfl rfl ⟨_, _, _, rfl, hI, hX, rfl⟩
              · refine ev_loc f_X9_isSign (nx := 7) rfl rfl rfl rfl ?_
                refine ev_bp f_X9_isSign (nx := 9) (v := 60) rfl (by decide) rfl ?_
                refine ev_if f_X9_isSign (t1 := 36) (t2 := 12) rfl rfl rfl (fun h44 => ?_) (fun h44 => ?_)
                · have u45 : w11.toInt ≤ 60 := t_equ h44 (by decide : (60:Int32).toInt ≤ (60:Int))
                  have l46 : 60 ≤ w11.toInt := t_eql h44 (by decide : (60:Int) ≤ (60:Int32).toInt)
                  refine ev_ic f_X9_isSign (nx := 37) (v := 1) rfl (by decide) rfl ?_
                  refine ev_jmp f_X9_isSign (nx := 41) rfl rfl rfl ?_
                  refine ev_retK1 f_X9_isSign rfl rfl rfl ?_
                  refine ev_f f_X9_step (t1 := 142) (t2 := 138) rfl rfl rfl (by decide) ?_
                  refine ev_ic f_X9_step (nx := 139) (v := 2) rfl (by decide) rfl ?_
                  refine ev_jmp f_X9_step (nx := 143) rfl rfl rfl ?_
                  refine ev_putIT f_X9_step (nx := 146) rfl p_a0.1 rfl rfl rfl (hI.put0 p_a0.1 rfl rfl) (hX.upI (t_inO hI.wf p_a0.1 (t_outO hI.wf p_a0.1 rfl) rfl)) (fun g47 e47 hI hX => ?_)
                  refine ev_loc f_X9_step (nx := 147) rfl rfl rfl rfl ?_
                  refine ev_loc f_X9_step (nx := 148) rfl rfl rfl rfl ?_
                  refine ev_putIT f_X9_step (nx := 151) rfl p_a0.1 rfl rfl rfl (hI.put0 p_a0.1 rfl rfl) (hX.upI (t_inO hI.wf p_a0.1 (t_outO hI.wf p_a0.1 rfl) rfl)) (fun g48 e48 hI hX => ?_)
                  refine ev_loc f_X9_step (nx := 152) rfl rfl rfl rfl ?_
                  refine ev_alu f_X9_step (nx := 153) rfl rfl rfl rfl ?_
                  refine ev_gvI f_X9_step (nx := 156) (w := (gi1 ar0 2)) rfl p_a0.1 rfl rfl ((by rw [e48]; exact x_up2_off (Or.inr (by decide)) : g48 ar0 2 = g47 ar0 2).trans ((by rw [e47]; exact x_up2_off (Or.inr (by decide)) : g47 ar0 2 = g5 ar0 2).trans ((by rw [e5]; exact x_up2_off (Or.inr (by decide)) : g5 ar0 2 = gi1 ar0 2).trans rfl))) rfl ?_
                  refine ev_ic f_X9_step (nx := 157) (v := 1) rfl (by decide) rfl ?_
                  refine ev_addC f_X9_step (nx := 158) (c := 1) (l := 1) (u := 900) rfl (by decide) l2 u8 rfl rfl (by decide) (by decide) rfl (fun z49 e49 l49 u49 => ?_)
                  refine ev_putIT f_X9_step (nx := 161) rfl p_a0.1 rfl rfl rfl (hI.putB p_a0.1 rfl rfl l49 (by decide) u49 (by decide)) (hX.upI (t_inO hI.wf p_a0.1 (t_outO hI.wf p_a0.1 rfl) rfl)) (fun g50 e50 hI hX => ?_)
                  exact ev_ret f_X9_step rfl rfl rfl ⟨_, _, _, rfl, hI, hX, rfl⟩
                · refine ev_loc f_X9_isSign (nx := 13) rfl rfl rfl rfl ?_
                  refine ev_bp f_X9_isSign (nx := 15) (v := 62) rfl (by decide) rfl ?_
                  refine ev_if f_X9_isSign (t1 := 36) (t2 := 18) rfl rfl rfl (fun h51 => ?_) (fun h51 => ?_)
                  · have u52 : w11.toInt ≤ 62 := t_equ h51 (by decide : (62:Int32).toInt ≤ (62:Int))
                    have l53 : 62 ≤ w11.toInt := t_eql h51 (by decide : (62:Int) ≤ (62:Int32).toInt)
                    refine ev_ic f_X9_isSign (nx := 37) (v := 1) rfl (by decide) rfl ?_
                    refine ev_jmp f_X9_isSign (nx := 41) rfl rfl rfl ?_
                    refine ev_retK1 f_X9_isSign rfl rfl rfl ?_
                    refine ev_f f_X9_step (t1 := 142) (t2 := 138) rfl rfl rfl (by decide) ?_
                    refine ev_ic f_X9_step (nx := 139) (v := 2) rfl (by decide) rfl ?_
                    refine ev_jmp f_X9_step (nx := 143) rfl rfl rfl ?_
                    refine ev_putIT f_X9_step (nx := 146) rfl p_a0.1 rfl rfl rfl (hI.put0 p_a0.1 rfl rfl) (hX.upI (t_inO hI.wf p_a0.1 (t_outO hI.wf p_a0.1 rfl) rfl)) (fun g54 e54 hI hX => ?_)
                    refine ev_loc f_X9_step (nx := 147) rfl rfl rfl rfl ?_
                    refine ev_loc f_X9_step (nx := 148) rfl rfl rfl rfl ?_
                    refine ev_putIT f_X9_step (nx := 151) rfl p_a0.1 rfl rfl rfl (hI.put0 p_a0.1 rfl rfl) (hX.upI (t_inO hI.wf p_a0.1 (t_outO hI.wf p_a0.1 rfl) rfl)) (fun g55 e55 hI hX => ?_)
                    refine ev_loc f_X9_step (nx := 152) rfl rfl rfl rfl ?_
                    refine ev_alu f_X9_step (nx := 153) rfl rfl rfl rfl ?_
                    refine ev_gvI f_X9_step (nx := 156) (w := (gi1 ar0 2)) rfl p_a0.1 rfl rfl ((by rw [e55]; exact x_up2_off (Or.inr (by decide)) : g55 ar0 2 = g54 ar0 2).trans ((by rw [e54]; exact x_up2_off (Or.inr (by decide)) : g54 ar0 2 = g5 ar0 2).trans ((by rw [e5]; exact x_up2_off (Or.inr (by decide)) : g5 ar0 2 = gi1 ar0 2).trans rfl))) rfl ?_
                    refine ev_ic f_X9_step (nx := 157) (v := 1) rfl (by decide) rfl ?_
                    refine ev_addC f_X9_step (nx := 158) (c := 1) (l := 1) (u := 900) rfl (by decide) l2 u8 rfl rfl (by decide) (by decide) rfl (fun z56 e56 l56 u56 => ?_)
                    refine ev_putIT f_X9_step (nx := 161) rfl p_a0.1 rfl rfl rfl (hI.putB p_a0.1 rfl rfl l56 (by decide) u56 (by decide)) (hX.upI (t_inO hI.wf p_a0.1 (t_outO hI.wf p_a0.1 rfl) rfl)) (fun g57 e57 hI hX => ?_)
                    exact ev_ret f_X9_step rfl rfl rfl ⟨_, _, _, rfl, hI, hX, rfl⟩
                  · refine ev_loc f_X9_isSign (nx := 19) rfl rfl rfl rfl ?_
                    refine ev_bp f_X9_isSign (nx := 21) (v := 61) rfl (by decide) rfl ?_
                    refine ev_if f_X9_isSign (t1 := 36) (t2 := 24) rfl rfl rfl (fun h58 => ?_) (fun h58 => ?_)
                    · have u59 : w11.toInt ≤ 61 := t_equ h58 (by decide : (61:Int32).toInt ≤ (61:Int))
                      have l60 : 61 ≤ w11.toInt := t_eql h58 (by decide : (61:Int) ≤ (61:Int32).toInt)
                      refine ev_ic f_X9_isSign (nx := 37) (v := 1) rfl (by decide) rfl ?_
                      refine ev_jmp f_X9_isSign (nx := 41) rfl rfl rfl ?_
                      refine ev_retK1 f_X9_isSign rfl rfl rfl ?_
                      refine ev_f f_X9_step (t1 := 142) (t2 := 138) rfl rfl rfl (by decide) ?_
                      refine ev_ic f_X9_step (nx := 139) (v := 2) rfl (by decide) rfl ?_
                      refine ev_jmp f_X9_step (nx := 143) rfl rfl rfl ?_
                      refine ev_putIT f_X9_step (nx := 146) rfl p_a0.1 rfl rfl rfl (hI.put0 p_a0.1 rfl rfl) (hX.upI (t_inO hI.wf p_a0.1 (t_outO hI.wf p_a0.1 rfl) rfl)) (fun g61 e61 hI hX => ?_)
                      refine ev_loc f_X9_step (nx := 147) rfl rfl rfl rfl ?_
                      refine ev_loc f_X9_step (nx := 148) rfl rfl rfl rfl ?_
                      refine ev_putIT f_X9_step (nx := 151) rfl p_a0.1 rfl rfl rfl (hI.put0 p_a0.1 rfl rfl) (hX.upI (t_inO hI.wf p_a0.1 (t_outO hI.wf p_a0.1 rfl) rfl)) (fun g62 e62 hI hX => ?_)
                      refine ev_loc f_X9_step (nx := 152) rfl rfl rfl rfl ?_
                      refine ev_alu f_X9_step (nx := 153) rfl rfl rfl rfl ?_
                      refine ev_gvI f_X9_step (nx := 156) (w := (gi1 ar0 2)) rfl p_a0.1 rfl rfl ((by rw [e62]; exact x_up2_off (Or.inr (by decide)) : g62 ar0 2 = g61 ar0 2).trans ((by rw [e61]; exact x_up2_off (Or.inr (by decide)) : g61 ar0 2 = g5 ar0 2).trans ((by rw [e5]; exact x_up2_off (Or.inr (by decide)) : g5 ar0 2 = gi1 ar0 2).trans rfl))) rfl ?_
                      refine ev_ic f_X9_step (nx := 157) (v := 1) rfl (by decide) rfl ?_
                      refine ev_addC f_X9_step (nx := 158) (c := 1) (l := 1) (u := 900) rfl (by decide) l2 u8 rfl rfl (by decide) (by decide) rfl (fun z63 e63 l63 u63 => ?_)
                      refine ev_putIT f_X9_step (nx := 161) rfl p_a0.1 rfl rfl rfl (hI.putB p_a0.1 rfl rfl l63 (by decide) u63 (by decide)) (hX.upI (t_inO hI.wf p_a0.1 (t_outO hI.wf p_a0.1 rfl) rfl)) (fun g64 e64 hI hX => ?_)
                      exact ev_ret f_X9_step rfl rfl rfl ⟨_, _, _, rfl, hI, hX, rfl⟩
                    · refine ev_loc f_X9_isSign (nx := 25) rfl rfl rfl rfl ?_
                      refine ev_bp f_X9_isSign (nx := 27) (v := 40) rfl (by decide) rfl ?_
                      refine ev_f f_X9_isSign (t1 := 36) (t2 := 30) rfl rfl rfl (t_neT' (by decide : (40:Int32).toInt ≤ (40:Int)) l36 (by decide)) ?_
                      refine ev_loc f_X9_isSign (nx := 31) rfl rfl rfl rfl ?_
                      refine ev_bp f_X9_isSign (nx := 33) (v := 41) rfl (by decide) rfl ?_
                      refine ev_f f_X9_isSign (t1 := 36) (t2 := 40) rfl rfl rfl (t_neT' (by decide : (41:Int32).toInt ≤ (41:Int)) l36 (by decide)) ?_
                      refine ev_ic f_X9_isSign (nx := 41) (v := 0) rfl (by decide) rfl ?_
                      refine ev_retK1 f_X9_isSign rfl rfl rfl ?_
                      refine ev_t f_X9_step (t1 := 142) (t2 := 138) rfl rfl rfl (by decide) ?_
                      refine ev_ic f_X9_step (nx := 143) (v := 4) rfl (by decide) rfl ?_
                      refine ev_putIT f_X9_step (nx := 146) rfl p_a0.1 rfl rfl rfl (hI.put0 p_a0.1 rfl rfl) (hX.upI (t_inO hI.wf p_a0.1 (t_outO hI.wf p_a0.1 rfl) rfl)) (fun g65 e65 hI hX => ?_)
                      refine ev_loc f_X9_step (nx := 147) rfl rfl rfl rfl ?_
                      refine ev_loc f_X9_step (nx := 148) rfl rfl rfl rfl ?_
                      refine ev_putIT f_X9_step (nx := 151) rfl p_a0.1 rfl rfl rfl (hI.put0 p_a0.1 rfl rfl) (hX.upI (t_inO hI.wf p_a0.1 (t_outO hI.wf p_a0.1 rfl) rfl)) (fun g66 e66 hI hX => ?_)
                      refine ev_loc f_X9_step (nx := 152) rfl rfl rfl rfl ?_
                      refine ev_alu f_X9_step (nx := 153) rfl rfl rfl rfl ?_
                      refine ev_gvI f_X9_step (nx := 156) (w := (gi1 ar0 2)) rfl p_a0.1 rfl rfl ((by rw [e66]; exact x_up2_off (Or.inr (by decide)) : g66 ar0 2 = g65 ar0 2).trans ((by rw [e65]; exact x_up2_off (Or.inr (by decide)) : g65 ar0 2 = g5 ar0 2).trans ((by rw [e5]; exact x_up2_off (Or.inr (by decide)) : g5 ar0 2 = gi1 ar0 2).trans rfl))) rfl ?_
                      refine ev_ic f_X9_step (nx := 157) (v := 1) rfl (by decide) rfl ?_
                      refine ev_addC f_X9_step (nx := 158) (c := 1) (l := 1) (u := 900) rfl (by decide) l2 u8 rfl rfl (by decide) (by decide) rfl (fun z67 e67 l67 u67 => ?_)
                      refine ev_putIT f_X9_step (nx := 161) rfl p_a0.1 rfl rfl rfl (hI.putB p_a0.1 rfl rfl l67 (by decide) u67 (by decide)) (hX.upI (t_inO hI.wf p_a0.1 (t_outO hI.wf p_a0.1 rfl) rfl)) (fun g68 e68 hI hX => ?_)
                      exact ev_ret f_X9_step rfl rfl rfl ⟨_, _, _, rfl, hI, hX, rfl⟩
            · have u69 : w11.toInt ≤ 57 := t_leu (t_nlt h35) (by decide : (57:Int32).toInt ≤ (57:Int))
              refine ev_loc f_X9_step (nx := 124) rfl rfl rfl rfl ?_
              refine ev_c0 f_X9_step (nx := 127) (r := []) rfl rfl rfl rfl rfl rfl rfl (c_stepNumber hI (ar0) p_a0) rfl hX rfl (fun gi70 gl70 gr70 hI hX hC70 => ?_)
              replace p_a0 := p_a0.ext hC70.2
              refine ev_jmp f_X9_step (nx := 161) rfl rfl rfl ?_
              exact ev_ret f_X9_step rfl rfl rfl ⟨_, _, _, rfl, hI, hX, rfl⟩
        · have l71 : 97 ≤ w11.toInt := t_lel (t_nlt h12) (by decide : (97:Int) ≤ (97:Int32).toInt)
          refine ev_loc f_X9_step (nx := 99) rfl rfl rfl rfl ?_
          refine ev_bp f_X9_step (nx := 101) (v := 122) rfl (by decide) rfl ?_
          refine ev_if f_X9_step (t1 := 111) (t2 := 104) rfl rfl rfl (fun h72 => ?_) (fun h72 => ?_)
          · have l73 : 123 ≤ w11.toInt := t_ltl h72 (by decide : (122:Int) ≤ (122:Int32).toInt) rfl
            refine ev_loc f_X9_step (nx := 112) rfl rfl rfl rfl ?_
            refine ev_bp f_X9_step (nx := 114) (v := 48) rfl (by decide) rfl ?_
            refine ev_f f_X9_step (t1 := 130) (t2 := 117) rfl rfl rfl (t_ltF (by decide : (48:Int32).toInt ≤ (48:Int)) l73 (by decide)) ?_
            refine ev_loc f_X9_step (nx := 118) rfl rfl rfl rfl ?_
            refine ev_bp f_X9_step (nx := 120) (v := 57) rfl (by decide) rfl ?_
            refine ev_t f_X9_step (t1 := 130) (t2 := 123) rfl rfl rfl (t_ltT (by decide : (57:Int32).toInt ≤ (57:Int)) l73 (by decide)) ?_
            refine ev_loc f_X9_step (nx := 131) rfl rfl rfl rfl ?_
            refine ev_loc f_X9_step (nx := 132) rfl rfl rfl rfl ?_
            refine ev_inS1 f_X9_step (nx := 135) (lo2 := [(0, .int w11)]) rfl rfl rfl rfl f_X9_isSign rfl rfl rfl rfl ?_
            refine ev_loc f_X9_isSign (nx := 1) rfl rfl rfl rfl ?_
            refine ev_bp f_X9_isSign (nx := 3) (v := 59) rfl (by decide) rfl ?_
            refine ev_f f_X9_isSign (t1 := 36) (t2 := 6) rfl rfl rfl (t_neT' (by decide : (59:Int32).toInt ≤ (59:Int)) l73 (by decide)) ?_
            refine ev_loc f_X9_isSign (nx := 7) rfl rfl rfl rfl ?_
            refine ev_bp f_X9_isSign (nx := 9) (v := 60) rfl (by decide) rfl ?_
            refine ev_f f_X9_isSign (t1 := 36) (t2 := 12) rfl rfl rfl (t_neT' (by decide : (60:Int32).toInt ≤ (60:Int)) l73 (by decide)) ?_
            refine ev_loc f_X9_isSign (nx := 13) rfl rfl rfl rfl ?_
            refine ev_bp f_X9_isSign (nx := 15) (v := 62) rfl (by decide) rfl ?_
            refine ev_f f_X9_isSign (t1 := 36) (t2 := 18) rfl rfl rfl (t_neT' (by decide : (62:Int32).toInt ≤ (62:Int)) l73 (by decide)) ?_
            refine ev_loc f_X9_isSign (nx := 19) rfl rfl rfl rfl ?_
            refine ev_bp f_X9_isSign (nx := 21) (v := 61) rfl (by decide) rfl ?_
            refine ev_f f_X9_isSign (t1 := 36) (t2 := 24) rfl rfl rfl (t_neT' (by decide : (61:Int32).toInt ≤ (61:Int)) l73 (by decide)) ?_
            refine ev_loc f_X9_isSign (nx := 25) rfl rfl rfl rfl ?_
            refine ev_bp f_X9_isSign (nx := 27) (v := 40) rfl (by decide) rfl ?_
            refine ev_f f_X9_isSign (t1 := 36) (t2 := 30) rfl rfl rfl (t_neT' (by decide : (40:Int32).toInt ≤ (40:Int)) l73 (by decide)) ?_
            refine ev_loc f_X9_isSign (nx := 31) rfl rfl rfl rfl ?_
            refine ev_bp f_X9_isSign (nx := 33) (v := 41) rfl (by decide) rfl ?_
            refine ev_f f_X9_isSign (t1 := 36) (t2 := 40) rfl rfl rfl (t_neT' (by decide : (41:Int32).toInt ≤ (41:Int)) l73 (by decide)) ?_
            refine ev_ic f_X9_isSign (nx := 41) (v := 0) rfl (by decide) rfl ?_
            refine ev_retK1 f_X9_isSign rfl rfl rfl ?_
            refine ev_t f_X9_step (t1 := 142) (t2 := 138) rfl rfl rfl (by decide) ?_
            refine ev_ic f_X9_step (nx := 143) (v := 4) rfl (by decide) rfl ?_
            refine ev_putIT f_X9_step (nx := 146) rfl p_a0.1 rfl rfl rfl (hI.put0 p_a0.1 rfl rfl) (hX.upI (t_inO hI.wf p_a0.1 (t_outO hI.wf p_a0.1 rfl) rfl)) (fun g74 e74 hI hX => ?_)
            refine ev_loc f_X9_step (nx := 147) rfl rfl rfl rfl ?_
            refine ev_loc f_X9_step (nx := 148) rfl rfl rfl rfl ?_
            refine ev_putIT f_X9_step (nx := 151) rfl p_a0.1 rfl rfl rfl (hI.put0 p_a0.1 rfl rfl) (hX.upI (t_inO hI.wf p_a0.1 (t_outO hI.wf p_a0.1 rfl) rfl)) (fun g75 e75 hI hX => ?_)
            refine ev_loc f_X9_step (nx := 152) rfl rfl rfl rfl ?_
            refine ev_alu f_X9_step (nx := 153) rfl rfl rfl rfl ?_
            refine ev_gvI f_X9_step (nx := 156) (w := (gi1 ar0 2)) rfl p_a0.1 rfl rfl ((by rw [e75]; exact x_up2_off (Or.inr (by decide)) : g75 ar0 2 = g74 ar0 2).trans ((by rw [e74]; exact x_up2_off (Or.inr (by decide)) : g74 ar0 2 = g5 ar0 2).trans ((by rw [e5]; exact x_up2_off (Or.inr (by decide)) : g5 ar0 2 = gi1 ar0 2).trans rfl))) rfl ?_
            refine ev_ic f_X9_step (nx := 157) (v := 1) rfl (by decide) rfl ?_
            refine ev_addC f_X9_step (nx := 158) (c := 1) (l := 1) (u := 900) rfl (by decide) l2 u8 rfl rfl (by decide) (by decide) rfl (fun z76 e76 l76 u76 => ?_)
            refine ev_putIT f_X9_step (nx := 161) rfl p_a0.1 rfl rfl rfl (hI.putB p_a0.1 rfl rfl l76 (by decide) u76 (by decide)) (hX.upI (t_inO hI.wf p_a0.1 (t_outO hI.wf p_a0.1 rfl) rfl)) (fun g77 e77 hI hX => ?_)
            exact ev_ret f_X9_step rfl rfl rfl ⟨_, _, _, rfl, hI, hX, rfl⟩
          · have u78 : w11.toInt ≤ 122 := t_leu (t_nlt h72) (by decide : (122:Int32).toInt ≤ (122:Int))
            refine ev_loc f_X9_step (nx := 105) rfl rfl rfl rfl ?_
            refine ev_c0 f_X9_step (nx := 108) (r := []) rfl rfl rfl rfl rfl rfl rfl (c_stepWord hI (ar0) p_a0) rfl hX rfl (fun gi79 gl79 gr79 hI hX hC79 => ?_)
            replace p_a0 := p_a0.ext hC79.2
            refine ev_jmp f_X9_step (nx := 161) rfl rfl rfl ?_
            exact ev_ret f_X9_step rfl rfl rfl ⟨_, _, _, rfl, hI, hX, rfl⟩
      · refine ev_loc f_X9_step (nx := 77) rfl rfl rfl rfl ?_
        refine ev_ic f_X9_step (nx := 78) (v := 3) rfl (by decide) rfl ?_
        refine ev_putIT f_X9_step (nx := 81) rfl p_a0.1 rfl rfl rfl (hI.put0 p_a0.1 rfl rfl) (hX.upI (t_inO hI.wf p_a0.1 (t_outO hI.wf p_a0.1 rfl) rfl)) (fun g80 e80 hI hX => ?_)
        exact ev_ret f_X9_step rfl rfl rfl ⟨_, _, _, rfl, hI, hX, rfl⟩
    · have u81 : (gi1 ar0 2).toInt ≤ 899 := t_ltu (t_nle h4) u3 rfl
      have l82 : 1 ≤ (gi1 ar0 1).toInt := t_ltl (t_nle h4) l2 rfl
      refine ev_loc f_X9_step (nx := 12) rfl rfl rfl rfl ?_
      have e83 := p_a0.2
      refine ev_getR f_X9_step (nx := 15) rfl p_a0.1 rfl rfl e83 rfl rfl ?_
      refine ev_loc f_X9_step (nx := 16) rfl rfl rfl rfl ?_
      refine ev_gvI f_X9_step (nx := 19) (w := (gi1 ar0 2)) rfl p_a0.1 rfl rfl rfl rfl ?_
      refine ev_baldT f_X9_step (nx := 20) rfl (hI.wf.s rfl) rfl l2 (by decide) u81 (by decide) rfl (fun w84 e84 => ?_)
      refine ev_bp f_X9_step (nx := 22) (v := 32) rfl (by decide) rfl ?_
      refine ev_if f_X9_step (t1 := 39) (t2 := 25) rfl rfl rfl (fun h85 => ?_) (fun h85 => ?_)
      · have u86 : w84.toInt ≤ 32 := t_equ h85 (by decide : (32:Int32).toInt ≤ (32:Int))
        have l87 : 32 ≤ w84.toInt := t_eql h85 (by decide : (32:Int) ≤ (32:Int32).toInt)
        refine ev_loc f_X9_step (nx := 40) rfl rfl rfl rfl ?_
        refine ev_alu f_X9_step (nx := 41) rfl rfl rfl rfl ?_
        refine ev_gvI f_X9_step (nx := 44) (w := (gi1 ar0 2)) rfl p_a0.1 rfl rfl rfl rfl ?_
        refine ev_ic f_X9_step (nx := 45) (v := 1) rfl (by decide) rfl ?_
        refine ev_addC f_X9_step (nx := 46) (c := 1) (l := 1) (u := 900) rfl (by decide) l2 u81 rfl rfl (by decide) (by decide) rfl (fun z88 e88 l88 u88 => ?_)
        refine ev_putIT f_X9_step (nx := 49) rfl p_a0.1 rfl rfl rfl (hI.putB p_a0.1 rfl rfl l88 (by decide) u88 (by decide)) (hX.upI (t_inO hI.wf p_a0.1 (t_outO hI.wf p_a0.1 rfl) rfl)) (fun g89 e89 hI hX => ?_)
        refine ev_jmp f_X9_step (nx := 0) rfl rfl rfl ?_
        refine ev_sub (lo := [(0, .ref ar0)]) rfl (t_sc rfl t_sn) ?_
        have hq1 := ((by rw [e89]; exact x_up2_at _ _ _ _ : g89 ar0 2 = z88) : g89 ar0 2 = z88)
        exact ih1 _ (by rw [hq1]; omega) g89 gl1 gr1  hI hX p_a0 rfl
      · refine ev_loc f_X9_step (nx := 26) rfl rfl rfl rfl ?_
        refine ev_getR f_X9_step (nx := 29) (v := .ref 2) rfl p_a0.1 rfl rfl e83 rfl rfl ?_
        refine ev_loc f_X9_step (nx := 30) rfl rfl rfl rfl ?_
        refine ev_gvI f_X9_step (nx := 33) (w := (gi1 ar0 2)) rfl p_a0.1 rfl rfl rfl rfl ?_
        refine ev_baldT f_X9_step (nx := 34) rfl (hI.wf.s rfl) rfl l2 (by decide) u81 (by decide) rfl (fun w90 e90 => ?_)
        refine ev_bp f_X9_step (nx := 36) (v := 10) rfl (by decide) rfl ?_
        refine ev_if f_X9_step (t1 := 39) (t2 := 52) rfl rfl rfl (fun h91 => ?_) (fun h91 => ?_)
        · have u92 : w90.toInt ≤ 10 := t_equ h91 (by decide : (10:Int32).toInt ≤ (10:Int))
          have l93 : 10 ≤ w90.toInt := t_eql h91 (by decide : (10:Int) ≤ (10:Int32).toInt)
          refine ev_loc f_X9_step (nx := 40) rfl rfl rfl rfl ?_
          refine ev_alu f_X9_step (nx := 41) rfl rfl rfl rfl ?_
          refine ev_gvI f_X9_step (nx := 44) (w := (gi1 ar0 2)) rfl p_a0.1 rfl rfl rfl rfl ?_
          refine ev_ic f_X9_step (nx := 45) (v := 1) rfl (by decide) rfl ?_
          refine ev_addC f_X9_step (nx := 46) (c := 1) (l := 1) (u := 900) rfl (by decide) l2 u81 rfl rfl (by decide) (by decide) rfl (fun z94 e94 l94 u94 => ?_)
          refine ev_putIT f_X9_step (nx := 49) rfl p_a0.1 rfl rfl rfl (hI.putB p_a0.1 rfl rfl l94 (by decide) u94 (by decide)) (hX.upI (t_inO hI.wf p_a0.1 (t_outO hI.wf p_a0.1 rfl) rfl)) (fun g95 e95 hI hX => ?_)
          refine ev_jmp f_X9_step (nx := 0) rfl rfl rfl ?_
          refine ev_sub (lo := [(0, .ref ar0)]) rfl (t_sc rfl t_sn) ?_
          have hq1 := ((by rw [e95]; exact x_up2_at _ _ _ _ : g95 ar0 2 = z94) : g95 ar0 2 = z94)
          exact ih1 _ (by rw [hq1]; omega) g95 gl1 gr1  hI hX p_a0 rfl
        · refine ev_loc f_X9_step (nx := 53) rfl rfl rfl rfl ?_
          refine ev_loc f_X9_step (nx := 54) rfl rfl rfl rfl ?_
          refine ev_gvI f_X9_step (nx := 57) (w := (gi1 ar0 2)) rfl p_a0.1 rfl rfl rfl rfl ?_
          refine ev_putIT f_X9_step (nx := 60) rfl p_a0.1 rfl rfl rfl (hI.putB p_a0.1 rfl rfl l2 (by decide) u81 (by decide)) (hX.upI (t_inO hI.wf p_a0.1 (t_outO hI.wf p_a0.1 rfl) rfl)) (fun g96 e96 hI hX => ?_)
          refine ev_loc f_X9_step (nx := 61) rfl rfl rfl rfl ?_
          refine ev_alu f_X9_step (nx := 62) rfl rfl rfl rfl ?_
          have hE97 := t_eqf_up (gr := gr1) (j := 7) (v := .null) p_a0.1 rfl
          have hT97 := t_keyw hI (v := .null) p_a0.1 (Or.inl rfl)
          replace p_a0 := p_a0.ext hE97
          refine ev_putRT f_X9_step (nx := 65) rfl p_a0.1 rfl rfl rfl rfl hT97 (hX.upR (t_inO hI.wf p_a0.1 (t_outO hI.wf p_a0.1 rfl) rfl) hE97) (fun g97 e97 hI hX => ?_)
          rw [← e97] at p_a0
          refine ev_loc f_X9_step (nx := 66) rfl rfl rfl rfl ?_
          refine ev_gvI f_X9_step (nx := 69) (w := (gi1 ar0 2)) rfl p_a0.1 rfl rfl ((by rw [e96]; exact x_up2_off (Or.inr (by decide)) : g96 ar0 2 = gi1 ar0 2).trans rfl) rfl ?_
          refine ev_loc f_X9_step (nx := 70) rfl rfl rfl rfl ?_
          refine ev_gvI f_X9_step (nx := 73) (w := (gi1 ar0 1)) rfl p_a0.1 rfl rfl ((by rw [e96]; exact x_up2_off (Or.inr (by decide)) : g96 ar0 1 = gi1 ar0 1).trans rfl) rfl ?_
          refine ev_if f_X9_step (t1 := 82) (t2 := 76) rfl rfl rfl (fun h98 => ?_) (fun h98 => ?_)
          · refine ev_loc f_X9_step (nx := 83) rfl rfl rfl rfl ?_
            refine ev_getR f_X9_step (nx := 86) (v := .ref 2) rfl p_a0.1 rfl rfl ((by rw [e97]; exact x_up2_off (Or.inr (by decide)) : g97 ar0 0 = gr1 ar0 0).trans e83) rfl rfl ?_
            refine ev_loc f_X9_step (nx := 87) rfl rfl rfl rfl ?_
            refine ev_gvI f_X9_step (nx := 90) (w := (gi1 ar0 2)) rfl p_a0.1 rfl rfl ((by rw [e96]; exact x_up2_off (Or.inr (by decide)) : g96 ar0 2 = gi1 ar0 2).trans rfl) rfl ?_
            refine ev_baldT f_X9_step (nx := 91) rfl (hI.wf.s rfl) rfl l2 (by decide) u81 (by decide) rfl (fun w99 e99 => ?_)
            refine ev_loc f_X9_step (nx := 92) (lo' := [(1, .int w99), (0, .ref ar0)]) rfl rfl rfl rfl ?_
            refine ev_loc f_X9_step (nx := 93) rfl rfl rfl rfl ?_
            refine ev_bp f_X9_step (nx := 95) (v := 97) rfl (by decide) rfl ?_
            refine ev_if f_X9_step (t1 := 111) (t2 := 98) rfl rfl rfl (fun h100 => ?_) (fun h100 => ?_)
            · have u101 : w99.toInt ≤ 96 := t_ltu h100 (by decide : (97:Int32).toInt ≤ (97:Int)) rfl
              refine ev_loc f_X9_step (nx := 112) rfl rfl rfl rfl ?_
              refine ev_bp f_X9_step (nx := 114) (v := 48) rfl (by decide) rfl ?_
              refine ev_if f_X9_step (t1 := 130) (t2 := 117) rfl rfl rfl (fun h102 => ?_) (fun h102 => ?_)
              · have u103 : w99.toInt ≤ 47 := t_ltu h102 (by decide : (48:Int32).toInt ≤ (48:Int)) rfl
                refine ev_loc f_X9_step (nx := 131) rfl rfl rfl rfl ?_
                refine ev_loc f_X9_step (nx := 132) rfl rfl rfl rfl ?_
                refine ev_inS1 f_X9_step (nx := 135) (lo2 := [(0, .int w99)]) rfl rfl rfl rfl f_X9_isSign rfl rfl rfl rfl ?_
                refine ev_loc f_X9_isSign (nx := 1) rfl rfl rfl rfl ?_
                refine ev_bp f_X9_isSign (nx := 3) (v := 59) rfl (by decide) rfl ?_
                refine ev_f f_X9_isSign (t1 := 36) (t2 := 6) rfl rfl rfl (t_neT u103 (by decide : (59:Int) ≤ (59:Int32).toInt) (by decide)) ?_
                refine ev_loc f_X9_isSign (nx := 7) rfl rfl rfl rfl ?_
                refine ev_bp f_X9_isSign (nx := 9) (v := 60) rfl (by decide) rfl ?_
                refine ev_f f_X9_isSign (t1 := 36) (t2 := 12) rfl rfl rfl (t_neT u103 (by decide : (60:Int) ≤ (60:Int32).toInt) (by decide)) ?_
                refine ev_loc f_X9_isSign (nx := 13) rfl rfl rfl rfl ?_
                refine ev_bp f_X9_isSign (nx := 15) (v := 62) rfl (by decide) rfl ?_
                refine ev_f f_X9_isSign (t1 := 36) (t2 := 18) rfl rfl rfl (t_neT u103 (by decide : (62:Int) ≤ (62:Int32).toInt) (by decide)) ?_
                refine ev_loc f_X9_isSign (nx := 19) rfl rfl rfl rfl ?_
                refine ev_bp f_X9_isSign (nx := 21) (v := 61) rfl (by decide) rfl ?_
                refine ev_f f_X9_isSign (t1 := 36) (t2 := 24) rfl rfl rfl (t_neT u103 (by decide : (61:Int) ≤ (61:Int32).toInt) (by decide)) ?_
                refine ev_loc f_X9_isSign (nx := 25) rfl rfl rfl rfl ?_
                refine ev_bp f_X9_isSign (nx := 27) (v := 40) rfl (by decide) rfl ?_
                refine ev_if f_X9_isSign (t1 := 36) (t2 := 30) rfl rfl rfl (fun h104 => ?_) (fun h104 => ?_)
                · have u105 : w99.toInt ≤ 40 := t_equ h104 (by decide : (40:Int32).toInt ≤ (40:Int))
                  have l106 : 40 ≤ w99.toInt := t_eql h104 (by decide : (40:Int) ≤ (40:Int32).toInt)
                  refine ev_ic f_X9_isSign (nx := 37) (v := 1) rfl (by decide) rfl ?_
                  refine ev_jmp f_X9_isSign (nx := 41) rfl rfl rfl ?_
                  refine ev_retK1 f_X9_isSign rfl rfl rfl ?_
                  refine ev_f f_X9_step (t1 := 142) (t2 := 138) rfl rfl rfl (by decide) ?_
                  refine ev_ic f_X9_step (nx := 139) (v := 2) rfl (by decide) rfl ?_
                  refine ev_jmp f_X9_step (nx := 143) rfl rfl rfl ?_
                  refine ev_putIT f_X9_step (nx := 146) rfl p_a0.1 rfl rfl rfl (hI.put0 p_a0.1 rfl rfl) (hX.upI (t_inO hI.wf p_a0.1 (t_outO hI.wf p_a0.1 rfl) rfl)) (fun g107 e107 hI hX => ?_)
                  refine ev_loc f_X9_step (nx := 147) rfl rfl rfl rfl ?_
                  refine ev_loc f_X9_step (nx := 148) rfl rfl rfl rfl ?_
                  refine ev_putIT f_X9_step (nx := 151) rfl p_a0.1 rfl rfl rfl (hI.put0 p_a0.1 rfl rfl) (hX.upI (t_inO hI.wf p_a0.1 (t_outO hI.wf p_a0.1 rfl) rfl)) (fun g108 e108 hI hX => ?_)
                  refine ev_loc f_X9_step (nx := 152) rfl rfl rfl rfl ?_
                  refine ev_alu f_X9_step (nx := 153) rfl rfl rfl rfl ?_
                  refine ev_gvI f_X9_step (nx := 156) (w := (gi1 ar0 2)) rfl p_a0.1 rfl rfl ((by rw [e108]; exact x_up2_off (Or.inr (by decide)) : g108 ar0 2 = g107 ar0 2).trans ((by rw [e107]; exact x_up2_off (Or.inr (by decide)) : g107 ar0 2 = g96 ar0 2).trans ((by rw [e96]; exact x_up2_off (Or.inr (by decide)) : g96 ar0 2 = gi1 ar0 2).trans rfl))) rfl ?_
                  refine ev_ic f_X9_step (nx := 157) (v := 1) rfl (by decide) rfl ?_
                  refine ev_addC f_X9_step (nx := 158) (c := 1) (l := 1) (u := 900) rfl (by decide) l2 u81 rfl rfl (by decide) (by decide) rfl (fun z109 e109 l109 u109 => ?_)
                  refine ev_putIT f_X9_step (nx := 161) rfl p_a0.1 rfl rfl rfl (hI.putB p_a0.1 rfl rfl l109 (by decide) u109 (by decide)) (hX.upI (t_inO hI.wf p_a0.1 (t_outO hI.wf p_a0.1 rfl) rfl)) (fun g110 e110 hI hX => ?_)
                  exact ev_ret f_X9_step rfl rfl rfl ⟨_, _, _, rfl, hI, hX, rfl⟩
                · refine ev_loc f_X9_isSign (nx := 31) rfl rfl rfl rfl ?_
                  refine ev_bp f_X9_isSign (nx := 33) (v := 41) rfl (by decide) rfl ?_
                  refine ev_if f_X9_isSign (t1 := 36) (t2 := 40) rfl rfl rfl (fun h111 => ?_) (fun h111 => ?_)
                  · have u112 : w99.toInt ≤ 41 := t_equ h111 (by decide : (41:Int32).toInt ≤ (41:Int))
                    have l113 : 41 ≤ w99.toInt := t_eql h111 (by decide : (41:Int) ≤ (41:Int32).toInt)
                    refine ev_ic f_X9_isSign (nx := 37) (v := 1) rfl (by decide) rfl ?_
                    refine ev_jmp f_X9_isSign (nx := 41) rfl rfl rfl ?_
                    refine ev_retK1 f_X9_isSign rfl rfl rfl ?_
                    refine ev_f f_X9_step (t1 := 142) (t2 := 138) rfl rfl rfl (by decide) ?_
                    refine ev_ic f_X9_step (nx := 139) (v := 2) rfl (by decide) rfl ?_
                    refine ev_jmp f_X9_step (nx := 143) rfl rfl rfl ?_
                    refine ev_putIT f_X9_step (nx := 146) rfl p_a0.1 rfl rfl rfl (hI.put0 p_a0.1 rfl rfl) (hX.upI (t_inO hI.wf p_a0.1 (t_outO hI.wf p_a0.1 rfl) rfl)) (fun g114 e114 hI hX => ?_)
                    refine ev_loc f_X9_step (nx := 147) rfl rfl rfl rfl ?_
                    refine ev_loc f_X9_step (nx := 148) rfl rfl rfl rfl ?_
                    refine ev_putIT f_X9_step (nx := 151) rfl p_a0.1 rfl rfl rfl (hI.put0 p_a0.1 rfl rfl) (hX.upI (t_inO hI.wf p_a0.1 (t_outO hI.wf p_a0.1 rfl) rfl)) (fun g115 e115 hI hX => ?_)
                    refine ev_loc f_X9_step (nx := 152) rfl rfl rfl rfl ?_
                    refine ev_alu f_X9_step (nx := 153) rfl rfl rfl rfl ?_
                    refine ev_gvI f_X9_step (nx := 156) (w := (gi1 ar0 2)) rfl p_a0.1 rfl rfl ((by rw [e115]; exact x_up2_off (Or.inr (by decide)) : g115 ar0 2 = g114 ar0 2).trans ((by rw [e114]; exact x_up2_off (Or.inr (by decide)) : g114 ar0 2 = g96 ar0 2).trans ((by rw [e96]; exact x_up2_off (Or.inr (by decide)) : g96 ar0 2 = gi1 ar0 2).trans rfl))) rfl ?_
                    refine ev_ic f_X9_step (nx := 157) (v := 1) rfl (by decide) rfl ?_
                    refine ev_addC f_X9_step (nx := 158) (c := 1) (l := 1) (u := 900) rfl (by decide) l2 u81 rfl rfl (by decide) (by decide) rfl (fun z116 e116 l116 u116 => ?_)
                    refine ev_putIT f_X9_step (nx := 161) rfl p_a0.1 rfl rfl rfl (hI.putB p_a0.1 rfl rfl l116 (by decide) u116 (by decide)) (hX.upI (t_inO hI.wf p_a0.1 (t_outO hI.wf p_a0.1 rfl) rfl)) (fun g117 e117 hI hX => ?_)
                    exact ev_ret f_X9_step rfl rfl rfl ⟨_, _, _, rfl, hI, hX, rfl⟩
                  · refine ev_ic f_X9_isSign (nx := 41) (v := 0) rfl (by decide) rfl ?_
                    refine ev_retK1 f_X9_isSign rfl rfl rfl ?_
                    refine ev_t f_X9_step (t1 := 142) (t2 := 138) rfl rfl rfl (by decide) ?_
                    refine ev_ic f_X9_step (nx := 143) (v := 4) rfl (by decide) rfl ?_
                    refine ev_putIT f_X9_step (nx := 146) rfl p_a0.1 rfl rfl rfl (hI.put0 p_a0.1 rfl rfl) (hX.upI (t_inO hI.wf p_a0.1 (t_outO hI.wf p_a0.1 rfl) rfl)) (fun g118 e118 hI hX => ?_)
                    refine ev_loc f_X9_step (nx := 147) rfl rfl rfl rfl ?_
                    refine ev_loc f_X9_step (nx := 148) rfl rfl rfl rfl ?_
                    refine ev_putIT f_X9_step (nx := 151) rfl p_a0.1 rfl rfl rfl (hI.put0 p_a0.1 rfl rfl) (hX.upI (t_inO hI.wf p_a0.1 (t_outO hI.wf p_a0.1 rfl) rfl)) (fun g119 e119 hI hX => ?_)
                    refine ev_loc f_X9_step (nx := 152) rfl rfl rfl rfl ?_
                    refine ev_alu f_X9_step (nx := 153) rfl rfl rfl rfl ?_
                    refine ev_gvI f_X9_step (nx := 156) (w := (gi1 ar0 2)) rfl p_a0.1 rfl rfl ((by rw [e119]; exact x_up2_off (Or.inr (by decide)) : g119 ar0 2 = g118 ar0 2).trans ((by rw [e118]; exact x_up2_off (Or.inr (by decide)) : g118 ar0 2 = g96 ar0 2).trans ((by rw [e96]; exact x_up2_off (Or.inr (by decide)) : g96 ar0 2 = gi1 ar0 2).trans rfl))) rfl ?_
                    refine ev_ic f_X9_step (nx := 157) (v := 1) rfl (by decide) rfl ?_
                    refine ev_addC f_X9_step (nx := 158) (c := 1) (l := 1) (u := 900) rfl (by decide) l2 u81 rfl rfl (by decide) (by decide) rfl (fun z120 e120 l120 u120 => ?_)
                    refine ev_putIT f_X9_step (nx := 161) rfl p_a0.1 rfl rfl rfl (hI.putB p_a0.1 rfl rfl l120 (by decide) u120 (by decide)) (hX.upI (t_inO hI.wf p_a0.1 (t_outO hI.wf p_a0.1 rfl) rfl)) (fun g121 e121 hI hX => ?_)
                    exact ev_ret f_X9_step rfl rfl rfl ⟨_, _, _, rfl, hI, hX, rfl⟩
              · have l122 : 48 ≤ w99.toInt := t_lel (t_nlt h102) (by decide : (48:Int) ≤ (48:Int32).toInt)
                refine ev_loc f_X9_step (nx := 118) rfl rfl rfl rfl ?_
                refine ev_bp f_X9_step (nx := 120) (v := 57) rfl (by decide) rfl ?_
                refine ev_if f_X9_step (t1 := 130) (t2 := 123) rfl rfl rfl (fun h123 => ?_) (fun h123 => ?_)
                · have l124 : 58 ≤ w99.toInt := t_ltl h123 (by decide : (57:Int) ≤ (57:Int32).toInt) rfl
                  refine ev_loc f_X9_step (nx := 131) rfl rfl rfl rfl ?_
                  refine ev_loc f_X9_step (nx := 132) rfl rfl rfl rfl ?_
                  refine ev_inS1 f_X9_step (nx := 135) (lo2 := [(0, .int w99)]) rfl rfl rfl rfl f_X9_isSign rfl rfl rfl rfl ?_
                  refine ev_loc f_X9_isSign (nx := 1) rfl rfl rfl rfl ?_
                  refine ev_bp f_X9_isSign (nx := 3) (v := 59) rfl (by decide) rfl ?_
                  refine ev_if f_X9_isSign (t1 := 36) (t2 := 6) rfl rfl rfl (fun h125 => ?_) (fun h125 => ?_)
                  · have u126 : w99.toInt ≤ 59 := t_equ h125 (by decide : (59:Int32).toInt ≤ (59:Int))
                    have l127 : 59 ≤ w99.toInt := t_eql h125 (by decide : (59:Int) ≤ (59:Int32).toInt)
                    refine ev_ic f_X9_isSign (nx := 37) (v := 1) rfl (by decide) rfl ?_
                    refine ev_jmp f_X9_isSign (nx := 41) rfl rfl rfl ?_
                    refine ev_retK1 f_X9_isSign rfl rfl rfl ?_
                    refine ev_f f_X9_step (t1 := 142) (t2 := 138) rfl rfl rfl (by decide) ?_
                    refine ev_ic f_X9_step (nx := 139) (v := 2) rfl (by decide) rfl ?_
                    refine ev_jmp f_X9_step (nx := 143) rfl rfl rfl ?_
                    refine ev_putIT f_X9_step (nx := 146) rfl p_a0.1 rfl rfl rfl (hI.put0 p_a0.1 rfl rfl) (hX.upI (t_inO hI.wf p_a0.1 (t_outO hI.wf p_a0.1 rfl) rfl)) (fun g128 e128 hI hX => ?_)
                    refine ev_loc f_X9_step (nx := 147) rfl rfl rfl rfl ?_
                    refine ev_loc f_X9_step (nx := 148) rfl rfl rfl rfl ?_
                    refine ev_putIT f_X9_step (nx := 151) rfl p_a0.1 rfl rfl rfl (hI.put0 p_a0.1 rfl rfl) (hX.upI (t_inO hI.wf p_a0.1 (t_outO hI.wf p_a0.1 rfl) rfl)) (fun g129 e129 hI hX => ?_)
                    refine ev_loc f_X9_step (nx := 152) rfl rfl rfl rfl ?_
                    refine ev_alu f_X9_step (nx := 153) rfl rfl rfl rfl ?_
                    refine ev_gvI f_X9_step (nx := 156) (w := (gi1 ar0 2)) rfl p_a0.1 rfl rfl ((by rw [e129]; exact x_up2_off (Or.inr (by decide)) : g129 ar0 2 = g128 ar0 2).trans ((by rw [e128]; exact x_up2_off (Or.inr (by decide)) : g128 ar0 2 = g96 ar0 2).trans ((by rw [e96]; exact x_up2_off (Or.inr (by decide)) : g96 ar0 2 = gi1 ar0 2).trans rfl))) rfl ?_
                    refine ev_ic f_X9_step (nx := 157) (v := 1) rfl (by decide) rfl ?_
                    refine ev_addC f_X9_step (nx := 158) (c := 1) (l := 1) (u := 900) rfl (by decide) l2 u81 rfl rfl (by decide) (by decide) rfl (fun z130 e130 l130 u130 => ?_)
                    refine ev_putIT f_X9_step (nx := 161) rfl p_a0.1 rfl rfl rfl (hI.putB p_a0.1 rfl rfl l130 (by decide) u130 (by decide)) (hX.upI (t_inO hI.wf p_a0.1 (t_outO hI.wf p_a0.1 rfl) rfl)) (fun g131 e131 hI hX => ?_)
                    exact ev_ret f_X9_step rfl rfl rfl ⟨_, _, _, rfl, hI, hX, rfl⟩
                  · refine ev_loc f_X9_isSign (nx := 7) rfl rfl rfl rfl ?_
                    refine ev_bp f_X9_isSign (nx := 9) (v := 60) rfl (by decide) rfl ?_
                    refine ev_if f_X9_isSign (t1 := 36) (t2 := 12) rfl rfl rfl (fun h132 => ?_) (fun h132 => ?_)
                    · have u133 : w99.toInt ≤ 60 := t_equ h132 (by decide : (60:Int32).toInt ≤ (60:Int))
                      have l134 : 60 ≤ w99.toInt := t_eql h132 (by decide : (60:Int) ≤ (60:Int32).toInt)
                      refine ev_ic f_X9_isSign (nx := 37) (v := 1) rfl (by decide) rfl ?_
                      refine ev_jmp f_X9_isSign (nx := 41) rfl rfl rfl ?_
                      refine ev_retK1 f_X9_isSign rfl rfl rfl ?_
                      refine ev_f f_X9_step (t1 := 142) (t2 := 138) rfl rfl rfl (by decide) ?_
                      refine ev_ic f_X9_step (nx := 139) (v := 2) rfl (by decide) rfl ?_
                      refine ev_jmp f_X9_step (nx := 143) rfl rfl rfl ?_
                      refine ev_putIT f_X9_step (nx := 146) rfl p_a0.1 rfl rfl rfl (hI.put0 p_a0.1 rfl rfl) (hX.upI (t_inO hI.wf p_a0.1 (t_outO hI.wf p_a0.1 rfl) rfl)) (fun g135 e135 hI hX => ?_)
                      refine ev_loc f_X9_step (nx := 147) rfl rfl rfl rfl ?_
                      refine ev_loc f_X9_step (nx := 148) rfl rfl rfl rfl ?_
                      refine ev_putIT f_X9_step (nx := 151) rfl p_a0.1 rfl rfl rfl (hI.put0 p_a0.1 rfl rfl) (hX.upI (t_inO hI.wf p_a0.1 (t_outO hI.wf p_a0.1 rfl) rfl)) (fun g136 e136 hI hX => ?_)
                      refine ev_loc f_X9_step (nx := 152) rfl rfl rfl rfl ?_
                      refine ev_alu f_X9_step (nx := 153) rfl rfl rfl rfl ?_
                      refine ev_gvI f_X9_step (nx := 156) (w := (gi1 ar0 2)) rfl p_a0.1 rfl rfl ((by rw [e136]; exact x_up2_off (Or.inr (by decide)) : g136 ar0 2 = g135 ar0 2).trans ((by rw [e135]; exact x_up2_off (Or.inr (by decide)) : g135 ar0 2 = g96 ar0 2).trans ((by rw [e96]; exact x_up2_off (Or.inr (by decide)) : g96 ar0 2 = gi1 ar0 2).trans rfl))) rfl ?_
                      refine ev_ic f_X9_step (nx := 157) (v := 1) rfl (by decide) rfl ?_
                      refine ev_addC f_X9_step (nx := 158) (c := 1) (l := 1) (u := 900) rfl (by decide) l2 u81 rfl rfl (by decide) (by decide) rfl (fun z137 e137 l137 u137 => ?_)
                      refine ev_putIT f_X9_step (nx := 161) rfl p_a0.1 rfl rfl rfl (hI.putB p_a0.1 rfl rfl l137 (by decide) u137 (by decide)) (hX.upI (t_inO hI.wf p_a0.1 (t_outO hI.wf p_a0.1 rfl) rfl)) (fun g138 e138 hI hX => ?_)
                      exact ev_ret f_X9_step rfl rfl rfl ⟨_, _, _, rfl, hI, hX, rfl⟩
                    · refine ev_loc f_X9_isSign (nx := 13) rfl rfl rfl rfl ?_
                      refine ev_bp f_X9_isSign (nx := 15) (v := 62) rfl (by decide) rfl ?_
                      refine ev_if f_X9_isSign (t1 := 36) (t2 := 18) rfl rfl rfl (fun h139 => ?_) (fun h139 => ?_)
                      · have u140 : w99.toInt ≤ 62 := t_equ h139 (by decide : (62:Int32).toInt ≤ (62:Int))
                        have l141 : 62 ≤ w99.toInt := t_eql h139 (by decide : (62:Int) ≤ (62:Int32).toInt)
                        refine ev_ic f_X9_isSign (nx := 37) (v := 1) rfl (by decide) rfl ?_
                        refine ev_jmp f_X9_isSign (nx := 41) rfl rfl rfl ?_
                        refine ev_retK1 f_X9_isSign rfl rfl rfl ?_
                        refine ev_f f_X9_step (t1 := 142) (t2 := 138) rfl rfl rfl (by decide) ?_
                        refine ev_ic f_X9_step (nx := 139) (v := 2) rfl (by decide) rfl ?_
                        refine ev_jmp f_X9_step (nx := 143) rfl rfl rfl ?_
                        refine ev_putIT f_X9_step (nx := 146) rfl p_a0.1 rfl rfl rfl (hI.put0 p_a0.1 rfl rfl) (hX.upI (t_inO hI.wf p_a0.1 (t_outO hI.wf p_a0.1 rfl) rfl)) (fun g142 e142 hI hX => ?_)
                        refine ev_loc f_X9_step (nx := 147) rfl rfl rfl rfl ?_
                        refine ev_loc f_X9_step (nx := 148) rfl rfl rfl rfl ?_
                        refine ev_putIT f_X9_step (nx := 151) rfl p_a0.1 rfl rfl rfl (hI.put0 p_a0.1 rfl rfl) (hX.upI (t_inO hI.wf p_a0.1 (t_outO hI.wf p_a0.1 rfl) rfl)) (fun g143 e143 hI hX => ?_)
                        refine ev_loc f_X9_step (nx := 152) rfl rfl rfl rfl ?_
                        refine ev_alu f_X9_step (nx := 153) rfl rfl rfl rfl ?_
                        refine ev_gvI f_X9_step (nx := 156) (w := (gi1 ar0 2)) rfl p_a0.1 rfl rfl ((by rw [e143]; exact x_up2_off (Or.inr (by decide)) : g143 ar0 2 = g142 ar0 2).trans ((by rw [e142]; exact x_up2_off (Or.inr (by decide)) : g142 ar0 2 = g96 ar0 2).trans ((by rw [e96]; exact x_up2_off (Or.inr (by decide)) : g96 ar0 2 = gi1 ar0 2).trans rfl))) rfl ?_
                        refine ev_ic f_X9_step (nx := 157) (v := 1) rfl (by decide) rfl ?_
                        refine ev_addC f_X9_step (nx := 158) (c := 1) (l := 1) (u := 900) rfl (by decide) l2 u81 rfl rfl (by decide) (by decide) rfl (fun z144 e144 l144 u144 => ?_)
                        refine ev_putIT f_X9_step (nx := 161) rfl p_a0.1 rfl rfl rfl (hI.putB p_a0.1 rfl rfl l144 (by decide) u144 (by decide)) (hX.upI (t_inO hI.wf p_a0.1 (t_outO hI.wf p_a0.1 rfl) rfl)) (fun g145 e145 hI hX => ?_)
                        exact ev_ret f_X9_step rfl rfl rfl ⟨_, _, _, rfl, hI, hX, rfl⟩
                      · refine ev_loc f_X9_isSign (nx := 19) rfl rfl rfl rfl ?_
                        refine ev_bp f_X9_isSign (nx := 21) (v := 61) rfl (by decide) rfl ?_
                        refine ev_if f_X9_isSign (t1 := 36) (t2 := 24) rfl rfl rfl (fun h146 => ?_) (fun h146 => ?_)
                        · have u147 : w99.toInt ≤ 61 := t_equ h146 (by decide : (61:Int32).toInt ≤ (61:Int))
                          have l148 : 61 ≤ w99.toInt := t_eql h146 (by decide : (61:Int) ≤ (61:Int32).toInt)
                          refine ev_ic f_X9_isSign (nx := 37) (v := 1) rfl (by decide) rfl ?_
                          refine ev_jmp f_X9_isSign (nx := 41) rfl rfl rfl ?_
                          refine ev_retK1 f_X9_isSign rfl rfl rfl ?_
                          refine ev_f f_X9_step (t1 := 142) (t2 := 138) rfl rfl rfl (by decide) ?_
                          refine ev_ic f_X9_step (nx := 139) (v := 2) rfl (by decide) rfl ?_
                          refine ev_jmp f_X9_step (nx := 143) rfl rfl rfl ?_
                          refine ev_putIT f_X9_step (nx := 146) rfl p_a0.1 rfl rfl rfl (hI.put0 p_a0.1 rfl rfl) (hX.upI (t_inO hI.wf p_a0.1 (t_outO hI.wf p_a0.1 rfl) rfl)) (fun g149 e149 hI hX => ?_)
                          refine ev_loc f_X9_step (nx := 147) rfl rfl rfl rfl ?_
                          refine ev_loc f_X9_step (nx := 148) rfl rfl rfl rfl ?_
                          refine ev_putIT f_X9_step (nx := 151) rfl p_a0.1 rfl rfl rfl (hI.put0 p_a0.1 rfl rfl) (hX.upI (t_inO hI.wf p_a0.1 (t_outO hI.wf p_a0.1 rfl) rfl)) (fun g150 e150 hI hX => ?_)
                          refine ev_loc f_X9_step (nx := 152) rfl rfl rfl rfl ?_
                          refine ev_alu f_X9_step (nx := 153) rfl rfl rfl rfl ?_
                          refine ev_gvI f_X9_step (nx := 156) (w := (gi1 ar0 2)) rfl p_a0.1 rfl rfl ((by rw [e150]; exact x_up2_off (Or.inr (by decide)) : g150 ar0 2 = g149 ar0 2).trans ((by rw [e149]; exact x_up2_off (Or.inr (by decide)) : g149 ar0 2 = g96 ar0 2).trans ((by rw [e96]; exact x_up2_off (Or.inr (by decide)) : g96 ar0 2 = gi1 ar0 2).trans rfl))) rfl ?_
                          refine ev_ic f_X9_step (nx := 157) (v := 1) rfl (by decide) rfl ?_
                          refine ev_addC f_X9_step (nx := 158) (c := 1) (l := 1) (u := 900) rfl (by decide) l2 u81 rfl rfl (by decide) (by decide) rfl (fun z151 e151 l151 u151 => ?_)
                          refine ev_putIT f_X9_step (nx := 161) rfl p_a0.1 rfl rfl rfl (hI.putB p_a0.1 rfl rfl l151 (by decide) u151 (by decide)) (hX.upI (t_inO hI.wf p_a0.1 (t_outO hI.wf p_a0.1 rfl) rfl)) (fun g152 e152 hI hX => ?_)
                          exact ev_ret f_X9_step rfl rfl rfl ⟨_, _, _, rfl, hI, hX, rfl⟩
                        · refine ev_loc f_X9_isSign (nx := 25) rfl rfl rfl rfl ?_
                          refine ev_bp f_X9_isSign (nx := 27) (v := 40) rfl (by decide) rfl ?_
                          refine ev_f f_X9_isSign (t1 := 36) (t2 := 30) rfl rfl rfl (t_neT' (by decide : (40:Int32).toInt ≤ (40:Int)) l124 (by decide)) ?_
                          refine ev_loc f_X9_isSign (nx := 31) rfl rfl rfl rfl ?_
                          refine ev_bp f_X9_isSign (nx := 33) (v := 41) rfl (by decide) rfl ?_
                          refine ev_f f_X9_isSign (t1 := 36) (t2 := 40) rfl rfl rfl (t_neT' (by decide : (41:Int32).toInt ≤ (41:Int)) l124 (by decide)) ?_
                          refine ev_ic f_X9_isSign (nx := 41) (v := 0) rfl (by decide) rfl ?_
                          refine ev_retK1 f_X9_isSign rfl rfl rfl ?_
                          refine ev_t f_X9_step (t1 := 142) (t2 := 138) rfl rfl rfl (by decide) ?_
                          refine ev_ic f_X9_step (nx := 143) (v := 4) rfl (by decide) rfl ?_
                          refine ev_putIT f_X9_step (nx := 146) rfl p_a0.1 rfl rfl rfl (hI.put0 p_a0.1 rfl rfl) (hX.upI (t_inO hI.wf p_a0.1 (t_outO hI.wf p_a0.1 rfl) rfl)) (fun g153 e153 hI hX => ?_)
                          refine ev_loc f_X9_step (nx := 147) rfl rfl rfl rfl ?_
                          refine ev_loc f_X9_step (nx := 148) rfl rfl rfl rfl ?_
                          refine ev_putIT f_X9_step (nx := 151) rfl p_a0.1 rfl rfl rfl (hI.put0 p_a0.1 rfl rfl) (hX.upI (t_inO hI.wf p_a0.1 (t_outO hI.wf p_a0.1 rfl) rfl)) (fun g154 e154 hI hX => ?_)
                          refine ev_loc f_X9_step (nx := 152) rfl rfl rfl rfl ?_
                          refine ev_alu f_X9_step (nx := 153) rfl rfl rfl rfl ?_
                          refine ev_gvI f_X9_step (nx := 156) (w := (gi1 ar0 2)) rfl p_a0.1 rfl rfl ((by rw [e154]; exact x_up2_off (Or.inr (by decide)) : g154 ar0 2 = g153 ar0 2).trans ((by rw [e153]; exact x_up2_off (Or.inr (by decide)) : g153 ar0 2 = g96 ar0 2).trans ((by rw [e96]; exact x_up2_off (Or.inr (by decide)) : g96 ar0 2 = gi1 ar0 2).trans rfl))) rfl ?_
                          refine ev_ic f_X9_step (nx := 157) (v := 1) rfl (by decide) rfl ?_
                          refine ev_addC f_X9_step (nx := 158) (c := 1) (l := 1) (u := 900) rfl (by decide) l2 u81 rfl rfl (by decide) (by decide) rfl (fun z155 e155 l155 u155 => ?_)
                          refine ev_putIT f_X9_step (nx := 161) rfl p_a0.1 rfl rfl rfl (hI.putB p_a0.1 rfl rfl l155 (by decide) u155 (by decide)) (hX.upI (t_inO hI.wf p_a0.1 (t_outO hI.wf p_a0.1 rfl) rfl)) (fun g156 e156 hI hX => ?_)
                          exact ev_ret f_X9_step rfl rfl rfl ⟨_, _, _, rfl, hI, hX, rfl⟩
                · have u157 : w99.toInt ≤ 57 := t_leu (t_nlt h123) (by decide : (57:Int32).toInt ≤ (57:Int))
                  refine ev_loc f_X9_step (nx := 124) rfl rfl rfl rfl ?_
                  refine ev_c0 f_X9_step (nx := 127) (r := []) rfl rfl rfl rfl rfl rfl rfl (c_stepNumber hI (ar0) p_a0) rfl hX rfl (fun gi158 gl158 gr158 hI hX hC158 => ?_)
                  replace p_a0 := p_a0.ext hC158.2
                  refine ev_jmp f_X9_step (nx := 161) rfl rfl rfl ?_
                  exact ev_ret f_X9_step rfl rfl rfl ⟨_, _, _, rfl, hI, hX, rfl⟩
            · have l159 : 97 ≤ w99.toInt := t_lel (t_nlt h100) (by decide : (97:Int) ≤ (97:Int32).toInt)
              refine ev_loc f_X9_step (nx := 99) rfl rfl rfl rfl ?_
              refine ev_bp f_X9_step (nx := 101) (v := 122) rfl (by decide) rfl ?_
              refine ev_if f_X9_step (t1 := 111) (t2 := 104) rfl rfl rfl (fun h160 => ?_) (fun h160 => ?_)
              · have l161 : 123 ≤ w99.toInt := t_ltl h160 (by decide : (122:Int) ≤ (122:Int32).toInt) rfl
                refine ev_loc f_X9_step (nx := 112) rfl rfl rfl rfl ?_
                refine ev_bp f_X9_step (nx := 114) (v := 48) rfl (by decide) rfl ?_
                refine ev_f f_X9_step (t1 := 130) (t2 := 117) rfl rfl rfl (t_ltF (by decide : (48:Int32).toInt ≤ (48:Int)) l161 (by decide)) ?_
                refine ev_loc f_X9_step (nx := 118) rfl rfl rfl rfl ?_
                refine ev_bp f_X9_step (nx := 120) (v := 57) rfl (by decide) rfl ?_
                refine ev_t f_X9_step (t1 := 130) (t2 := 123) rfl rfl rfl (t_ltT (by decide : (57:Int32).toInt ≤ (57:Int)) l161 (by decide)) ?_
                refine ev_loc f_X9_step (nx := 131) rfl rfl rfl rfl ?_
                refine ev_loc f_X9_step (nx := 132) rfl rfl rfl rfl ?_
                refine ev_inS1 f_X9_step (nx := 135) (lo2 := [(0, .int w99)]) rfl rfl rfl rfl f_X9_isSign rfl rfl rfl rfl ?_
                refine ev_loc f_X9_isSign (nx := 1) rfl rfl rfl rfl ?_
                refine ev_bp f_X9_isSign (nx := 3) (v := 59) rfl (by decide) rfl ?_
                refine ev_f f_X9_isSign (t1 := 36) (t2 := 6) rfl rfl rfl (t_neT' (by decide : (59:Int32).toInt ≤ (59:Int)) l161 (by decide)) ?_
                refine ev_loc f_X9_isSign (nx := 7) rfl rfl rfl rfl ?_
                refine ev_bp f_X9_isSign (nx := 9) (v := 60) rfl (by decide) rfl ?_
                refine ev_f f_X9_isSign (t1 := 36) (t2 := 12) rfl rfl rfl (t_neT' (by decide : (60:Int32).toInt ≤ (60:Int)) l161 (by decide)) ?_
                refine ev_loc f_X9_isSign (nx := 13) rfl rfl rfl rfl ?_
                refine ev_bp f_X9_isSign (nx := 15) (v := 62) rfl (by decide) rfl ?_
                refine ev_f f_X9_isSign (t1 := 36) (t2 := 18) rfl rfl rfl (t_neT' (by decide : (62:Int32).toInt ≤ (62:Int)) l161 (by decide)) ?_
                refine ev_loc f_X9_isSign (nx := 19) rfl rfl rfl rfl ?_
                refine ev_bp f_X9_isSign (nx := 21) (v := 61) rfl (by decide) rfl ?_
                refine ev_f f_X9_isSign (t1 := 36) (t2 := 24) rfl rfl rfl (t_neT' (by decide : (61:Int32).toInt ≤ (61:Int)) l161 (by decide)) ?_
                refine ev_loc f_X9_isSign (nx := 25) rfl rfl rfl rfl ?_
                refine ev_bp f_X9_isSign (nx := 27) (v := 40) rfl (by decide) rfl ?_
                refine ev_f f_X9_isSign (t1 := 36) (t2 := 30) rfl rfl rfl (t_neT' (by decide : (40:Int32).toInt ≤ (40:Int)) l161 (by decide)) ?_
                refine ev_loc f_X9_isSign (nx := 31) rfl rfl rfl rfl ?_
                refine ev_bp f_X9_isSign (nx := 33) (v := 41) rfl (by decide) rfl ?_
                refine ev_f f_X9_isSign (t1 := 36) (t2 := 40) rfl rfl rfl (t_neT' (by decide : (41:Int32).toInt ≤ (41:Int)) l161 (by decide)) ?_
                refine ev_ic f_X9_isSign (nx := 41) (v := 0) rfl (by decide) rfl ?_
                refine ev_retK1 f_X9_isSign rfl rfl rfl ?_
                refine ev_t f_X9_step (t1 := 142) (t2 := 138) rfl rfl rfl (by decide) ?_
                refine ev_ic f_X9_step (nx := 143) (v := 4) rfl (by decide) rfl ?_
                refine ev_putIT f_X9_step (nx := 146) rfl p_a0.1 rfl rfl rfl (hI.put0 p_a0.1 rfl rfl) (hX.upI (t_inO hI.wf p_a0.1 (t_outO hI.wf p_a0.1 rfl) rfl)) (fun g162 e162 hI hX => ?_)
                refine ev_loc f_X9_step (nx := 147) rfl rfl rfl rfl ?_
                refine ev_loc f_X9_step (nx := 148) rfl rfl rfl rfl ?_
                refine ev_putIT f_X9_step (nx := 151) rfl p_a0.1 rfl rfl rfl (hI.put0 p_a0.1 rfl rfl) (hX.upI (t_inO hI.wf p_a0.1 (t_outO hI.wf p_a0.1 rfl) rfl)) (fun g163 e163 hI hX => ?_)
                refine ev_loc f_X9_step (nx := 152) rfl rfl rfl rfl ?_
                refine ev_alu f_X9_step (nx := 153) rfl rfl rfl rfl ?_
                refine ev_gvI f_X9_step (nx := 156) (w := (gi1 ar0 2)) rfl p_a0.1 rfl rfl ((by rw [e163]; exact x_up2_off (Or.inr (by decide)) : g163 ar0 2 = g162 ar0 2).trans ((by rw [e162]; exact x_up2_off (Or.inr (by decide)) : g162 ar0 2 = g96 ar0 2).trans ((by rw [e96]; exact x_up2_off (Or.inr (by decide)) : g96 ar0 2 = gi1 ar0 2).trans rfl))) rfl ?_
                refine ev_ic f_X9_step (nx := 157) (v := 1) rfl (by decide) rfl ?_
                refine ev_addC f_X9_step (nx := 158) (c := 1) (l := 1) (u := 900) rfl (by decide) l2 u81 rfl rfl (by decide) (by decide) rfl (fun z164 e164 l164 u164 => ?_)
                refine ev_putIT f_X9_step (nx := 161) rfl p_a0.1 rfl rfl rfl (hI.putB p_a0.1 rfl rfl l164 (by decide) u164 (by decide)) (hX.upI (t_inO hI.wf p_a0.1 (t_outO hI.wf p_a0.1 rfl) rfl)) (fun g165 e165 hI hX => ?_)
                exact ev_ret f_X9_step rfl rfl rfl ⟨_, _, _, rfl, hI, hX, rfl⟩
              · have u166 : w99.toInt ≤ 122 := t_leu (t_nlt h160) (by decide : (122:Int32).toInt ≤ (122:Int))
                refine ev_loc f_X9_step (nx := 105) rfl rfl rfl rfl ?_
                refine ev_c0 f_X9_step (nx := 108) (r := []) rfl rfl rfl rfl rfl rfl rfl (c_stepWord hI (ar0) p_a0) rfl hX rfl (fun gi167 gl167 gr167 hI hX hC167 => ?_)
                replace p_a0 := p_a0.ext hC167.2
                refine ev_jmp f_X9_step (nx := 161) rfl rfl rfl ?_
                exact ev_ret f_X9_step rfl rfl rfl ⟨_, _, _, rfl, hI, hX, rfl⟩
          · have u168 : (gi1 ar0 1).toInt ≤ 899 := t_leu (t_nlt h98) u81
            have l169 : 1 ≤ (gi1 ar0 2).toInt := t_lel (t_nlt h98) l82
            refine ev_loc f_X9_step (nx := 77) rfl rfl rfl rfl ?_
            refine ev_ic f_X9_step (nx := 78) (v := 3) rfl (by decide) rfl ?_
            refine ev_putIT f_X9_step (nx := 81) rfl p_a0.1 rfl rfl rfl (hI.put0 p_a0.1 rfl rfl) (hX.upI (t_inO hI.wf p_a0.1 (t_outO hI.wf p_a0.1 rfl) rfl)) (fun g170 e170 hI hX => ?_)
            exact ev_ret f_X9_step rfl rfl rfl ⟨_, _, _, rfl, hI, hX, rfl⟩
  refine ev_sub (lo := [(0, .ref ar0)]) rfl (t_sc rfl t_sn) ?_
  exact L1 _ gi gl gr  hI hX p_a0 rfl
noncomputable def wl_isBlasts : List (Nat × Nat) := []
theorem c_isBlasts {X : x_Ext} {d : Nat} {sh : List (Nat ⊕ (Nat × Nat))} {gi : Nat → Nat → Int32} {gl : Nat → Nat → Int64} {gr : Nat → Nat → Value} (hI : t_I sh gi gr) (ar0 : Nat) (p_a0 : t_Tk sh gr ar0) : x_Me X (d + 1) n_X9_isBlasts [.ref ar0] (sh, gi, gl, gr) (t_P wl_isBlasts sh gi gl gr (t_Ri 0 1)) := by
  have hX : t_X wl_isBlasts sh gi gl gr gi gl gr := t_X.rf
  refine me_i f_X9_isBlasts p_a0.1 rfl rfl rfl ?_
  refine ev_loc f_X9_isBlasts (nx := 1) rfl rfl rfl rfl ?_
  refine ev_getI f_X9_isBlasts (nx := 4) rfl p_a0.1 rfl rfl rfl ?_
  refine ev_if f_X9_isBlasts (t1 := 7) (t2 := 16) rfl rfl rfl (fun h1 => ?_) (fun h1 => ?_)
  · have u2 : (gi ar0 3).toInt ≤ 0 := t_equ h1 (by decide : (0:Int32).toInt ≤ (0:Int))
    have l3 : 0 ≤ (gi ar0 3).toInt := t_eql h1 (by decide : (0:Int) ≤ (0:Int32).toInt)
    refine ev_loc f_X9_isBlasts (nx := 8) rfl rfl rfl rfl ?_
    refine ev_getI f_X9_isBlasts (nx := 11) rfl p_a0.1 rfl rfl rfl ?_
    refine ev_bp f_X9_isBlasts (nx := 13) (v := 6) rfl (by decide) rfl ?_
    refine ev_if f_X9_isBlasts (t1 := 18) (t2 := 16) rfl rfl rfl (fun h4 => ?_) (fun h4 => ?_)
    · have u5 : (gi ar0 5).toInt ≤ 6 := t_leu h4 (by decide : (6:Int32).toInt ≤ (6:Int))
      refine ev_loc f_X9_isBlasts (nx := 19) rfl rfl rfl rfl ?_
      refine ev_getI f_X9_isBlasts (nx := 22) rfl p_a0.1 rfl rfl rfl ?_
      obtain ⟨l6, u6⟩ := hI.b p_a0.1 (t_bdK rfl : t_bd 8 4 = some (0, 900))
      refine ev_loc f_X9_isBlasts (nx := 23) (lo' := [(1, .int (gi ar0 4)), (0, .ref ar0)]) rfl rfl rfl rfl ?_
      have L7 : ∀ (m7 : Nat) (gi7 : Nat → Nat → Int32) (gl7 : Nat → Nat → Int64) (gr7 : Nat → Nat → Value) (y7_1 : Int32), t_I sh gi7 gr7 → t_X wl_isBlasts sh gi gl gr gi7 gl7 gr7 → t_Tk sh gr7 ar0 → 0 ≤ y7_1.toInt → y7_1.toInt ≤ 900 → gi7 ar0 3 = (gi ar0 3) → gi7 ar0 4 = (gi ar0 4) → gi7 ar0 5 = (gi ar0 5) → (900 - y7_1.toInt).toNat = m7 → x_Ev X (d + 1) n_X9_isBlasts 23 [(1, .int y7_1), (0, .ref ar0)] [] (sh, gi7, gl7, gr7) (t_P wl_isBlasts sh gi gl gr (t_Ri 0 1)) := by
        intro m7
        induction m7 using Nat.strongRecOn with
        | _ m7 ih7 =>
        intro gi7 gl7 gr7 y7_1 hI hX p_a0 l7_1 u7_1 c7_0 c7_1 c7_2 hm7
        refine ev_loc f_X9_isBlasts (nx := 24) rfl rfl rfl rfl ?_
        refine ev_loc f_X9_isBlasts (nx := 25) rfl rfl rfl rfl ?_
        refine ev_getI f_X9_isBlasts (nx := 28) rfl p_a0.1 rfl rfl rfl ?_
        obtain ⟨l8, u8⟩ := hI.b p_a0.1 (t_bdK rfl : t_bd 8 2 = some (0, 900))
        refine ev_if f_X9_isBlasts (t1 := 61) (t2 := 31) rfl rfl rfl (fun h9 => ?_) (fun h9 => ?_)
        · refine ev_ic f_X9_isBlasts (nx := 62) (v := 1) rfl (by decide) rfl ?_
          exact ev_ret f_X9_isBlasts rfl rfl rfl ⟨_, _, _, rfl, hI, hX, ⟨_, rfl, (Int.le_trans (by decide : (0:Int) ≤ 1) (by decide : (1:Int) ≤ (1:Int32).toInt)), (by decide : (1:Int32).toInt ≤ (1:Int))⟩⟩
        · have u10 : y7_1.toInt ≤ 899 := t_ltu (t_nle h9) u8 rfl
          have l11 : 1 ≤ (gi7 ar0 2).toInt := t_ltl (t_nle h9) l7_1 rfl
          refine ev_loc f_X9_isBlasts (nx := 32) rfl rfl rfl rfl ?_
          have e12 := p_a0.2
          refine ev_getR f_X9_isBlasts (nx := 35) rfl p_a0.1 rfl rfl e12 rfl rfl ?_
          refine ev_loc f_X9_isBlasts (nx := 36) rfl rfl rfl rfl ?_
          refine ev_baldT f_X9_isBlasts (nx := 37) rfl (hI.wf.s rfl) rfl l7_1 (by decide) u10 (by decide) rfl (fun w13 e13 => ?_)
          refine ev_bp f_X9_isBlasts (nx := 39) (v := 108) rfl (by decide) rfl ?_
          refine ev_if f_X9_isBlasts (t1 := 55) (t2 := 42) rfl rfl rfl (fun h14 => ?_) (fun h14 => ?_)
          · have u15 : w13.toInt ≤ 108 := t_equ h14 (by decide : (108:Int32).toInt ≤ (108:Int))
            have l16 : 108 ≤ w13.toInt := t_eql h14 (by decide : (108:Int) ≤ (108:Int32).toInt)
            refine ev_incR f_X9_isBlasts (nx := 58) (c := 1) (l := 1) (u := 900) rfl rfl (by decide) (by decide) l7_1 u10 rfl rfl (by decide) (by decide) rfl (fun z17 e17 l17 u17 => ?_)
            refine ev_jmp f_X9_isBlasts (nx := 23) rfl rfl rfl ?_
            refine ev_sub (lo := [(1, .int z17), (0, .ref ar0)]) rfl (t_sc rfl (t_sc rfl t_sn)) ?_
            exact ih7 _ (by omega) gi7 gl7 gr7 (z17) hI hX p_a0 (Int.le_trans (by decide : (0:Int) ≤ 1) l17) u17 c7_0 c7_1 c7_2 rfl
          · refine ev_loc f_X9_isBlasts (nx := 43) rfl rfl rfl rfl ?_
            refine ev_getR f_X9_isBlasts (nx := 46) (v := .ref 2) rfl p_a0.1 rfl rfl e12 rfl rfl ?_
            refine ev_loc f_X9_isBlasts (nx := 47) rfl rfl rfl rfl ?_
            refine ev_baldT f_X9_isBlasts (nx := 48) rfl (hI.wf.s rfl) rfl l7_1 (by decide) u10 (by decide) rfl (fun w18 e18 => ?_)
            refine ev_bp f_X9_isBlasts (nx := 50) (v := 115) rfl (by decide) rfl ?_
            refine ev_if f_X9_isBlasts (t1 := 55) (t2 := 53) rfl rfl rfl (fun h19 => ?_) (fun h19 => ?_)
            · have u20 : w18.toInt ≤ 115 := t_equ h19 (by decide : (115:Int32).toInt ≤ (115:Int))
              have l21 : 115 ≤ w18.toInt := t_eql h19 (by decide : (115:Int) ≤ (115:Int32).toInt)
              refine ev_incR f_X9_isBlasts (nx := 58) (c := 1) (l := 1) (u := 900) rfl rfl (by decide) (by decide) l7_1 u10 rfl rfl (by decide) (by decide) rfl (fun z22 e22 l22 u22 => ?_)
              refine ev_jmp f_X9_isBlasts (nx := 23) rfl rfl rfl ?_
              refine ev_sub (lo := [(1, .int z22), (0, .ref ar0)]) rfl (t_sc rfl (t_sc rfl t_sn)) ?_
              exact ih7 _ (by omega) gi7 gl7 gr7 (z22) hI hX p_a0 (Int.le_trans (by decide : (0:Int) ≤ 1) l22) u22 c7_0 c7_1 c7_2 rfl
            · refine ev_ic f_X9_isBlasts (nx := 54) (v := 0) rfl (by decide) rfl ?_
              exact ev_ret f_X9_isBlasts rfl rfl rfl ⟨_, _, _, rfl, hI, hX, ⟨_, rfl, (by decide : (0:Int) ≤ (0:Int32).toInt), (Int.le_trans (by decide : (0:Int32).toInt ≤ (0:Int)) (by decide : (0:Int) ≤ 1))⟩⟩
      refine ev_sub (lo := [(1, .int (gi ar0 4)), (0, .ref ar0)]) rfl (t_sc rfl (t_sc rfl t_sn)) ?_
      exact L7 _ gi gl gr ((gi ar0 4)) hI hX p_a0 l6 u6 rfl rfl rfl rfl
    · have l23 : 7 ≤ (gi ar0 5).toInt := t_ltl (t_nle h4) (by decide : (6:Int) ≤ (6:Int32).toInt) rfl
      refine ev_ic f_X9_isBlasts (nx := 17) (v := 0) rfl (by decide) rfl ?_
      exact ev_ret f_X9_isBlasts rfl rfl rfl ⟨_, _, _, rfl, hI, hX, ⟨_, rfl, (by decide : (0:Int) ≤ (0:Int32).toInt), (Int.le_trans (by decide : (0:Int32).toInt ≤ (0:Int)) (by decide : (0:Int) ≤ 1))⟩⟩
  · refine ev_ic f_X9_isBlasts (nx := 17) (v := 0) rfl (by decide) rfl ?_
    exact ev_ret f_X9_isBlasts rfl rfl rfl ⟨_, _, _, rfl, hI, hX, ⟨_, rfl, (by decide : (0:Int) ≤ (0:Int32).toInt), (Int.le_trans (by decide : (0:Int32).toInt ≤ (0:Int)) (by decide : (0:Int) ≤ 1))⟩⟩
noncomputable def wl_takeNewName : List (Nat × Nat) := [(115, 4), (118, 2), (118, 3), (118, 4), (118, 5), (118, 6), (118, 7), (118, 8), (118, 9), (118, 10), (118, 11), (131, 9999)]
theorem c_takeNewName {X : x_Ext} {d : Nat} {sh : List (Nat ⊕ (Nat × Nat))} {gi : Nat → Nat → Int32} {gl : Nat → Nat → Int64} {gr : Nat → Nat → Value} (hI : t_I sh gi gr) (ar0 : Nat) (p_a0 : t_RR sh gr ar0) : x_Me X (d + 3) n_X6_takeNewName [.ref ar0] (sh, gi, gl, gr) (t_P wl_takeNewName sh gi gl gr (t_Ri 0 1)) := by
  have hX : t_X wl_takeNewName sh gi gl gr gi gl gr := t_X.rf
  refine me_i f_X6_takeNewName p_a0.1 rfl rfl rfl ?_
  refine ev_loc f_X6_takeNewName (nx := 1) rfl rfl rfl rfl ?_
  obtain ⟨a1, e1, p1⟩ := p_a0.2.1
  refine ev_getR f_X6_takeNewName (nx := 4) rfl p_a0.1 rfl rfl e1 rfl rfl ?_
  refine ev_inV1 f_X6_takeNewName (nx := 7) (lo2 := [(0, .ref a1)]) rfl rfl rfl rfl f_X9_isName p1.1 rfl rfl rfl rfl rfl ?_
  refine ev_loc f_X9_isName (nx := 1) rfl rfl rfl rfl ?_
  refine ev_getI f_X9_isName (nx := 4) rfl p1.1 rfl rfl rfl ?_
  refine ev_if f_X9_isName (t1 := 7) (t2 := 27) rfl rfl rfl (fun h2 => ?_) (fun h2 => ?_)
  · have u3 : (gi a1 3).toInt ≤ 0 := t_equ h2 (by decide : (0:Int32).toInt ≤ (0:Int))
    have l4 : 0 ≤ (gi a1 3).toInt := t_eql h2 (by decide : (0:Int) ≤ (0:Int32).toInt)
    refine ev_loc f_X9_isName (nx := 8) rfl rfl rfl rfl ?_
    have k5 := hI.2.2.2.1.2.2.2.2.2 a1 p1.1
    obtain ⟨v5, e5⟩ : ∃ v, gr a1 7 = v := ⟨_, rfl⟩
    rw [e5] at k5
    refine ev_getR f_X9_isName (nx := 11) rfl p1.1 rfl rfl e5 (t_KwR k5) rfl ?_
    refine ev_nul f_X9_isName (t1 := 14) (t2 := 27) rfl rfl rfl (t_knw k5) (fun h6 => ?_) (fun h6 => ?_)
    · refine ev_loc f_X9_isName (nx := 15) rfl rfl rfl rfl ?_
      refine ev_getI f_X9_isName (nx := 18) rfl p1.1 rfl rfl rfl ?_
      refine ev_bp f_X9_isName (nx := 20) (v := 8) rfl (by decide) rfl ?_
      refine ev_if f_X9_isName (t1 := 27) (t2 := 23) rfl rfl rfl (fun h7 => ?_) (fun h7 => ?_)
      · have l8 : 9 ≤ (gi a1 5).toInt := t_ltl h7 (by decide : (8:Int) ≤ (8:Int32).toInt) rfl
        refine ev_ic f_X9_isName (nx := 28) (v := 0) rfl (by decide) rfl ?_
        refine ev_retK1 f_X9_isName rfl rfl rfl ?_
        refine ev_t f_X6_takeNewName (t1 := 10) (t2 := 19) rfl rfl rfl (by decide) ?_
        refine ev_loc f_X6_takeNewName (nx := 11) rfl rfl rfl rfl ?_
        refine ev_getR f_X6_takeNewName (nx := 14) (v := .ref a1) rfl p_a0.1 rfl rfl e1 rfl rfl ?_
        refine ev_ic f_X6_takeNewName (nx := 15) (v := 2) rfl (by decide) rfl ?_
        refine ev_inV2 f_X6_takeNewName (nx := 18) (lo2 := [(0, .ref a1), (1, .int 2)]) rfl rfl rfl rfl f_X9_refuseToken p1.1 rfl rfl rfl rfl rfl ?_
        refine ev_loc f_X9_refuseToken (nx := 1) rfl rfl rfl rfl ?_
        refine ev_loc f_X9_refuseToken (nx := 2) rfl rfl rfl rfl ?_
        refine ev_gvI f_X9_refuseToken (nx := 5) (w := (gi a1 3)) rfl p1.1 rfl rfl rfl rfl ?_
        refine ev_ic f_X9_refuseToken (nx := 6) (v := 4) rfl (by decide) rfl ?_
        refine ev_f f_X9_refuseToken (t1 := 9) (t2 := 13) rfl rfl rfl (t_neT u3 (by decide : (4:Int) ≤ (4:Int32).toInt) (by decide)) ?_
        refine ev_loc f_X9_refuseToken (nx := 14) rfl rfl rfl rfl ?_
        refine ev_putIT f_X9_refuseToken (nx := 17) rfl p1.1 rfl rfl rfl (hI.put0 p1.1 rfl rfl) (hX.upI (t_inO hI.wf p1.1 (t_outO hI.wf p1.1 rfl) rfl)) (fun g9 e9 hI hX => ?_)
        refine ev_loc f_X9_refuseToken (nx := 18) rfl rfl rfl rfl ?_
        refine ev_loc f_X9_refuseToken (nx := 19) rfl rfl rfl rfl ?_
        refine ev_getI f_X9_refuseToken (nx := 22) rfl p1.1 rfl rfl rfl ?_
        obtain ⟨l10, u10⟩ := hI.b p1.1 (t_bdK rfl : t_bd 8 4 = some (0, 900))
        refine ev_putIT f_X9_refuseToken (nx := 25) rfl p1.1 rfl rfl rfl (hI.put0 p1.1 rfl rfl) (hX.upI (t_inO hI.wf p1.1 (t_outO hI.wf p1.1 rfl) rfl)) (fun g11 e11 hI hX => ?_)
        refine ev_ic f_X9_refuseToken (nx := 26) (v := 0) rfl (by decide) rfl ?_
        refine ev_retK1 f_X9_refuseToken rfl rfl rfl ?_
        exact ev_ret f_X6_takeNewName rfl rfl rfl ⟨_, _, _, rfl, hI, hX, ⟨_, rfl, (by decide : (0:Int) ≤ (0:Int32).toInt), (Int.le_trans (by decide : (0:Int32).toInt ≤ (0:Int)) (by decide : (0:Int) ≤ 1))⟩⟩
      · have u12 : (gi a1 5).toInt ≤ 8 := t_leu (t_nlt h7) (by decide : (8:Int32).toInt ≤ (8:Int))
        refine ev_ic f_X9_isName (nx := 24) (v := 1) rfl (by decide) rfl ?_
        refine ev_jmp f_X9_isName (nx := 28) rfl rfl rfl ?_
        refine ev_retK1 f_X9_isName rfl rfl rfl ?_
        refine ev_f f_X6_takeNewName (t1 := 10) (t2 := 19) rfl rfl rfl (by decide) ?_
        refine ev_ic f_X6_takeNewName (nx := 20) (v := 0) rfl (by decide) rfl ?_
        refine ev_loc f_X6_takeNewName (nx := 21) (lo' := [(1, .int 0), (0, .ref ar0)]) rfl rfl rfl rfl ?_
        have L13 : ∀ (m13 : Nat) (gi13 : Nat → Nat → Int32) (gl13 : Nat → Nat → Int64) (gr13 : Nat → Nat → Value) (y13_1 : Int32), t_I sh gi13 gr13 → t_X wl_takeNewName sh gi gl gr gi13 gl13 gr13 → t_RR sh gr13 ar0 → t_Tk sh gr13 a1 → 0 ≤ y13_1.toInt → y13_1.toInt ≤ 18 → gi13 a1 3 = (gi a1 3) → gi13 a1 5 = (gi a1 5) → gr13 a1 7 = v5 → gr13 ar0 0 = .ref a1 → (18 - y13_1.toInt).toNat = m13 → x_Ev X (d + 3) n_X6_takeNewName 21 [(1, .int y13_1), (0, .ref ar0)] [] (sh, gi13, gl13, gr13) (t_P wl_takeNewName sh gi gl gr (t_Ri 0 1)) := by
          intro m13
          induction m13 using Nat.strongRecOn with
          | _ m13 ih13 =>
          intro gi13 gl13 gr13 y13_1 hI hX p_a0 p1 l13_1 u13_1 c13_0 c13_1 c13_2 c13_3 hm13
          refine ev_loc f_X6_takeNewName (nx := 22) rfl rfl rfl rfl ?_
          refine ev_loc f_X6_takeNewName (nx := 23) rfl rfl rfl rfl ?_
          refine ev_getI f_X6_takeNewName (nx := 26) rfl p_a0.1 rfl rfl rfl ?_
          obtain ⟨l14, u14⟩ := hI.b p_a0.1 (t_bdK rfl : t_bd 5 4 = some (0, 18))
          refine ev_if f_X6_takeNewName (t1 := 61) (t2 := 29) rfl rfl rfl (fun h15 => ?_) (fun h15 => ?_)
          · refine ev_loc f_X6_takeNewName (nx := 62) rfl rfl rfl rfl ?_
            refine ev_gvI f_X6_takeNewName (nx := 65) (w := (gi13 ar0 4)) rfl p_a0.1 rfl rfl rfl rfl ?_
            refine ev_loc f_X6_takeNewName (nx := 66) rfl rfl rfl rfl ?_
            obtain ⟨a16, e16, s16, o16⟩ := p_a0.2.2.2.2
            refine ev_getR f_X6_takeNewName (nx := 69) rfl p_a0.1 rfl rfl e16 rfl rfl ?_
            refine ev_alenv f_X6_takeNewName (nx := 70) (w := 18) rfl s16 rfl (by decide) rfl ?_
            refine ev_if f_X6_takeNewName (t1 := 99) (t2 := 73) rfl rfl rfl (fun h17 => ?_) (fun h17 => ?_)
            · have l18 : 18 ≤ (gi13 ar0 4).toInt := t_lel h17 (by decide : (18:Int) ≤ (18:Int32).toInt)
              refine ev_loc f_X6_takeNewName (nx := 100) rfl rfl rfl rfl ?_
              refine ev_getR f_X6_takeNewName (nx := 103) (v := .ref a1) rfl p_a0.1 rfl rfl c13_3 rfl rfl ?_
              refine ev_c0 f_X6_takeNewName (nx := 106) (r := []) rfl rfl rfl rfl rfl rfl rfl (c_step hI (a1) p1) rfl hX rfl (fun gi19 gl19 gr19 hI hX hC19 => ?_)
              replace p_a0 := p_a0.ext hC19.2
              replace p1 := p1.ext hC19.2
              refine ev_ic f_X6_takeNewName (nx := 107) (v := 1) rfl (by decide) rfl ?_
              exact ev_ret f_X6_takeNewName rfl rfl rfl ⟨_, _, _, rfl, hI, hX, ⟨_, rfl, (Int.le_trans (by decide : (0:Int) ≤ 1) (by decide : (1:Int) ≤ (1:Int32).toInt)), (by decide : (1:Int32).toInt ≤ (1:Int))⟩⟩
            · have u20 : (gi13 ar0 4).toInt ≤ 17 := t_ltu (t_nle h17) (by decide : (18:Int32).toInt ≤ (18:Int)) rfl
              refine ev_loc f_X6_takeNewName (nx := 74) rfl rfl rfl rfl ?_
              refine ev_getR f_X6_takeNewName (nx := 77) (v := .ref a16) rfl p_a0.1 rfl rfl e16 rfl rfl ?_
              refine ev_loc f_X6_takeNewName (nx := 78) rfl rfl rfl rfl ?_
              refine ev_gvI f_X6_takeNewName (nx := 81) (w := (gi13 ar0 4)) rfl p_a0.1 rfl rfl rfl rfl ?_
              refine ev_loc f_X6_takeNewName (nx := 82) rfl rfl rfl rfl ?_
              refine ev_getR f_X6_takeNewName (nx := 85) (v := .ref a1) rfl p_a0.1 rfl rfl c13_3 rfl rfl ?_
              refine ev_getL f_X6_takeNewName (nx := 88) rfl p1.1 rfl rfl rfl ?_
              refine ev_lastT f_X6_takeNewName (nx := 89) rfl s16 l14 (by decide) u20 (by decide) rfl (hX.upL (t_inOA hI.wf s16 o16 rfl)) (fun g21 e21 hX => ?_)
              refine ev_loc f_X6_takeNewName (nx := 90) rfl rfl rfl rfl ?_
              refine ev_alu f_X6_takeNewName (nx := 91) rfl rfl rfl rfl ?_
              refine ev_gvI f_X6_takeNewName (nx := 94) (w := (gi13 ar0 4)) rfl p_a0.1 rfl rfl rfl rfl ?_
              refine ev_ic f_X6_takeNewName (nx := 95) (v := 1) rfl (by decide) rfl ?_
              refine ev_addC f_X6_takeNewName (nx := 96) (c := 1) (l := 1) (u := 18) rfl (by decide) l14 u20 rfl rfl (by decide) (by decide) rfl (fun z22 e22 l22 u22 => ?_)
              refine ev_putIT f_X6_takeNewName (nx := 99) rfl p_a0.1 rfl rfl rfl (hI.putB p_a0.1 rfl rfl l22 (by decide) u22 (by decide)) (hX.upI (t_inO hI.wf p_a0.1 (t_outO hI.wf p_a0.1 rfl) rfl)) (fun g23 e23 hI hX => ?_)
              refine ev_loc f_X6_takeNewName (nx := 100) rfl rfl rfl rfl ?_
              refine ev_getR f_X6_takeNewName (nx := 103) (v := .ref a1) rfl p_a0.1 rfl rfl c13_3 rfl rfl ?_
              refine ev_c0 f_X6_takeNewName (nx := 106) (r := []) rfl rfl rfl rfl rfl rfl rfl (c_step hI (a1) p1) rfl hX rfl (fun gi24 gl24 gr24 hI hX hC24 => ?_)
              replace p_a0 := p_a0.ext hC24.2
              replace p1 := p1.ext hC24.2
              refine ev_ic f_X6_takeNewName (nx := 107) (v := 1) rfl (by decide) rfl ?_
              exact ev_ret f_X6_takeNewName rfl rfl rfl ⟨_, _, _, rfl, hI, hX, ⟨_, rfl, (Int.le_trans (by decide : (0:Int) ≤ 1) (by decide : (1:Int) ≤ (1:Int32).toInt)), (by decide : (1:Int32).toInt ≤ (1:Int))⟩⟩
          · have u25 : y13_1.toInt ≤ 17 := t_ltu (t_nle h15) u14 rfl
            have l26 : 1 ≤ (gi13 ar0 4).toInt := t_ltl (t_nle h15) l13_1 rfl
            refine ev_loc f_X6_takeNewName (nx := 30) rfl rfl rfl rfl ?_
            obtain ⟨a27, e27, s27, o27⟩ := p_a0.2.2.2.2
            refine ev_getR f_X6_takeNewName (nx := 33) rfl p_a0.1 rfl rfl e27 rfl rfl ?_
            refine ev_loc f_X6_takeNewName (nx := 34) rfl rfl rfl rfl ?_
            refine ev_laldT f_X6_takeNewName (nx := 35) rfl s27 l13_1 (by decide) u25 (by decide) rfl (fun w28 e28 => ?_)
            refine ev_loc f_X6_takeNewName (nx := 36) rfl rfl rfl rfl ?_
            refine ev_getR f_X6_takeNewName (nx := 39) (v := .ref a1) rfl p_a0.1 rfl rfl c13_3 rfl rfl ?_
            refine ev_getL f_X6_takeNewName (nx := 42) rfl p1.1 rfl rfl rfl ?_
            refine ev_anyI f_X6_takeNewName (nx := 43) rfl rfl rfl rfl (fun z29 => ?_)
            refine ev_if f_X6_takeNewName (t1 := 46) (t2 := 55) rfl rfl rfl (fun h30 => ?_) (fun h30 => ?_)
            · have u31 : z29.toInt ≤ 0 := t_equ h30 (by decide : (0:Int32).toInt ≤ (0:Int))
              have l32 : 0 ≤ z29.toInt := t_eql h30 (by decide : (0:Int) ≤ (0:Int32).toInt)
              refine ev_loc f_X6_takeNewName (nx := 47) rfl rfl rfl rfl ?_
              refine ev_getR f_X6_takeNewName (nx := 50) (v := .ref a1) rfl p_a0.1 rfl rfl c13_3 rfl rfl ?_
              refine ev_ic f_X6_takeNewName (nx := 51) (v := 3) rfl (by decide) rfl ?_
              refine ev_inV2 f_X6_takeNewName (nx := 54) (lo2 := [(0, .ref a1), (1, .int 3)]) rfl rfl rfl rfl f_X9_refuseToken p1.1 rfl rfl rfl rfl rfl ?_
              refine ev_loc f_X9_refuseToken (nx := 1) rfl rfl rfl rfl ?_
              refine ev_loc f_X9_refuseToken (nx := 2) rfl rfl rfl rfl ?_
              refine ev_gvI f_X9_refuseToken (nx := 5) (w := (gi a1 3)) rfl p1.1 rfl rfl c13_0 rfl ?_
              refine ev_ic f_X9_refuseToken (nx := 6) (v := 4) rfl (by decide) rfl ?_
              refine ev_f f_X9_refuseToken (t1 := 9) (t2 := 13) rfl rfl rfl (t_neT u3 (by decide : (4:Int) ≤ (4:Int32).toInt) (by decide)) ?_
              refine ev_loc f_X9_refuseToken (nx := 14) rfl rfl rfl rfl ?_
              refine ev_putIT f_X9_refuseToken (nx := 17) rfl p1.1 rfl rfl rfl (hI.put0 p1.1 rfl rfl) (hX.upI (t_inO hI.wf p1.1 (t_outO hI.wf p1.1 rfl) rfl)) (fun g33 e33 hI hX => ?_)
              refine ev_loc f_X9_refuseToken (nx := 18) rfl rfl rfl rfl ?_
              refine ev_loc f_X9_refuseToken (nx := 19) rfl rfl rfl rfl ?_
              refine ev_getI f_X9_refuseToken (nx := 22) rfl p1.1 rfl rfl rfl ?_
              obtain ⟨l34, u34⟩ := hI.b p1.1 (t_bdK rfl : t_bd 8 4 = some (0, 900))
              refine ev_putIT f_X9_refuseToken (nx := 25) rfl p1.1 rfl rfl rfl (hI.put0 p1.1 rfl rfl) (hX.upI (t_inO hI.wf p1.1 (t_outO hI.wf p1.1 rfl) rfl)) (fun g35 e35 hI hX => ?_)
              refine ev_ic f_X9_refuseToken (nx := 26) (v := 0) rfl (by decide) rfl ?_
              refine ev_retK1 f_X9_refuseToken rfl rfl rfl ?_
              exact ev_ret f_X6_takeNewName rfl rfl rfl ⟨_, _, _, rfl, hI, hX, ⟨_, rfl, (by decide : (0:Int) ≤ (0:Int32).toInt), (Int.le_trans (by decide : (0:Int32).toInt ≤ (0:Int)) (by decide : (0:Int) ≤ 1))⟩⟩
            · refine ev_incR f_X6_takeNewName (nx := 58) (c := 1) (l := 1) (u := 18) rfl rfl (by decide) (by decide) l13_1 u25 rfl rfl (by decide) (by decide) rfl (fun z36 e36 l36 u36 => ?_)
              refine ev_jmp f_X6_takeNewName (nx := 21) rfl rfl rfl ?_
              refine ev_sub (lo := [(1, .int z36), (0, .ref ar0)]) rfl (t_sc rfl (t_sc rfl t_sn)) ?_
              exact ih13 _ (by omega) gi13 gl13 gr13 (z36) hI hX p_a0 p1 (Int.le_trans (by decide : (0:Int) ≤ 1) l36) u36 c13_0 c13_1 c13_2 c13_3 rfl
        refine ev_sub (lo := [(1, .int 0), (0, .ref ar0)]) rfl (t_sc rfl (t_sc rfl t_sn)) ?_
        exact L13 _ gi gl gr (0) hI hX p_a0 p1 (by decide : (0:Int) ≤ (0:Int32).toInt) (Int.le_trans (by decide : (0:Int32).toInt ≤ (0:Int)) (by decide : (0:Int) ≤ 18)) rfl rfl e5 e1 rfl
    · refine ev_ic f_X9_isName (nx := 28) (v := 0) rfl (by decide) rfl ?_
      refine ev_retK1 f_X9_isName rfl rfl rfl ?_
      refine ev_t f_X6_takeNewName (t1 := 10) (t2 := 19) rfl rfl rfl (by decide) ?_
      refine ev_loc f_X6_takeNewName (nx := 11) rfl rfl rfl rfl ?_
      refine ev_getR f_X6_takeNewName (nx := 14) (v := .ref a1) rfl p_a0.1 rfl rfl e1 rfl rfl ?_
      refine ev_ic f_X6_takeNewName (nx := 15) (v := 2) rfl (by decide) rfl ?_
      refine ev_inV2 f_X6_takeNewName (nx := 18) (lo2 := [(0, .ref a1), (1, .int 2)]) rfl rfl rfl rfl f_X9_refuseToken p1.1 rfl rfl rfl rfl rfl ?_
      refine ev_loc f_X9_refuseToken (nx := 1) rfl rfl rfl rfl ?_
      refine ev_loc f_X9_refuseToken (nx := 2) rfl rfl rfl rfl ?_
      refine ev_gvI f_X9_refuseToken (nx := 5) (w := (gi a1 3)) rfl p1.1 rfl rfl rfl rfl ?_
      refine ev_ic f_X9_refuseToken (nx := 6) (v := 4) rfl (by decide) rfl ?_
      refine ev_f f_X9_refuseToken (t1 := 9) (t2 := 13) rfl rfl rfl (t_neT u3 (by decide : (4:Int) ≤ (4:Int32).toInt) (by decide)) ?_
      refine ev_loc f_X9_refuseToken (nx := 14) rfl rfl rfl rfl ?_
      refine ev_putIT f_X9_refuseToken (nx := 17) rfl p1.1 rfl rfl rfl (hI.put0 p1.1 rfl rfl) (hX.upI (t_inO hI.wf p1.1 (t_outO hI.wf p1.1 rfl) rfl)) (fun g37 e37 hI hX => ?_)
      refine ev_loc f_X9_refuseToken (nx := 18) rfl rfl rfl rfl ?_
      refine ev_loc f_X9_refuseToken (nx := 19) rfl rfl rfl rfl ?_
      refine ev_getI f_X9_refuseToken (nx := 22) rfl p1.1 rfl rfl rfl ?_
      obtain ⟨l38, u38⟩ := hI.b p1.1 (t_bdK rfl : t_bd 8 4 = some (0, 900))
      refine ev_putIT f_X9_refuseToken (nx := 25) rfl p1.1 rfl rfl rfl (hI.put0 p1.1 rfl rfl) (hX.upI (t_inO hI.wf p1.1 (t_outO hI.wf p1.1 rfl) rfl)) (fun g39 e39 hI hX => ?_)
      refine ev_ic f_X9_refuseToken (nx := 26) (v := 0) rfl (by decide) rfl ?_
      refine ev_retK1 f_X9_refuseToken rfl rfl rfl ?_
      exact ev_ret f_X6_takeNewName rfl rfl rfl ⟨_, _, _, rfl, hI, hX, ⟨_, rfl, (by decide : (0:Int) ≤ (0:Int32).toInt), (Int.le_trans (by decide : (0:Int32).toInt ≤ (0:Int)) (by decide : (0:Int) ≤ 1))⟩⟩
  · refine ev_ic f_X9_isName (nx := 28) (v := 0) rfl (by decide) rfl ?_
    refine ev_retK1 f_X9_isName rfl rfl rfl ?_
    refine ev_t f_X6_takeNewName (t1 := 10) (t2 := 19) rfl rfl rfl (by decide) ?_
    refine ev_loc f_X6_takeNewName (nx := 11) rfl rfl rfl rfl ?_
    refine ev_getR f_X6_takeNewName (nx := 14) (v := .ref a1) rfl p_a0.1 rfl rfl e1 rfl rfl ?_
    refine ev_ic f_X6_takeNewName (nx := 15) (v := 2) rfl (by decide) rfl ?_
    refine ev_inV2 f_X6_takeNewName (nx := 18) (lo2 := [(0, .ref a1), (1, .int 2)]) rfl rfl rfl rfl f_X9_refuseToken p1.1 rfl rfl rfl rfl rfl ?_
    refine ev_loc f_X9_refuseToken (nx := 1) rfl rfl rfl rfl ?_
    refine ev_loc f_X9_refuseToken (nx := 2) rfl rfl rfl rfl ?_
    refine ev_gvI f_X9_refuseToken (nx := 5) (w := (gi a1 3)) rfl p1.1 rfl rfl rfl rfl ?_
    refine ev_ic f_X9_refuseToken (nx := 6) (v := 4) rfl (by decide) rfl ?_
    refine ev_if f_X9_refuseToken (t1 := 9) (t2 := 13) rfl rfl rfl (fun h40 => ?_) (fun h40 => ?_)
    · have u41 : (gi a1 3).toInt ≤ 4 := t_equ h40 (by decide : (4:Int32).toInt ≤ (4:Int))
      have l42 : 4 ≤ (gi a1 3).toInt := t_eql h40 (by decide : (4:Int) ≤ (4:Int32).toInt)
      refine ev_ic f_X9_refuseToken (nx := 10) (v := 1) rfl (by decide) rfl ?_
      refine ev_jmp f_X9_refuseToken (nx := 14) rfl rfl rfl ?_
      refine ev_putIT f_X9_refuseToken (nx := 17) rfl p1.1 rfl rfl rfl (hI.put0 p1.1 rfl rfl) (hX.upI (t_inO hI.wf p1.1 (t_outO hI.wf p1.1 rfl) rfl)) (fun g43 e43 hI hX => ?_)
      refine ev_loc f_X9_refuseToken (nx := 18) rfl rfl rfl rfl ?_
      refine ev_loc f_X9_refuseToken (nx := 19) rfl rfl rfl rfl ?_
      refine ev_getI f_X9_refuseToken (nx := 22) rfl p1.1 rfl rfl rfl ?_
      obtain ⟨l44, u44⟩ := hI.b p1.1 (t_bdK rfl : t_bd 8 4 = some (0, 900))
      refine ev_putIT f_X9_refuseToken (nx := 25) rfl p1.1 rfl rfl rfl (hI.put0 p1.1 rfl rfl) (hX.upI (t_inO hI.wf p1.1 (t_outO hI.wf p1.1 rfl) rfl)) (fun g45 e45 hI hX => ?_)
      refine ev_ic f_X9_refuseToken (nx := 26) (v := 0) rfl (by decide) rfl ?_
      refine ev_retK1 f_X9_refuseToken rfl rfl rfl ?_
      exact ev_ret f_X6_takeNewName rfl rfl rfl ⟨_, _, _, rfl, hI, hX, ⟨_, rfl, (by decide : (0:Int) ≤ (0:Int32).toInt), (Int.le_trans (by decide : (0:Int32).toInt ≤ (0:Int)) (by decide : (0:Int) ≤ 1))⟩⟩
    · refine ev_loc f_X9_refuseToken (nx := 14) rfl rfl rfl rfl ?_
      refine ev_putIT f_X9_refuseToken (nx := 17) rfl p1.1 rfl rfl rfl (hI.put0 p1.1 rfl rfl) (hX.upI (t_inO hI.wf p1.1 (t_outO hI.wf p1.1 rfl) rfl)) (fun g46 e46 hI hX => ?_)
      refine ev_loc f_X9_refuseToken (nx := 18) rfl rfl rfl rfl ?_
      refine ev_loc f_X9_refuseToken (nx := 19) rfl rfl rfl rfl ?_
      refine ev_getI f_X9_refuseToken (nx := 22) rfl p1.1 rfl rfl rfl ?_
      obtain ⟨l47, u47⟩ := hI.b p1.1 (t_bdK rfl : t_bd 8 4 = some (0, 900))
      refine ev_putIT f_X9_refuseToken (nx := 25) rfl p1.1 rfl rfl rfl (hI.put0 p1.1 rfl rfl) (hX.upI (t_inO hI.wf p1.1 (t_outO hI.wf p1.1 rfl) rfl)) (fun g48 e48 hI hX => ?_)
      refine ev_ic f_X9_refuseToken (nx := 26) (v := 0) rfl (by decide) rfl ?_
      refine ev_retK1 f_X9_refuseToken rfl rfl rfl ?_
      exact ev_ret f_X6_takeNewName rfl rfl rfl ⟨_, _, _, rfl, hI, hX, ⟨_, rfl, (by decide : (0:Int) ≤ (0:Int32).toInt), (Int.le_trans (by decide : (0:Int32).toInt ≤ (0:Int)) (by decide : (0:Int) ≤ 1))⟩⟩
noncomputable def wl_portNamed : List (Nat × Nat) := []
theorem c_portNamed {X : x_Ext} {d : Nat} {sh : List (Nat ⊕ (Nat × Nat))} {gi : Nat → Nat → Int32} {gl : Nat → Nat → Int64} {gr : Nat → Nat → Value} (hI : t_I sh gi gr) (ar0 : Nat) (p_a0 : t_RR sh gr ar0) (ar1 : Int64) : x_Me X (d + 1) n_X6_portNamed [.ref ar0, .long ar1] (sh, gi, gl, gr) (t_P wl_portNamed sh gi gl gr (t_Ri (-1) 5)) := by
  have hX : t_X wl_portNamed sh gi gl gr gi gl gr := t_X.rf
  refine me_i f_X6_portNamed p_a0.1 rfl rfl rfl ?_
  refine ev_ic f_X6_portNamed (nx := 1) (v := 0) rfl (by decide) rfl ?_
  refine ev_loc f_X6_portNamed (nx := 2) (lo' := [(3, .int 0), (0, .ref ar0), (1, .long ar1)]) rfl rfl rfl rfl ?_
  have L1 : ∀ (m1 : Nat) (gi1 : Nat → Nat → Int32) (gl1 : Nat → Nat → Int64) (gr1 : Nat → Nat → Value) (y1_3 : Int32), t_I sh gi1 gr1 → t_X wl_portNamed sh gi gl gr gi1 gl1 gr1 → t_RR sh gr1 ar0 → 0 ≤ y1_3.toInt → y1_3.toInt ≤ 6 → (6 - y1_3.toInt).toNat = m1 → x_Ev X (d + 1) n_X6_portNamed 2 [(3, .int y1_3), (0, .ref ar0), (1, .long ar1)] [] (sh, gi1, gl1, gr1) (t_P wl_portNamed sh gi gl gr (t_Ri (-1) 5)) := by
    intro m1
    induction m1 using Nat.strongRecOn with
    | _ m1 ih1 =>
    intro gi1 gl1 gr1 y1_3 hI hX p_a0 l1_3 u1_3 hm1
    refine ev_loc f_X6_portNamed (nx := 3) rfl rfl rfl rfl ?_
    refine ev_loc f_X6_portNamed (nx := 4) rfl rfl rfl rfl ?_
    obtain ⟨a2, e2, p2⟩ := p_a0.2.2.1
    refine ev_getR f_X6_portNamed (nx := 7) rfl p_a0.1 rfl rfl e2 rfl rfl ?_
    refine ev_getI f_X6_portNamed (nx := 10) rfl p2.1 rfl rfl rfl ?_
    obtain ⟨l3, u3⟩ := hI.b p2.1 (t_bdK rfl : t_bd 4 0 = some (0, 6))
    refine ev_if f_X6_portNamed (t1 := 32) (t2 := 13) rfl rfl rfl (fun h4 => ?_) (fun h4 => ?_)
    · refine ev_ic f_X6_portNamed (nx := 33) (v := -1) rfl (by decide) rfl ?_
      exact ev_ret f_X6_portNamed rfl rfl rfl ⟨_, _, _, rfl, hI, hX, ⟨_, rfl, (by decide : ((-1):Int) ≤ ((-1):Int32).toInt), (Int.le_trans (by decide : ((-1):Int32).toInt ≤ ((-1):Int)) (by decide : ((-1):Int) ≤ 5))⟩⟩
    · have u5 : y1_3.toInt ≤ 5 := t_ltu (t_nle h4) u3 rfl
      have l6 : 1 ≤ (gi1 a2 0).toInt := t_ltl (t_nle h4) l1_3 rfl
      refine ev_loc f_X6_portNamed (nx := 14) rfl rfl rfl rfl ?_
      obtain ⟨a7, e7, s7, o7⟩ := p_a0.2.2.2.1
      refine ev_getR f_X6_portNamed (nx := 17) rfl p_a0.1 rfl rfl e7 rfl rfl ?_
      refine ev_loc f_X6_portNamed (nx := 18) rfl rfl rfl rfl ?_
      refine ev_laldT f_X6_portNamed (nx := 19) rfl s7 l1_3 (by decide) u5 (by decide) rfl (fun w8 e8 => ?_)
      refine ev_loc f_X6_portNamed (nx := 20) rfl rfl rfl rfl ?_
      refine ev_anyI f_X6_portNamed (nx := 21) rfl rfl rfl rfl (fun z9 => ?_)
      refine ev_if f_X6_portNamed (t1 := 24) (t2 := 26) rfl rfl rfl (fun h10 => ?_) (fun h10 => ?_)
      · have u11 : z9.toInt ≤ 0 := t_equ h10 (by decide : (0:Int32).toInt ≤ (0:Int))
        have l12 : 0 ≤ z9.toInt := t_eql h10 (by decide : (0:Int) ≤ (0:Int32).toInt)
        refine ev_loc f_X6_portNamed (nx := 25) rfl rfl rfl rfl ?_
        exact ev_ret f_X6_portNamed rfl rfl rfl ⟨_, _, _, rfl, hI, hX, ⟨_, rfl, (Int.le_trans (by decide : ((-1):Int) ≤ 0) l1_3), u5⟩⟩
      · refine ev_incR f_X6_portNamed (nx := 29) (c := 1) (l := 1) (u := 6) rfl rfl (by decide) (by decide) l1_3 u5 rfl rfl (by decide) (by decide) rfl (fun z13 e13 l13 u13 => ?_)
        refine ev_jmp f_X6_portNamed (nx := 2) rfl rfl rfl ?_
        refine ev_sub (lo := [(3, .int z13), (0, .ref ar0), (1, .long ar1)]) rfl (t_sc rfl (t_sc rfl (t_sc rfl t_sn))) ?_
        exact ih1 _ (by omega) gi1 gl1 gr1 (z13) hI hX p_a0 (Int.le_trans (by decide : (0:Int) ≤ 1) l13) u13 rfl
  refine ev_sub (lo := [(3, .int 0), (0, .ref ar0), (1, .long ar1)]) rfl (t_sc rfl (t_sc rfl (t_sc rfl t_sn))) ?_
  exact L1 _ gi gl gr (0) hI hX p_a0 (by decide : (0:Int) ≤ (0:Int32).toInt) (Int.le_trans (by decide : (0:Int32).toInt ≤ (0:Int)) (by decide : (0:Int) ≤ 6)) rfl
noncomputable def wl_r_readPort : List (Nat × Nat) := [(3, 0), (4, 9999), (5, 9999), (114, 0), (115, 4), (118, 2), (118, 3), (118, 4), (118, 5), (118, 6), (118, 7), (118, 8), (118, 9), (118, 10), (118, 11), (131, 9999)]
theorem c_r_readPort {X : x_Ext} {d : Nat} {sh : List (Nat ⊕ (Nat × Nat))} {gi : Nat → Nat → Int32} {gl : Nat → Nat → Int64} {gr : Nat → Nat → Value} (hI : t_I sh gi gr) (ar0 : Nat) (p_a0 : t_RR sh gr ar0) : x_Me X (d + 4) n_X6_readPort [.ref ar0] (sh, gi, gl, gr) (t_P wl_r_readPort sh gi gl gr (t_Ri 0 1)) := by
  have hX : t_X wl_r_readPort sh gi gl gr gi gl gr := t_X.rf
  refine me_i f_X6_readPort p_a0.1 rfl rfl rfl ?_
  refine ev_loc f_X6_readPort (nx := 1) rfl rfl rfl rfl ?_
  obtain ⟨a1, e1, p1⟩ := p_a0.2.2.1
  refine ev_getR f_X6_readPort (nx := 4) rfl p_a0.1 rfl rfl e1 rfl rfl ?_
  refine ev_getI f_X6_readPort (nx := 7) rfl p1.1 rfl rfl rfl ?_
  obtain ⟨l2, u2⟩ := hI.b p1.1 (t_bdK rfl : t_bd 4 0 = some (0, 6))
  refine ev_loc f_X6_readPort (nx := 8) (lo' := [(1, .int (gi a1 0)), (0, .ref ar0)]) rfl rfl rfl rfl ?_
  refine ev_loc f_X6_readPort (nx := 9) rfl rfl rfl rfl ?_
  refine ev_bp f_X6_readPort (nx := 11) (v := 6) rfl (by decide) rfl ?_
  refine ev_if f_X6_readPort (t1 := 24) (t2 := 14) rfl rfl rfl (fun h3 => ?_) (fun h3 => ?_)
  · have u4 : (gi a1 0).toInt ≤ 5 := t_ltu h3 (by decide : (6:Int32).toInt ≤ (6:Int)) rfl
    refine ev_loc f_X6_readPort (nx := 25) rfl rfl rfl rfl ?_
    obtain ⟨a5, e5, p5⟩ := p_a0.2.1
    refine ev_getR f_X6_readPort (nx := 28) rfl p_a0.1 rfl rfl e5 rfl rfl ?_
    refine ev_c0 f_X6_readPort (nx := 31) (r := []) rfl rfl rfl rfl rfl rfl rfl (c_step hI (a5) p5) rfl hX rfl (fun gi6 gl6 gr6 hI hX hC6 => ?_)
    replace p_a0 := p_a0.ext hC6.2
    replace p1 := p1.ext hC6.2
    replace p5 := p5.ext hC6.2
    refine ev_loc f_X6_readPort (nx := 32) rfl rfl rfl rfl ?_
    obtain ⟨a7, e7, s7, o7⟩ := p_a0.2.2.2.1
    refine ev_getR f_X6_readPort (nx := 35) rfl p_a0.1 rfl rfl e7 rfl rfl ?_
    refine ev_loc f_X6_readPort (nx := 36) rfl rfl rfl rfl ?_
    refine ev_loc f_X6_readPort (nx := 37) rfl rfl rfl rfl ?_
    refine ev_getR f_X6_readPort (nx := 40) (v := .ref a5) rfl p_a0.1 rfl rfl ((hC6.1 ar0 0 (t_ninO hI.wf p_a0.1 (t_outO hI.wf p_a0.1 rfl) rfl)).2.2.trans e5) rfl rfl ?_
    refine ev_getL f_X6_readPort (nx := 43) rfl p5.1 rfl rfl rfl ?_
    refine ev_lastT f_X6_readPort (nx := 44) rfl s7 l2 (by decide) u4 (by decide) rfl (hX.upL (t_inOA hI.wf s7 o7 rfl)) (fun g8 e8 hX => ?_)
    refine ev_loc f_X6_readPort (nx := 45) rfl rfl rfl rfl ?_
    refine ev_cI f_X6_readPort (nx := 48) (r := []) rfl rfl rfl rfl rfl rfl rfl (c_takeNewName hI (ar0) p_a0) rfl hX rfl (fun w9 gi9 gl9 gr9 l9 u9 hI hX hC9 => ?_)
    replace p_a0 := p_a0.ext hC9.2
    replace p1 := p1.ext hC9.2
    replace p5 := p5.ext hC9.2
    refine ev_if f_X6_readPort (t1 := 64) (t2 := 51) rfl rfl rfl (fun h10 => ?_) (fun h10 => ?_)
    · have u11 : w9.toInt ≤ 0 := t_equ h10 (by decide : (0:Int32).toInt ≤ (0:Int))
      refine ev_ic f_X6_readPort (nx := 65) (v := 0) rfl (by decide) rfl ?_
      exact ev_ret f_X6_readPort rfl rfl rfl ⟨_, _, _, rfl, hI, hX, ⟨_, rfl, (by decide : (0:Int) ≤ (0:Int32).toInt), (Int.le_trans (by decide : (0:Int32).toInt ≤ (0:Int)) (by decide : (0:Int) ≤ 1))⟩⟩
    · have l12 : 1 ≤ w9.toInt := t_nel h10 l9 rfl rfl
      refine ev_loc f_X6_readPort (nx := 52) rfl rfl rfl rfl ?_
      refine ev_getR f_X6_readPort (nx := 55) (v := .ref a5) rfl p_a0.1 rfl rfl ((hC9.1 ar0 0 (t_ninO hI.wf p_a0.1 (t_outO hI.wf p_a0.1 rfl) rfl)).2.2.trans ((hC6.1 ar0 0 (t_ninO hI.wf p_a0.1 (t_outO hI.wf p_a0.1 rfl) rfl)).2.2.trans e5)) rfl rfl ?_
      refine ev_heap f_X6_readPort (nx := 58) rfl rfl rfl rfl ?_
      refine ev_inV2 f_X6_readPort (nx := 61) (lo2 := [(0, .ref a5), (1, .retAddr 1)]) rfl rfl rfl rfl f_X9_takeKeyword p5.1 rfl rfl rfl rfl rfl ?_
      refine ev_loc f_X9_takeKeyword (nx := 1) rfl rfl rfl rfl ?_
      have k13 := hI.2.2.2.1.2.2.2.2.2 a5 p5.1
      obtain ⟨v13, e13⟩ : ∃ v, gr9 a5 7 = v := ⟨_, rfl⟩
      rw [e13] at k13
      refine ev_getR f_X9_takeKeyword (nx := 4) rfl p5.1 rfl rfl e13 (t_KwR k13) rfl ?_
      refine ev_loc f_X9_takeKeyword (nx := 5) rfl rfl rfl rfl ?_
      refine ev_ack f_X9_takeKeyword (t1 := 14) (t2 := 8) rfl rfl rfl (t_knw k13) rfl (fun h14 => ?_) (fun h14 => ?_)
      · refine ev_loc f_X9_takeKeyword (nx := 15) rfl rfl rfl rfl ?_
        refine ev_c0 f_X9_takeKeyword (nx := 18) (r := []) rfl rfl rfl rfl rfl rfl rfl (c_step hI (a5) p5) rfl hX rfl (fun gi15 gl15 gr15 hI hX hC15 => ?_)
        replace p_a0 := p_a0.ext hC15.2
        replace p5 := p5.ext hC15.2
        replace p1 := p1.ext hC15.2
        refine ev_ic f_X9_takeKeyword (nx := 19) (v := 1) rfl (by decide) rfl ?_
        refine ev_retK1 f_X9_takeKeyword rfl rfl rfl ?_
        refine ev_f f_X6_readPort (t1 := 64) (t2 := 66) rfl rfl rfl (by decide) ?_
        refine ev_loc f_X6_readPort (nx := 67) rfl rfl rfl rfl ?_
        refine ev_getR f_X6_readPort (nx := 70) (v := .ref a5) rfl p_a0.1 rfl rfl ((hC15.1 ar0 0 (t_ninO hI.wf p_a0.1 (t_outO hI.wf p_a0.1 rfl) rfl)).2.2.trans ((hC9.1 ar0 0 (t_ninO hI.wf p_a0.1 (t_outO hI.wf p_a0.1 rfl) rfl)).2.2.trans ((hC6.1 ar0 0 (t_ninO hI.wf p_a0.1 (t_outO hI.wf p_a0.1 rfl) rfl)).2.2.trans e5))) rfl rfl ?_
        refine ev_cI f_X6_readPort (nx := 73) (r := []) rfl rfl rfl rfl rfl rfl rfl (c_isBlasts hI (a5) p5) rfl hX rfl (fun w16 gi16 gl16 gr16 l16 u16 hI hX hC16 => ?_)
        replace p_a0 := p_a0.ext hC16.2
        replace p1 := p1.ext hC16.2
        replace p5 := p5.ext hC16.2
        refine ev_if f_X6_readPort (t1 := 76) (t2 := 85) rfl rfl rfl (fun h17 => ?_) (fun h17 => ?_)
        · have u18 : w16.toInt ≤ 0 := t_equ h17 (by decide : (0:Int32).toInt ≤ (0:Int))
          refine ev_loc f_X6_readPort (nx := 77) rfl rfl rfl rfl ?_
          refine ev_getR f_X6_readPort (nx := 80) (v := .ref a5) rfl p_a0.1 rfl rfl ((hC16.1 ar0 0 (t_ninO hI.wf p_a0.1 (t_outO hI.wf p_a0.1 rfl) rfl)).2.2.trans ((hC15.1 ar0 0 (t_ninO hI.wf p_a0.1 (t_outO hI.wf p_a0.1 rfl) rfl)).2.2.trans ((hC9.1 ar0 0 (t_ninO hI.wf p_a0.1 (t_outO hI.wf p_a0.1 rfl) rfl)).2.2.trans ((hC6.1 ar0 0 (t_ninO hI.wf p_a0.1 (t_outO hI.wf p_a0.1 rfl) rfl)).2.2.trans e5)))) rfl rfl ?_
          refine ev_ic f_X6_readPort (nx := 81) (v := 2) rfl (by decide) rfl ?_
          refine ev_inV2 f_X6_readPort (nx := 84) (lo2 := [(0, .ref a5), (1, .int 2)]) rfl rfl rfl rfl f_X9_refuseToken p5.1 rfl rfl rfl rfl rfl ?_
          refine ev_loc f_X9_refuseToken (nx := 1) rfl rfl rfl rfl ?_
          refine ev_loc f_X9_refuseToken (nx := 2) rfl rfl rfl rfl ?_
          refine ev_getI f_X9_refuseToken (nx := 5) rfl p5.1 rfl rfl rfl ?_
          refine ev_ic f_X9_refuseToken (nx := 6) (v := 4) rfl (by decide) rfl ?_
          refine ev_if f_X9_refuseToken (t1 := 9) (t2 := 13) rfl rfl rfl (fun h19 => ?_) (fun h19 => ?_)
          · have u20 : (gi16 a5 3).toInt ≤ 4 := t_equ h19 (by decide : (4:Int32).toInt ≤ (4:Int))
            have l21 : 4 ≤ (gi16 a5 3).toInt := t_eql h19 (by decide : (4:Int) ≤ (4:Int32).toInt)
            refine ev_ic f_X9_refuseToken (nx := 10) (v := 1) rfl (by decide) rfl ?_
            refine ev_jmp f_X9_refuseToken (nx := 14) rfl rfl rfl ?_
            refine ev_putIT f_X9_refuseToken (nx := 17) rfl p5.1 rfl rfl rfl (hI.put0 p5.1 rfl rfl) (hX.upI (t_inO hI.wf p5.1 (t_outO hI.wf p5.1 rfl) rfl)) (fun g22 e22 hI hX => ?_)
            refine ev_loc f_X9_refuseToken (nx := 18) rfl rfl rfl rfl ?_
            refine ev_loc f_X9_refuseToken (nx := 19) rfl rfl rfl rfl ?_
            refine ev_getI f_X9_refuseToken (nx := 22) rfl p5.1 rfl rfl rfl ?_
            obtain ⟨l23, u23⟩ := hI.b p5.1 (t_bdK rfl : t_bd 8 4 = some (0, 900))
            refine ev_putIT f_X9_refuseToken (nx := 25) rfl p5.1 rfl rfl rfl (hI.put0 p5.1 rfl rfl) (hX.upI (t_inO hI.wf p5.1 (t_outO hI.wf p5.1 rfl) rfl)) (fun g24 e24 hI hX => ?_)
            refine ev_ic f_X9_refuseToken (nx := 26) (v := 0) rfl (by decide) rfl ?_
            refine ev_retK1 f_X9_refuseToken rfl rfl rfl ?_
            exact ev_ret f_X6_readPort rfl rfl rfl ⟨_, _, _, rfl, hI, hX, ⟨_, rfl, (by decide : (0:Int) ≤ (0:Int32).toInt), (Int.le_trans (by decide : (0:Int32).toInt ≤ (0:Int)) (by decide : (0:Int) ≤ 1))⟩⟩
          · refine ev_loc f_X9_refuseToken (nx := 14) rfl rfl rfl rfl ?_
            refine ev_putIT f_X9_refuseToken (nx := 17) rfl p5.1 rfl rfl rfl (hI.put0 p5.1 rfl rfl) (hX.upI (t_inO hI.wf p5.1 (t_outO hI.wf p5.1 rfl) rfl)) (fun g25 e25 hI hX => ?_)
            refine ev_loc f_X9_refuseToken (nx := 18) rfl rfl rfl rfl ?_
            refine ev_loc f_X9_refuseToken (nx := 19) rfl rfl rfl rfl ?_
            refine ev_getI f_X9_refuseToken (nx := 22) rfl p5.1 rfl rfl rfl ?_
            obtain ⟨l26, u26⟩ := hI.b p5.1 (t_bdK rfl : t_bd 8 4 = some (0, 900))
            refine ev_putIT f_X9_refuseToken (nx := 25) rfl p5.1 rfl rfl rfl (hI.put0 p5.1 rfl rfl) (hX.upI (t_inO hI.wf p5.1 (t_outO hI.wf p5.1 rfl) rfl)) (fun g27 e27 hI hX => ?_)
            refine ev_ic f_X9_refuseToken (nx := 26) (v := 0) rfl (by decide) rfl ?_
            refine ev_retK1 f_X9_refuseToken rfl rfl rfl ?_
            exact ev_ret f_X6_readPort rfl rfl rfl ⟨_, _, _, rfl, hI, hX, ⟨_, rfl, (by decide : (0:Int) ≤ (0:Int32).toInt), (Int.le_trans (by decide : (0:Int32).toInt ≤ (0:Int)) (by decide : (0:Int) ≤ 1))⟩⟩
        · have l28 : 1 ≤ w16.toInt := t_nel h17 l16 rfl rfl
          refine ev_ic f_X6_readPort (nx := 86) (v := 0) rfl (by decide) rfl ?_
          refine ev_loc f_X6_readPort (nx := 87) (lo' := [(2, .int 0), (1, .int (gi a1 0)), (0, .ref ar0)]) rfl rfl rfl rfl ?_
          have L29 : ∀ (m29 : Nat) (gi29 : Nat → Nat → Int32) (gl29 : Nat → Nat → Int64) (gr29 : Nat → Nat → Value) (y29_2 : Int32), t_I sh gi29 gr29 → t_X wl_r_readPort sh gi gl gr gi29 gl29 gr29 → t_RR sh gr29 ar0 → t_Rv sh gr29 a1 → t_Tk sh gr29 a5 → 0 ≤ y29_2.toInt → y29_2.toInt ≤ 5 → gi29 a1 0 = (gi a1 0) → gr29 ar0 0 = .ref a5 → gr29 ar0 1 = .ref a1 → gr29 ar0 2 = .ref a7 → (5 - y29_2.toInt).toNat = m29 → x_Ev X (d + 4) n_X6_readPort 87 [(2, .int y29_2), (1, .int (gi a1 0)), (0, .ref ar0)] [] (sh, gi29, gl29, gr29) (t_P wl_r_readPort sh gi gl gr (t_Ri 0 1)) := by
            intro m29
            induction m29 using Nat.strongRecOn with
            | _ m29 ih29 =>
            intro gi29 gl29 gr29 y29_2 hI hX p_a0 p1 p5 l29_2 u29_2 c29_0 c29_1 c29_2 c29_3 hm29
            refine ev_loc f_X6_readPort (nx := 88) rfl rfl rfl rfl ?_
            refine ev_loc f_X6_readPort (nx := 89) rfl rfl rfl rfl ?_
            refine ev_if f_X6_readPort (t1 := 127) (t2 := 92) rfl rfl rfl (fun h30 => ?_) (fun h30 => ?_)
            · refine ev_loc f_X6_readPort (nx := 128) rfl rfl rfl rfl ?_
              refine ev_getR f_X6_readPort (nx := 131) (v := .ref a1) rfl p_a0.1 rfl rfl c29_2 rfl rfl ?_
              obtain ⟨a31, e31, s31, o31⟩ := p1.2.1
              refine ev_getR f_X6_readPort (nx := 134) rfl p1.1 rfl rfl e31 rfl rfl ?_
              refine ev_loc f_X6_readPort (nx := 135) rfl rfl rfl rfl ?_
              refine ev_loc f_X6_readPort (nx := 136) rfl rfl rfl rfl ?_
              refine ev_getR f_X6_readPort (nx := 139) (v := .ref a5) rfl p_a0.1 rfl rfl c29_1 rfl rfl ?_
              refine ev_getL f_X6_readPort (nx := 142) rfl p5.1 rfl rfl rfl ?_
              refine ev_lastT f_X6_readPort (nx := 143) rfl s31 l2 (by decide) u4 (by decide) rfl (hX.upL (t_inOA hI.wf s31 o31 rfl)) (fun g32 e32 hX => ?_)
              refine ev_loc f_X6_readPort (nx := 144) rfl rfl rfl rfl ?_
              refine ev_getR f_X6_readPort (nx := 147) (v := .ref a1) rfl p_a0.1 rfl rfl c29_2 rfl rfl ?_
              obtain ⟨a33, e33, s33, o33⟩ := p1.2.2.1
              refine ev_getR f_X6_readPort (nx := 150) rfl p1.1 rfl rfl e33 rfl rfl ?_
              refine ev_loc f_X6_readPort (nx := 151) rfl rfl rfl rfl ?_
              refine ev_loc f_X6_readPort (nx := 152) rfl rfl rfl rfl ?_
              refine ev_getR f_X6_readPort (nx := 155) (v := .ref a5) rfl p_a0.1 rfl rfl c29_1 rfl rfl ?_
              refine ev_getL f_X6_readPort (nx := 158) rfl p5.1 rfl rfl rfl ?_
              refine ev_cL f_X6_readPort (nx := 161) (r := [.int (gi a1 0), .ref a33]) rfl rfl rfl rfl rfl rfl rfl (c_soundOf hI ((g32 a5 6))) rfl hX rfl (fun w34 gi34 gl34 gr34 hI hX hC34 => ?_)
              replace p_a0 := p_a0.ext hC34.2
              replace p1 := p1.ext hC34.2
              replace p5 := p5.ext hC34.2
              refine ev_lastT f_X6_readPort (nx := 162) rfl s33 l2 (by decide) u4 (by decide) rfl (hX.upL (t_inOA hI.wf s33 o33 rfl)) (fun g35 e35 hX => ?_)
              refine ev_loc f_X6_readPort (nx := 163) rfl rfl rfl rfl ?_
              refine ev_getR f_X6_readPort (nx := 166) (v := .ref a1) rfl p_a0.1 rfl rfl ((hC34.1 ar0 1 (t_ninO hI.wf p_a0.1 (t_outO hI.wf p_a0.1 rfl) rfl)).2.2.trans c29_2) rfl rfl ?_
              refine ev_alu f_X6_readPort (nx := 167) rfl rfl rfl rfl ?_
              refine ev_gvI f_X6_readPort (nx := 170) (w := (gi a1 0)) rfl p1.1 rfl rfl ((hC34.1 a1 0 (t_ninO hI.wf p1.1 (t_outO hI.wf p1.1 rfl) rfl)).1.trans c29_0) rfl ?_
              refine ev_ic f_X6_readPort (nx := 171) (v := 1) rfl (by decide) rfl ?_
              refine ev_addC f_X6_readPort (nx := 172) (c := 1) (l := 1) (u := 6) rfl (by decide) l2 u4 rfl rfl (by decide) (by decide) rfl (fun z36 e36 l36 u36 => ?_)
              refine ev_putIT f_X6_readPort (nx := 175) rfl p1.1 rfl rfl rfl (hI.putB p1.1 rfl rfl l36 (by decide) u36 (by decide)) (hX.upI (t_inO hI.wf p1.1 (t_outO hI.wf p1.1 rfl) rfl)) (fun g37 e37 hI hX => ?_)
              refine ev_loc f_X6_readPort (nx := 176) rfl rfl rfl rfl ?_
              refine ev_getR f_X6_readPort (nx := 179) (v := .ref a5) rfl p_a0.1 rfl rfl ((hC34.1 ar0 0 (t_ninO hI.wf p_a0.1 (t_outO hI.wf p_a0.1 rfl) rfl)).2.2.trans c29_1) rfl rfl ?_
              refine ev_c0 f_X6_readPort (nx := 182) (r := []) rfl rfl rfl rfl rfl rfl rfl (c_step hI (a5) p5) rfl hX rfl (fun gi38 gl38 gr38 hI hX hC38 => ?_)
              replace p_a0 := p_a0.ext hC38.2
              replace p5 := p5.ext hC38.2
              replace p1 := p1.ext hC38.2
              refine ev_ic f_X6_readPort (nx := 183) (v := 1) rfl (by decide) rfl ?_
              exact ev_ret f_X6_readPort rfl rfl rfl ⟨_, _, _, rfl, hI, hX, ⟨_, rfl, (Int.le_trans (by decide : (0:Int) ≤ 1) (by decide : (1:Int) ≤ (1:Int32).toInt)), (by decide : (1:Int32).toInt ≤ (1:Int))⟩⟩
            · have u39 : y29_2.toInt ≤ 4 := t_ltu (t_nle h30) u4 rfl
              have l40 : 1 ≤ (gi a1 0).toInt := t_ltl (t_nle h30) l29_2 rfl
              refine ev_loc f_X6_readPort (nx := 93) rfl rfl rfl rfl ?_
              refine ev_getR f_X6_readPort (nx := 96) (v := .ref a1) rfl p_a0.1 rfl rfl c29_2 rfl rfl ?_
              obtain ⟨a41, e41, s41, o41⟩ := p1.2.1
              refine ev_getR f_X6_readPort (nx := 99) rfl p1.1 rfl rfl e41 rfl rfl ?_
              refine ev_loc f_X6_readPort (nx := 100) rfl rfl rfl rfl ?_
              refine ev_laldT f_X6_readPort (nx := 101) rfl s41 l29_2 (by decide) u39 (by decide) rfl (fun w42 e42 => ?_)
              refine ev_loc f_X6_readPort (nx := 102) rfl rfl rfl rfl ?_
              refine ev_getR f_X6_readPort (nx := 105) (v := .ref a5) rfl p_a0.1 rfl rfl c29_1 rfl rfl ?_
              refine ev_getL f_X6_readPort (nx := 108) rfl p5.1 rfl rfl rfl ?_
              refine ev_anyI f_X6_readPort (nx := 109) rfl rfl rfl rfl (fun z43 => ?_)
              refine ev_if f_X6_readPort (t1 := 112) (t2 := 121) rfl rfl rfl (fun h44 => ?_) (fun h44 => ?_)
              · have u45 : z43.toInt ≤ 0 := t_equ h44 (by decide : (0:Int32).toInt ≤ (0:Int))
                have l46 : 0 ≤ z43.toInt := t_eql h44 (by decide : (0:Int) ≤ (0:Int32).toInt)
                refine ev_loc f_X6_readPort (nx := 113) rfl rfl rfl rfl ?_
                refine ev_getR f_X6_readPort (nx := 116) (v := .ref a5) rfl p_a0.1 rfl rfl c29_1 rfl rfl ?_
                refine ev_ic f_X6_readPort (nx := 117) (v := 5) rfl (by decide) rfl ?_
                refine ev_inV2 f_X6_readPort (nx := 120) (lo2 := [(0, .ref a5), (1, .int 5)]) rfl rfl rfl rfl f_X9_refuseToken p5.1 rfl rfl rfl rfl rfl ?_
                refine ev_loc f_X9_refuseToken (nx := 1) rfl rfl rfl rfl ?_
                refine ev_loc f_X9_refuseToken (nx := 2) rfl rfl rfl rfl ?_
                refine ev_getI f_X9_refuseToken (nx := 5) rfl p5.1 rfl rfl rfl ?_
                refine ev_ic f_X9_refuseToken (nx := 6) (v := 4) rfl (by decide) rfl ?_
                refine ev_if f_X9_refuseToken (t1 := 9) (t2 := 13) rfl rfl rfl (fun h47 => ?_) (fun h47 => ?_)
                · have u48 : (gi29 a5 3).toInt ≤ 4 := t_equ h47 (by decide : (4:Int32).toInt ≤ (4:Int))
                  have l49 : 4 ≤ (gi29 a5 3).toInt := t_eql h47 (by decide : (4:Int) ≤ (4:Int32).toInt)
                  refine ev_ic f_X9_refuseToken (nx := 10) (v := 1) rfl (by decide) rfl ?_
                  refine ev_jmp f_X9_refuseToken (nx := 14) rfl rfl rfl ?_
                  refine ev_putIT f_X9_refuseToken (nx := 17) rfl p5.1 rfl rfl rfl (hI.put0 p5.1 rfl rfl) (hX.upI (t_inO hI.wf p5.1 (t_outO hI.wf p5.1 rfl) rfl)) (fun g50 e50 hI hX => ?_)
                  refine ev_loc f_X9_refuseToken (nx := 18) rfl rfl rfl rfl ?_
                  refine ev_loc f_X9_refuseToken (nx := 19) rfl rfl rfl rfl ?_
                  refine ev_getI f_X9_refuseToken (nx := 22) rfl p5.1 rfl rfl rfl ?_
                  obtain ⟨l51, u51⟩ := hI.b p5.1 (t_bdK rfl : t_bd 8 4 = some (0, 900))
                  refine ev_putIT f_X9_refuseToken (nx := 25) rfl p5.1 rfl rfl rfl (hI.put0 p5.1 rfl rfl) (hX.upI (t_inO hI.wf p5.1 (t_outO hI.wf p5.1 rfl) rfl)) (fun g52 e52 hI hX => ?_)
                  refine ev_ic f_X9_refuseToken (nx := 26) (v := 0) rfl (by decide) rfl ?_
                  refine ev_retK1 f_X9_refuseToken rfl rfl rfl ?_
                  exact ev_ret f_X6_readPort rfl rfl rfl ⟨_, _, _, rfl, hI, hX, ⟨_, rfl, (by decide : (0:Int) ≤ (0:Int32).toInt), (Int.le_trans (by decide : (0:Int32).toInt ≤ (0:Int)) (by decide : (0:Int) ≤ 1))⟩⟩
                · refine ev_loc f_X9_refuseToken (nx := 14) rfl rfl rfl rfl ?_
                  refine ev_putIT f_X9_refuseToken (nx := 17) rfl p5.1 rfl rfl rfl (hI.put0 p5.1 rfl rfl) (hX.upI (t_inO hI.wf p5.1 (t_outO hI.wf p5.1 rfl) rfl)) (fun g53 e53 hI hX => ?_)
                  refine ev_loc f_X9_refuseToken (nx := 18) rfl rfl rfl rfl ?_
                  refine ev_loc f_X9_refuseToken (nx := 19) rfl rfl rfl rfl ?_
                  refine ev_getI f_X9_refuseToken (nx := 22) rfl p5.1 rfl rfl rfl ?_
                  obtain ⟨l54, u54⟩ := hI.b p5.1 (t_bdK rfl : t_bd 8 4 = some (0, 900))
                  refine ev_putIT f_X9_refuseToken (nx := 25) rfl p5.1 rfl rfl rfl (hI.put0 p5.1 rfl rfl) (hX.upI (t_inO hI.wf p5.1 (t_outO hI.wf p5.1 rfl) rfl)) (fun g55 e55 hI hX => ?_)
                  refine ev_ic f_X9_refuseToken (nx := 26) (v := 0) rfl (by decide) rfl ?_
                  refine ev_retK1 f_X9_refuseToken rfl rfl rfl ?_
                  exact ev_ret f_X6_readPort rfl rfl rfl ⟨_, _, _, rfl, hI, hX, ⟨_, rfl, (by decide : (0:Int) ≤ (0:Int32).toInt), (Int.le_trans (by decide : (0:Int32).toInt ≤ (0:Int)) (by decide : (0:Int) ≤ 1))⟩⟩
              · refine ev_incR f_X6_readPort (nx := 124) (c := 1) (l := 1) (u := 5) rfl rfl (by decide) (by decide) l29_2 u39 rfl rfl (by decide) (by decide) rfl (fun z56 e56 l56 u56 => ?_)
                refine ev_jmp f_X6_readPort (nx := 87) rfl rfl rfl ?_
                refine ev_sub (lo := [(2, .int z56), (1, .int (gi a1 0)), (0, .ref ar0)]) rfl (t_sc rfl (t_sc rfl (t_sc rfl t_sn))) ?_
                exact ih29 _ (by omega) gi29 gl29 gr29 (z56) hI hX p_a0 p1 p5 (Int.le_trans (by decide : (0:Int) ≤ 1) l56) u56 c29_0 c29_1 c29_2 c29_3 rfl
          refine ev_sub (lo := [(2, .int 0), (1, .int (gi a1 0)), (0, .ref ar0)]) rfl (t_sc rfl (t_sc rfl (t_sc rfl t_sn))) ?_
          exact L29 _ gi16 gl16 gr16 (0) hI hX p_a0 p1 p5 (by decide : (0:Int) ≤ (0:Int32).toInt) (Int.le_trans (by decide : (0:Int32).toInt ≤ (0:Int)) (by decide : (0:Int) ≤ 5)) ((hC16.1 a1 0 (t_ninO hI.wf p1.1 (t_outO hI.wf p1.1 rfl) rfl)).1.trans ((hC15.1 a1 0 (t_ninO hI.wf p1.1 (t_outO hI.wf p1.1 rfl) rfl)).1.trans ((hC9.1 a1 0 (t_ninO hI.wf p1.1 (t_outO hI.wf p1.1 rfl) rfl)).1.trans ((hC6.1 a1 0 (t_ninO hI.wf p1.1 (t_outO hI.wf p1.1 rfl) rfl)).1.trans rfl)))) ((hC16.1 ar0 0 (t_ninO hI.wf p_a0.1 (t_outO hI.wf p_a0.1 rfl) rfl)).2.2.trans ((hC15.1 ar0 0 (t_ninO hI.wf p_a0.1 (t_outO hI.wf p_a0.1 rfl) rfl)).2.2.trans ((hC9.1 ar0 0 (t_ninO hI.wf p_a0.1 (t_outO hI.wf p_a0.1 rfl) rfl)).2.2.trans ((hC6.1 ar0 0 (t_ninO hI.wf p_a0.1 (t_outO hI.wf p_a0.1 rfl) rfl)).2.2.trans e5)))) ((hC16.1 ar0 1 (t_ninO hI.wf p_a0.1 (t_outO hI.wf p_a0.1 rfl) rfl)).2.2.trans ((hC15.1 ar0 1 (t_ninO hI.wf p_a0.1 (t_outO hI.wf p_a0.1 rfl) rfl)).2.2.trans ((hC9.1 ar0 1 (t_ninO hI.wf p_a0.1 (t_outO hI.wf p_a0.1 rfl) rfl)).2.2.trans ((hC6.1 ar0 1 (t_ninO hI.wf p_a0.1 (t_outO hI.wf p_a0.1 rfl) rfl)).2.2.trans e1)))) ((hC16.1 ar0 2 (t_ninO hI.wf p_a0.1 (t_outO hI.wf p_a0.1 rfl) rfl)).2.2.trans ((hC15.1 ar0 2 (t_ninO hI.wf p_a0.1 (t_outO hI.wf p_a0.1 rfl) rfl)).2.2.trans ((hC9.1 ar0 2 (t_ninO hI.wf p_a0.1 (t_outO hI.wf p_a0.1 rfl) rfl)).2.2.trans e7))) rfl
      · refine ev_loc f_X9_takeKeyword (nx := 9) rfl rfl rfl rfl ?_
        refine ev_ic f_X9_takeKeyword (nx := 10) (v := 2) rfl (by decide) rfl ?_
        refine ev_inV2 f_X9_takeKeyword (nx := 13) (lo2 := [(0, .ref a5), (1, .int 2)]) rfl rfl rfl rfl f_X9_refuseToken p5.1 rfl rfl rfl rfl rfl ?_
        refine ev_loc f_X9_refuseToken (nx := 1) rfl rfl rfl rfl ?_
        refine ev_loc f_X9_refuseToken (nx := 2) rfl rfl rfl rfl ?_
        refine ev_getI f_X9_refuseToken (nx := 5) rfl p5.1 rfl rfl rfl ?_
        refine ev_ic f_X9_refuseToken (nx := 6) (v := 4) rfl (by decide) rfl ?_
        refine ev_if f_X9_refuseToken (t1 := 9) (t2 := 13) rfl rfl rfl (fun h57 => ?_) (fun h57 => ?_)
        · have u58 : (gi9 a5 3).toInt ≤ 4 := t_equ h57 (by decide : (4:Int32).toInt ≤ (4:Int))
          have l59 : 4 ≤ (gi9 a5 3).toInt := t_eql h57 (by decide : (4:Int) ≤ (4:Int32).toInt)
          refine ev_ic f_X9_refuseToken (nx := 10) (v := 1) rfl (by decide) rfl ?_
          refine ev_jmp f_X9_refuseToken (nx := 14) rfl rfl rfl ?_
          refine ev_putIT f_X9_refuseToken (nx := 17) rfl p5.1 rfl rfl rfl (hI.put0 p5.1 rfl rfl) (hX.upI (t_inO hI.wf p5.1 (t_outO hI.wf p5.1 rfl) rfl)) (fun g60 e60 hI hX => ?_)
          refine ev_loc f_X9_refuseToken (nx := 18) rfl rfl rfl rfl ?_
          refine ev_loc f_X9_refuseToken (nx := 19) rfl rfl rfl rfl ?_
          refine ev_getI f_X9_refuseToken (nx := 22) rfl p5.1 rfl rfl rfl ?_
          obtain ⟨l61, u61⟩ := hI.b p5.1 (t_bdK rfl : t_bd 8 4 = some (0, 900))
          refine ev_putIT f_X9_refuseToken (nx := 25) rfl p5.1 rfl rfl rfl (hI.put0 p5.1 rfl rfl) (hX.upI (t_inO hI.wf p5.1 (t_outO hI.wf p5.1 rfl) rfl)) (fun g62 e62 hI hX => ?_)
          refine ev_ic f_X9_refuseToken (nx := 26) (v := 0) rfl (by decide) rfl ?_
          refine ev_retK1 f_X9_refuseToken rfl rfl rfl ?_
          refine ev_retK1 f_X9_takeKeyword rfl rfl rfl ?_
          refine ev_t f_X6_readPort (t1 := 64) (t2 := 66) rfl rfl rfl (by decide) ?_
          refine ev_ic f_X6_readPort (nx := 65) (v := 0) rfl (by decide) rfl ?_
          exact ev_ret f_X6_readPort rfl rfl rfl ⟨_, _, _, rfl, hI, hX, ⟨_, rfl, (by decide : (0:Int) ≤ (0:Int32).toInt), (Int.le_trans (by decide : (0:Int32).toInt ≤ (0:Int)) (by decide : (0:Int) ≤ 1))⟩⟩
        · refine ev_loc f_X9_refuseToken (nx := 14) rfl rfl rfl rfl ?_
          refine ev_putIT f_X9_refuseToken (nx := 17) rfl p5.1 rfl rfl rfl (hI.put0 p5.1 rfl rfl) (hX.upI (t_inO hI.wf p5.1 (t_outO hI.wf p5.1 rfl) rfl)) (fun g63 e63 hI hX => ?_)
          refine ev_loc f_X9_refuseToken (nx := 18) rfl rfl rfl rfl ?_
          refine ev_loc f_X9_refuseToken (nx := 19) rfl rfl rfl rfl ?_
          refine ev_getI f_X9_refuseToken (nx := 22) rfl p5.1 rfl rfl rfl ?_
          obtain ⟨l64, u64⟩ := hI.b p5.1 (t_bdK rfl : t_bd 8 4 = some (0, 900))
          refine ev_putIT f_X9_refuseToken (nx := 25) rfl p5.1 rfl rfl rfl (hI.put0 p5.1 rfl rfl) (hX.upI (t_inO hI.wf p5.1 (t_outO hI.wf p5.1 rfl) rfl)) (fun g65 e65 hI hX => ?_)
          refine ev_ic f_X9_refuseToken (nx := 26) (v := 0) rfl (by decide) rfl ?_
          refine ev_retK1 f_X9_refuseToken rfl rfl rfl ?_
          refine ev_retK1 f_X9_takeKeyword rfl rfl rfl ?_
          refine ev_t f_X6_readPort (t1 := 64) (t2 := 66) rfl rfl rfl (by decide) ?_
          refine ev_ic f_X6_readPort (nx := 65) (v := 0) rfl (by decide) rfl ?_
          exact ev_ret f_X6_readPort rfl rfl rfl ⟨_, _, _, rfl, hI, hX, ⟨_, rfl, (by decide : (0:Int) ≤ (0:Int32).toInt), (Int.le_trans (by decide : (0:Int32).toInt ≤ (0:Int)) (by decide : (0:Int) ≤ 1))⟩⟩
  · have l66 : 6 ≤ (gi a1 0).toInt := t_lel (t_nlt h3) (by decide : (6:Int) ≤ (6:Int32).toInt)
    refine ev_loc f_X6_readPort (nx := 15) rfl rfl rfl rfl ?_
    obtain ⟨a67, e67, p67⟩ := p_a0.2.1
    refine ev_getR f_X6_readPort (nx := 18) rfl p_a0.1 rfl rfl e67 rfl rfl ?_
    refine ev_bp f_X6_readPort (nx := 20) (v := 6) rfl (by decide) rfl ?_
    refine ev_inV2 f_X6_readPort (nx := 23) (lo2 := [(0, .ref a67), (1, .int 6)]) rfl rfl rfl rfl f_X9_refuseToken p67.1 rfl rfl rfl rfl rfl ?_
    refine ev_loc f_X9_refuseToken (nx := 1) rfl rfl rfl rfl ?_
    refine ev_loc f_X9_refuseToken (nx := 2) rfl rfl rfl rfl ?_
    refine ev_getI f_X9_refuseToken (nx := 5) rfl p67.1 rfl rfl rfl ?_
    refine ev_ic f_X9_refuseToken (nx := 6) (v := 4) rfl (by decide) rfl ?_
    refine ev_if f_X9_refuseToken (t1 := 9) (t2 := 13) rfl rfl rfl (fun h68 => ?_) (fun h68 => ?_)
    · have u69 : (gi a67 3).toInt ≤ 4 := t_equ h68 (by decide : (4:Int32).toInt ≤ (4:Int))
      have l70 : 4 ≤ (gi a67 3).toInt := t_eql h68 (by decide : (4:Int) ≤ (4:Int32).toInt)
      refine ev_ic f_X9_refuseToken (nx := 10) (v := 1) rfl (by decide) rfl ?_
      refine ev_jmp f_X9_refuseToken (nx := 14) rfl rfl rfl ?_
      refine ev_putIT f_X9_refuseToken (nx := 17) rfl p67.1 rfl rfl rfl (hI.put0 p67.1 rfl rfl) (hX.upI (t_inO hI.wf p67.1 (t_outO hI.wf p67.1 rfl) rfl)) (fun g71 e71 hI hX => ?_)
      refine ev_loc f_X9_refuseToken (nx := 18) rfl rfl rfl rfl ?_
      refine ev_loc f_X9_refuseToken (nx := 19) rfl rfl rfl rfl ?_
      refine ev_getI f_X9_refuseToken (nx := 22) rfl p67.1 rfl rfl rfl ?_
      obtain ⟨l72, u72⟩ := hI.b p67.1 (t_bdK rfl : t_bd 8 4 = some (0, 900))
      refine ev_putIT f_X9_refuseToken (nx := 25) rfl p67.1 rfl rfl rfl (hI.put0 p67.1 rfl rfl) (hX.upI (t_inO hI.wf p67.1 (t_outO hI.wf p67.1 rfl) rfl)) (fun g73 e73 hI hX => ?_)
      refine ev_ic f_X9_refuseToken (nx := 26) (v := 0) rfl (by decide) rfl ?_
      refine ev_retK1 f_X9_refuseToken rfl rfl rfl ?_
      exact ev_ret f_X6_readPort rfl rfl rfl ⟨_, _, _, rfl, hI, hX, ⟨_, rfl, (by decide : (0:Int) ≤ (0:Int32).toInt), (Int.le_trans (by decide : (0:Int32).toInt ≤ (0:Int)) (by decide : (0:Int) ≤ 1))⟩⟩
    · refine ev_loc f_X9_refuseToken (nx := 14) rfl rfl rfl rfl ?_
      refine ev_putIT f_X9_refuseToken (nx := 17) rfl p67.1 rfl rfl rfl (hI.put0 p67.1 rfl rfl) (hX.upI (t_inO hI.wf p67.1 (t_outO hI.wf p67.1 rfl) rfl)) (fun g74 e74 hI hX => ?_)
      refine ev_loc f_X9_refuseToken (nx := 18) rfl rfl rfl rfl ?_
      refine ev_loc f_X9_refuseToken (nx := 19) rfl rfl rfl rfl ?_
      refine ev_getI f_X9_refuseToken (nx := 22) rfl p67.1 rfl rfl rfl ?_
      obtain ⟨l75, u75⟩ := hI.b p67.1 (t_bdK rfl : t_bd 8 4 = some (0, 900))
      refine ev_putIT f_X9_refuseToken (nx := 25) rfl p67.1 rfl rfl rfl (hI.put0 p67.1 rfl rfl) (hX.upI (t_inO hI.wf p67.1 (t_outO hI.wf p67.1 rfl) rfl)) (fun g76 e76 hI hX => ?_)
      refine ev_ic f_X9_refuseToken (nx := 26) (v := 0) rfl (by decide) rfl ?_
      refine ev_retK1 f_X9_refuseToken rfl rfl rfl ?_
      exact ev_ret f_X6_readPort rfl rfl rfl ⟨_, _, _, rfl, hI, hX, ⟨_, rfl, (by decide : (0:Int) ≤ (0:Int32).toInt), (Int.le_trans (by decide : (0:Int32).toInt ≤ (0:Int)) (by decide : (0:Int) ≤ 1))⟩⟩
