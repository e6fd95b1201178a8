/-! ===== printed by riv.py: silent ===== -/
noncomputable def wl_j_tz : List (Nat × Nat) := []
noncomputable def Q_j_tz (gi : Nat → Nat → Int32) (gl : Nat → Nat → Int64) (gr : Nat → Nat → Value) (ar0 : Int32) : Int32 → (Nat → Nat → Int32) → (Nat → Nat → Int64) → (Nat → Nat → Value) → Prop := fun (v : Int32) (gi2 : Nat → Nat → Int32) (gl2 : Nat → Nat → Int64) (gr2 : Nat → Nat → Value) => ∀ t : Nat, t ≤ 31 → s_tz ar0.toInt t → v.toInt = (t : Int)
theorem c_j_tz {X : x_Ext} {d : Nat} {sh : List (Nat ⊕ (Nat × Nat))} {gi : Nat → Nat → Int32} {gl : Nat → Nat → Int64} {gr : Nat → Nat → Value} (hI : t_I sh gi gr) (ar0 : Int32) : x_Me X (d + 1) n_J6_numberOfTrailingZeros_0f7a4 [.int ar0] (sh, gi, gl, gr) (t_PI wl_j_tz sh gi gl gr (-2147483648) 2147483647 (Q_j_tz gi gl gr ar0)) := by
  have hX : t_X wl_j_tz sh gi gl gr gi gl gr := t_X.rf
  refine me_s f_J6_numberOfTrailingZeros_0f7a4 rfl rfl ?_
  refine ev_loc f_J6_numberOfTrailingZeros_0f7a4 (nx := 1) rfl rfl rfl rfl ?_
  refine ev_ic f_J6_numberOfTrailingZeros_0f7a4 (nx := 2) (v := -1) rfl (by decide) rfl ?_
  refine ev_anyIE f_J6_numberOfTrailingZeros_0f7a4 (nx := 3) rfl rfl rfl rfl (fun z1 e1 => ?_)
  refine ev_loc f_J6_numberOfTrailingZeros_0f7a4 (nx := 4) rfl rfl rfl rfl ?_
  refine ev_ic f_J6_numberOfTrailingZeros_0f7a4 (nx := 5) (v := 1) rfl (by decide) rfl ?_
  refine ev_anyIE f_J6_numberOfTrailingZeros_0f7a4 (nx := 6) rfl rfl rfl rfl (fun z2 e2 => ?_)
  refine ev_anyIE f_J6_numberOfTrailingZeros_0f7a4 (nx := 7) rfl rfl rfl rfl (fun z3 e3 => ?_)
  refine ev_loc f_J6_numberOfTrailingZeros_0f7a4 (nx := 8) (lo' := [(0, .int z3)]) rfl rfl rfl rfl ?_
  refine ev_loc f_J6_numberOfTrailingZeros_0f7a4 (nx := 9) rfl rfl rfl rfl ?_
  refine ev_if f_J6_numberOfTrailingZeros_0f7a4 (t1 := 17) (t2 := 12) rfl rfl rfl (fun h4 => ?_) (fun h4 => ?_)
  · have l5 : 1 ≤ z3.toInt := t_ltl h4 (by decide : (0:Int) ≤ (0:Int32).toInt) rfl
    refine ev_ic f_J6_numberOfTrailingZeros_0f7a4 (nx := 18) (v := 1) rfl (by decide) rfl ?_
    refine ev_loc f_J6_numberOfTrailingZeros_0f7a4 (nx := 19) (lo' := [(1, .int 1), (0, .int z3)]) rfl rfl rfl rfl ?_
    refine ev_loc f_J6_numberOfTrailingZeros_0f7a4 (nx := 20) rfl rfl rfl rfl ?_
    refine ev_ldW f_J6_numberOfTrailingZeros_0f7a4 (nx := 23) (v := 65536) rfl (by decide) rfl ?_
    refine ev_if f_J6_numberOfTrailingZeros_0f7a4 (t1 := 34) (t2 := 26) rfl rfl rfl (fun h6 => ?_) (fun h6 => ?_)
    · have u7 : z3.toInt ≤ 65536 := t_leu h6 (by decide : (65536:Int32).toInt ≤ (65536:Int))
      refine ev_loc f_J6_numberOfTrailingZeros_0f7a4 (nx := 35) rfl rfl rfl rfl ?_
      refine ev_sp f_J6_numberOfTrailingZeros_0f7a4 (nx := 38) (v := 256) rfl (by decide) rfl ?_
      refine ev_if f_J6_numberOfTrailingZeros_0f7a4 (t1 := 49) (t2 := 41) rfl rfl rfl (fun h8 => ?_) (fun h8 => ?_)
      · have u9 : z3.toInt ≤ 256 := t_leu h8 (by decide : (256:Int32).toInt ≤ (256:Int))
        refine ev_loc f_J6_numberOfTrailingZeros_0f7a4 (nx := 50) rfl rfl rfl rfl ?_
        refine ev_bp f_J6_numberOfTrailingZeros_0f7a4 (nx := 52) (v := 16) rfl (by decide) rfl ?_
        refine ev_if f_J6_numberOfTrailingZeros_0f7a4 (t1 := 62) (t2 := 55) rfl rfl rfl (fun h10 => ?_) (fun h10 => ?_)
        · have u11 : z3.toInt ≤ 16 := t_leu h10 (by decide : (16:Int32).toInt ≤ (16:Int))
          refine ev_loc f_J6_numberOfTrailingZeros_0f7a4 (nx := 63) rfl rfl rfl rfl ?_
          refine ev_ic f_J6_numberOfTrailingZeros_0f7a4 (nx := 64) (v := 4) rfl (by decide) rfl ?_
          refine ev_if f_J6_numberOfTrailingZeros_0f7a4 (t1 := 74) (t2 := 67) rfl rfl rfl (fun h12 => ?_) (fun h12 => ?_)
          · have u13 : z3.toInt ≤ 4 := t_leu h12 (by decide : (4:Int32).toInt ≤ (4:Int))
            refine ev_loc f_J6_numberOfTrailingZeros_0f7a4 (nx := 75) rfl rfl rfl rfl ?_
            refine ev_loc f_J6_numberOfTrailingZeros_0f7a4 (nx := 76) rfl rfl rfl rfl ?_
            refine ev_ic f_J6_numberOfTrailingZeros_0f7a4 (nx := 77) (v := 1) rfl (by decide) rfl ?_
            refine ev_anyIE f_J6_numberOfTrailingZeros_0f7a4 (nx := 78) rfl rfl rfl rfl (fun z14 e14 => ?_)
            refine ev_anyIE f_J6_numberOfTrailingZeros_0f7a4 (nx := 79) rfl rfl rfl rfl (fun z15 e15 => ?_)
            exact ev_ret f_J6_numberOfTrailingZeros_0f7a4 rfl rfl rfl ⟨_, _, _, rfl, hI, hX, ⟨_, rfl, (t_lo z15), (t_hi z15), (show ∀ t : Nat, t ≤ 31 → s_tz ar0.toInt t → z15.toInt = (t : Int) from (by
                                                            intro t ht hz
                                                            have y0 := s_tz_y hz ht e1 e2 e3
                                                            have hyl : z3.toInt < 2147483648 := z3.toInt_lt
                                                            have ua : (1 : Int32).toInt = 1 := rfl
                                                            have u76 := t_us (k := 1) e14 (by decide) (by omega)
                                                            have us := s_iadd (a := (1 : Int32)) e15 (by omega) (by omega) (by omega) (by omega)
                                                            have p1 : (2 : Int) ^ 1 = 2 := by decide
                                                            rcases s_tz_f y0 (by omega) (by omega) with ⟨h1, h2⟩ | ⟨h1, h2⟩
                                                            · omega
                                                            · omega))⟩⟩
          · have l16 : 5 ≤ z3.toInt := t_ltl (t_nle h12) (by decide : (4:Int) ≤ (4:Int32).toInt) rfl
            refine ev_incv f_J6_numberOfTrailingZeros_0f7a4 (nx := 70) (c := 2) (w := 3) (lo' := [(1, .int 3), (0, .int z3)]) rfl rfl (by decide) (by decide) rfl rfl rfl ?_
            refine ev_loc f_J6_numberOfTrailingZeros_0f7a4 (nx := 71) rfl rfl rfl rfl ?_
            refine ev_ic f_J6_numberOfTrailingZeros_0f7a4 (nx := 72) (v := 2) rfl (by decide) rfl ?_
            refine ev_anyIE f_J6_numberOfTrailingZeros_0f7a4 (nx := 73) rfl rfl rfl rfl (fun z17 e17 => ?_)
            refine ev_loc f_J6_numberOfTrailingZeros_0f7a4 (nx := 74) (lo' := [(0, .int z17), (1, .int 3)]) rfl rfl rfl rfl ?_
            refine ev_loc f_J6_numberOfTrailingZeros_0f7a4 (nx := 75) rfl rfl rfl rfl ?_
            refine ev_loc f_J6_numberOfTrailingZeros_0f7a4 (nx := 76) rfl rfl rfl rfl ?_
            refine ev_ic f_J6_numberOfTrailingZeros_0f7a4 (nx := 77) (v := 1) rfl (by decide) rfl ?_
            refine ev_anyIE f_J6_numberOfTrailingZeros_0f7a4 (nx := 78) rfl rfl rfl rfl (fun z18 e18 => ?_)
            refine ev_anyIE f_J6_numberOfTrailingZeros_0f7a4 (nx := 79) rfl rfl rfl rfl (fun z19 e19 => ?_)
            exact ev_ret f_J6_numberOfTrailingZeros_0f7a4 rfl rfl rfl ⟨_, _, _, rfl, hI, hX, ⟨_, rfl, (t_lo z19), (t_hi z19), (show ∀ t : Nat, t ≤ 31 → s_tz ar0.toInt t → z19.toInt = (t : Int) from (by
                                                            intro t ht hz
                                                            have y0 := s_tz_y hz ht e1 e2 e3
                                                            have hyl : z3.toInt < 2147483648 := z3.toInt_lt
                                                            have u72 := t_us (k := 2) e17 (by decide) (by omega)
                                                            obtain ⟨n72, v72⟩ := s_tz_s (n := 2) y0 (by omega) u72
                                                            have ua : (3 : Int32).toInt = 3 := rfl
                                                            have u76 := t_us (k := 1) e18 (by decide) (by omega)
                                                            have us := s_iadd (a := (3 : Int32)) e19 (by omega) (by omega) (by omega) (by omega)
                                                            have p1 : (2 : Int) ^ 1 = 2 := by decide
                                                            rcases s_tz_f v72 (by omega) (by omega) with ⟨h1, h2⟩ | ⟨h1, h2⟩
                                                            · omega
                                                            · omega))⟩⟩
        · have l20 : 17 ≤ z3.toInt := t_ltl (t_nle h10) (by decide : (16:Int) ≤ (16:Int32).toInt) rfl
          refine ev_incv f_J6_numberOfTrailingZeros_0f7a4 (nx := 58) (c := 4) (w := 5) (lo' := [(1, .int 5), (0, .int z3)]) rfl rfl (by decide) (by decide) rfl rfl rfl ?_
          refine ev_loc f_J6_numberOfTrailingZeros_0f7a4 (nx := 59) rfl rfl rfl rfl ?_
          refine ev_ic f_J6_numberOfTrailingZeros_0f7a4 (nx := 60) (v := 4) rfl (by decide) rfl ?_
          refine ev_anyIE f_J6_numberOfTrailingZeros_0f7a4 (nx := 61) rfl rfl rfl rfl (fun z21 e21 => ?_)
          refine ev_loc f_J6_numberOfTrailingZeros_0f7a4 (nx := 62) (lo' := [(0, .int z21), (1, .int 5)]) rfl rfl rfl rfl ?_
          refine ev_loc f_J6_numberOfTrailingZeros_0f7a4 (nx := 63) rfl rfl rfl rfl ?_
          refine ev_ic f_J6_numberOfTrailingZeros_0f7a4 (nx := 64) (v := 4) rfl (by decide) rfl ?_
          refine ev_if f_J6_numberOfTrailingZeros_0f7a4 (t1 := 74) (t2 := 67) rfl rfl rfl (fun h22 => ?_) (fun h22 => ?_)
          · have u23 : z21.toInt ≤ 4 := t_leu h22 (by decide : (4:Int32).toInt ≤ (4:Int))
            refine ev_loc f_J6_numberOfTrailingZeros_0f7a4 (nx := 75) rfl rfl rfl rfl ?_
            refine ev_loc f_J6_numberOfTrailingZeros_0f7a4 (nx := 76) rfl rfl rfl rfl ?_
            refine ev_ic f_J6_numberOfTrailingZeros_0f7a4 (nx := 77) (v := 1) rfl (by decide) rfl ?_
            refine ev_anyIE f_J6_numberOfTrailingZeros_0f7a4 (nx := 78) rfl rfl rfl rfl (fun z24 e24 => ?_)
            refine ev_anyIE f_J6_numberOfTrailingZeros_0f7a4 (nx := 79) rfl rfl rfl rfl (fun z25 e25 => ?_)
            exact ev_ret f_J6_numberOfTrailingZeros_0f7a4 rfl rfl rfl ⟨_, _, _, rfl, hI, hX, ⟨_, rfl, (t_lo z25), (t_hi z25), (show ∀ t : Nat, t ≤ 31 → s_tz ar0.toInt t → z25.toInt = (t : Int) from (by
                                                            intro t ht hz
                                                            have y0 := s_tz_y hz ht e1 e2 e3
                                                            have hyl : z3.toInt < 2147483648 := z3.toInt_lt
                                                            have u60 := t_us (k := 4) e21 (by decide) (by omega)
                                                            obtain ⟨n60, v60⟩ := s_tz_s (n := 4) y0 (by omega) u60
                                                            have ua : (5 : Int32).toInt = 5 := rfl
                                                            have u76 := t_us (k := 1) e24 (by decide) (by omega)
                                                            have us := s_iadd (a := (5 : Int32)) e25 (by omega) (by omega) (by omega) (by omega)
                                                            have p1 : (2 : Int) ^ 1 = 2 := by decide
                                                            rcases s_tz_f v60 (by omega) (by omega) with ⟨h1, h2⟩ | ⟨h1, h2⟩
                                                            · omega
                                                            · omega))⟩⟩
          · have l26 : 5 ≤ z21.toInt := t_ltl (t_nle h22) (by decide : (4:Int) ≤ (4:Int32).toInt) rfl
            refine ev_incv f_J6_numberOfTrailingZeros_0f7a4 (nx := 70) (c := 2) (w := 7) (lo' := [(1, .int 7), (0, .int z21)]) rfl rfl (by decide) (by decide) rfl rfl rfl ?_
            refine ev_loc f_J6_numberOfTrailingZeros_0f7a4 (nx := 71) rfl rfl rfl rfl ?_
            refine ev_ic f_J6_numberOfTrailingZeros_0f7a4 (nx := 72) (v := 2) rfl (by decide) rfl ?_
            refine ev_anyIE f_J6_numberOfTrailingZeros_0f7a4 (nx := 73) rfl rfl rfl rfl (fun z27 e27 => ?_)
            refine ev_loc f_J6_numberOfTrailingZeros_0f7a4 (nx := 74) (lo' := [(0, .int z27), (1, .int 7)]) rfl rfl rfl rfl ?_
            refine ev_loc f_J6_numberOfTrailingZeros_0f7a4 (nx := 75) rfl rfl rfl rfl ?_
            refine ev_loc f_J6_numberOfTrailingZeros_0f7a4 (nx := 76) rfl rfl rfl rfl ?_
            refine ev_ic f_J6_numberOfTrailingZeros_0f7a4 (nx := 77) (v := 1) rfl (by decide) rfl ?_
            refine ev_anyIE f_J6_numberOfTrailingZeros_0f7a4 (nx := 78) rfl rfl rfl rfl (fun z28 e28 => ?_)
            refine ev_anyIE f_J6_numberOfTrailingZeros_0f7a4 (nx := 79) rfl rfl rfl rfl (fun z29 e29 => ?_)
            exact ev_ret f_J6_numberOfTrailingZeros_0f7a4 rfl rfl rfl ⟨_, _, _, rfl, hI, hX, ⟨_, rfl, (t_lo z29), (t_hi z29), (show ∀ t : Nat, t ≤ 31 → s_tz ar0.toInt t → z29.toInt = (t : Int) from (by
                                                            intro t ht hz
                                                            have y0 := s_tz_y hz ht e1 e2 e3
                                                            have hyl : z3.toInt < 2147483648 := z3.toInt_lt
                                                            have u60 := t_us (k := 4) e21 (by decide) (by omega)
                                                            obtain ⟨n60, v60⟩ := s_tz_s (n := 4) y0 (by omega) u60
                                                            have u72 := t_us (k := 2) e27 (by decide) (by omega)
                                                            obtain ⟨n72, v72⟩ := s_tz_s (n := 2) v60 (by omega) u72
                                                            have ua : (7 : Int32).toInt = 7 := rfl
                                                            have u76 := t_us (k := 1) e28 (by decide) (by omega)
                                                            have us := s_iadd (a := (7 : Int32)) e29 (by omega) (by omega) (by omega) (by omega)
                                                            have p1 : (2 : Int) ^ 1 = 2 := by decide
                                                            rcases s_tz_f v72 (by omega) (by omega) with ⟨h1, h2⟩ | ⟨h1, h2⟩
                                                            · omega
                                                            · omega))⟩⟩
      · have l30 : 257 ≤ z3.toInt := t_ltl (t_nle h8) (by decide : (256:Int) ≤ (256:Int32).toInt) rfl
        refine ev_incv f_J6_numberOfTrailingZeros_0f7a4 (nx := 44) (c := 8) (w := 9) (lo' := [(1, .int 9), (0, .int z3)]) rfl rfl (by decide) (by decide) rfl rfl rfl ?_
        refine ev_loc f_J6_numberOfTrailingZeros_0f7a4 (nx := 45) rfl rfl rfl rfl ?_
        refine ev_bp f_J6_numberOfTrailingZeros_0f7a4 (nx := 47) (v := 8) rfl (by decide) rfl ?_
        refine ev_anyIE f_J6_numberOfTrailingZeros_0f7a4 (nx := 48) rfl rfl rfl rfl (fun z31 e31 => ?_)
        refine ev_loc f_J6_numberOfTrailingZeros_0f7a4 (nx := 49) (lo' := [(0, .int z31), (1, .int 9)]) rfl rfl rfl rfl ?_
        refine ev_loc f_J6_numberOfTrailingZeros_0f7a4 (nx := 50) rfl rfl rfl rfl ?_
        refine ev_bp f_J6_numberOfTrailingZeros_0f7a4 (nx := 52) (v := 16) rfl (by decide) rfl ?_
        refine ev_if f_J6_numberOfTrailingZeros_0f7a4 (t1 := 62) (t2 := 55) rfl rfl rfl (fun h32 => ?_) (fun h32 => ?_)
        · have u33 : z31.toInt ≤ 16 := t_leu h32 (by decide : (16:Int32).toInt ≤ (16:Int))
          refine ev_loc f_J6_numberOfTrailingZeros_0f7a4 (nx := 63) rfl rfl rfl rfl ?_
          refine ev_ic f_J6_numberOfTrailingZeros_0f7a4 (nx := 64) (v := 4) rfl (by decide) rfl ?_
          refine ev_if f_J6_numberOfTrailingZeros_0f7a4 (t1 := 74) (t2 := 67) rfl rfl rfl (fun h34 => ?_) (fun h34 => ?_)
          · have u35 : z31.toInt ≤ 4 := t_leu h34 (by decide : (4:Int32).toInt ≤ (4:Int))
            refine ev_loc f_J6_numberOfTrailingZeros_0f7a4 (nx := 75) rfl rfl rfl rfl ?_
            refine ev_loc f_J6_numberOfTrailingZeros_0f7a4 (nx := 76) rfl rfl rfl rfl ?_
            refine ev_ic f_J6_numberOfTrailingZeros_0f7a4 (nx := 77) (v := 1) rfl (by decide) rfl ?_
            refine ev_anyIE f_J6_numberOfTrailingZeros_0f7a4 (nx := 78) rfl rfl rfl rfl (fun z36 e36 => ?_)
            refine ev_anyIE f_J6_numberOfTrailingZeros_0f7a4 (nx := 79) rfl rfl rfl rfl (fun z37 e37 => ?_)
            exact ev_ret f_J6_numberOfTrailingZeros_0f7a4 rfl rfl rfl ⟨_, _, _, rfl, hI, hX, ⟨_, rfl, (t_lo z37), (t_hi z37), (show ∀ t : Nat, t ≤ 31 → s_tz ar0.toInt t → z37.toInt = (t : Int) from (by
                                                            intro t ht hz
                                                            have y0 := s_tz_y hz ht e1 e2 e3
                                                            have hyl : z3.toInt < 2147483648 := z3.toInt_lt
                                                            have u47 := t_us (k := 8) e31 (by decide) (by omega)
                                                            obtain ⟨n47, v47⟩ := s_tz_s (n := 8) y0 (by omega) u47
                                                            have ua : (9 : Int32).toInt = 9 := rfl
                                                            have u76 := t_us (k := 1) e36 (by decide) (by omega)
                                                            have us := s_iadd (a := (9 : Int32)) e37 (by omega) (by omega) (by omega) (by omega)
                                                            have p1 : (2 : Int) ^ 1 = 2 := by decide
                                                            rcases s_tz_f v47 (by omega) (by omega) with ⟨h1, h2⟩ | ⟨h1, h2⟩
                                                            · omega
                                                            · omega))⟩⟩
          · have l38 : 5 ≤ z31.toInt := t_ltl (t_nle h34) (by decide : (4:Int) ≤ (4:Int32).toInt) rfl
            refine ev_incv f_J6_numberOfTrailingZeros_0f7a4 (nx := 70) (c := 2) (w := 11) (lo' := [(1, .int 11), (0, .int z31)]) rfl rfl (by decide) (by decide) rfl rfl rfl ?_
            refine ev_loc f_J6_numberOfTrailingZeros_0f7a4 (nx := 71) rfl rfl rfl rfl ?_
            refine ev_ic f_J6_numberOfTrailingZeros_0f7a4 (nx := 72) (v := 2) rfl (by decide) rfl ?_
            refine ev_anyIE f_J6_numberOfTrailingZeros_0f7a4 (nx := 73) rfl rfl rfl rfl (fun z39 e39 => ?_)
            refine ev_loc f_J6_numberOfTrailingZeros_0f7a4 (nx := 74) (lo' := [(0, .int z39), (1, .int 11)]) rfl rfl rfl rfl ?_
            refine ev_loc f_J6_numberOfTrailingZeros_0f7a4 (nx := 75) rfl rfl rfl rfl ?_
            refine ev_loc f_J6_numberOfTrailingZeros_0f7a4 (nx := 76) rfl rfl rfl rfl ?_
            refine ev_ic f_J6_numberOfTrailingZeros_0f7a4 (nx := 77) (v := 1) rfl (by decide) rfl ?_
            refine ev_anyIE f_J6_numberOfTrailingZeros_0f7a4 (nx := 78) rfl rfl rfl rfl (fun z40 e40 => ?_)
            refine ev_anyIE f_J6_numberOfTrailingZeros_0f7a4 (nx := 79) rfl rfl rfl rfl (fun z41 e41 => ?_)
            exact ev_ret f_J6_numberOfTrailingZeros_0f7a4 rfl rfl rfl ⟨_, _, _, rfl, hI, hX, ⟨_, rfl, (t_lo z41), (t_hi z41), (show ∀ t : Nat, t ≤ 31 → s_tz ar0.toInt t → z41.toInt = (t : Int) from (by
                                                            intro t ht hz
                                                            have y0 := s_tz_y hz ht e1 e2 e3
                                                            have hyl : z3.toInt < 2147483648 := z3.toInt_lt
                                                            have u47 := t_us (k := 8) e31 (by decide) (by omega)
                                                            obtain ⟨n47, v47⟩ := s_tz_s (n := 8) y0 (by omega) u47
                                                            have u72 := t_us (k := 2) e39 (by decide) (by omega)
                                                            obtain ⟨n72, v72⟩ := s_tz_s (n := 2) v47 (by omega) u72
                                                            have ua : (11 : Int32).toInt = 11 := rfl
                                                            have u76 := t_us (k := 1) e40 (by decide) (by omega)
                                                            have us := s_iadd (a := (11 : Int32)) e41 (by omega) (by omega) (by omega) (by omega)
                                                            have p1 : (2 : Int) ^ 1 = 2 := by decide
                                                            rcases s_tz_f v72 (by omega) (by omega) with ⟨h1, h2⟩ | ⟨h1, h2⟩
                                                            · omega
                                                            · omega))⟩⟩
        · have l42 : 17 ≤ z31.toInt := t_ltl (t_nle h32) (by decide : (16:Int) ≤ (16:Int32).toInt) rfl
          refine ev_incv f_J6_numberOfTrailingZeros_0f7a4 (nx := 58) (c := 4) (w := 13) (lo' := [(1, .int 13), (0, .int z31)]) rfl rfl (by decide) (by decide) rfl rfl rfl ?_
          refine ev_loc f_J6_numberOfTrailingZeros_0f7a4 (nx := 59) rfl rfl rfl rfl ?_
          refine ev_ic f_J6_numberOfTrailingZeros_0f7a4 (nx := 60) (v := 4) rfl (by decide) rfl ?_
          refine ev_anyIE f_J6_numberOfTrailingZeros_0f7a4 (nx := 61) rfl rfl rfl rfl (fun z43 e43 => ?_)
          refine ev_loc f_J6_numberOfTrailingZeros_0f7a4 (nx := 62) (lo' := [(0, .int z43), (1, .int 13)]) rfl rfl rfl rfl ?_
          refine ev_loc f_J6_numberOfTrailingZeros_0f7a4 (nx := 63) rfl rfl rfl rfl ?_
          refine ev_ic f_J6_numberOfTrailingZeros_0f7a4 (nx := 64) (v := 4) rfl (by decide) rfl ?_
          refine ev_if f_J6_numberOfTrailingZeros_0f7a4 (t1 := 74) (t2 := 67) rfl rfl rfl (fun h44 => ?_) (fun h44 => ?_)
          · have u45 : z43.toInt ≤ 4 := t_leu h44 (by decide : (4:Int32).toInt ≤ (4:Int))
            refine ev_loc f_J6_numberOfTrailingZeros_0f7a4 (nx := 75) rfl rfl rfl rfl ?_
            refine ev_loc f_J6_numberOfTrailingZeros_0f7a4 (nx := 76) rfl rfl rfl rfl ?_
            refine ev_ic f_J6_numberOfTrailingZeros_0f7a4 (nx := 77) (v := 1) rfl (by decide) rfl ?_
            refine ev_anyIE f_J6_numberOfTrailingZeros_0f7a4 (nx := 78) rfl rfl rfl rfl (fun z46 e46 => ?_)
            refine ev_anyIE f_J6_numberOfTrailingZeros_0f7a4 (nx := 79) rfl rfl rfl rfl (fun z47 e47 => ?_)
            exact ev_ret f_J6_numberOfTrailingZeros_0f7a4 rfl rfl rfl ⟨_, _, _, rfl, hI, hX, ⟨_, rfl, (t_lo z47), (t_hi z47), (show ∀ t : Nat, t ≤ 31 → s_tz ar0.toInt t → z47.toInt = (t : Int) from (by
                                                            intro t ht hz
                                                            have y0 := s_tz_y hz ht e1 e2 e3
                                                            have hyl : z3.toInt < 2147483648 := z3.toInt_lt
                                                            have u47 := t_us (k := 8) e31 (by decide) (by omega)
                                                            obtain ⟨n47, v47⟩ := s_tz_s (n := 8) y0 (by omega) u47
                                                            have u60 := t_us (k := 4) e43 (by decide) (by omega)
                                                            obtain ⟨n60, v60⟩ := s_tz_s (n := 4) v47 (by omega) u60
                                                            have ua : (13 : Int32).toInt = 13 := rfl
                                                            have u76 := t_us (k := 1) e46 (by decide) (by omega)
                                                            have us := s_iadd (a := (13 : Int32)) e47 (by omega) (by omega) (by omega) (by omega)
                                                            have p1 : (2 : Int) ^ 1 = 2 := by decide
                                                            rcases s_tz_f v60 (by omega) (by omega) with ⟨h1, h2⟩ | ⟨h1, h2⟩
                                                            · omega
                                                            · omega))⟩⟩
          · have l48 : 5 ≤ z43.toInt := t_ltl (t_nle h44) (by decide : (4:Int) ≤ (4:Int32).toInt) rfl
            refine ev_incv f_J6_numberOfTrailingZeros_0f7a4 (nx := 70) (c := 2) (w := 15) (lo' := [(1, .int 15), (0, .int z43)]) rfl rfl (by decide) (by decide) rfl rfl rfl ?_
            refine ev_loc f_J6_numberOfTrailingZeros_0f7a4 (nx := 71) rfl rfl rfl rfl ?_
            refine ev_ic f_J6_numberOfTrailingZeros_0f7a4 (nx := 72) (v := 2) rfl (by decide) rfl ?_
            refine ev_anyIE f_J6_numberOfTrailingZeros_0f7a4 (nx := 73) rfl rfl rfl rfl (fun z49 e49 => ?_)
            refine ev_loc f_J6_numberOfTrailingZeros_0f7a4 (nx := 74) (lo' := [(0, .int z49), (1, .int 15)]) rfl rfl rfl rfl ?_
            refine ev_loc f_J6_numberOfTrailingZeros_0f7a4 (nx := 75) rfl rfl rfl rfl ?_
            refine ev_loc f_J6_numberOfTrailingZeros_0f7a4 (nx := 76) rfl rfl rfl rfl ?_
            refine ev_ic f_J6_numberOfTrailingZeros_0f7a4 (nx := 77) (v := 1) rfl (by decide) rfl ?_
            refine ev_anyIE f_J6_numberOfTrailingZeros_0f7a4 (nx := 78) rfl rfl rfl rfl (fun z50 e50 => ?_)
            refine ev_anyIE f_J6_numberOfTrailingZeros_0f7a4 (nx := 79) rfl rfl rfl rfl (fun z51 e51 => ?_)
            exact ev_ret f_J6_numberOfTrailingZeros_0f7a4 rfl rfl rfl ⟨_, _, _, rfl, hI, hX, ⟨_, rfl, (t_lo z51), (t_hi z51), (show ∀ t : Nat, t ≤ 31 → s_tz ar0.toInt t → z51.toInt = (t : Int) from (by
                                                            intro t ht hz
                                                            have y0 := s_tz_y hz ht e1 e2 e3
                                                            have hyl : z3.toInt < 2147483648 := z3.toInt_lt
                                                            have u47 := t_us (k := 8) e31 (by decide) (by omega)
                                                            obtain ⟨n47, v47⟩ := s_tz_s (n := 8) y0 (by omega) u47
                                                            have u60 := t_us (k := 4) e43 (by decide) (by omega)
                                                            obtain ⟨n60, v60⟩ := s_tz_s (n := 4) v47 (by omega) u60
                                                            have u72 := t_us (k := 2) e49 (by decide) (by omega)
                                                            obtain ⟨n72, v72⟩ := s_tz_s (n := 2) v60 (by omega) u72
                                                            have ua : (15 : Int32).toInt = 15 := rfl
                                                            have u76 := t_us (k := 1) e50 (by decide) (by omega)
                                                            have us := s_iadd (a := (15 : Int32)) e51 (by omega) (by omega) (by omega) (by omega)
                                                            have p1 : (2 : Int) ^ 1 = 2 := by decide
                                                            rcases s_tz_f v72 (by omega) (by omega) with ⟨h1, h2⟩ | ⟨h1, h2⟩
                                                            · omega
                                                            · omega))⟩⟩
    · have l52 : 65537 ≤ z3.toInt := t_ltl (t_nle h6) (by decide : (65536:Int) ≤ (65536:Int32).toInt) rfl
      refine ev_incv f_J6_numberOfTrailingZeros_0f7a4 (nx := 29) (c := 16) (w := 17) (lo' := [(1, .int 17), (0, .int z3)]) rfl rfl (by decide) (by decide) rfl rfl rfl ?_
      refine ev_loc f_J6_numberOfTrailingZeros_0f7a4 (nx := 30) rfl rfl rfl rfl ?_
      refine ev_bp f_J6_numberOfTrailingZeros_0f7a4 (nx := 32) (v := 16) rfl (by decide) rfl ?_
      refine ev_anyIE f_J6_numberOfTrailingZeros_0f7a4 (nx := 33) rfl rfl rfl rfl (fun z53 e53 => ?_)
      refine ev_loc f_J6_numberOfTrailingZeros_0f7a4 (nx := 34) (lo' := [(0, .int z53), (1, .int 17)]) rfl rfl rfl rfl ?_
      refine ev_loc f_J6_numberOfTrailingZeros_0f7a4 (nx := 35) rfl rfl rfl rfl ?_
      refine ev_sp f_J6_numberOfTrailingZeros_0f7a4 (nx := 38) (v := 256) rfl (by decide) rfl ?_
      refine ev_if f_J6_numberOfTrailingZeros_0f7a4 (t1 := 49) (t2 := 41) rfl rfl rfl (fun h54 => ?_) (fun h54 => ?_)
      · have u55 : z53.toInt ≤ 256 := t_leu h54 (by decide : (256:Int32).toInt ≤ (256:Int))
        refine ev_loc f_J6_numberOfTrailingZeros_0f7a4 (nx := 50) rfl rfl rfl rfl ?_
        refine ev_bp f_J6_numberOfTrailingZeros_0f7a4 (nx := 52) (v := 16) rfl (by decide) rfl ?_
        refine ev_if f_J6_numberOfTrailingZeros_0f7a4 (t1 := 62) (t2 := 55) rfl rfl rfl (fun h56 => ?_) (fun h56 => ?_)
        · have u57 : z53.toInt ≤ 16 := t_leu h56 (by decide : (16:Int32).toInt ≤ (16:Int))
          refine ev_loc f_J6_numberOfTrailingZeros_0f7a4 (nx := 63) rfl rfl rfl rfl ?_
          refine ev_ic f_J6_numberOfTrailingZeros_0f7a4 (nx := 64) (v := 4) rfl (by decide) rfl ?_
          refine ev_if f_J6_numberOfTrailingZeros_0f7a4 (t1 := 74) (t2 := 67) rfl rfl rfl (fun h58 => ?_) (fun h58 => ?_)
          · have u59 : z53.toInt ≤ 4 := t_leu h58 (by decide : (4:Int32).toInt ≤ (4:Int))
            refine ev_loc f_J6_numberOfTrailingZeros_0f7a4 (nx := 75) rfl rfl rfl rfl ?_
            refine ev_loc f_J6_numberOfTrailingZeros_0f7a4 (nx := 76) rfl rfl rfl rfl ?_
            refine ev_ic f_J6_numberOfTrailingZeros_0f7a4 (nx := 77) (v := 1) rfl (by decide) rfl ?_
            refine ev_anyIE f_J6_numberOfTrailingZeros_0f7a4 (nx := 78) rfl rfl rfl rfl (fun z60 e60 => ?_)
            refine ev_anyIE f_J6_numberOfTrailingZeros_0f7a4 (nx := 79) rfl rfl rfl rfl (fun z61 e61 => ?_)
            exact ev_ret f_J6_numberOfTrailingZeros_0f7a4 rfl rfl rfl ⟨_, _, _, rfl, hI, hX, ⟨_, rfl, (t_lo z61), (t_hi z61), (show ∀ t : Nat, t ≤ 31 → s_tz ar0.toInt t → z61.toInt = (t : Int) from (by
                                                            intro t ht hz
                                                            have y0 := s_tz_y hz ht e1 e2 e3
                                                            have hyl : z3.toInt < 2147483648 := z3.toInt_lt
                                                            have u32 := t_us (k := 16) e53 (by decide) (by omega)
                                                            obtain ⟨n32, v32⟩ := s_tz_s (n := 16) y0 (by omega) u32
                                                            have ua : (17 : Int32).toInt = 17 := rfl
                                                            have u76 := t_us (k := 1) e60 (by decide) (by omega)
                                                            have us := s_iadd (a := (17 : Int32)) e61 (by omega) (by omega) (by omega) (by omega)
                                                            have p1 : (2 : Int) ^ 1 = 2 := by decide
                                                            rcases s_tz_f v32 (by omega) (by omega) with ⟨h1, h2⟩ | ⟨h1, h2⟩
                                                            · omega
                                                            · omega))⟩⟩
          · have l62 : 5 ≤ z53.toInt := t_ltl (t_nle h58) (by decide : (4:Int) ≤ (4:Int32).toInt) rfl
            refine ev_incv f_J6_numberOfTrailingZeros_0f7a4 (nx := 70) (c := 2) (w := 19) (lo' := [(1, .int 19), (0, .int z53)]) rfl rfl (by decide) (by decide) rfl rfl rfl ?_
            refine ev_loc f_J6_numberOfTrailingZeros_0f7a4 (nx := 71) rfl rfl rfl rfl ?_
            refine ev_ic f_J6_numberOfTrailingZeros_0f7a4 (nx := 72) (v := 2) rfl (by decide) rfl ?_
            refine ev_anyIE f_J6_numberOfTrailingZeros_0f7a4 (nx := 73) rfl rfl rfl rfl (fun z63 e63 => ?_)
            refine ev_loc f_J6_numberOfTrailingZeros_0f7a4 (nx := 74) (lo' := [(0, .int z63), (1, .int 19)]) rfl rfl rfl rfl ?_
            refine ev_loc f_J6_numberOfTrailingZeros_0f7a4 (nx := 75) rfl rfl rfl rfl ?_
            refine ev_loc f_J6_numberOfTrailingZeros_0f7a4 (nx := 76) rfl rfl rfl rfl ?_
            refine ev_ic f_J6_numberOfTrailingZeros_0f7a4 (nx := 77) (v := 1) rfl (by decide) rfl ?_
            refine ev_anyIE f_J6_numberOfTrailingZeros_0f7a4 (nx := 78) rfl rfl rfl rfl (fun z64 e64 => ?_)
            refine ev_anyIE f_J6_numberOfTrailingZeros_0f7a4 (nx := 79) rfl rfl rfl rfl (fun z65 e65 => ?_)
            exact ev_ret f_J6_numberOfTrailingZeros_0f7a4 rfl rfl rfl ⟨_, _, _, rfl, hI, hX, ⟨_, rfl, (t_lo z65), (t_hi z65), (show ∀ t : Nat, t ≤ 31 → s_tz ar0.toInt t → z65.toInt = (t : Int) from (by
                                                            intro t ht hz
                                                            have y0 := s_tz_y hz ht e1 e2 e3
                                                            have hyl : z3.toInt < 2147483648 := z3.toInt_lt
                                                            have u32 := t_us (k := 16) e53 (by decide) (by omega)
                                                            obtain ⟨n32, v32⟩ := s_tz_s (n := 16) y0 (by omega) u32
                                                            have u72 := t_us (k := 2) e63 (by decide) (by omega)
                                                            obtain ⟨n72, v72⟩ := s_tz_s (n := 2) v32 (by omega) u72
                                                            have ua : (19 : Int32).toInt = 19 := rfl
                                                            have u76 := t_us (k := 1) e64 (by decide) (by omega)
                                                            have us := s_iadd (a := (19 : Int32)) e65 (by omega) (by omega) (by omega) (by omega)
                                                            have p1 : (2 : Int) ^ 1 = 2 := by decide
                                                            rcases s_tz_f v72 (by omega) (by omega) with ⟨h1, h2⟩ | ⟨h1, h2⟩
                                                            · omega
                                                            · omega))⟩⟩
        · have l66 : 17 ≤ z53.toInt := t_ltl (t_nle h56) (by decide : (16:Int) ≤ (16:Int32).toInt) rfl
          refine ev_incv f_J6_numberOfTrailingZeros_0f7a4 (nx := 58) (c := 4) (w := 21) (lo' := [(1, .int 21), (0, .int z53)]) rfl rfl (by decide) (by decide) rfl rfl rfl ?_
          refine ev_loc f_J6_numberOfTrailingZeros_0f7a4 (nx := 59) rfl rfl rfl rfl ?_
          refine ev_ic f_J6_numberOfTrailingZeros_0f7a4 (nx := 60) (v := 4) rfl (by decide) rfl ?_
          refine ev_anyIE f_J6_numberOfTrailingZeros_0f7a4 (nx := 61) rfl rfl rfl rfl (fun z67 e67 => ?_)
          refine ev_loc f_J6_numberOfTrailingZeros_0f7a4 (nx := 62) (lo' := [(0, .int z67), (1, .int 21)]) rfl rfl rfl rfl ?_
          refine ev_loc f_J6_numberOfTrailingZeros_0f7a4 (nx := 63) rfl rfl rfl rfl ?_
          refine ev_ic f_J6_numberOfTrailingZeros_0f7a4 (nx := 64) (v := 4) rfl (by decide) rfl ?_
          refine ev_if f_J6_numberOfTrailingZeros_0f7a4 (t1 := 74) (t2 := 67) rfl rfl rfl (fun h68 => ?_) (fun h68 => ?_)
          · have u69 : z67.toInt ≤ 4 := t_leu h68 (by decide : (4:Int32).toInt ≤ (4:Int))
            refine ev_loc f_J6_numberOfTrailingZeros_0f7a4 (nx := 75) rfl rfl rfl rfl ?_
            refine ev_loc f_J6_numberOfTrailingZeros_0f7a4 (nx := 76) rfl rfl rfl rfl ?_
            refine ev_ic f_J6_numberOfTrailingZeros_0f7a4 (nx := 77) (v := 1) rfl (by decide) rfl ?_
            refine ev_anyIE f_J6_numberOfTrailingZeros_0f7a4 (nx := 78) rfl rfl rfl rfl (fun z70 e70 => ?_)
            refine ev_anyIE f_J6_numberOfTrailingZeros_0f7a4 (nx := 79) rfl rfl rfl rfl (fun z71 e71 => ?_)
            exact ev_ret f_J6_numberOfTrailingZeros_0f7a4 rfl rfl rfl ⟨_, _, _, rfl, hI, hX, ⟨_, rfl, (t_lo z71), (t_hi z71), (show ∀ t : Nat, t ≤ 31 → s_tz ar0.toInt t → z71.toInt = (t : Int) from (by
                                                            intro t ht hz
                                                            have y0 := s_tz_y hz ht e1 e2 e3
                                                            have hyl : z3.toInt < 2147483648 := z3.toInt_lt
                                                            have u32 := t_us (k := 16) e53 (by decide) (by omega)
                                                            obtain ⟨n32, v32⟩ := s_tz_s (n := 16) y0 (by omega) u32
                                                            have u60 := t_us (k := 4) e67 (by decide) (by omega)
                                                            obtain ⟨n60, v60⟩ := s_tz_s (n := 4) v32 (by omega) u60
                                                            have ua : (21 : Int32).toInt = 21 := rfl
                                                            have u76 := t_us (k := 1) e70 (by decide) (by omega)
                                                            have us := s_iadd (a := (21 : Int32)) e71 (by omega) (by omega) (by omega) (by omega)
                                                            have p1 : (2 : Int) ^ 1 = 2 := by decide
                                                            rcases s_tz_f v60 (by omega) (by omega) with ⟨h1, h2⟩ | ⟨h1, h2⟩
                                                            · omega
                                                            · omega))⟩⟩
          · have l72 : 5 ≤ z67.toInt := t_ltl (t_nle h68) (by decide : (4:Int) ≤ (4:Int32).toInt) rfl
            refine ev_incv f_J6_numberOfTrailingZeros_0f7a4 (nx := 70) (c := 2) (w := 23) (lo' := [(1, .int 23), (0, .int z67)]) rfl rfl (by decide) (by decide) rfl rfl rfl ?_
            refine ev_loc f_J6_numberOfTrailingZeros_0f7a4 (nx := 71) rfl rfl rfl rfl ?_
            refine ev_ic f_J6_numberOfTrailingZeros_0f7a4 (nx := 72) (v := 2) rfl (by decide) rfl ?_
            refine ev_anyIE f_J6_numberOfTrailingZeros_0f7a4 (nx := 73) rfl rfl rfl rfl (fun z73 e73 => ?_)
            refine ev_loc f_J6_numberOfTrailingZeros_0f7a4 (nx := 74) (lo' := [(0, .int z73), (1, .int 23)]) rfl rfl rfl rfl ?_
            refine ev_loc f_J6_numberOfTrailingZeros_0f7a4 (nx := 75) rfl rfl rfl rfl ?_
            refine ev_loc f_J6_numberOfTrailingZeros_0f7a4 (nx := 76) rfl rfl rfl rfl ?_
            refine ev_ic f_J6_numberOfTrailingZeros_0f7a4 (nx := 77) (v := 1) rfl (by decide) rfl ?_
            refine ev_anyIE f_J6_numberOfTrailingZeros_0f7a4 (nx := 78) rfl rfl rfl rfl (fun z74 e74 => ?_)
            refine ev_anyIE f_J6_numberOfTrailingZeros_0f7a4 (nx := 79) rfl rfl rfl rfl (fun z75 e75 => ?_)
            exact ev_ret f_J6_numberOfTrailingZeros_0f7a4 rfl rfl rfl ⟨_, _, _, rfl, hI, hX, ⟨_, rfl, (t_lo z75), (t_hi z75), (show ∀ t : Nat, t ≤ 31 → s_tz ar0.toInt t → z75.toInt = (t : Int) from (by
                                                            intro t ht hz
                                                            have y0 := s_tz_y hz ht e1 e2 e3
                                                            have hyl : z3.toInt < 2147483648 := z3.toInt_lt
                                                            have u32 := t_us (k := 16) e53 (by decide) (by omega)
                                                            obtain ⟨n32, v32⟩ := s_tz_s (n := 16) y0 (by omega) u32
                                                            have u60 := t_us (k := 4) e67 (by decide) (by omega)
                                                            obtain ⟨n60, v60⟩ := s_tz_s (n := 4) v32 (by omega) u60
                                                            have u72 := t_us (k := 2) e73 (by decide) (by omega)
                                                            obtain ⟨n72, v72⟩ := s_tz_s (n := 2) v60 (by omega) u72
                                                            have ua : (23 : Int32).toInt = 23 := rfl
                                                            have u76 := t_us (k := 1) e74 (by decide) (by omega)
                                                            have us := s_iadd (a := (23 : Int32)) e75 (by omega) (by omega) (by omega) (by omega)
                                                            have p1 : (2 : Int) ^ 1 = 2 := by decide
                                                            rcases s_tz_f v72 (by omega) (by omega) with ⟨h1, h2⟩ | ⟨h1, h2⟩
                                                            · omega
                                                            · omega))⟩⟩
      · have l76 : 257 ≤ z53.toInt := t_ltl (t_nle h54) (by decide : (256:Int) ≤ (256:Int32).toInt) rfl
        refine ev_incv f_J6_numberOfTrailingZeros_0f7a4 (nx := 44) (c := 8) (w := 25) (lo' := [(1, .int 25), (0, .int z53)]) rfl rfl (by decide) (by decide) rfl rfl rfl ?_
        refine ev_loc f_J6_numberOfTrailingZeros_0f7a4 (nx := 45) rfl rfl rfl rfl ?_
        refine ev_bp f_J6_numberOfTrailingZeros_0f7a4 (nx := 47) (v := 8) rfl (by decide) rfl ?_
        refine ev_anyIE f_J6_numberOfTrailingZeros_0f7a4 (nx := 48) rfl rfl rfl rfl (fun z77 e77 => ?_)
        refine ev_loc f_J6_numberOfTrailingZeros_0f7a4 (nx := 49) (lo' := [(0, .int z77), (1, .int 25)]) rfl rfl rfl rfl ?_
        refine ev_loc f_J6_numberOfTrailingZeros_0f7a4 (nx := 50) rfl rfl rfl rfl ?_
        refine ev_bp f_J6_numberOfTrailingZeros_0f7a4 (nx := 52) (v := 16) rfl (by decide) rfl ?_
        refine ev_if f_J6_numberOfTrailingZeros_0f7a4 (t1 := 62) (t2 := 55) rfl rfl rfl (fun h78 => ?_) (fun h78 => ?_)
        · have u79 : z77.toInt ≤ 16 := t_leu h78 (by decide : (16:Int32).toInt ≤ (16:Int))
          refine ev_loc f_J6_numberOfTrailingZeros_0f7a4 (nx := 63) rfl rfl rfl rfl ?_
          refine ev_ic f_J6_numberOfTrailingZeros_0f7a4 (nx := 64) (v := 4) rfl (by decide) rfl ?_
          refine ev_if f_J6_numberOfTrailingZeros_0f7a4 (t1 := 74) (t2 := 67) rfl rfl rfl (fun h80 => ?_) (fun h80 => ?_)
          · have u81 : z77.toInt ≤ 4 := t_leu h80 (by decide : (4:Int32).toInt ≤ (4:Int))
            refine ev_loc f_J6_numberOfTrailingZeros_0f7a4 (nx := 75) rfl rfl rfl rfl ?_
            refine ev_loc f_J6_numberOfTrailingZeros_0f7a4 (nx := 76) rfl rfl rfl rfl ?_
            refine ev_ic f_J6_numberOfTrailingZeros_0f7a4 (nx := 77) (v := 1) rfl (by decide) rfl ?_
            refine ev_anyIE f_J6_numberOfTrailingZeros_0f7a4 (nx := 78) rfl rfl rfl rfl (fun z82 e82 => ?_)
            refine ev_anyIE f_J6_numberOfTrailingZeros_0f7a4 (nx := 79) rfl rfl rfl rfl (fun z83 e83 => ?_)
            exact ev_ret f_J6_numberOfTrailingZeros_0f7a4 rfl rfl rfl ⟨_, _, _, rfl, hI, hX, ⟨_, rfl, (t_lo z83), (t_hi z83), (show ∀ t : Nat, t ≤ 31 → s_tz ar0.toInt t → z83.toInt = (t : Int) from (by
                                                            intro t ht hz
                                                            have y0 := s_tz_y hz ht e1 e2 e3
                                                            have hyl : z3.toInt < 2147483648 := z3.toInt_lt
                                                            have u32 := t_us (k := 16) e53 (by decide) (by omega)
                                                            obtain ⟨n32, v32⟩ := s_tz_s (n := 16) y0 (by omega) u32
                                                            have u47 := t_us (k := 8) e77 (by decide) (by omega)
                                                            obtain ⟨n47, v47⟩ := s_tz_s (n := 8) v32 (by omega) u47
                                                            have ua : (25 : Int32).toInt = 25 := rfl
                                                            have u76 := t_us (k := 1) e82 (by decide) (by omega)
                                                            have us := s_iadd (a := (25 : Int32)) e83 (by omega) (by omega) (by omega) (by omega)
                                                            have p1 : (2 : Int) ^ 1 = 2 := by decide
                                                            rcases s_tz_f v47 (by omega) (by omega) with ⟨h1, h2⟩ | ⟨h1, h2⟩
                                                            · omega
                                                            · omega))⟩⟩
          · have l84 : 5 ≤ z77.toInt := t_ltl (t_nle h80) (by decide : (4:Int) ≤ (4:Int32).toInt) rfl
            refine ev_incv f_J6_numberOfTrailingZeros_0f7a4 (nx := 70) (c := 2) (w := 27) (lo' := [(1, .int 27), (0, .int z77)]) rfl rfl (by decide) (by decide) rfl rfl rfl ?_
            refine ev_loc f_J6_numberOfTrailingZeros_0f7a4 (nx := 71) rfl rfl rfl rfl ?_
            refine ev_ic f_J6_numberOfTrailingZeros_0f7a4 (nx := 72) (v := 2) rfl (by decide) rfl ?_
            refine ev_anyIE f_J6_numberOfTrailingZeros_0f7a4 (nx := 73) rfl rfl rfl rfl (fun z85 e85 => ?_)
            refine ev_loc f_J6_numberOfTrailingZeros_0f7a4 (nx := 74) (lo' := [(0, .int z85), (1, .int 27)]) rfl rfl rfl rfl ?_
            refine ev_loc f_J6_numberOfTrailingZeros_0f7a4 (nx := 75) rfl rfl rfl rfl ?_
            refine ev_loc f_J6_numberOfTrailingZeros_0f7a4 (nx := 76) rfl rfl rfl rfl ?_
            refine ev_ic f_J6_numberOfTrailingZeros_0f7a4 (nx := 77) (v := 1) rfl (by decide) rfl ?_
            refine ev_anyIE f_J6_numberOfTrailingZeros_0f7a4 (nx := 78) rfl rfl rfl rfl (fun z86 e86 => ?_)
            refine ev_anyIE f_J6_numberOfTrailingZeros_0f7a4 (nx := 79) rfl rfl rfl rfl (fun z87 e87 => ?_)
            exact ev_ret f_J6_numberOfTrailingZeros_0f7a4 rfl rfl rfl ⟨_, _, _, rfl, hI, hX, ⟨_, rfl, (t_lo z87), (t_hi z87), (show ∀ t : Nat, t ≤ 31 → s_tz ar0.toInt t → z87.toInt = (t : Int) from (by
                                                            intro t ht hz
                                                            have y0 := s_tz_y hz ht e1 e2 e3
                                                            have hyl : z3.toInt < 2147483648 := z3.toInt_lt
                                                            have u32 := t_us (k := 16) e53 (by decide) (by omega)
                                                            obtain ⟨n32, v32⟩ := s_tz_s (n := 16) y0 (by omega) u32
                                                            have u47 := t_us (k := 8) e77 (by decide) (by omega)
                                                            obtain ⟨n47, v47⟩ := s_tz_s (n := 8) v32 (by omega) u47
                                                            have u72 := t_us (k := 2) e85 (by decide) (by omega)
                                                            obtain ⟨n72, v72⟩ := s_tz_s (n := 2) v47 (by omega) u72
                                                            have ua : (27 : Int32).toInt = 27 := rfl
                                                            have u76 := t_us (k := 1) e86 (by decide) (by omega)
                                                            have us := s_iadd (a := (27 : Int32)) e87 (by omega) (by omega) (by omega) (by omega)
                                                            have p1 : (2 : Int) ^ 1 = 2 := by decide
                                                            rcases s_tz_f v72 (by omega) (by omega) with ⟨h1, h2⟩ | ⟨h1, h2⟩
                                                            · omega
                                                            · omega))⟩⟩
        · have l88 : 17 ≤ z77.toInt := t_ltl (t_nle h78) (by decide : (16:Int) ≤ (16:Int32).toInt) rfl
          refine ev_incv f_J6_numberOfTrailingZeros_0f7a4 (nx := 58) (c := 4) (w := 29) (lo' := [(1, .int 29), (0, .int z77)]) rfl rfl (by decide) (by decide) rfl rfl rfl ?_
          refine ev_loc f_J6_numberOfTrailingZeros_0f7a4 (nx := 59) rfl rfl rfl rfl ?_
          refine ev_ic f_J6_numberOfTrailingZeros_0f7a4 (nx := 60) (v := 4) rfl (by decide) rfl ?_
          refine ev_anyIE f_J6_numberOfTrailingZeros_0f7a4 (nx := 61) rfl rfl rfl rfl (fun z89 e89 => ?_)
          refine ev_loc f_J6_numberOfTrailingZeros_0f7a4 (nx := 62) (lo' := [(0, .int z89), (1, .int 29)]) rfl rfl rfl rfl ?_
          refine ev_loc f_J6_numberOfTrailingZeros_0f7a4 (nx := 63) rfl rfl rfl rfl ?_
          refine ev_ic f_J6_numberOfTrailingZeros_0f7a4 (nx := 64) (v := 4) rfl (by decide) rfl ?_
          refine ev_if f_J6_numberOfTrailingZeros_0f7a4 (t1 := 74) (t2 := 67) rfl rfl rfl (fun h90 => ?_) (fun h90 => ?_)
          · have u91 : z89.toInt ≤ 4 := t_leu h90 (by decide : (4:Int32).toInt ≤ (4:Int))
            refine ev_loc f_J6_numberOfTrailingZeros_0f7a4 (nx := 75) rfl rfl rfl rfl ?_
            refine ev_loc f_J6_numberOfTrailingZeros_0f7a4 (nx := 76) rfl rfl rfl rfl ?_
            refine ev_ic f_J6_numberOfTrailingZeros_0f7a4 (nx := 77) (v := 1) rfl (by decide) rfl ?_
            refine ev_anyIE f_J6_numberOfTrailingZeros_0f7a4 (nx := 78) rfl rfl rfl rfl (fun z92 e92 => ?_)
            refine ev_anyIE f_J6_numberOfTrailingZeros_0f7a4 (nx := 79) rfl rfl rfl rfl (fun z93 e93 => ?_)
            exact ev_ret f_J6_numberOfTrailingZeros_0f7a4 rfl rfl rfl ⟨_, _, _, rfl, hI, hX, ⟨_, rfl, (t_lo z93), (t_hi z93), (show ∀ t : Nat, t ≤ 31 → s_tz ar0.toInt t → z93.toInt = (t : Int) from (by
                                                            intro t ht hz
                                                            have y0 := s_tz_y hz ht e1 e2 e3
                                                            have hyl : z3.toInt < 2147483648 := z3.toInt_lt
                                                            have u32 := t_us (k := 16) e53 (by decide) (by omega)
                                                            obtain ⟨n32, v32⟩ := s_tz_s (n := 16) y0 (by omega) u32
                                                            have u47 := t_us (k := 8) e77 (by decide) (by omega)
                                                            obtain ⟨n47, v47⟩ := s_tz_s (n := 8) v32 (by omega) u47
                                                            have u60 := t_us (k := 4) e89 (by decide) (by omega)
                                                            obtain ⟨n60, v60⟩ := s_tz_s (n := 4) v47 (by omega) u60
                                                            have ua : (29 : Int32).toInt = 29 := rfl
                                                            have u76 := t_us (k := 1) e92 (by decide) (by omega)
                                                            have us := s_iadd (a := (29 : Int32)) e93 (by omega) (by omega) (by omega) (by omega)
                                                            have p1 : (2 : Int) ^ 1 = 2 := by decide
                                                            rcases s_tz_f v60 (by omega) (by omega) with ⟨h1, h2⟩ | ⟨h1, h2⟩
                                                            · omega
                                                            · omega))⟩⟩
          · have l94 : 5 ≤ z89.toInt := t_ltl (t_nle h90) (by decide : (4:Int) ≤ (4:Int32).toInt) rfl
            refine ev_incv f_J6_numberOfTrailingZeros_0f7a4 (nx := 70) (c := 2) (w := 31) (lo' := [(1, .int 31), (0, .int z89)]) rfl rfl (by decide) (by decide) rfl rfl rfl ?_
            refine ev_loc f_J6_numberOfTrailingZeros_0f7a4 (nx := 71) rfl rfl rfl rfl ?_
            refine ev_ic f_J6_numberOfTrailingZeros_0f7a4 (nx := 72) (v := 2) rfl (by decide) rfl ?_
            refine ev_anyIE f_J6_numberOfTrailingZeros_0f7a4 (nx := 73) rfl rfl rfl rfl (fun z95 e95 => ?_)
            refine ev_loc f_J6_numberOfTrailingZeros_0f7a4 (nx := 74) (lo' := [(0, .int z95), (1, .int 31)]) rfl rfl rfl rfl ?_
            refine ev_loc f_J6_numberOfTrailingZeros_0f7a4 (nx := 75) rfl rfl rfl rfl ?_
            refine ev_loc f_J6_numberOfTrailingZeros_0f7a4 (nx := 76) rfl rfl rfl rfl ?_
            refine ev_ic f_J6_numberOfTrailingZeros_0f7a4 (nx := 77) (v := 1) rfl (by decide) rfl ?_
            refine ev_anyIE f_J6_numberOfTrailingZeros_0f7a4 (nx := 78) rfl rfl rfl rfl (fun z96 e96 => ?_)
            refine ev_anyIE f_J6_numberOfTrailingZeros_0f7a4 (nx := 79) rfl rfl rfl rfl (fun z97 e97 => ?_)
            exact ev_ret f_J6_numberOfTrailingZeros_0f7a4 rfl rfl rfl ⟨_, _, _, rfl, hI, hX, ⟨_, rfl, (t_lo z97), (t_hi z97), (show ∀ t : Nat, t ≤ 31 → s_tz ar0.toInt t → z97.toInt = (t : Int) from (by
                                                            intro t ht hz
                                                            have y0 := s_tz_y hz ht e1 e2 e3
                                                            have hyl : z3.toInt < 2147483648 := z3.toInt_lt
                                                            have u32 := t_us (k := 16) e53 (by decide) (by omega)
                                                            obtain ⟨n32, v32⟩ := s_tz_s (n := 16) y0 (by omega) u32
                                                            have u47 := t_us (k := 8) e77 (by decide) (by omega)
                                                            obtain ⟨n47, v47⟩ := s_tz_s (n := 8) v32 (by omega) u47
                                                            have u60 := t_us (k := 4) e89 (by decide) (by omega)
                                                            obtain ⟨n60, v60⟩ := s_tz_s (n := 4) v47 (by omega) u60
                                                            have u72 := t_us (k := 2) e95 (by decide) (by omega)
                                                            obtain ⟨n72, v72⟩ := s_tz_s (n := 2) v60 (by omega) u72
                                                            have ua : (31 : Int32).toInt = 31 := rfl
                                                            have u76 := t_us (k := 1) e96 (by decide) (by omega)
                                                            have us := s_iadd (a := (31 : Int32)) e97 (by omega) (by omega) (by omega) (by omega)
                                                            have p1 : (2 : Int) ^ 1 = 2 := by decide
                                                            rcases s_tz_f v72 (by omega) (by omega) with ⟨h1, h2⟩ | ⟨h1, h2⟩
                                                            · omega
                                                            · omega))⟩⟩
  · have u98 : z3.toInt ≤ 0 := t_leu (t_nlt h4) (by decide : (0:Int32).toInt ≤ (0:Int))
    refine ev_loc f_J6_numberOfTrailingZeros_0f7a4 (nx := 13) rfl rfl rfl rfl ?_
    refine ev_bp f_J6_numberOfTrailingZeros_0f7a4 (nx := 15) (v := 32) rfl (by decide) rfl ?_
    refine ev_anyIE f_J6_numberOfTrailingZeros_0f7a4 (nx := 16) rfl rfl rfl rfl (fun z99 e99 => ?_)
    exact ev_ret f_J6_numberOfTrailingZeros_0f7a4 rfl rfl rfl ⟨_, _, _, rfl, hI, hX, ⟨_, rfl, (t_lo z99), (t_hi z99), (show ∀ t : Nat, t ≤ 31 → s_tz ar0.toInt t → z99.toInt = (t : Int) from (by
                                                            intro t ht hz
                                                            have y0 := s_tz_y hz ht e1 e2 e3
                                                            obtain ⟨ht0, hy0⟩ := s_tz_0 y0 (by omega)
                                                            rw [show z99 = 0 from (by rw [e99, hy0]; rfl), ht0]; rfl))⟩⟩
noncomputable def wl_j_tzl : List (Nat × Nat) := []
noncomputable def Q_j_tzl (gi : Nat → Nat → Int32) (gl : Nat → Nat → Int64) (gr : Nat → Nat → Value) (ar0 : Int64) : Int32 → (Nat → Nat → Int32) → (Nat → Nat → Int64) → (Nat → Nat → Value) → Prop := fun (v : Int32) (gi2 : Nat → Nat → Int32) (gl2 : Nat → Nat → Int64) (gr2 : Nat → Nat → Value) => ∀ t : Nat, t ≤ 33 → s_tz ar0.toInt t → v.toInt = (t : Int)
theorem c_j_tzl {X : x_Ext} {d : Nat} {sh : List (Nat ⊕ (Nat × Nat))} {gi : Nat → Nat → Int32} {gl : Nat → Nat → Int64} {gr : Nat → Nat → Value} (hI : t_I sh gi gr) (ar0 : Int64) : x_Me X (d + 2) n_J13_numberOfTrailingZeros_95d88 [.long ar0] (sh, gi, gl, gr) (t_PI wl_j_tzl sh gi gl gr (-2147483648) 2147483647 (Q_j_tzl gi gl gr ar0)) := by
  have hX : t_X wl_j_tzl sh gi gl gr gi gl gr := t_X.rf
  refine me_s f_J13_numberOfTrailingZeros_95d88 rfl rfl ?_
  refine ev_loc f_J13_numberOfTrailingZeros_95d88 (nx := 1) rfl rfl rfl rfl ?_
  refine ev_anyIE f_J13_numberOfTrailingZeros_95d88 (nx := 2) rfl rfl rfl rfl (fun z1 e1 => ?_)
  refine ev_loc f_J13_numberOfTrailingZeros_95d88 (nx := 3) (lo' := [(2, .int z1), (0, .long ar0)]) rfl rfl rfl rfl ?_
  refine ev_loc f_J13_numberOfTrailingZeros_95d88 (nx := 4) rfl rfl rfl rfl ?_
  refine ev_if f_J13_numberOfTrailingZeros_95d88 (t1 := 7) (t2 := 21) rfl rfl rfl (fun h2 => ?_) (fun h2 => ?_)
  · have u3 : z1.toInt ≤ 0 := t_equ h2 (by decide : (0:Int32).toInt ≤ (0:Int))
    have l4 : 0 ≤ z1.toInt := t_eql h2 (by decide : (0:Int) ≤ (0:Int32).toInt)
    refine ev_bp f_J13_numberOfTrailingZeros_95d88 (nx := 9) (v := 32) rfl (by decide) rfl ?_
    refine ev_loc f_J13_numberOfTrailingZeros_95d88 (nx := 10) rfl rfl rfl rfl ?_
    refine ev_bp f_J13_numberOfTrailingZeros_95d88 (nx := 12) (v := 32) rfl (by decide) rfl ?_
    refine ev_anyLE f_J13_numberOfTrailingZeros_95d88 (nx := 13) rfl rfl rfl rfl (fun z5 e5 => ?_)
    refine ev_anyIE f_J13_numberOfTrailingZeros_95d88 (nx := 14) rfl rfl rfl rfl (fun z6 e6 => ?_)
    refine ev_qI0 f_J13_numberOfTrailingZeros_95d88 (nx := 17) (r := [.int 32]) rfl rfl rfl rfl rfl rfl rfl (c_j_tz hI (z6)) rfl (fun w7 l7 u7 q7 => ?_)
    have q7 : ∀ t : Nat, t ≤ 31 → s_tz z6.toInt t → w7.toInt = (t : Int) := q7
    refine ev_anyIE f_J13_numberOfTrailingZeros_95d88 (nx := 18) rfl rfl rfl rfl (fun z8 e8 => ?_)
    refine ev_jmp f_J13_numberOfTrailingZeros_95d88 (nx := 25) rfl rfl rfl ?_
    exact ev_ret f_J13_numberOfTrailingZeros_95d88 rfl rfl rfl ⟨_, _, _, rfl, hI, hX, ⟨_, rfl, (t_lo z8), (t_hi z8), (show ∀ t : Nat, t ≤ 33 → s_tz ar0.toInt t → z8.toInt = (t : Int) from (by
                                                            intro t ht hz
                                                            have ux := t_l2iB e1
                                                            have h32 : 32 ≤ t := by
                                                              rcases Nat.lt_or_ge 31 t with hh | hh
                                                              · exact hh
                                                              · exact absurd (show Int.bmod ar0.toInt 4294967296 = 0 by omega) (s_tz_ne (s_tz_lo hz hh))
                                                            have hh := s_tz_hi hz h32 (by omega)
                                                            rw [← s_us32 e5 (by decide) e6] at hh
                                                            have hq := q7 (t - 32) (by omega) hh
                                                            have u32 : (32 : Int32).toInt = 32 := rfl
                                                            have ua := s_iadd (a := 32) e8 (by omega) (by omega) (by omega) (by omega)
                                                            omega))⟩⟩
  · have r9 : z1.toInt ≠ 0 := fun e => h2 (Int32.toInt_inj.mp (e.trans (by decide : (0:Int) = (0 : Int32).toInt)))
    refine ev_loc f_J13_numberOfTrailingZeros_95d88 (nx := 22) rfl rfl rfl rfl ?_
    refine ev_qI0 f_J13_numberOfTrailingZeros_95d88 (nx := 25) (r := []) rfl rfl rfl rfl rfl rfl rfl (c_j_tz hI (z1)) rfl (fun w10 l10 u10 q10 => ?_)
    have q10 : ∀ t : Nat, t ≤ 31 → s_tz z1.toInt t → w10.toInt = (t : Int) := q10
    exact ev_ret f_J13_numberOfTrailingZeros_95d88 rfl rfl rfl ⟨_, _, _, rfl, hI, hX, ⟨_, rfl, l10, u10, (show ∀ t : Nat, t ≤ 33 → s_tz ar0.toInt t → w10.toInt = (t : Int) from (by
                                                            intro t ht hz
                                                            have ux := t_l2iB e1
                                                            have h31 : t ≤ 31 := by
                                                              rcases Nat.lt_or_ge 31 t with hh | hh
                                                              · have h0 := s_tz_z hz hh
                                                                omega
                                                              · exact hh
                                                            have hh := s_tz_lo hz h31
                                                            rw [← ux] at hh
                                                            exact q10 t h31 hh))⟩⟩
noncomputable def wl_d_silent : List (Nat × Nat) := [(0, 0)]
noncomputable def Q_d_silent (gi : Nat → Nat → Int32) (gl : Nat → Nat → Int64) (gr : Nat → Nat → Value) : Int32 → (Nat → Nat → Int32) → (Nat → Nat → Int64) → (Nat → Nat → Value) → Prop := fun (v : Int32) (gi2 : Nat → Nat → Int32) (gl2 : Nat → Nat → Int64) (gr2 : Nat → Nat → Value) => ∀ (u : Nat) (D : s_D), gr 0 6 = .ref u → t_VL gr u → t_CV gi gl u D → t_Cb D → ∀ t : Nat, t ≤ 33 → s_tz (-1 - (s_oa D (D 0).toNat).toInt) t → v.toInt = (t : Int)
theorem c_d_silent {X : x_Ext} {d : Nat} {sh : List (Nat ⊕ (Nat × Nat))} {gi : Nat → Nat → Int32} {gl : Nat → Nat → Int64} {gr : Nat → Nat → Value} (hI : t_I sh gi gr) : x_Me X (d + 3) n_X11_silent [.ref 0] (sh, gi, gl, gr) (t_PI wl_d_silent sh gi gl gr (-2147483648) 2147483647 (Q_d_silent gi gl gr)) := by
  have hX : t_X wl_d_silent sh gi gl gr gi gl gr := t_X.rf
  refine me_i f_X11_silent (hI.wf.s rfl) rfl rfl rfl ?_
  refine ev_lc f_X11_silent (nx := 1) (v := 0) rfl (by decide) rfl ?_
  refine ev_loc f_X11_silent (nx := 2) (lo' := [(1, .long 0), (0, .ref 0)]) rfl rfl rfl rfl ?_
  refine ev_ic f_X11_silent (nx := 3) (v := 0) rfl (by decide) rfl ?_
  refine ev_loc f_X11_silent (nx := 4) (lo' := [(3, .int 0), (1, .long 0), (0, .ref 0)]) rfl rfl rfl rfl ?_
  have L1 : ∀ (m1 : Nat) (y1_3 : Int32) (y1_1 : Int64), 0 ≤ y1_3.toInt → y1_3.toInt ≤ 6 → (∀ (u : Nat) (D : s_D), gr 0 6 = .ref u → t_VL gr u → t_CV gi gl u D → t_Cb D → y1_1 = s_oa D y1_3.toNatClampNeg ∧ y1_3.toInt ≤ D 0) → (6 - y1_3.toInt).toNat = m1 → x_Ev X (d + 3) n_X11_silent 4 [(3, .int y1_3), (1, .long y1_1), (0, .ref 0)] [] (sh, gi, gl, gr) (t_PI wl_d_silent sh gi gl gr (-2147483648) 2147483647 (Q_d_silent gi gl gr)) := by
    intro m1
    induction m1 using Nat.strongRecOn with
    | _ m1 ih1 =>
    intro y1_3 y1_1 l1_3 u1_3 j1_0 hm1
    refine ev_loc f_X11_silent (nx := 5) rfl rfl rfl rfl ?_
    refine ev_loc f_X11_silent (nx := 6) rfl rfl rfl rfl ?_
    obtain ⟨a2, e2, p2⟩ := hI.2.2.2.1.1
    refine ev_getR f_X11_silent (nx := 9) rfl (hI.wf.s rfl) rfl rfl e2 rfl rfl ?_
    refine ev_getI f_X11_silent (nx := 12) rfl p2.1 rfl rfl rfl ?_
    obtain ⟨l3, u3⟩ := hI.b p2.1 (t_bdK rfl : t_bd 4 0 = some (0, 6))
    refine ev_if f_X11_silent (t1 := 32) (t2 := 15) rfl rfl rfl (fun h4 => ?_) (fun h4 => ?_)
    · have r5 : (gi a2 0).toInt ≤ y1_3.toInt := Int32.le_iff_toInt_le.mp h4
      refine ev_loc f_X11_silent (nx := 33) rfl rfl rfl rfl ?_
      refine ev_loc f_X11_silent (nx := 34) rfl rfl rfl rfl ?_
      refine ev_ldL f_X11_silent (nx := 37) (v := -1) rfl (by decide) rfl ?_
      refine ev_anyLE f_X11_silent (nx := 38) rfl rfl rfl rfl (fun z6 e6 => ?_)
      refine ev_qI0 f_X11_silent (nx := 41) (r := [.ref 0]) rfl rfl rfl rfl rfl rfl rfl (c_j_tzl hI (z6)) rfl (fun w7 l7 u7 q7 => ?_)
      have q7 : ∀ t : Nat, t ≤ 33 → s_tz z6.toInt t → w7.toInt = (t : Int) := q7
      refine ev_inV2 f_X11_silent (nx := 44) (lo2 := [(0, .ref 0), (1, .int w7)]) rfl rfl rfl rfl f_X11_answer (hI.wf.s rfl) rfl rfl rfl rfl rfl ?_
      refine ev_loc f_X11_answer (nx := 1) rfl rfl rfl rfl ?_
      refine ev_ic f_X11_answer (nx := 2) (v := 0) rfl (by decide) rfl ?_
      refine ev_putIT f_X11_answer (nx := 5) rfl (hI.wf.s rfl) rfl rfl rfl (hI.put0 (hI.wf.s rfl) rfl rfl) (hX.upI rfl) (fun g8 e8 hI hX => ?_)
      refine ev_loc f_X11_answer (nx := 6) rfl rfl rfl rfl ?_
      refine ev_retK1 f_X11_answer rfl rfl rfl ?_
      exact ev_ret f_X11_silent rfl rfl rfl ⟨_, _, _, rfl, hI, hX, ⟨_, rfl, l7, u7, (show ∀ (u : Nat) (D : s_D), gr 0 6 = .ref u → t_VL gr u → t_CV gi gl u D → t_Cb D → ∀ t : Nat, t ≤ 33 → s_tz (-1 - (s_oa D (D 0).toNat).toInt) t → w7.toInt = (t : Int) from (by
                                                            intro u D hu hl hc hb
                                                            obtain ⟨g1, g2⟩ := j1_0 u D hu hl hc hb
                                                            have ha : a2 = u := Value.ref.inj (e2.symm.trans hu)
                                                            subst ha
                                                            have hm := hc.1.1
                                                            have ck := t_clamp (i := y1_3) (by omega)
                                                            intro t ht hz
                                                            rw [show (D 0).toNat = y1_3.toNatClampNeg from (by omega), ← g1] at hz
                                                            exact q7 t ht (by rw [s_xm e6]; exact hz)))⟩⟩
    · have r9 : y1_3.toInt < (gi a2 0).toInt := Int32.lt_iff_toInt_lt.mp (t_nle h4)
      have u10 : y1_3.toInt ≤ 5 := t_ltu (t_nle h4) u3 rfl
      have l11 : 1 ≤ (gi a2 0).toInt := t_ltl (t_nle h4) l1_3 rfl
      refine ev_loc f_X11_silent (nx := 16) rfl rfl rfl rfl ?_
      refine ev_loc f_X11_silent (nx := 17) rfl rfl rfl rfl ?_
      refine ev_getR f_X11_silent (nx := 20) (v := .ref a2) rfl (hI.wf.s rfl) rfl rfl e2 rfl rfl ?_
      refine ev_loc f_X11_silent (nx := 21) rfl rfl rfl rfl ?_
      refine ev_qL0 f_X11_silent (nx := 24) (r := [.long y1_1]) rfl rfl rfl rfl rfl rfl rfl (c_d_heardOf hI (a2) p2 (y1_3)) rfl (fun w12 q12 => ?_)
      have q12 : ∀ D : s_D, t_VL gr a2 → t_CV gi gl a2 D → w12 = s_hd D y1_3.toInt := q12
      refine ev_anyLE f_X11_silent (nx := 25) rfl rfl rfl rfl (fun z13 e13 => ?_)
      refine ev_loc f_X11_silent (nx := 26) (lo' := [(1, .long z13), (3, .int y1_3), (0, .ref 0)]) rfl rfl rfl rfl ?_
      refine ev_incR f_X11_silent (nx := 29) (c := 1) (l := 1) (u := 6) rfl rfl (by decide) (by decide) l1_3 u10 rfl rfl (by decide) (by decide) rfl (fun z14 e14 l14 u14 => ?_)
      refine ev_jmp f_X11_silent (nx := 4) rfl rfl rfl ?_
      refine ev_sub (lo := [(3, .int z14), (1, .long z13), (0, .ref 0)]) rfl (t_sc rfl (t_sc rfl (t_sc rfl t_sn))) ?_
      exact ih1 _ (by omega) (z14) (z13) (Int.le_trans (by decide : (0:Int) ≤ 1) l14) u14 (by
                                                            intro u D hu hl hc hb
                                                            obtain ⟨g1, g2⟩ := j1_0 u D hu hl hc hb
                                                            have ha : a2 = u := Value.ref.inj (e2.symm.trans hu)
                                                            subst ha
                                                            have hm := hc.1.1
                                                            exact ⟨s_oa_s g1 (by omega) (q12 D hl hc) e13 (by omega), by omega⟩) rfl
  refine ev_sub (lo := [(3, .int 0), (1, .long 0), (0, .ref 0)]) rfl (t_sc rfl (t_sc rfl (t_sc rfl t_sn))) ?_
  exact L1 _ (0) (0) (by decide : (0:Int) ≤ (0:Int32).toInt) (Int.le_trans (by decide : (0:Int32).toInt ≤ (0:Int)) (by decide : (0:Int) ≤ 6)) (fun u D hu hl hc hb => ⟨rfl, by have z0 : (0 : Int32).toInt = 0 := rfl; have := hb.1.1; omega⟩) rfl
noncomputable def wl_e_silent : List (Nat × Nat) := [(69, 2)]
noncomputable def Q_e_silent (gi : Nat → Nat → Int32) (gl : Nat → Nat → Int64) (gr : Nat → Nat → Value) : Int32 → (Nat → Nat → Int32) → (Nat → Nat → Int64) → (Nat → Nat → Value) → Prop := fun (v : Int32) (gi2 : Nat → Nat → Int32) (gl2 : Nat → Nat → Int64) (gr2 : Nat → Nat → Value) => ∀ D : s_D, t_ME 0 gi D → t_Cb D → ∃ t : Nat, t ≤ 33 ∧ s_tz (-1 - (s_oa D (D 0).toNat).toInt) t ∧ v.toInt = (t : Int)
theorem c_e_silent {X : x_Ext} {d : Nat} {sh : List (Nat ⊕ (Nat × Nat))} {gi : Nat → Nat → Int32} {gl : Nat → Nat → Int64} {gr : Nat → Nat → Value} (hI : t_I sh gi gr) : x_Me X (d + 4) n_X12_silent [.ref 69] (sh, gi, gl, gr) (t_PI wl_e_silent sh gi gl gr 0 33 (Q_e_silent gi gl gr)) := by
  have hX : t_X wl_e_silent sh gi gl gr gi gl gr := t_X.rf
  refine me_i f_X12_silent (hI.wf.s rfl) rfl rfl rfl ?_
  refine ev_lc f_X12_silent (nx := 1) (v := 0) rfl (by decide) rfl ?_
  refine ev_loc f_X12_silent (nx := 2) (lo' := [(1, .long 0), (0, .ref 69)]) rfl rfl rfl rfl ?_
  refine ev_ic f_X12_silent (nx := 3) (v := 0) rfl (by decide) rfl ?_
  refine ev_loc f_X12_silent (nx := 4) (lo' := [(3, .int 0), (1, .long 0), (0, .ref 69)]) rfl rfl rfl rfl ?_
  have L1 : ∀ (m1 : Nat) (y1_3 : Int32) (y1_1 : Int64), 0 ≤ y1_3.toInt → y1_3.toInt ≤ 6 → 0 ≤ y1_1.toInt ∧ y1_1.toInt < 8589934592 → (∀ D : s_D, t_ME 0 gi D → t_Cb D → y1_1 = s_oa D y1_3.toNatClampNeg ∧ y1_3.toInt ≤ D 0) → (6 - y1_3.toInt).toNat = m1 → x_Ev X (d + 4) n_X12_silent 4 [(3, .int y1_3), (1, .long y1_1), (0, .ref 69)] [] (sh, gi, gl, gr) (t_PI wl_e_silent sh gi gl gr 0 33 (Q_e_silent gi gl gr)) := by
    intro m1
    induction m1 using Nat.strongRecOn with
    | _ m1 ih1 =>
    intro y1_3 y1_1 l1_3 u1_3 j1_0 j1_1 hm1
    refine ev_loc f_X12_silent (nx := 5) rfl rfl rfl rfl ?_
    refine ev_loc f_X12_silent (nx := 6) rfl rfl rfl rfl ?_
    refine ev_getR f_X12_silent (nx := 9) rfl (hI.wf.s rfl) rfl rfl (hI.wf.r rfl) rfl rfl ?_
    refine ev_ic f_X12_silent (nx := 10) (v := 0) rfl (by decide) rfl ?_
    obtain ⟨l2, u2⟩ := hI.ab (by decide +kernel : t_abr 70 0 0 0 6 = true) (Nat.le_refl _) (Nat.le_refl _)
    refine ev_ialdv f_X12_silent (nx := 11) (w := (gi 70 0)) rfl (hI.wf.s rfl) (by decide) (rfl : (0 : Int32).toNatClampNeg = 0) (by decide) rfl rfl ?_
    refine ev_if f_X12_silent (t1 := 28) (t2 := 14) rfl rfl rfl (fun h3 => ?_) (fun h3 => ?_)
    · have r4 : (gi 70 0).toInt ≤ y1_3.toInt := Int32.le_iff_toInt_le.mp h3
      refine ev_ic f_X12_silent (nx := 29) (v := 0) rfl (by decide) rfl ?_
      refine ev_loc f_X12_silent (nx := 30) (lo' := [(3, .int 0), (1, .long y1_1), (0, .ref 69)]) rfl rfl rfl rfl ?_
      have L5 : ∀ (m5 : Nat) (y5_3 : Int32), 0 ≤ y5_3.toInt → y5_3.toInt ≤ 33 → 0 ≤ y1_1.toInt ∧ y1_1.toInt < 8589934592 → (∀ D : s_D, t_ME 0 gi D → t_Cb D → y1_1 = s_oa D (D 0).toNat ∧ s_mz (-1 - y1_1.toInt) y5_3.toNatClampNeg) → (34 - y5_3.toInt).toNat = m5 → x_Ev X (d + 4) n_X12_silent 30 [(3, .int y5_3), (1, .long y1_1), (0, .ref 69)] [] (sh, gi, gl, gr) (t_PI wl_e_silent sh gi gl gr 0 33 (Q_e_silent gi gl gr)) := by
        intro m5
        induction m5 using Nat.strongRecOn with
        | _ m5 ih5 =>
        intro y5_3 l5_3 u5_3 j5_0 j5_1 hm5
        refine ev_loc f_X12_silent (nx := 31) rfl rfl rfl rfl ?_
        refine ev_loc f_X12_silent (nx := 32) rfl rfl rfl rfl ?_
        refine ev_anyLE f_X12_silent (nx := 33) rfl rfl rfl rfl (fun z6 e6 => ?_)
        refine ev_lc f_X12_silent (nx := 34) (v := 1) rfl (by decide) rfl ?_
        refine ev_anyLE f_X12_silent (nx := 35) rfl rfl rfl rfl (fun z7 e7 => ?_)
        refine ev_lc f_X12_silent (nx := 36) (v := 1) rfl (by decide) rfl ?_
        refine ev_anyIE f_X12_silent (nx := 37) rfl rfl rfl rfl (fun z8 e8 => ?_)
        refine ev_if f_X12_silent (t1 := 40) (t2 := 46) rfl rfl rfl (fun h9 => ?_) (fun h9 => ?_)
        · have u10 : z8.toInt ≤ 0 := t_equ h9 (by decide : (0:Int32).toInt ≤ (0:Int))
          have l11 : 0 ≤ z8.toInt := t_eql h9 (by decide : (0:Int) ≤ (0:Int32).toInt)
          refine ev_incR f_X12_silent (nx := 43) (c := 1) (l := 1) (u := 34) rfl rfl (by decide) (by decide) l5_3 u5_3 rfl rfl (by decide) (by decide) rfl (fun z12 e12 l12 u12 => ?_)
          refine ev_jmp f_X12_silent (nx := 30) rfl rfl rfl ?_
          have hs13 : y5_3.toInt ≤ 32 := t_sil e6 e7 e8 h9 (by omega) (by omega)
          refine ev_sub (lo := [(3, .int z12), (1, .long y1_1), (0, .ref 69)]) rfl (t_sc rfl (t_sc rfl (t_sc rfl t_sn))) ?_
          exact ih5 _ (by omega) (z12) (Int.le_trans (by decide : (0:Int) ≤ 1) l12) (by omega : z12.toInt ≤ (33:Int)) (by omega) (by
                                                            intro D hm hb
                                                            obtain ⟨g1, g2⟩ := j5_1 D hm hb
                                                            have hs := (s_mz_s g2 (by omega) (by omega) e6 e7).1 ((lg_cmp_eq _ _).mp (e8.symm.trans h9))
                                                            have c1 := t_clamp (i := y5_3) (by omega)
                                                            have c2 := t_clamp (i := z12) (by omega)
                                                            exact ⟨g1, by rw [show z12.toNatClampNeg = y5_3.toNatClampNeg + 1 by omega]; exact hs⟩) rfl
        · have r14 : z8.toInt ≠ 0 := fun e => h9 (Int32.toInt_inj.mp (e.trans (by decide : (0:Int) = (0 : Int32).toInt)))
          refine ev_loc f_X12_silent (nx := 47) rfl rfl rfl rfl ?_
          refine ev_loc f_X12_silent (nx := 48) rfl rfl rfl rfl ?_
          refine ev_inV2 f_X12_silent (nx := 51) (lo2 := [(0, .ref 69), (1, .int y5_3)]) rfl rfl rfl rfl f_X12_gives (hI.wf.s rfl) rfl rfl rfl rfl rfl ?_
          refine ev_loc f_X12_gives (nx := 1) rfl rfl rfl rfl ?_
          refine ev_ic f_X12_gives (nx := 2) (v := 0) rfl (by decide) rfl ?_
          refine ev_putIT f_X12_gives (nx := 5) rfl (hI.wf.s rfl) rfl rfl rfl (hI.put0 (hI.wf.s rfl) rfl rfl) (hX.upI rfl) (fun g15 e15 hI hX => ?_)
          refine ev_loc f_X12_gives (nx := 6) rfl rfl rfl rfl ?_
          refine ev_retK1 f_X12_gives rfl rfl rfl ?_
          exact ev_ret f_X12_silent rfl rfl rfl ⟨_, _, _, rfl, hI, hX, ⟨_, rfl, l5_3, u5_3, (show ∀ D : s_D, t_ME 0 gi D → t_Cb D → ∃ t : Nat, t ≤ 33 ∧ s_tz (-1 - (s_oa D (D 0).toNat).toInt) t ∧ y5_3.toInt = (t : Int) from (by
                                                            intro D hm hb
                                                            obtain ⟨g1, g2⟩ := j5_1 D hm hb
                                                            have hs := (s_mz_s g2 (by omega) (by omega) e6 e7).2 (fun hh => h9 (e8.trans ((lg_cmp_eq _ _).mpr hh)))
                                                            have c1 := t_clamp (i := y5_3) (by omega)
                                                            exact ⟨y5_3.toNatClampNeg, by omega, by rw [← g1]; exact hs, by omega⟩))⟩⟩
      refine ev_sub (lo := [(3, .int 0), (1, .long y1_1), (0, .ref 69)]) rfl (t_sc rfl (t_sc rfl (t_sc rfl t_sn))) ?_
      exact L5 _ (0) (by decide : (0:Int) ≤ (0:Int32).toInt) (Int.le_trans (by decide : (0:Int32).toInt ≤ (0:Int)) (by decide : (0:Int) ≤ 33)) (by omega) (by
                                                            intro D hm hb
                                                            obtain ⟨g1, g2⟩ := j1_1 D hm hb
                                                            have h0 : (gi 70 0).toInt = D 0 := hm.1.1.1
                                                            have ck := t_clamp (i := y1_3) (by omega)
                                                            exact ⟨by rw [show (D 0).toNat = y1_3.toNatClampNeg from (by omega)]; exact g1, s_mz_0 _⟩) rfl
    · have r16 : y1_3.toInt < (gi 70 0).toInt := Int32.lt_iff_toInt_lt.mp (t_nle h3)
      have u17 : y1_3.toInt ≤ 5 := t_ltu (t_nle h3) u2 rfl
      have l18 : 1 ≤ (gi 70 0).toInt := t_ltl (t_nle h3) l1_3 rfl
      refine ev_loc f_X12_silent (nx := 15) rfl rfl rfl rfl ?_
      refine ev_loc f_X12_silent (nx := 16) rfl rfl rfl rfl ?_
      refine ev_loc f_X12_silent (nx := 17) rfl rfl rfl rfl ?_
      refine ev_qL0 f_X12_silent (nx := 20) (r := [.long y1_1]) rfl rfl rfl rfl rfl rfl rfl (c_n_heardOf hI (y1_3) l1_3 u17) rfl (fun w19 q19 => ?_)
      have q19 : (0 ≤ w19.toInt ∧ w19.toInt < 8589934592) ∧ ∀ D : s_D, t_ME 0 gi D → y1_3.toInt < D 0 → w19 = s_ec (s_so D y1_3.toNatClampNeg) (D 7) := q19
      refine ev_anyLE f_X12_silent (nx := 21) rfl rfl rfl rfl (fun z20 e20 => ?_)
      refine ev_loc f_X12_silent (nx := 22) (lo' := [(1, .long z20), (3, .int y1_3), (0, .ref 69)]) rfl rfl rfl rfl ?_
      refine ev_incR f_X12_silent (nx := 25) (c := 1) (l := 1) (u := 6) rfl rfl (by decide) (by decide) l1_3 u17 rfl rfl (by decide) (by decide) rfl (fun z21 e21 l21 u21 => ?_)
      refine ev_jmp f_X12_silent (nx := 4) rfl rfl rfl ?_
      refine ev_sub (lo := [(3, .int z21), (1, .long z20), (0, .ref 69)]) rfl (t_sc rfl (t_sc rfl (t_sc rfl t_sn))) ?_
      exact ih1 _ (by omega) (z21) (z20) (Int.le_trans (by decide : (0:Int) ≤ 1) l21) u21 (t_or33 e20 (by omega) (by omega)) (by
                                                            intro D hm hb
                                                            obtain ⟨g1, g2⟩ := j1_1 D hm hb
                                                            have h0 : (gi 70 0).toInt = D 0 := hm.1.1.1
                                                            have hw := (q19.2 D hm (by omega)).trans ((s_hd_i (D := D) (p := y1_3.toInt) (by omega) (by omega)).trans (by rw [show y1_3.toInt.toNat = y1_3.toNatClampNeg from (by have := t_clamp (i := y1_3) (by omega); omega)])).symm
                                                            exact ⟨s_oa_s g1 (by omega) hw e20 (by omega), by omega⟩) rfl
  refine ev_sub (lo := [(3, .int 0), (1, .long 0), (0, .ref 69)]) rfl (t_sc rfl (t_sc rfl (t_sc rfl t_sn))) ?_
  exact L1 _ (0) (0) (by decide : (0:Int) ≤ (0:Int32).toInt) (Int.le_trans (by decide : (0:Int32).toInt ≤ (0:Int)) (by decide : (0:Int) ≤ 6)) (by decide) (fun D hm hb => ⟨rfl, by have z0 : (0 : Int32).toInt = 0 := rfl; have := hb.1.1; omega⟩) rfl
/-! ===== silent: the answers are alike ===== -/
section SILL
variable {sh : List (Nat ⊕ (Nat × Nat))} {gi g1 g2 : Nat → Nat → Int32} {gl l1 l2 : Nat → Nat → Int64} {gr r1 r2 : Nat → Nat → Value} {w1 : List (Nat × Nat)} {x1 x2 : Int32}
theorem t_L_silent (hD : t_DR sh.length gi gl gr) (f1 : t_F w1 gi gl gr g1 l1 r1) (h70 : t_nc w1 70 = true) (q1 : Q_d_silent gi gl gr x1 g1 l1 r1) (q2 : Q_e_silent g1 l1 r1 x2 g2 l2 r2) : x1 = x2 := by
  obtain ⟨u, D, hu, hl, hc, hb, hm, -⟩ := t_D_0 hD f1 h70
  obtain ⟨t, a, b, c⟩ := q2 D hm hb
  have k := q1 u D hu hl hc hb t a b
  exact Int32.toInt_inj.mp (by omega)
end SILL
