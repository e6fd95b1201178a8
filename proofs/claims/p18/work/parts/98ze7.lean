/-! ===== printed by riv.py: LASTS ===== -/
noncomputable def wl_j_nlz : List (Nat × Nat) := []
noncomputable def Q_j_nlz (gi : Nat → Nat → Int32) (gl : Nat → Nat → Int64) (gr : Nat → Nat → Value) (ar0 : Int32) : Int32 → (Nat → Nat → Int32) → (Nat → Nat → Int64) → (Nat → Nat → Value) → Prop := fun (v : Int32) (gi2 : Nat → Nat → Int32) (gl2 : Nat → Nat → Int64) (gr2 : Nat → Nat → Value) => (0 ≤ v.toInt ∧ v.toInt ≤ 32) ∧ (0 < ar0.toInt → s_lg2 ar0.toInt (32 - v.toInt)) ∧ (ar0.toInt = 0 → v.toInt = 32) ∧ (ar0.toInt < 0 → v.toInt = 0)
theorem c_j_nlz {X : x_Ext} {d : Nat} {sh : List (Nat ⊕ (Nat × Nat))} {gi : Nat → Nat → Int32} {gl : Nat → Nat → Int64} {gr : Nat → Nat → Value} (hI : t_I sh gi gr) (ar0 : Int32) : x_Me X (d + 1) n_J6_numberOfLeadingZeros_0f7a4 [.int ar0] (sh, gi, gl, gr) (t_PI wl_j_nlz sh gi gl gr (-2147483648) 2147483647 (Q_j_nlz gi gl gr ar0)) := by
  have hX : t_X wl_j_nlz sh gi gl gr gi gl gr := t_X.rf
  refine me_s f_J6_numberOfLeadingZeros_0f7a4 rfl rfl ?_
  refine ev_loc f_J6_numberOfLeadingZeros_0f7a4 (nx := 1) rfl rfl rfl rfl ?_
  refine ev_if f_J6_numberOfLeadingZeros_0f7a4 (t1 := 15) (t2 := 4) rfl rfl rfl (fun h1 => ?_) (fun h1 => ?_)
  · have l2 : 1 ≤ ar0.toInt := t_ltl h1 (by decide : (0:Int) ≤ (0:Int32).toInt) rfl
    refine ev_bp f_J6_numberOfLeadingZeros_0f7a4 (nx := 17) (v := 31) rfl (by decide) rfl ?_
    refine ev_loc f_J6_numberOfLeadingZeros_0f7a4 (nx := 18) (lo' := [(1, .int 31), (0, .int ar0)]) rfl rfl rfl rfl ?_
    refine ev_loc f_J6_numberOfLeadingZeros_0f7a4 (nx := 19) rfl rfl rfl rfl ?_
    refine ev_ldW f_J6_numberOfLeadingZeros_0f7a4 (nx := 22) (v := 65536) rfl (by decide) rfl ?_
    refine ev_if f_J6_numberOfLeadingZeros_0f7a4 (t1 := 33) (t2 := 25) rfl rfl rfl (fun h3 => ?_) (fun h3 => ?_)
    · have u4 : ar0.toInt ≤ 65535 := t_ltu h3 (by decide : (65536:Int32).toInt ≤ (65536:Int)) rfl
      refine ev_loc f_J6_numberOfLeadingZeros_0f7a4 (nx := 34) rfl rfl rfl rfl ?_
      refine ev_sp f_J6_numberOfLeadingZeros_0f7a4 (nx := 37) (v := 256) rfl (by decide) rfl ?_
      refine ev_if f_J6_numberOfLeadingZeros_0f7a4 (t1 := 48) (t2 := 40) rfl rfl rfl (fun h5 => ?_) (fun h5 => ?_)
      · have u6 : ar0.toInt ≤ 255 := t_ltu h5 (by decide : (256:Int32).toInt ≤ (256:Int)) rfl
        refine ev_loc f_J6_numberOfLeadingZeros_0f7a4 (nx := 49) rfl rfl rfl rfl ?_
        refine ev_bp f_J6_numberOfLeadingZeros_0f7a4 (nx := 51) (v := 16) rfl (by decide) rfl ?_
        refine ev_if f_J6_numberOfLeadingZeros_0f7a4 (t1 := 61) (t2 := 54) rfl rfl rfl (fun h7 => ?_) (fun h7 => ?_)
        · have u8 : ar0.toInt ≤ 15 := t_ltu h7 (by decide : (16:Int32).toInt ≤ (16:Int)) rfl
          refine ev_loc f_J6_numberOfLeadingZeros_0f7a4 (nx := 62) rfl rfl rfl rfl ?_
          refine ev_ic f_J6_numberOfLeadingZeros_0f7a4 (nx := 63) (v := 4) rfl (by decide) rfl ?_
          refine ev_if f_J6_numberOfLeadingZeros_0f7a4 (t1 := 73) (t2 := 66) rfl rfl rfl (fun h9 => ?_) (fun h9 => ?_)
          · have u10 : ar0.toInt ≤ 3 := t_ltu h9 (by decide : (4:Int32).toInt ≤ (4:Int)) rfl
            refine ev_loc f_J6_numberOfLeadingZeros_0f7a4 (nx := 74) rfl rfl rfl rfl ?_
            refine ev_loc f_J6_numberOfLeadingZeros_0f7a4 (nx := 75) rfl rfl rfl rfl ?_
            refine ev_ic f_J6_numberOfLeadingZeros_0f7a4 (nx := 76) (v := 1) rfl (by decide) rfl ?_
            refine ev_anyIE f_J6_numberOfLeadingZeros_0f7a4 (nx := 77) rfl rfl rfl rfl (fun z11 e11 => ?_)
            refine ev_anyIE f_J6_numberOfLeadingZeros_0f7a4 (nx := 78) rfl rfl rfl rfl (fun z12 e12 => ?_)
            exact ev_ret f_J6_numberOfLeadingZeros_0f7a4 rfl rfl rfl ⟨_, _, _, rfl, hI, hX, ⟨_, rfl, (t_lo z12), (t_hi z12), (show (0 ≤ z12.toInt ∧ z12.toInt ≤ 32) ∧ (0 < ar0.toInt → s_lg2 ar0.toInt (32 - z12.toInt)) ∧ (ar0.toInt = 0 → z12.toInt = 32) ∧ (ar0.toInt < 0 → z12.toInt = 0) from (by
                                                            have hl : ar0.toInt < 2147483648 := ar0.toInt_lt
                                                            have u76 := t_us (k := 1) e11 (by decide) (by omega)
                                                            have ua : (31 : Int32).toInt = 31 := rfl
                                                            have us := s_isub (a := (31 : Int32)) e12 (by omega) (by omega) (by omega) (by omega)
                                                            refine ⟨by omega, fun _ => ?_, fun h => absurd h (by omega), fun h => absurd h (by omega)⟩
                                                            rcases (show z11.toInt = 0 ∨ z11.toInt = 1 by omega) with hz | hz
                                                            · exact s_lg2_k 0 (by omega) (by omega) (by omega)
                                                            · exact s_lg2_k 1 (by omega) (by omega) (by omega)))⟩⟩
          · have l13 : 4 ≤ ar0.toInt := t_lel (t_nlt h9) (by decide : (4:Int) ≤ (4:Int32).toInt)
            refine ev_incv f_J6_numberOfLeadingZeros_0f7a4 (nx := 69) (c := -2) (w := 29) (lo' := [(1, .int 29), (0, .int ar0)]) rfl rfl (by decide) (by decide) rfl rfl rfl ?_
            refine ev_loc f_J6_numberOfLeadingZeros_0f7a4 (nx := 70) rfl rfl rfl rfl ?_
            refine ev_ic f_J6_numberOfLeadingZeros_0f7a4 (nx := 71) (v := 2) rfl (by decide) rfl ?_
            refine ev_anyIE f_J6_numberOfLeadingZeros_0f7a4 (nx := 72) rfl rfl rfl rfl (fun z14 e14 => ?_)
            refine ev_loc f_J6_numberOfLeadingZeros_0f7a4 (nx := 73) (lo' := [(0, .int z14), (1, .int 29)]) rfl rfl rfl rfl ?_
            refine ev_loc f_J6_numberOfLeadingZeros_0f7a4 (nx := 74) rfl rfl rfl rfl ?_
            refine ev_loc f_J6_numberOfLeadingZeros_0f7a4 (nx := 75) rfl rfl rfl rfl ?_
            refine ev_ic f_J6_numberOfLeadingZeros_0f7a4 (nx := 76) (v := 1) rfl (by decide) rfl ?_
            refine ev_anyIE f_J6_numberOfLeadingZeros_0f7a4 (nx := 77) rfl rfl rfl rfl (fun z15 e15 => ?_)
            refine ev_anyIE f_J6_numberOfLeadingZeros_0f7a4 (nx := 78) rfl rfl rfl rfl (fun z16 e16 => ?_)
            exact ev_ret f_J6_numberOfLeadingZeros_0f7a4 rfl rfl rfl ⟨_, _, _, rfl, hI, hX, ⟨_, rfl, (t_lo z16), (t_hi z16), (show (0 ≤ z16.toInt ∧ z16.toInt ≤ 32) ∧ (0 < ar0.toInt → s_lg2 ar0.toInt (32 - z16.toInt)) ∧ (ar0.toInt = 0 → z16.toInt = 32) ∧ (ar0.toInt < 0 → z16.toInt = 0) from (by
                                                            have hl : ar0.toInt < 2147483648 := ar0.toInt_lt
                                                            have u71 := t_us (k := 2) e14 (by decide) (by omega)
                                                            have u76 := t_us (k := 1) e15 (by decide) (by omega)
                                                            have ua : (29 : Int32).toInt = 29 := rfl
                                                            have us := s_isub (a := (29 : Int32)) e16 (by omega) (by omega) (by omega) (by omega)
                                                            refine ⟨by omega, fun _ => ?_, fun h => absurd h (by omega), fun h => absurd h (by omega)⟩
                                                            rcases (show z15.toInt = 0 ∨ z15.toInt = 1 by omega) with hz | hz
                                                            · exact s_lg2_k 2 (by omega) (by omega) (by omega)
                                                            · exact s_lg2_k 3 (by omega) (by omega) (by omega)))⟩⟩
        · have l17 : 16 ≤ ar0.toInt := t_lel (t_nlt h7) (by decide : (16:Int) ≤ (16:Int32).toInt)
          refine ev_incv f_J6_numberOfLeadingZeros_0f7a4 (nx := 57) (c := -4) (w := 27) (lo' := [(1, .int 27), (0, .int ar0)]) rfl rfl (by decide) (by decide) rfl rfl rfl ?_
          refine ev_loc f_J6_numberOfLeadingZeros_0f7a4 (nx := 58) rfl rfl rfl rfl ?_
          refine ev_ic f_J6_numberOfLeadingZeros_0f7a4 (nx := 59) (v := 4) rfl (by decide) rfl ?_
          refine ev_anyIE f_J6_numberOfLeadingZeros_0f7a4 (nx := 60) rfl rfl rfl rfl (fun z18 e18 => ?_)
          refine ev_loc f_J6_numberOfLeadingZeros_0f7a4 (nx := 61) (lo' := [(0, .int z18), (1, .int 27)]) rfl rfl rfl rfl ?_
          refine ev_loc f_J6_numberOfLeadingZeros_0f7a4 (nx := 62) rfl rfl rfl rfl ?_
          refine ev_ic f_J6_numberOfLeadingZeros_0f7a4 (nx := 63) (v := 4) rfl (by decide) rfl ?_
          refine ev_if f_J6_numberOfLeadingZeros_0f7a4 (t1 := 73) (t2 := 66) rfl rfl rfl (fun h19 => ?_) (fun h19 => ?_)
          · have u20 : z18.toInt ≤ 3 := t_ltu h19 (by decide : (4:Int32).toInt ≤ (4:Int)) rfl
            refine ev_loc f_J6_numberOfLeadingZeros_0f7a4 (nx := 74) rfl rfl rfl rfl ?_
            refine ev_loc f_J6_numberOfLeadingZeros_0f7a4 (nx := 75) rfl rfl rfl rfl ?_
            refine ev_ic f_J6_numberOfLeadingZeros_0f7a4 (nx := 76) (v := 1) rfl (by decide) rfl ?_
            refine ev_anyIE f_J6_numberOfLeadingZeros_0f7a4 (nx := 77) rfl rfl rfl rfl (fun z21 e21 => ?_)
            refine ev_anyIE f_J6_numberOfLeadingZeros_0f7a4 (nx := 78) rfl rfl rfl rfl (fun z22 e22 => ?_)
            exact ev_ret f_J6_numberOfLeadingZeros_0f7a4 rfl rfl rfl ⟨_, _, _, rfl, hI, hX, ⟨_, rfl, (t_lo z22), (t_hi z22), (show (0 ≤ z22.toInt ∧ z22.toInt ≤ 32) ∧ (0 < ar0.toInt → s_lg2 ar0.toInt (32 - z22.toInt)) ∧ (ar0.toInt = 0 → z22.toInt = 32) ∧ (ar0.toInt < 0 → z22.toInt = 0) from (by
                                                            have hl : ar0.toInt < 2147483648 := ar0.toInt_lt
                                                            have u59 := t_us (k := 4) e18 (by decide) (by omega)
                                                            have u76 := t_us (k := 1) e21 (by decide) (by omega)
                                                            have ua : (27 : Int32).toInt = 27 := rfl
                                                            have us := s_isub (a := (27 : Int32)) e22 (by omega) (by omega) (by omega) (by omega)
                                                            refine ⟨by omega, fun _ => ?_, fun h => absurd h (by omega), fun h => absurd h (by omega)⟩
                                                            rcases (show z21.toInt = 0 ∨ z21.toInt = 1 by omega) with hz | hz
                                                            · exact s_lg2_k 4 (by omega) (by omega) (by omega)
                                                            · exact s_lg2_k 5 (by omega) (by omega) (by omega)))⟩⟩
          · have l23 : 4 ≤ z18.toInt := t_lel (t_nlt h19) (by decide : (4:Int) ≤ (4:Int32).toInt)
            refine ev_incv f_J6_numberOfLeadingZeros_0f7a4 (nx := 69) (c := -2) (w := 25) (lo' := [(1, .int 25), (0, .int z18)]) rfl rfl (by decide) (by decide) rfl rfl rfl ?_
            refine ev_loc f_J6_numberOfLeadingZeros_0f7a4 (nx := 70) rfl rfl rfl rfl ?_
            refine ev_ic f_J6_numberOfLeadingZeros_0f7a4 (nx := 71) (v := 2) rfl (by decide) rfl ?_
            refine ev_anyIE f_J6_numberOfLeadingZeros_0f7a4 (nx := 72) rfl rfl rfl rfl (fun z24 e24 => ?_)
            refine ev_loc f_J6_numberOfLeadingZeros_0f7a4 (nx := 73) (lo' := [(0, .int z24), (1, .int 25)]) rfl rfl rfl rfl ?_
            refine ev_loc f_J6_numberOfLeadingZeros_0f7a4 (nx := 74) rfl rfl rfl rfl ?_
            refine ev_loc f_J6_numberOfLeadingZeros_0f7a4 (nx := 75) rfl rfl rfl rfl ?_
            refine ev_ic f_J6_numberOfLeadingZeros_0f7a4 (nx := 76) (v := 1) rfl (by decide) rfl ?_
            refine ev_anyIE f_J6_numberOfLeadingZeros_0f7a4 (nx := 77) rfl rfl rfl rfl (fun z25 e25 => ?_)
            refine ev_anyIE f_J6_numberOfLeadingZeros_0f7a4 (nx := 78) rfl rfl rfl rfl (fun z26 e26 => ?_)
            exact ev_ret f_J6_numberOfLeadingZeros_0f7a4 rfl rfl rfl ⟨_, _, _, rfl, hI, hX, ⟨_, rfl, (t_lo z26), (t_hi z26), (show (0 ≤ z26.toInt ∧ z26.toInt ≤ 32) ∧ (0 < ar0.toInt → s_lg2 ar0.toInt (32 - z26.toInt)) ∧ (ar0.toInt = 0 → z26.toInt = 32) ∧ (ar0.toInt < 0 → z26.toInt = 0) from (by
                                                            have hl : ar0.toInt < 2147483648 := ar0.toInt_lt
                                                            have u59 := t_us (k := 4) e18 (by decide) (by omega)
                                                            have u71 := t_us (k := 2) e24 (by decide) (by omega)
                                                            have u76 := t_us (k := 1) e25 (by decide) (by omega)
                                                            have ua : (25 : Int32).toInt = 25 := rfl
                                                            have us := s_isub (a := (25 : Int32)) e26 (by omega) (by omega) (by omega) (by omega)
                                                            refine ⟨by omega, fun _ => ?_, fun h => absurd h (by omega), fun h => absurd h (by omega)⟩
                                                            rcases (show z25.toInt = 0 ∨ z25.toInt = 1 by omega) with hz | hz
                                                            · exact s_lg2_k 6 (by omega) (by omega) (by omega)
                                                            · exact s_lg2_k 7 (by omega) (by omega) (by omega)))⟩⟩
      · have l27 : 256 ≤ ar0.toInt := t_lel (t_nlt h5) (by decide : (256:Int) ≤ (256:Int32).toInt)
        refine ev_incv f_J6_numberOfLeadingZeros_0f7a4 (nx := 43) (c := -8) (w := 23) (lo' := [(1, .int 23), (0, .int ar0)]) rfl rfl (by decide) (by decide) rfl rfl rfl ?_
        refine ev_loc f_J6_numberOfLeadingZeros_0f7a4 (nx := 44) rfl rfl rfl rfl ?_
        refine ev_bp f_J6_numberOfLeadingZeros_0f7a4 (nx := 46) (v := 8) rfl (by decide) rfl ?_
        refine ev_anyIE f_J6_numberOfLeadingZeros_0f7a4 (nx := 47) rfl rfl rfl rfl (fun z28 e28 => ?_)
        refine ev_loc f_J6_numberOfLeadingZeros_0f7a4 (nx := 48) (lo' := [(0, .int z28), (1, .int 23)]) rfl rfl rfl rfl ?_
        refine ev_loc f_J6_numberOfLeadingZeros_0f7a4 (nx := 49) rfl rfl rfl rfl ?_
        refine ev_bp f_J6_numberOfLeadingZeros_0f7a4 (nx := 51) (v := 16) rfl (by decide) rfl ?_
        refine ev_if f_J6_numberOfLeadingZeros_0f7a4 (t1 := 61) (t2 := 54) rfl rfl rfl (fun h29 => ?_) (fun h29 => ?_)
        · have u30 : z28.toInt ≤ 15 := t_ltu h29 (by decide : (16:Int32).toInt ≤ (16:Int)) rfl
          refine ev_loc f_J6_numberOfLeadingZeros_0f7a4 (nx := 62) rfl rfl rfl rfl ?_
          refine ev_ic f_J6_numberOfLeadingZeros_0f7a4 (nx := 63) (v := 4) rfl (by decide) rfl ?_
          refine ev_if f_J6_numberOfLeadingZeros_0f7a4 (t1 := 73) (t2 := 66) rfl rfl rfl (fun h31 => ?_) (fun h31 => ?_)
          · have u32 : z28.toInt ≤ 3 := t_ltu h31 (by decide : (4:Int32).toInt ≤ (4:Int)) rfl
            refine ev_loc f_J6_numberOfLeadingZeros_0f7a4 (nx := 74) rfl rfl rfl rfl ?_
            refine ev_loc f_J6_numberOfLeadingZeros_0f7a4 (nx := 75) rfl rfl rfl rfl ?_
            refine ev_ic f_J6_numberOfLeadingZeros_0f7a4 (nx := 76) (v := 1) rfl (by decide) rfl ?_
            refine ev_anyIE f_J6_numberOfLeadingZeros_0f7a4 (nx := 77) rfl rfl rfl rfl (fun z33 e33 => ?_)
            refine ev_anyIE f_J6_numberOfLeadingZeros_0f7a4 (nx := 78) rfl rfl rfl rfl (fun z34 e34 => ?_)
            exact ev_ret f_J6_numberOfLeadingZeros_0f7a4 rfl rfl rfl ⟨_, _, _, rfl, hI, hX, ⟨_, rfl, (t_lo z34), (t_hi z34), (show (0 ≤ z34.toInt ∧ z34.toInt ≤ 32) ∧ (0 < ar0.toInt → s_lg2 ar0.toInt (32 - z34.toInt)) ∧ (ar0.toInt = 0 → z34.toInt = 32) ∧ (ar0.toInt < 0 → z34.toInt = 0) from (by
                                                            have hl : ar0.toInt < 2147483648 := ar0.toInt_lt
                                                            have u46 := t_us (k := 8) e28 (by decide) (by omega)
                                                            have u76 := t_us (k := 1) e33 (by decide) (by omega)
                                                            have ua : (23 : Int32).toInt = 23 := rfl
                                                            have us := s_isub (a := (23 : Int32)) e34 (by omega) (by omega) (by omega) (by omega)
                                                            refine ⟨by omega, fun _ => ?_, fun h => absurd h (by omega), fun h => absurd h (by omega)⟩
                                                            rcases (show z33.toInt = 0 ∨ z33.toInt = 1 by omega) with hz | hz
                                                            · exact s_lg2_k 8 (by omega) (by omega) (by omega)
                                                            · exact s_lg2_k 9 (by omega) (by omega) (by omega)))⟩⟩
          · have l35 : 4 ≤ z28.toInt := t_lel (t_nlt h31) (by decide : (4:Int) ≤ (4:Int32).toInt)
            refine ev_incv f_J6_numberOfLeadingZeros_0f7a4 (nx := 69) (c := -2) (w := 21) (lo' := [(1, .int 21), (0, .int z28)]) rfl rfl (by decide) (by decide) rfl rfl rfl ?_
            refine ev_loc f_J6_numberOfLeadingZeros_0f7a4 (nx := 70) rfl rfl rfl rfl ?_
            refine ev_ic f_J6_numberOfLeadingZeros_0f7a4 (nx := 71) (v := 2) rfl (by decide) rfl ?_
            refine ev_anyIE f_J6_numberOfLeadingZeros_0f7a4 (nx := 72) rfl rfl rfl rfl (fun z36 e36 => ?_)
            refine ev_loc f_J6_numberOfLeadingZeros_0f7a4 (nx := 73) (lo' := [(0, .int z36), (1, .int 21)]) rfl rfl rfl rfl ?_
            refine ev_loc f_J6_numberOfLeadingZeros_0f7a4 (nx := 74) rfl rfl rfl rfl ?_
            refine ev_loc f_J6_numberOfLeadingZeros_0f7a4 (nx := 75) rfl rfl rfl rfl ?_
            refine ev_ic f_J6_numberOfLeadingZeros_0f7a4 (nx := 76) (v := 1) rfl (by decide) rfl ?_
            refine ev_anyIE f_J6_numberOfLeadingZeros_0f7a4 (nx := 77) rfl rfl rfl rfl (fun z37 e37 => ?_)
            refine ev_anyIE f_J6_numberOfLeadingZeros_0f7a4 (nx := 78) rfl rfl rfl rfl (fun z38 e38 => ?_)
            exact ev_ret f_J6_numberOfLeadingZeros_0f7a4 rfl rfl rfl ⟨_, _, _, rfl, hI, hX, ⟨_, rfl, (t_lo z38), (t_hi z38), (show (0 ≤ z38.toInt ∧ z38.toInt ≤ 32) ∧ (0 < ar0.toInt → s_lg2 ar0.toInt (32 - z38.toInt)) ∧ (ar0.toInt = 0 → z38.toInt = 32) ∧ (ar0.toInt < 0 → z38.toInt = 0) from (by
                                                            have hl : ar0.toInt < 2147483648 := ar0.toInt_lt
                                                            have u46 := t_us (k := 8) e28 (by decide) (by omega)
                                                            have u71 := t_us (k := 2) e36 (by decide) (by omega)
                                                            have u76 := t_us (k := 1) e37 (by decide) (by omega)
                                                            have ua : (21 : Int32).toInt = 21 := rfl
                                                            have us := s_isub (a := (21 : Int32)) e38 (by omega) (by omega) (by omega) (by omega)
                                                            refine ⟨by omega, fun _ => ?_, fun h => absurd h (by omega), fun h => absurd h (by omega)⟩
                                                            rcases (show z37.toInt = 0 ∨ z37.toInt = 1 by omega) with hz | hz
                                                            · exact s_lg2_k 10 (by omega) (by omega) (by omega)
                                                            · exact s_lg2_k 11 (by omega) (by omega) (by omega)))⟩⟩
        · have l39 : 16 ≤ z28.toInt := t_lel (t_nlt h29) (by decide : (16:Int) ≤ (16:Int32).toInt)
          refine ev_incv f_J6_numberOfLeadingZeros_0f7a4 (nx := 57) (c := -4) (w := 19) (lo' := [(1, .int 19), (0, .int z28)]) rfl rfl (by decide) (by decide) rfl rfl rfl ?_
          refine ev_loc f_J6_numberOfLeadingZeros_0f7a4 (nx := 58) rfl rfl rfl rfl ?_
          refine ev_ic f_J6_numberOfLeadingZeros_0f7a4 (nx := 59) (v := 4) rfl (by decide) rfl ?_
          refine ev_anyIE f_J6_numberOfLeadingZeros_0f7a4 (nx := 60) rfl rfl rfl rfl (fun z40 e40 => ?_)
          refine ev_loc f_J6_numberOfLeadingZeros_0f7a4 (nx := 61) (lo' := [(0, .int z40), (1, .int 19)]) rfl rfl rfl rfl ?_
          refine ev_loc f_J6_numberOfLeadingZeros_0f7a4 (nx := 62) rfl rfl rfl rfl ?_
          refine ev_ic f_J6_numberOfLeadingZeros_0f7a4 (nx := 63) (v := 4) rfl (by decide) rfl ?_
          refine ev_if f_J6_numberOfLeadingZeros_0f7a4 (t1 := 73) (t2 := 66) rfl rfl rfl (fun h41 => ?_) (fun h41 => ?_)
          · have u42 : z40.toInt ≤ 3 := t_ltu h41 (by decide : (4:Int32).toInt ≤ (4:Int)) rfl
            refine ev_loc f_J6_numberOfLeadingZeros_0f7a4 (nx := 74) rfl rfl rfl rfl ?_
            refine ev_loc f_J6_numberOfLeadingZeros_0f7a4 (nx := 75) rfl rfl rfl rfl ?_
            refine ev_ic f_J6_numberOfLeadingZeros_0f7a4 (nx := 76) (v := 1) rfl (by decide) rfl ?_
            refine ev_anyIE f_J6_numberOfLeadingZeros_0f7a4 (nx := 77) rfl rfl rfl rfl (fun z43 e43 => ?_)
            refine ev_anyIE f_J6_numberOfLeadingZeros_0f7a4 (nx := 78) rfl rfl rfl rfl (fun z44 e44 => ?_)
            exact ev_ret f_J6_numberOfLeadingZeros_0f7a4 rfl rfl rfl ⟨_, _, _, rfl, hI, hX, ⟨_, rfl, (t_lo z44), (t_hi z44), (show (0 ≤ z44.toInt ∧ z44.toInt ≤ 32) ∧ (0 < ar0.toInt → s_lg2 ar0.toInt (32 - z44.toInt)) ∧ (ar0.toInt = 0 → z44.toInt = 32) ∧ (ar0.toInt < 0 → z44.toInt = 0) from (by
                                                            have hl : ar0.toInt < 2147483648 := ar0.toInt_lt
                                                            have u46 := t_us (k := 8) e28 (by decide) (by omega)
                                                            have u59 := t_us (k := 4) e40 (by decide) (by omega)
                                                            have u76 := t_us (k := 1) e43 (by decide) (by omega)
                                                            have ua : (19 : Int32).toInt = 19 := rfl
                                                            have us := s_isub (a := (19 : Int32)) e44 (by omega) (by omega) (by omega) (by omega)
                                                            refine ⟨by omega, fun _ => ?_, fun h => absurd h (by omega), fun h => absurd h (by omega)⟩
                                                            rcases (show z43.toInt = 0 ∨ z43.toInt = 1 by omega) with hz | hz
                                                            · exact s_lg2_k 12 (by omega) (by omega) (by omega)
                                                            · exact s_lg2_k 13 (by omega) (by omega) (by omega)))⟩⟩
          · have l45 : 4 ≤ z40.toInt := t_lel (t_nlt h41) (by decide : (4:Int) ≤ (4:Int32).toInt)
            refine ev_incv f_J6_numberOfLeadingZeros_0f7a4 (nx := 69) (c := -2) (w := 17) (lo' := [(1, .int 17), (0, .int z40)]) rfl rfl (by decide) (by decide) rfl rfl rfl ?_
            refine ev_loc f_J6_numberOfLeadingZeros_0f7a4 (nx := 70) rfl rfl rfl rfl ?_
            refine ev_ic f_J6_numberOfLeadingZeros_0f7a4 (nx := 71) (v := 2) rfl (by decide) rfl ?_
            refine ev_anyIE f_J6_numberOfLeadingZeros_0f7a4 (nx := 72) rfl rfl rfl rfl (fun z46 e46 => ?_)
            refine ev_loc f_J6_numberOfLeadingZeros_0f7a4 (nx := 73) (lo' := [(0, .int z46), (1, .int 17)]) rfl rfl rfl rfl ?_
            refine ev_loc f_J6_numberOfLeadingZeros_0f7a4 (nx := 74) rfl rfl rfl rfl ?_
            refine ev_loc f_J6_numberOfLeadingZeros_0f7a4 (nx := 75) rfl rfl rfl rfl ?_
            refine ev_ic f_J6_numberOfLeadingZeros_0f7a4 (nx := 76) (v := 1) rfl (by decide) rfl ?_
            refine ev_anyIE f_J6_numberOfLeadingZeros_0f7a4 (nx := 77) rfl rfl rfl rfl (fun z47 e47 => ?_)
            refine ev_anyIE f_J6_numberOfLeadingZeros_0f7a4 (nx := 78) rfl rfl rfl rfl (fun z48 e48 => ?_)
            exact ev_ret f_J6_numberOfLeadingZeros_0f7a4 rfl rfl rfl ⟨_, _, _, rfl, hI, hX, ⟨_, rfl, (t_lo z48), (t_hi z48), (show (0 ≤ z48.toInt ∧ z48.toInt ≤ 32) ∧ (0 < ar0.toInt → s_lg2 ar0.toInt (32 - z48.toInt)) ∧ (ar0.toInt = 0 → z48.toInt = 32) ∧ (ar0.toInt < 0 → z48.toInt = 0) from (by
                                                            have hl : ar0.toInt < 2147483648 := ar0.toInt_lt
                                                            have u46 := t_us (k := 8) e28 (by decide) (by omega)
                                                            have u59 := t_us (k := 4) e40 (by decide) (by omega)
                                                            have u71 := t_us (k := 2) e46 (by decide) (by omega)
                                                            have u76 := t_us (k := 1) e47 (by decide) (by omega)
                                                            have ua : (17 : Int32).toInt = 17 := rfl
                                                            have us := s_isub (a := (17 : Int32)) e48 (by omega) (by omega) (by omega) (by omega)
                                                            refine ⟨by omega, fun _ => ?_, fun h => absurd h (by omega), fun h => absurd h (by omega)⟩
                                                            rcases (show z47.toInt = 0 ∨ z47.toInt = 1 by omega) with hz | hz
                                                            · exact s_lg2_k 14 (by omega) (by omega) (by omega)
                                                            · exact s_lg2_k 15 (by omega) (by omega) (by omega)))⟩⟩
    · have l49 : 65536 ≤ ar0.toInt := t_lel (t_nlt h3) (by decide : (65536:Int) ≤ (65536:Int32).toInt)
      refine ev_incv f_J6_numberOfLeadingZeros_0f7a4 (nx := 28) (c := -16) (w := 15) (lo' := [(1, .int 15), (0, .int ar0)]) rfl rfl (by decide) (by decide) rfl rfl rfl ?_
      refine ev_loc f_J6_numberOfLeadingZeros_0f7a4 (nx := 29) rfl rfl rfl rfl ?_
      refine ev_bp f_J6_numberOfLeadingZeros_0f7a4 (nx := 31) (v := 16) rfl (by decide) rfl ?_
      refine ev_anyIE f_J6_numberOfLeadingZeros_0f7a4 (nx := 32) rfl rfl rfl rfl (fun z50 e50 => ?_)
      refine ev_loc f_J6_numberOfLeadingZeros_0f7a4 (nx := 33) (lo' := [(0, .int z50), (1, .int 15)]) rfl rfl rfl rfl ?_
      refine ev_loc f_J6_numberOfLeadingZeros_0f7a4 (nx := 34) rfl rfl rfl rfl ?_
      refine ev_sp f_J6_numberOfLeadingZeros_0f7a4 (nx := 37) (v := 256) rfl (by decide) rfl ?_
      refine ev_if f_J6_numberOfLeadingZeros_0f7a4 (t1 := 48) (t2 := 40) rfl rfl rfl (fun h51 => ?_) (fun h51 => ?_)
      · have u52 : z50.toInt ≤ 255 := t_ltu h51 (by decide : (256:Int32).toInt ≤ (256:Int)) rfl
        refine ev_loc f_J6_numberOfLeadingZeros_0f7a4 (nx := 49) rfl rfl rfl rfl ?_
        refine ev_bp f_J6_numberOfLeadingZeros_0f7a4 (nx := 51) (v := 16) rfl (by decide) rfl ?_
        refine ev_if f_J6_numberOfLeadingZeros_0f7a4 (t1 := 61) (t2 := 54) rfl rfl rfl (fun h53 => ?_) (fun h53 => ?_)
        · have u54 : z50.toInt ≤ 15 := t_ltu h53 (by decide : (16:Int32).toInt ≤ (16:Int)) rfl
          refine ev_loc f_J6_numberOfLeadingZeros_0f7a4 (nx := 62) rfl rfl rfl rfl ?_
          refine ev_ic f_J6_numberOfLeadingZeros_0f7a4 (nx := 63) (v := 4) rfl (by decide) rfl ?_
          refine ev_if f_J6_numberOfLeadingZeros_0f7a4 (t1 := 73) (t2 := 66) rfl rfl rfl (fun h55 => ?_) (fun h55 => ?_)
          · have u56 : z50.toInt ≤ 3 := t_ltu h55 (by decide : (4:Int32).toInt ≤ (4:Int)) rfl
            refine ev_loc f_J6_numberOfLeadingZeros_0f7a4 (nx := 74) rfl rfl rfl rfl ?_
            refine ev_loc f_J6_numberOfLeadingZeros_0f7a4 (nx := 75) rfl rfl rfl rfl ?_
            refine ev_ic f_J6_numberOfLeadingZeros_0f7a4 (nx := 76) (v := 1) rfl (by decide) rfl ?_
            refine ev_anyIE f_J6_numberOfLeadingZeros_0f7a4 (nx := 77) rfl rfl rfl rfl (fun z57 e57 => ?_)
            refine ev_anyIE f_J6_numberOfLeadingZeros_0f7a4 (nx := 78) rfl rfl rfl rfl (fun z58 e58 => ?_)
            exact ev_ret f_J6_numberOfLeadingZeros_0f7a4 rfl rfl rfl ⟨_, _, _, rfl, hI, hX, ⟨_, rfl, (t_lo z58), (t_hi z58), (show (0 ≤ z58.toInt ∧ z58.toInt ≤ 32) ∧ (0 < ar0.toInt → s_lg2 ar0.toInt (32 - z58.toInt)) ∧ (ar0.toInt = 0 → z58.toInt = 32) ∧ (ar0.toInt < 0 → z58.toInt = 0) from (by
                                                            have hl : ar0.toInt < 2147483648 := ar0.toInt_lt
                                                            have u31 := t_us (k := 16) e50 (by decide) (by omega)
                                                            have u76 := t_us (k := 1) e57 (by decide) (by omega)
                                                            have ua : (15 : Int32).toInt = 15 := rfl
                                                            have us := s_isub (a := (15 : Int32)) e58 (by omega) (by omega) (by omega) (by omega)
                                                            refine ⟨by omega, fun _ => ?_, fun h => absurd h (by omega), fun h => absurd h (by omega)⟩
                                                            rcases (show z57.toInt = 0 ∨ z57.toInt = 1 by omega) with hz | hz
                                                            · exact s_lg2_k 16 (by omega) (by omega) (by omega)
                                                            · exact s_lg2_k 17 (by omega) (by omega) (by omega)))⟩⟩
          · have l59 : 4 ≤ z50.toInt := t_lel (t_nlt h55) (by decide : (4:Int) ≤ (4:Int32).toInt)
            refine ev_incv f_J6_numberOfLeadingZeros_0f7a4 (nx := 69) (c := -2) (w := 13) (lo' := [(1, .int 13), (0, .int z50)]) rfl rfl (by decide) (by decide) rfl rfl rfl ?_
            refine ev_loc f_J6_numberOfLeadingZeros_0f7a4 (nx := 70) rfl rfl rfl rfl ?_
            refine ev_ic f_J6_numberOfLeadingZeros_0f7a4 (nx := 71) (v := 2) rfl (by decide) rfl ?_
            refine ev_anyIE f_J6_numberOfLeadingZeros_0f7a4 (nx := 72) rfl rfl rfl rfl (fun z60 e60 => ?_)
            refine ev_loc f_J6_numberOfLeadingZeros_0f7a4 (nx := 73) (lo' := [(0, .int z60), (1, .int 13)]) rfl rfl rfl rfl ?_
            refine ev_loc f_J6_numberOfLeadingZeros_0f7a4 (nx := 74) rfl rfl rfl rfl ?_
            refine ev_loc f_J6_numberOfLeadingZeros_0f7a4 (nx := 75) rfl rfl rfl rfl ?_
            refine ev_ic f_J6_numberOfLeadingZeros_0f7a4 (nx := 76) (v := 1) rfl (by decide) rfl ?_
            refine ev_anyIE f_J6_numberOfLeadingZeros_0f7a4 (nx := 77) rfl rfl rfl rfl (fun z61 e61 => ?_)
            refine ev_anyIE f_J6_numberOfLeadingZeros_0f7a4 (nx := 78) rfl rfl rfl rfl (fun z62 e62 => ?_)
            exact ev_ret f_J6_numberOfLeadingZeros_0f7a4 rfl rfl rfl ⟨_, _, _, rfl, hI, hX, ⟨_, rfl, (t_lo z62), (t_hi z62), (show (0 ≤ z62.toInt ∧ z62.toInt ≤ 32) ∧ (0 < ar0.toInt → s_lg2 ar0.toInt (32 - z62.toInt)) ∧ (ar0.toInt = 0 → z62.toInt = 32) ∧ (ar0.toInt < 0 → z62.toInt = 0) from (by
                                                            have hl : ar0.toInt < 2147483648 := ar0.toInt_lt
                                                            have u31 := t_us (k := 16) e50 (by decide) (by omega)
                                                            have u71 := t_us (k := 2) e60 (by decide) (by omega)
                                                            have u76 := t_us (k := 1) e61 (by decide) (by omega)
                                                            have ua : (13 : Int32).toInt = 13 := rfl
                                                            have us := s_isub (a := (13 : Int32)) e62 (by omega) (by omega) (by omega) (by omega)
                                                            refine ⟨by omega, fun _ => ?_, fun h => absurd h (by omega), fun h => absurd h (by omega)⟩
                                                            rcases (show z61.toInt = 0 ∨ z61.toInt = 1 by omega) with hz | hz
                                                            · exact s_lg2_k 18 (by omega) (by omega) (by omega)
                                                            · exact s_lg2_k 19 (by omega) (by omega) (by omega)))⟩⟩
        · have l63 : 16 ≤ z50.toInt := t_lel (t_nlt h53) (by decide : (16:Int) ≤ (16:Int32).toInt)
          refine ev_incv f_J6_numberOfLeadingZeros_0f7a4 (nx := 57) (c := -4) (w := 11) (lo' := [(1, .int 11), (0, .int z50)]) rfl rfl (by decide) (by decide) rfl rfl rfl ?_
          refine ev_loc f_J6_numberOfLeadingZeros_0f7a4 (nx := 58) rfl rfl rfl rfl ?_
          refine ev_ic f_J6_numberOfLeadingZeros_0f7a4 (nx := 59) (v := 4) rfl (by decide) rfl ?_
          refine ev_anyIE f_J6_numberOfLeadingZeros_0f7a4 (nx := 60) rfl rfl rfl rfl (fun z64 e64 => ?_)
          refine ev_loc f_J6_numberOfLeadingZeros_0f7a4 (nx := 61) (lo' := [(0, .int z64), (1, .int 11)]) rfl rfl rfl rfl ?_
          refine ev_loc f_J6_numberOfLeadingZeros_0f7a4 (nx := 62) rfl rfl rfl rfl ?_
          refine ev_ic f_J6_numberOfLeadingZeros_0f7a4 (nx := 63) (v := 4) rfl (by decide) rfl ?_
          refine ev_if f_J6_numberOfLeadingZeros_0f7a4 (t1 := 73) (t2 := 66) rfl rfl rfl (fun h65 => ?_) (fun h65 => ?_)
          · have u66 : z64.toInt ≤ 3 := t_ltu h65 (by decide : (4:Int32).toInt ≤ (4:Int)) rfl
            refine ev_loc f_J6_numberOfLeadingZeros_0f7a4 (nx := 74) rfl rfl rfl rfl ?_
            refine ev_loc f_J6_numberOfLeadingZeros_0f7a4 (nx := 75) rfl rfl rfl rfl ?_
            refine ev_ic f_J6_numberOfLeadingZeros_0f7a4 (nx := 76) (v := 1) rfl (by decide) rfl ?_
            refine ev_anyIE f_J6_numberOfLeadingZeros_0f7a4 (nx := 77) rfl rfl rfl rfl (fun z67 e67 => ?_)
            refine ev_anyIE f_J6_numberOfLeadingZeros_0f7a4 (nx := 78) rfl rfl rfl rfl (fun z68 e68 => ?_)
            exact ev_ret f_J6_numberOfLeadingZeros_0f7a4 rfl rfl rfl ⟨_, _, _, rfl, hI, hX, ⟨_, rfl, (t_lo z68), (t_hi z68), (show (0 ≤ z68.toInt ∧ z68.toInt ≤ 32) ∧ (0 < ar0.toInt → s_lg2 ar0.toInt (32 - z68.toInt)) ∧ (ar0.toInt = 0 → z68.toInt = 32) ∧ (ar0.toInt < 0 → z68.toInt = 0) from (by
                                                            have hl : ar0.toInt < 2147483648 := ar0.toInt_lt
                                                            have u31 := t_us (k := 16) e50 (by decide) (by omega)
                                                            have u59 := t_us (k := 4) e64 (by decide) (by omega)
                                                            have u76 := t_us (k := 1) e67 (by decide) (by omega)
                                                            have ua : (11 : Int32).toInt = 11 := rfl
                                                            have us := s_isub (a := (11 : Int32)) e68 (by omega) (by omega) (by omega) (by omega)
                                                            refine ⟨by omega, fun _ => ?_, fun h => absurd h (by omega), fun h => absurd h (by omega)⟩
                                                            rcases (show z67.toInt = 0 ∨ z67.toInt = 1 by omega) with hz | hz
                                                            · exact s_lg2_k 20 (by omega) (by omega) (by omega)
                                                            · exact s_lg2_k 21 (by omega) (by omega) (by omega)))⟩⟩
          · have l69 : 4 ≤ z64.toInt := t_lel (t_nlt h65) (by decide : (4:Int) ≤ (4:Int32).toInt)
            refine ev_incv f_J6_numberOfLeadingZeros_0f7a4 (nx := 69) (c := -2) (w := 9) (lo' := [(1, .int 9), (0, .int z64)]) rfl rfl (by decide) (by decide) rfl rfl rfl ?_
            refine ev_loc f_J6_numberOfLeadingZeros_0f7a4 (nx := 70) rfl rfl rfl rfl ?_
            refine ev_ic f_J6_numberOfLeadingZeros_0f7a4 (nx := 71) (v := 2) rfl (by decide) rfl ?_
            refine ev_anyIE f_J6_numberOfLeadingZeros_0f7a4 (nx := 72) rfl rfl rfl rfl (fun z70 e70 => ?_)
            refine ev_loc f_J6_numberOfLeadingZeros_0f7a4 (nx := 73) (lo' := [(0, .int z70), (1, .int 9)]) rfl rfl rfl rfl ?_
            refine ev_loc f_J6_numberOfLeadingZeros_0f7a4 (nx := 74) rfl rfl rfl rfl ?_
            refine ev_loc f_J6_numberOfLeadingZeros_0f7a4 (nx := 75) rfl rfl rfl rfl ?_
            refine ev_ic f_J6_numberOfLeadingZeros_0f7a4 (nx := 76) (v := 1) rfl (by decide) rfl ?_
            refine ev_anyIE f_J6_numberOfLeadingZeros_0f7a4 (nx := 77) rfl rfl rfl rfl (fun z71 e71 => ?_)
            refine ev_anyIE f_J6_numberOfLeadingZeros_0f7a4 (nx := 78) rfl rfl rfl rfl (fun z72 e72 => ?_)
            exact ev_ret f_J6_numberOfLeadingZeros_0f7a4 rfl rfl rfl ⟨_, _, _, rfl, hI, hX, ⟨_, rfl, (t_lo z72), (t_hi z72), (show (0 ≤ z72.toInt ∧ z72.toInt ≤ 32) ∧ (0 < ar0.toInt → s_lg2 ar0.toInt (32 - z72.toInt)) ∧ (ar0.toInt = 0 → z72.toInt = 32) ∧ (ar0.toInt < 0 → z72.toInt = 0) from (by
                                                            have hl : ar0.toInt < 2147483648 := ar0.toInt_lt
                                                            have u31 := t_us (k := 16) e50 (by decide) (by omega)
                                                            have u59 := t_us (k := 4) e64 (by decide) (by omega)
                                                            have u71 := t_us (k := 2) e70 (by decide) (by omega)
                                                            have u76 := t_us (k := 1) e71 (by decide) (by omega)
                                                            have ua : (9 : Int32).toInt = 9 := rfl
                                                            have us := s_isub (a := (9 : Int32)) e72 (by omega) (by omega) (by omega) (by omega)
                                                            refine ⟨by omega, fun _ => ?_, fun h => absurd h (by omega), fun h => absurd h (by omega)⟩
                                                            rcases (show z71.toInt = 0 ∨ z71.toInt = 1 by omega) with hz | hz
                                                            · exact s_lg2_k 22 (by omega) (by omega) (by omega)
                                                            · exact s_lg2_k 23 (by omega) (by omega) (by omega)))⟩⟩
      · have l73 : 256 ≤ z50.toInt := t_lel (t_nlt h51) (by decide : (256:Int) ≤ (256:Int32).toInt)
        refine ev_incv f_J6_numberOfLeadingZeros_0f7a4 (nx := 43) (c := -8) (w := 7) (lo' := [(1, .int 7), (0, .int z50)]) rfl rfl (by decide) (by decide) rfl rfl rfl ?_
        refine ev_loc f_J6_numberOfLeadingZeros_0f7a4 (nx := 44) rfl rfl rfl rfl ?_
        refine ev_bp f_J6_numberOfLeadingZeros_0f7a4 (nx := 46) (v := 8) rfl (by decide) rfl ?_
        refine ev_anyIE f_J6_numberOfLeadingZeros_0f7a4 (nx := 47) rfl rfl rfl rfl (fun z74 e74 => ?_)
        refine ev_loc f_J6_numberOfLeadingZeros_0f7a4 (nx := 48) (lo' := [(0, .int z74), (1, .int 7)]) rfl rfl rfl rfl ?_
        refine ev_loc f_J6_numberOfLeadingZeros_0f7a4 (nx := 49) rfl rfl rfl rfl ?_
        refine ev_bp f_J6_numberOfLeadingZeros_0f7a4 (nx := 51) (v := 16) rfl (by decide) rfl ?_
        refine ev_if f_J6_numberOfLeadingZeros_0f7a4 (t1 := 61) (t2 := 54) rfl rfl rfl (fun h75 => ?_) (fun h75 => ?_)
        · have u76 : z74.toInt ≤ 15 := t_ltu h75 (by decide : (16:Int32).toInt ≤ (16:Int)) rfl
          refine ev_loc f_J6_numberOfLeadingZeros_0f7a4 (nx := 62) rfl rfl rfl rfl ?_
          refine ev_ic f_J6_numberOfLeadingZeros_0f7a4 (nx := 63) (v := 4) rfl (by decide) rfl ?_
          refine ev_if f_J6_numberOfLeadingZeros_0f7a4 (t1 := 73) (t2 := 66) rfl rfl rfl (fun h77 => ?_) (fun h77 => ?_)
          · have u78 : z74.toInt ≤ 3 := t_ltu h77 (by decide : (4:Int32).toInt ≤ (4:Int)) rfl
            refine ev_loc f_J6_numberOfLeadingZeros_0f7a4 (nx := 74) rfl rfl rfl rfl ?_
            refine ev_loc f_J6_numberOfLeadingZeros_0f7a4 (nx := 75) rfl rfl rfl rfl ?_
            refine ev_ic f_J6_numberOfLeadingZeros_0f7a4 (nx := 76) (v := 1) rfl (by decide) rfl ?_
            refine ev_anyIE f_J6_numberOfLeadingZeros_0f7a4 (nx := 77) rfl rfl rfl rfl (fun z79 e79 => ?_)
            refine ev_anyIE f_J6_numberOfLeadingZeros_0f7a4 (nx := 78) rfl rfl rfl rfl (fun z80 e80 => ?_)
            exact ev_ret f_J6_numberOfLeadingZeros_0f7a4 rfl rfl rfl ⟨_, _, _, rfl, hI, hX, ⟨_, rfl, (t_lo z80), (t_hi z80), (show (0 ≤ z80.toInt ∧ z80.toInt ≤ 32) ∧ (0 < ar0.toInt → s_lg2 ar0.toInt (32 - z80.toInt)) ∧ (ar0.toInt = 0 → z80.toInt = 32) ∧ (ar0.toInt < 0 → z80.toInt = 0) from (by
                                                            have hl : ar0.toInt < 2147483648 := ar0.toInt_lt
                                                            have u31 := t_us (k := 16) e50 (by decide) (by omega)
                                                            have u46 := t_us (k := 8) e74 (by decide) (by omega)
                                                            have u76 := t_us (k := 1) e79 (by decide) (by omega)
                                                            have ua : (7 : Int32).toInt = 7 := rfl
                                                            have us := s_isub (a := (7 : Int32)) e80 (by omega) (by omega) (by omega) (by omega)
                                                            refine ⟨by omega, fun _ => ?_, fun h => absurd h (by omega), fun h => absurd h (by omega)⟩
                                                            rcases (show z79.toInt = 0 ∨ z79.toInt = 1 by omega) with hz | hz
                                                            · exact s_lg2_k 24 (by omega) (by omega) (by omega)
                                                            · exact s_lg2_k 25 (by omega) (by omega) (by omega)))⟩⟩
          · have l81 : 4 ≤ z74.toInt := t_lel (t_nlt h77) (by decide : (4:Int) ≤ (4:Int32).toInt)
            refine ev_incv f_J6_numberOfLeadingZeros_0f7a4 (nx := 69) (c := -2) (w := 5) (lo' := [(1, .int 5), (0, .int z74)]) rfl rfl (by decide) (by decide) rfl rfl rfl ?_
            refine ev_loc f_J6_numberOfLeadingZeros_0f7a4 (nx := 70) rfl rfl rfl rfl ?_
            refine ev_ic f_J6_numberOfLeadingZeros_0f7a4 (nx := 71) (v := 2) rfl (by decide) rfl ?_
            refine ev_anyIE f_J6_numberOfLeadingZeros_0f7a4 (nx := 72) rfl rfl rfl rfl (fun z82 e82 => ?_)
            refine ev_loc f_J6_numberOfLeadingZeros_0f7a4 (nx := 73) (lo' := [(0, .int z82), (1, .int 5)]) rfl rfl rfl rfl ?_
            refine ev_loc f_J6_numberOfLeadingZeros_0f7a4 (nx := 74) rfl rfl rfl rfl ?_
            refine ev_loc f_J6_numberOfLeadingZeros_0f7a4 (nx := 75) rfl rfl rfl rfl ?_
            refine ev_ic f_J6_numberOfLeadingZeros_0f7a4 (nx := 76) (v := 1) rfl (by decide) rfl ?_
            refine ev_anyIE f_J6_numberOfLeadingZeros_0f7a4 (nx := 77) rfl rfl rfl rfl (fun z83 e83 => ?_)
            refine ev_anyIE f_J6_numberOfLeadingZeros_0f7a4 (nx := 78) rfl rfl rfl rfl (fun z84 e84 => ?_)
            exact ev_ret f_J6_numberOfLeadingZeros_0f7a4 rfl rfl rfl ⟨_, _, _, rfl, hI, hX, ⟨_, rfl, (t_lo z84), (t_hi z84), (show (0 ≤ z84.toInt ∧ z84.toInt ≤ 32) ∧ (0 < ar0.toInt → s_lg2 ar0.toInt (32 - z84.toInt)) ∧ (ar0.toInt = 0 → z84.toInt = 32) ∧ (ar0.toInt < 0 → z84.toInt = 0) from (by
                                                            have hl : ar0.toInt < 2147483648 := ar0.toInt_lt
                                                            have u31 := t_us (k := 16) e50 (by decide) (by omega)
                                                            have u46 := t_us (k := 8) e74 (by decide) (by omega)
                                                            have u71 := t_us (k := 2) e82 (by decide) (by omega)
                                                            have u76 := t_us (k := 1) e83 (by decide) (by omega)
                                                            have ua : (5 : Int32).toInt = 5 := rfl
                                                            have us := s_isub (a := (5 : Int32)) e84 (by omega) (by omega) (by omega) (by omega)
                                                            refine ⟨by omega, fun _ => ?_, fun h => absurd h (by omega), fun h => absurd h (by omega)⟩
                                                            rcases (show z83.toInt = 0 ∨ z83.toInt = 1 by omega) with hz | hz
                                                            · exact s_lg2_k 26 (by omega) (by omega) (by omega)
                                                            · exact s_lg2_k 27 (by omega) (by omega) (by omega)))⟩⟩
        · have l85 : 16 ≤ z74.toInt := t_lel (t_nlt h75) (by decide : (16:Int) ≤ (16:Int32).toInt)
          refine ev_incv f_J6_numberOfLeadingZeros_0f7a4 (nx := 57) (c := -4) (w := 3) (lo' := [(1, .int 3), (0, .int z74)]) rfl rfl (by decide) (by decide) rfl rfl rfl ?_
          refine ev_loc f_J6_numberOfLeadingZeros_0f7a4 (nx := 58) rfl rfl rfl rfl ?_
          refine ev_ic f_J6_numberOfLeadingZeros_0f7a4 (nx := 59) (v := 4) rfl (by decide) rfl ?_
          refine ev_anyIE f_J6_numberOfLeadingZeros_0f7a4 (nx := 60) rfl rfl rfl rfl (fun z86 e86 => ?_)
          refine ev_loc f_J6_numberOfLeadingZeros_0f7a4 (nx := 61) (lo' := [(0, .int z86), (1, .int 3)]) rfl rfl rfl rfl ?_
          refine ev_loc f_J6_numberOfLeadingZeros_0f7a4 (nx := 62) rfl rfl rfl rfl ?_
          refine ev_ic f_J6_numberOfLeadingZeros_0f7a4 (nx := 63) (v := 4) rfl (by decide) rfl ?_
          refine ev_if f_J6_numberOfLeadingZeros_0f7a4 (t1 := 73) (t2 := 66) rfl rfl rfl (fun h87 => ?_) (fun h87 => ?_)
          · have u88 : z86.toInt ≤ 3 := t_ltu h87 (by decide : (4:Int32).toInt ≤ (4:Int)) rfl
            refine ev_loc f_J6_numberOfLeadingZeros_0f7a4 (nx := 74) rfl rfl rfl rfl ?_
            refine ev_loc f_J6_numberOfLeadingZeros_0f7a4 (nx := 75) rfl rfl rfl rfl ?_
            refine ev_ic f_J6_numberOfLeadingZeros_0f7a4 (nx := 76) (v := 1) rfl (by decide) rfl ?_
            refine ev_anyIE f_J6_numberOfLeadingZeros_0f7a4 (nx := 77) rfl rfl rfl rfl (fun z89 e89 => ?_)
            refine ev_anyIE f_J6_numberOfLeadingZeros_0f7a4 (nx := 78) rfl rfl rfl rfl (fun z90 e90 => ?_)
            exact ev_ret f_J6_numberOfLeadingZeros_0f7a4 rfl rfl rfl ⟨_, _, _, rfl, hI, hX, ⟨_, rfl, (t_lo z90), (t_hi z90), (show (0 ≤ z90.toInt ∧ z90.toInt ≤ 32) ∧ (0 < ar0.toInt → s_lg2 ar0.toInt (32 - z90.toInt)) ∧ (ar0.toInt = 0 → z90.toInt = 32) ∧ (ar0.toInt < 0 → z90.toInt = 0) from (by
                                                            have hl : ar0.toInt < 2147483648 := ar0.toInt_lt
                                                            have u31 := t_us (k := 16) e50 (by decide) (by omega)
                                                            have u46 := t_us (k := 8) e74 (by decide) (by omega)
                                                            have u59 := t_us (k := 4) e86 (by decide) (by omega)
                                                            have u76 := t_us (k := 1) e89 (by decide) (by omega)
                                                            have ua : (3 : Int32).toInt = 3 := rfl
                                                            have us := s_isub (a := (3 : Int32)) e90 (by omega) (by omega) (by omega) (by omega)
                                                            refine ⟨by omega, fun _ => ?_, fun h => absurd h (by omega), fun h => absurd h (by omega)⟩
                                                            rcases (show z89.toInt = 0 ∨ z89.toInt = 1 by omega) with hz | hz
                                                            · exact s_lg2_k 28 (by omega) (by omega) (by omega)
                                                            · exact s_lg2_k 29 (by omega) (by omega) (by omega)))⟩⟩
          · have l91 : 4 ≤ z86.toInt := t_lel (t_nlt h87) (by decide : (4:Int) ≤ (4:Int32).toInt)
            refine ev_incv f_J6_numberOfLeadingZeros_0f7a4 (nx := 69) (c := -2) (w := 1) (lo' := [(1, .int 1), (0, .int z86)]) rfl rfl (by decide) (by decide) rfl rfl rfl ?_
            refine ev_loc f_J6_numberOfLeadingZeros_0f7a4 (nx := 70) rfl rfl rfl rfl ?_
            refine ev_ic f_J6_numberOfLeadingZeros_0f7a4 (nx := 71) (v := 2) rfl (by decide) rfl ?_
            refine ev_anyIE f_J6_numberOfLeadingZeros_0f7a4 (nx := 72) rfl rfl rfl rfl (fun z92 e92 => ?_)
            refine ev_loc f_J6_numberOfLeadingZeros_0f7a4 (nx := 73) (lo' := [(0, .int z92), (1, .int 1)]) rfl rfl rfl rfl ?_
            refine ev_loc f_J6_numberOfLeadingZeros_0f7a4 (nx := 74) rfl rfl rfl rfl ?_
            refine ev_loc f_J6_numberOfLeadingZeros_0f7a4 (nx := 75) rfl rfl rfl rfl ?_
            refine ev_ic f_J6_numberOfLeadingZeros_0f7a4 (nx := 76) (v := 1) rfl (by decide) rfl ?_
            refine ev_anyIE f_J6_numberOfLeadingZeros_0f7a4 (nx := 77) rfl rfl rfl rfl (fun z93 e93 => ?_)
            refine ev_anyIE f_J6_numberOfLeadingZeros_0f7a4 (nx := 78) rfl rfl rfl rfl (fun z94 e94 => ?_)
            exact ev_ret f_J6_numberOfLeadingZeros_0f7a4 rfl rfl rfl ⟨_, _, _, rfl, hI, hX, ⟨_, rfl, (t_lo z94), (t_hi z94), (show (0 ≤ z94.toInt ∧ z94.toInt ≤ 32) ∧ (0 < ar0.toInt → s_lg2 ar0.toInt (32 - z94.toInt)) ∧ (ar0.toInt = 0 → z94.toInt = 32) ∧ (ar0.toInt < 0 → z94.toInt = 0) from (by
                                                            have hl : ar0.toInt < 2147483648 := ar0.toInt_lt
                                                            have u31 := t_us (k := 16) e50 (by decide) (by omega)
                                                            have u46 := t_us (k := 8) e74 (by decide) (by omega)
                                                            have u59 := t_us (k := 4) e86 (by decide) (by omega)
                                                            have u71 := t_us (k := 2) e92 (by decide) (by omega)
                                                            have u76 := t_us (k := 1) e93 (by decide) (by omega)
                                                            have ua : (1 : Int32).toInt = 1 := rfl
                                                            have us := s_isub (a := (1 : Int32)) e94 (by omega) (by omega) (by omega) (by omega)
                                                            refine ⟨by omega, fun _ => ?_, fun h => absurd h (by omega), fun h => absurd h (by omega)⟩
                                                            rcases (show z93.toInt = 0 ∨ z93.toInt = 1 by omega) with hz | hz
                                                            · exact s_lg2_k 30 (by omega) (by omega) (by omega)
                                                            · exact s_lg2_k 31 (by omega) (by omega) (by omega)))⟩⟩
  · have u95 : ar0.toInt ≤ 0 := t_leu (t_nlt h1) (by decide : (0:Int32).toInt ≤ (0:Int))
    refine ev_loc f_J6_numberOfLeadingZeros_0f7a4 (nx := 5) rfl rfl rfl rfl ?_
    refine ev_if f_J6_numberOfLeadingZeros_0f7a4 (t1 := 8) (t2 := 13) rfl rfl rfl (fun h96 => ?_) (fun h96 => ?_)
    · have l97 : 0 ≤ ar0.toInt := t_eql h96 (by decide : (0:Int) ≤ (0:Int32).toInt)
      refine ev_bp f_J6_numberOfLeadingZeros_0f7a4 (nx := 10) (v := 32) rfl (by decide) rfl ?_
      refine ev_jmp f_J6_numberOfLeadingZeros_0f7a4 (nx := 14) rfl rfl rfl ?_
      exact ev_ret f_J6_numberOfLeadingZeros_0f7a4 rfl rfl rfl ⟨_, _, _, rfl, hI, hX, ⟨_, rfl, (Int.le_trans (by decide : ((-2147483648):Int) ≤ 32) (by decide : (32:Int) ≤ (32:Int32).toInt)), (Int.le_trans (by decide : (32:Int32).toInt ≤ (32:Int)) (by decide : (32:Int) ≤ 2147483647)), (show (0 ≤ (32 : Int) ∧ (32 : Int) ≤ 32) ∧ (0 < ar0.toInt → s_lg2 ar0.toInt (32 - (32 : Int))) ∧ (ar0.toInt = 0 → (32 : Int) = 32) ∧ (ar0.toInt < 0 → (32 : Int) = 0) from ⟨by decide, fun h => absurd h (by omega), fun _ => rfl, fun h => absurd h (by omega)⟩)⟩⟩
    · have r98 : ar0.toInt ≠ 0 := fun e => h96 (Int32.toInt_inj.mp (e.trans (by decide : (0:Int) = (0 : Int32).toInt)))
      have u99 : ar0.toInt ≤ (-1) := t_neu h96 u95 rfl rfl
      refine ev_ic f_J6_numberOfLeadingZeros_0f7a4 (nx := 14) (v := 0) rfl (by decide) rfl ?_
      exact ev_ret f_J6_numberOfLeadingZeros_0f7a4 rfl rfl rfl ⟨_, _, _, rfl, hI, hX, ⟨_, rfl, (Int.le_trans (by decide : ((-2147483648):Int) ≤ 0) (by decide : (0:Int) ≤ (0:Int32).toInt)), (Int.le_trans (by decide : (0:Int32).toInt ≤ (0:Int)) (by decide : (0:Int) ≤ 2147483647)), (show (0 ≤ (0 : Int) ∧ (0 : Int) ≤ 32) ∧ (0 < ar0.toInt → s_lg2 ar0.toInt (32 - (0 : Int))) ∧ (ar0.toInt = 0 → (0 : Int) = 32) ∧ (ar0.toInt < 0 → (0 : Int) = 0) from ⟨by decide, fun h => absurd h (by omega), fun h => absurd h (by omega), fun _ => rfl⟩)⟩⟩
noncomputable def wl_j_nlzl : List (Nat × Nat) := []
noncomputable def Q_j_nlzl (gi : Nat → Nat → Int32) (gl : Nat → Nat → Int64) (gr : Nat → Nat → Value) (ar0 : Int64) : Int32 → (Nat → Nat → Int32) → (Nat → Nat → Int64) → (Nat → Nat → Value) → Prop := fun (v : Int32) (gi2 : Nat → Nat → Int32) (gl2 : Nat → Nat → Int64) (gr2 : Nat → Nat → Value) => 0 ≤ ar0.toInt → (0 ≤ v.toInt ∧ v.toInt ≤ 64) ∧ s_lg2 ar0.toInt (64 - v.toInt)
theorem c_j_nlzl {X : x_Ext} {d : Nat} {sh : List (Nat ⊕ (Nat × Nat))} {gi : Nat → Nat → Int32} {gl : Nat → Nat → Int64} {gr : Nat → Nat → Value} (hI : t_I sh gi gr) (ar0 : Int64) : x_Me X (d + 2) n_J13_numberOfLeadingZeros_95d88 [.long ar0] (sh, gi, gl, gr) (t_PI wl_j_nlzl sh gi gl gr (-2147483648) 2147483647 (Q_j_nlzl gi gl gr ar0)) := by
  have hX : t_X wl_j_nlzl sh gi gl gr gi gl gr := t_X.rf
  refine me_s f_J13_numberOfLeadingZeros_95d88 rfl rfl ?_
  refine ev_loc f_J13_numberOfLeadingZeros_95d88 (nx := 1) rfl rfl rfl rfl ?_
  refine ev_bp f_J13_numberOfLeadingZeros_95d88 (nx := 3) (v := 32) rfl (by decide) rfl ?_
  refine ev_anyLE f_J13_numberOfLeadingZeros_95d88 (nx := 4) rfl rfl rfl rfl (fun z1 e1 => ?_)
  refine ev_anyIE f_J13_numberOfLeadingZeros_95d88 (nx := 5) rfl rfl rfl rfl (fun z2 e2 => ?_)
  refine ev_loc f_J13_numberOfLeadingZeros_95d88 (nx := 6) (lo' := [(2, .int z2), (0, .long ar0)]) rfl rfl rfl rfl ?_
  refine ev_loc f_J13_numberOfLeadingZeros_95d88 (nx := 7) rfl rfl rfl rfl ?_
  refine ev_if f_J13_numberOfLeadingZeros_95d88 (t1 := 10) (t2 := 21) rfl rfl rfl (fun h3 => ?_) (fun h3 => ?_)
  · have u4 : z2.toInt ≤ 0 := t_equ h3 (by decide : (0:Int32).toInt ≤ (0:Int))
    have l5 : 0 ≤ z2.toInt := t_eql h3 (by decide : (0:Int) ≤ (0:Int32).toInt)
    refine ev_bp f_J13_numberOfLeadingZeros_95d88 (nx := 12) (v := 32) rfl (by decide) rfl ?_
    refine ev_loc f_J13_numberOfLeadingZeros_95d88 (nx := 13) rfl rfl rfl rfl ?_
    refine ev_anyIE f_J13_numberOfLeadingZeros_95d88 (nx := 14) rfl rfl rfl rfl (fun z6 e6 => ?_)
    refine ev_qI0 f_J13_numberOfLeadingZeros_95d88 (nx := 17) (r := [.int 32]) rfl rfl rfl rfl rfl rfl rfl (c_j_nlz hI (z6)) rfl (fun w7 l7 u7 q7 => ?_)
    have q7 : (0 ≤ w7.toInt ∧ w7.toInt ≤ 32) ∧ (0 < z6.toInt → s_lg2 z6.toInt (32 - w7.toInt)) ∧ (z6.toInt = 0 → w7.toInt = 32) ∧ (z6.toInt < 0 → w7.toInt = 0) := q7
    refine ev_anyIE f_J13_numberOfLeadingZeros_95d88 (nx := 18) rfl rfl rfl rfl (fun z8 e8 => ?_)
    refine ev_jmp f_J13_numberOfLeadingZeros_95d88 (nx := 25) rfl rfl rfl ?_
    exact ev_ret f_J13_numberOfLeadingZeros_95d88 rfl rfl rfl ⟨_, _, _, rfl, hI, hX, ⟨_, rfl, (t_lo z8), (t_hi z8), (show 0 ≤ ar0.toInt → (0 ≤ z8.toInt ∧ z8.toInt ≤ 64) ∧ s_lg2 ar0.toInt (64 - z8.toInt) from (by
                                                            intro h0
                                                            have uz := t_us64 (k := 32) e1 (by decide) h0
                                                            have e32 : (2 : Int) ^ 32 = 4294967296 := by decide
                                                            rw [e32] at uz
                                                            have ux := t_l2iB e2
                                                            have hl : ar0.toInt < 9223372036854775808 := ar0.toInt_lt
                                                            rw [uz, Int.bmod_eq_of_le (by omega) (by omega)] at ux
                                                            have uy := t_l2iB e6
                                                            have hq := q7
                                                            have u32 : (32 : Int32).toInt = 32 := rfl
                                                            have ua := s_iadd (a := 32) e8 (by omega) (by omega) hq.1.1 (by omega)
                                                            have hh : ar0.toInt < 4294967296 := by omega
                                                            refine ⟨by omega, ?_⟩
                                                            by_cases h1 : ar0.toInt < 2147483648
                                                            · rw [Int.bmod_eq_of_le (by omega) (by omega)] at uy
                                                              by_cases h2 : ar0.toInt = 0
                                                              · have h3 := hq.2.2.1 (by omega)
                                                                rw [h2]; exact s_lg2_w s_lg2_0 (by omega)
                                                              · have h3 := hq.2.1 (by omega)
                                                                rw [uy] at h3; exact s_lg2_w h3 (by omega)
                                                            · have h3 : Int.bmod ar0.toInt 4294967296 = ar0.toInt - 4294967296 := by rw [Int.bmod_def]; omega
                                                              have h4 := hq.2.2.2 (by omega)
                                                              exact s_lg2_k 31 (by omega) (by omega) (by omega)))⟩⟩
  · have r9 : z2.toInt ≠ 0 := fun e => h3 (Int32.toInt_inj.mp (e.trans (by decide : (0:Int) = (0 : Int32).toInt)))
    refine ev_loc f_J13_numberOfLeadingZeros_95d88 (nx := 22) rfl rfl rfl rfl ?_
    refine ev_qI0 f_J13_numberOfLeadingZeros_95d88 (nx := 25) (r := []) rfl rfl rfl rfl rfl rfl rfl (c_j_nlz hI (z2)) rfl (fun w10 l10 u10 q10 => ?_)
    have q10 : (0 ≤ w10.toInt ∧ w10.toInt ≤ 32) ∧ (0 < z2.toInt → s_lg2 z2.toInt (32 - w10.toInt)) ∧ (z2.toInt = 0 → w10.toInt = 32) ∧ (z2.toInt < 0 → w10.toInt = 0) := q10
    exact ev_ret f_J13_numberOfLeadingZeros_95d88 rfl rfl rfl ⟨_, _, _, rfl, hI, hX, ⟨_, rfl, l10, u10, (show 0 ≤ ar0.toInt → (0 ≤ w10.toInt ∧ w10.toInt ≤ 64) ∧ s_lg2 ar0.toInt (64 - w10.toInt) from (by
                                                            intro h0
                                                            have uz := t_us64 (k := 32) e1 (by decide) h0
                                                            have e32 : (2 : Int) ^ 32 = 4294967296 := by decide
                                                            rw [e32] at uz
                                                            have ux := t_l2iB e2
                                                            have hl : ar0.toInt < 9223372036854775808 := ar0.toInt_lt
                                                            rw [uz, Int.bmod_eq_of_le (by omega) (by omega)] at ux
                                                            have hq := q10
                                                            have h3 := hq.2.1 (by omega)
                                                            rw [ux] at h3
                                                            exact ⟨by omega, s_lg2_w (s_lg2_hi h3 (by omega)) (by omega)⟩))⟩⟩
noncomputable def wl_d_lasts : List (Nat × Nat) := [(0, 0)]
noncomputable def Q_d_lasts (gi : Nat → Nat → Int32) (gl : Nat → Nat → Int64) (gr : Nat → Nat → Value) (ar1 : Int32) : Int32 → (Nat → Nat → Int32) → (Nat → Nat → Int64) → (Nat → Nat → Value) → Prop := fun (v : Int32) (gi2 : Nat → Nat → Int32) (gl2 : Nat → Nat → Int64) (gr2 : Nat → Nat → Value) => ∀ (u : Nat) (D : s_D), gr 0 6 = .ref u → t_VL gr u → t_CV gi gl u D → t_Cb D → ((0 ≤ ar1.toInt ∧ ar1.toInt < D 0) → 0 ≤ (s_hd D ar1.toInt).toInt → s_lg2 (s_hd D ar1.toInt).toInt v.toInt) ∧ (¬ (0 ≤ ar1.toInt ∧ ar1.toInt < D 0) → v.toInt = -1)
theorem c_d_lasts {X : x_Ext} {d : Nat} {sh : List (Nat ⊕ (Nat × Nat))} {gi : Nat → Nat → Int32} {gl : Nat → Nat → Int64} {gr : Nat → Nat → Value} (hI : t_I sh gi gr) (ar1 : Int32) : x_Me X (d + 3) n_X11_lasts [.ref 0, .int ar1] (sh, gi, gl, gr) (t_PI wl_d_lasts sh gi gl gr (-2147483648) 2147483647 (Q_d_lasts gi gl gr ar1)) := by
  have hX : t_X wl_d_lasts sh gi gl gr gi gl gr := t_X.rf
  refine me_i f_X11_lasts (hI.wf.s rfl) rfl rfl rfl ?_
  refine ev_loc f_X11_lasts (nx := 1) rfl rfl rfl rfl ?_
  refine ev_loc f_X11_lasts (nx := 2) rfl rfl rfl rfl ?_
  refine ev_inV2 f_X11_lasts (nx := 5) (lo2 := [(0, .ref 0), (1, .int ar1)]) rfl rfl rfl rfl f_X11_isPort (hI.wf.s rfl) rfl rfl rfl rfl rfl ?_
  refine ev_loc f_X11_isPort (nx := 1) rfl rfl rfl rfl ?_
  refine ev_if f_X11_isPort (t1 := 19) (t2 := 4) rfl rfl rfl (fun h1 => ?_) (fun h1 => ?_)
  · have u2 : ar1.toInt ≤ (-1) := t_ltu h1 (by decide : (0:Int32).toInt ≤ (0:Int)) rfl
    refine ev_ic f_X11_isPort (nx := 20) (v := 0) rfl (by decide) rfl ?_
    refine ev_retK1 f_X11_isPort rfl rfl rfl ?_
    refine ev_t f_X11_lasts (t1 := 8) (t2 := 14) rfl rfl rfl (by decide) ?_
    refine ev_loc f_X11_lasts (nx := 9) rfl rfl rfl rfl ?_
    refine ev_ic f_X11_lasts (nx := 10) (v := 1) rfl (by decide) rfl ?_
    refine ev_inV2 f_X11_lasts (nx := 13) (lo2 := [(0, .ref 0), (1, .int 1)]) rfl rfl rfl rfl f_X11_refuse (hI.wf.s rfl) rfl rfl rfl rfl rfl ?_
    refine ev_loc f_X11_refuse (nx := 1) rfl rfl rfl rfl ?_
    refine ev_loc f_X11_refuse (nx := 2) rfl rfl rfl rfl ?_
    refine ev_putIT f_X11_refuse (nx := 5) rfl (hI.wf.s rfl) rfl rfl rfl (hI.put0 (hI.wf.s rfl) rfl rfl) (hX.upI rfl) (fun g3 e3 hI hX => ?_)
    refine ev_ic f_X11_refuse (nx := 6) (v := -1) rfl (by decide) rfl ?_
    refine ev_retK1 f_X11_refuse rfl rfl rfl ?_
    exact ev_ret f_X11_lasts rfl rfl rfl ⟨_, _, _, rfl, hI, hX, ⟨_, rfl, (Int.le_trans (by decide : ((-2147483648):Int) ≤ (-1)) (by decide : ((-1):Int) ≤ ((-1):Int32).toInt)), (Int.le_trans (by decide : ((-1):Int32).toInt ≤ ((-1):Int)) (by decide : ((-1):Int) ≤ 2147483647)), (show ∀ (u : Nat) (D : s_D), gr 0 6 = .ref u → t_VL gr u → t_CV gi gl u D → t_Cb D → ((0 ≤ ar1.toInt ∧ ar1.toInt < D 0) → 0 ≤ (s_hd D ar1.toInt).toInt → s_lg2 (s_hd D ar1.toInt).toInt ((-1) : Int)) ∧ (¬ (0 ≤ ar1.toInt ∧ ar1.toInt < D 0) → ((-1) : Int) = -1) from (by
                                                            intro u D hu hl hc hb
                                                            have hm := hc.1.1
                                                            exact ⟨fun h => absurd h (by omega), fun _ => rfl⟩))⟩⟩
  · have l4 : 0 ≤ ar1.toInt := t_lel (t_nlt h1) (by decide : (0:Int) ≤ (0:Int32).toInt)
    refine ev_loc f_X11_isPort (nx := 5) rfl rfl rfl rfl ?_
    refine ev_loc f_X11_isPort (nx := 6) rfl rfl rfl rfl ?_
    obtain ⟨a5, e5, p5⟩ := hI.2.2.2.1.1
    refine ev_getR f_X11_isPort (nx := 9) rfl (hI.wf.s rfl) rfl rfl e5 rfl rfl ?_
    refine ev_getI f_X11_isPort (nx := 12) rfl p5.1 rfl rfl rfl ?_
    obtain ⟨l6, u6⟩ := hI.b p5.1 (t_bdK rfl : t_bd 4 0 = some (0, 6))
    refine ev_if f_X11_isPort (t1 := 19) (t2 := 15) rfl rfl rfl (fun h7 => ?_) (fun h7 => ?_)
    · have r8 : (gi a5 0).toInt ≤ ar1.toInt := Int32.le_iff_toInt_le.mp h7
      refine ev_ic f_X11_isPort (nx := 20) (v := 0) rfl (by decide) rfl ?_
      refine ev_retK1 f_X11_isPort rfl rfl rfl ?_
      refine ev_t f_X11_lasts (t1 := 8) (t2 := 14) rfl rfl rfl (by decide) ?_
      refine ev_loc f_X11_lasts (nx := 9) rfl rfl rfl rfl ?_
      refine ev_ic f_X11_lasts (nx := 10) (v := 1) rfl (by decide) rfl ?_
      refine ev_inV2 f_X11_lasts (nx := 13) (lo2 := [(0, .ref 0), (1, .int 1)]) rfl rfl rfl rfl f_X11_refuse (hI.wf.s rfl) rfl rfl rfl rfl rfl ?_
      refine ev_loc f_X11_refuse (nx := 1) rfl rfl rfl rfl ?_
      refine ev_loc f_X11_refuse (nx := 2) rfl rfl rfl rfl ?_
      refine ev_putIT f_X11_refuse (nx := 5) rfl (hI.wf.s rfl) rfl rfl rfl (hI.put0 (hI.wf.s rfl) rfl rfl) (hX.upI rfl) (fun g9 e9 hI hX => ?_)
      refine ev_ic f_X11_refuse (nx := 6) (v := -1) rfl (by decide) rfl ?_
      refine ev_retK1 f_X11_refuse rfl rfl rfl ?_
      exact ev_ret f_X11_lasts rfl rfl rfl ⟨_, _, _, rfl, hI, hX, ⟨_, rfl, (Int.le_trans (by decide : ((-2147483648):Int) ≤ (-1)) (by decide : ((-1):Int) ≤ ((-1):Int32).toInt)), (Int.le_trans (by decide : ((-1):Int32).toInt ≤ ((-1):Int)) (by decide : ((-1):Int) ≤ 2147483647)), (show ∀ (u : Nat) (D : s_D), gr 0 6 = .ref u → t_VL gr u → t_CV gi gl u D → t_Cb D → ((0 ≤ ar1.toInt ∧ ar1.toInt < D 0) → 0 ≤ (s_hd D ar1.toInt).toInt → s_lg2 (s_hd D ar1.toInt).toInt ((-1) : Int)) ∧ (¬ (0 ≤ ar1.toInt ∧ ar1.toInt < D 0) → ((-1) : Int) = -1) from (by
                                                            intro u D hu hl hc hb
                                                            have ha : a5 = u := Value.ref.inj (e5.symm.trans hu)
                                                            subst ha
                                                            have hm := hc.1.1
                                                            exact ⟨fun h => absurd h (by omega), fun _ => rfl⟩))⟩⟩
    · have r10 : ar1.toInt < (gi a5 0).toInt := Int32.lt_iff_toInt_lt.mp (t_nle h7)
      have u11 : ar1.toInt ≤ 5 := t_ltu (t_nle h7) u6 rfl
      have l12 : 1 ≤ (gi a5 0).toInt := t_ltl (t_nle h7) l4 rfl
      refine ev_ic f_X11_isPort (nx := 16) (v := 1) rfl (by decide) rfl ?_
      refine ev_jmp f_X11_isPort (nx := 20) rfl rfl rfl ?_
      refine ev_retK1 f_X11_isPort rfl rfl rfl ?_
      refine ev_f f_X11_lasts (t1 := 8) (t2 := 14) rfl rfl rfl (by decide) ?_
      refine ev_loc f_X11_lasts (nx := 15) rfl rfl rfl rfl ?_
      refine ev_bp f_X11_lasts (nx := 17) (v := 64) rfl (by decide) rfl ?_
      refine ev_loc f_X11_lasts (nx := 18) rfl rfl rfl rfl ?_
      refine ev_getR f_X11_lasts (nx := 21) (v := .ref a5) rfl (hI.wf.s rfl) rfl rfl e5 rfl rfl ?_
      refine ev_loc f_X11_lasts (nx := 22) rfl rfl rfl rfl ?_
      refine ev_qL0 f_X11_lasts (nx := 25) (r := [.int 64, .ref 0]) rfl rfl rfl rfl rfl rfl rfl (c_d_heardOf hI (a5) p5 (ar1)) rfl (fun w13 q13 => ?_)
      have q13 : ∀ D : s_D, t_VL gr a5 → t_CV gi gl a5 D → w13 = s_hd D ar1.toInt := q13
      refine ev_qI0 f_X11_lasts (nx := 28) (r := [.int 64, .ref 0]) rfl rfl rfl rfl rfl rfl rfl (c_j_nlzl hI (w13)) rfl (fun w14 l14 u14 q14 => ?_)
      have q14 : 0 ≤ w13.toInt → (0 ≤ w14.toInt ∧ w14.toInt ≤ 64) ∧ s_lg2 w13.toInt (64 - w14.toInt) := q14
      refine ev_anyIE f_X11_lasts (nx := 29) rfl rfl rfl rfl (fun z15 e15 => ?_)
      refine ev_inV2 f_X11_lasts (nx := 32) (lo2 := [(0, .ref 0), (1, .int z15)]) rfl rfl rfl rfl f_X11_answer (hI.wf.s rfl) rfl rfl rfl rfl rfl ?_
      refine ev_loc f_X11_answer (nx := 1) rfl rfl rfl rfl ?_
      refine ev_ic f_X11_answer (nx := 2) (v := 0) rfl (by decide) rfl ?_
      refine ev_putIT f_X11_answer (nx := 5) rfl (hI.wf.s rfl) rfl rfl rfl (hI.put0 (hI.wf.s rfl) rfl rfl) (hX.upI rfl) (fun g16 e16 hI hX => ?_)
      refine ev_loc f_X11_answer (nx := 6) rfl rfl rfl rfl ?_
      refine ev_retK1 f_X11_answer rfl rfl rfl ?_
      exact ev_ret f_X11_lasts rfl rfl rfl ⟨_, _, _, rfl, hI, hX, ⟨_, rfl, (t_lo z15), (t_hi z15), (show ∀ (u : Nat) (D : s_D), gr 0 6 = .ref u → t_VL gr u → t_CV gi gl u D → t_Cb D → ((0 ≤ ar1.toInt ∧ ar1.toInt < D 0) → 0 ≤ (s_hd D ar1.toInt).toInt → s_lg2 (s_hd D ar1.toInt).toInt z15.toInt) ∧ (¬ (0 ≤ ar1.toInt ∧ ar1.toInt < D 0) → z15.toInt = -1) from (by
                                                            intro u D hu hl hc hb
                                                            have ha : a5 = u := Value.ref.inj (e5.symm.trans hu)
                                                            subst ha
                                                            have hm := hc.1.1
                                                            refine ⟨fun _ hz => ?_, fun h => absurd (show _ from ⟨by omega, by omega⟩) h⟩
                                                            have hh := q13 D hl hc
                                                            rw [← hh] at hz ⊢
                                                            have hq := q14 hz
                                                            have u64 : (64 : Int32).toInt = 64 := rfl
                                                            have us := s_isub (a := 64) e15 (by omega) (by omega) hq.1.1 hq.1.2
                                                            exact s_lg2_w hq.2 (by omega)))⟩⟩
noncomputable def wl_e_lasts : List (Nat × Nat) := [(69, 2)]
noncomputable def Q_e_lasts (gi : Nat → Nat → Int32) (gl : Nat → Nat → Int64) (gr : Nat → Nat → Value) (ar1 : Int32) : Int32 → (Nat → Nat → Int32) → (Nat → Nat → Int64) → (Nat → Nat → Value) → Prop := fun (v : Int32) (gi2 : Nat → Nat → Int32) (gl2 : Nat → Nat → Int64) (gr2 : Nat → Nat → Value) => ∀ D : s_D, t_ME 0 gi D → t_Cb D → ((0 ≤ ar1.toInt ∧ ar1.toInt < D 0) → 0 ≤ (s_hd D ar1.toInt).toInt ∧ s_lg2 (s_hd D ar1.toInt).toInt v.toInt) ∧ (¬ (0 ≤ ar1.toInt ∧ ar1.toInt < D 0) → v.toInt = -1)
theorem c_e_lasts {X : x_Ext} {d : Nat} {sh : List (Nat ⊕ (Nat × Nat))} {gi : Nat → Nat → Int32} {gl : Nat → Nat → Int64} {gr : Nat → Nat → Value} (hI : t_I sh gi gr) (ar1 : Int32) : x_Me X (d + 4) n_X12_lasts [.ref 69, .int ar1] (sh, gi, gl, gr) (t_PI wl_e_lasts sh gi gl gr (-1) 34 (Q_e_lasts gi gl gr ar1)) := by
  have hX : t_X wl_e_lasts sh gi gl gr gi gl gr := t_X.rf
  refine me_i f_X12_lasts (hI.wf.s rfl) rfl rfl rfl ?_
  refine ev_loc f_X12_lasts (nx := 1) rfl rfl rfl rfl ?_
  refine ev_loc f_X12_lasts (nx := 2) rfl rfl rfl rfl ?_
  refine ev_inV2 f_X12_lasts (nx := 5) (lo2 := [(0, .ref 69), (1, .int ar1)]) rfl rfl rfl rfl f_X12_isPort (hI.wf.s rfl) rfl rfl rfl rfl rfl ?_
  refine ev_loc f_X12_isPort (nx := 1) rfl rfl rfl rfl ?_
  refine ev_if f_X12_isPort (t1 := 18) (t2 := 4) rfl rfl rfl (fun h1 => ?_) (fun h1 => ?_)
  · have u2 : ar1.toInt ≤ (-1) := t_ltu h1 (by decide : (0:Int32).toInt ≤ (0:Int)) rfl
    refine ev_ic f_X12_isPort (nx := 19) (v := 0) rfl (by decide) rfl ?_
    refine ev_retK1 f_X12_isPort rfl rfl rfl ?_
    refine ev_t f_X12_lasts (t1 := 8) (t2 := 14) rfl rfl rfl (by decide) ?_
    refine ev_loc f_X12_lasts (nx := 9) rfl rfl rfl rfl ?_
    refine ev_ic f_X12_lasts (nx := 10) (v := 1) rfl (by decide) rfl ?_
    refine ev_inV2 f_X12_lasts (nx := 13) (lo2 := [(0, .ref 69), (1, .int 1)]) rfl rfl rfl rfl f_X12_refuse (hI.wf.s rfl) rfl rfl rfl rfl rfl ?_
    refine ev_loc f_X12_refuse (nx := 1) rfl rfl rfl rfl ?_
    refine ev_loc f_X12_refuse (nx := 2) rfl rfl rfl rfl ?_
    refine ev_putIT f_X12_refuse (nx := 5) rfl (hI.wf.s rfl) rfl rfl rfl (hI.put0 (hI.wf.s rfl) rfl rfl) (hX.upI rfl) (fun g3 e3 hI hX => ?_)
    refine ev_ic f_X12_refuse (nx := 6) (v := -1) rfl (by decide) rfl ?_
    refine ev_retK1 f_X12_refuse rfl rfl rfl ?_
    exact ev_ret f_X12_lasts rfl rfl rfl ⟨_, _, _, rfl, hI, hX, ⟨_, rfl, (by decide : ((-1):Int) ≤ ((-1):Int32).toInt), (Int.le_trans (by decide : ((-1):Int32).toInt ≤ ((-1):Int)) (by decide : ((-1):Int) ≤ 34)), (show ∀ D : s_D, t_ME 0 gi D → t_Cb D → ((0 ≤ ar1.toInt ∧ ar1.toInt < D 0) → 0 ≤ (s_hd D ar1.toInt).toInt ∧ s_lg2 (s_hd D ar1.toInt).toInt ((-1) : Int)) ∧ (¬ (0 ≤ ar1.toInt ∧ ar1.toInt < D 0) → ((-1) : Int) = -1) from (by
                                                            intro D hm hb
                                                            have h0 : (gi 70 0).toInt = D 0 := hm.1.1.1
                                                            exact ⟨fun h => absurd h (by omega), fun _ => rfl⟩))⟩⟩
  · have l4 : 0 ≤ ar1.toInt := t_lel (t_nlt h1) (by decide : (0:Int) ≤ (0:Int32).toInt)
    refine ev_loc f_X12_isPort (nx := 5) rfl rfl rfl rfl ?_
    refine ev_loc f_X12_isPort (nx := 6) rfl rfl rfl rfl ?_
    refine ev_getR f_X12_isPort (nx := 9) rfl (hI.wf.s rfl) rfl rfl (hI.wf.r rfl) rfl rfl ?_
    refine ev_ic f_X12_isPort (nx := 10) (v := 0) rfl (by decide) rfl ?_
    obtain ⟨l5, u5⟩ := hI.ab (by decide +kernel : t_abr 70 0 0 0 6 = true) (Nat.le_refl _) (Nat.le_refl _)
    refine ev_ialdv f_X12_isPort (nx := 11) (w := (gi 70 0)) rfl (hI.wf.s rfl) (by decide) (rfl : (0 : Int32).toNatClampNeg = 0) (by decide) rfl rfl ?_
    refine ev_if f_X12_isPort (t1 := 18) (t2 := 14) rfl rfl rfl (fun h6 => ?_) (fun h6 => ?_)
    · have r7 : (gi 70 0).toInt ≤ ar1.toInt := Int32.le_iff_toInt_le.mp h6
      refine ev_ic f_X12_isPort (nx := 19) (v := 0) rfl (by decide) rfl ?_
      refine ev_retK1 f_X12_isPort rfl rfl rfl ?_
      refine ev_t f_X12_lasts (t1 := 8) (t2 := 14) rfl rfl rfl (by decide) ?_
      refine ev_loc f_X12_lasts (nx := 9) rfl rfl rfl rfl ?_
      refine ev_ic f_X12_lasts (nx := 10) (v := 1) rfl (by decide) rfl ?_
      refine ev_inV2 f_X12_lasts (nx := 13) (lo2 := [(0, .ref 69), (1, .int 1)]) rfl rfl rfl rfl f_X12_refuse (hI.wf.s rfl) rfl rfl rfl rfl rfl ?_
      refine ev_loc f_X12_refuse (nx := 1) rfl rfl rfl rfl ?_
      refine ev_loc f_X12_refuse (nx := 2) rfl rfl rfl rfl ?_
      refine ev_putIT f_X12_refuse (nx := 5) rfl (hI.wf.s rfl) rfl rfl rfl (hI.put0 (hI.wf.s rfl) rfl rfl) (hX.upI rfl) (fun g8 e8 hI hX => ?_)
      refine ev_ic f_X12_refuse (nx := 6) (v := -1) rfl (by decide) rfl ?_
      refine ev_retK1 f_X12_refuse rfl rfl rfl ?_
      exact ev_ret f_X12_lasts rfl rfl rfl ⟨_, _, _, rfl, hI, hX, ⟨_, rfl, (by decide : ((-1):Int) ≤ ((-1):Int32).toInt), (Int.le_trans (by decide : ((-1):Int32).toInt ≤ ((-1):Int)) (by decide : ((-1):Int) ≤ 34)), (show ∀ D : s_D, t_ME 0 gi D → t_Cb D → ((0 ≤ ar1.toInt ∧ ar1.toInt < D 0) → 0 ≤ (s_hd D ar1.toInt).toInt ∧ s_lg2 (s_hd D ar1.toInt).toInt ((-1) : Int)) ∧ (¬ (0 ≤ ar1.toInt ∧ ar1.toInt < D 0) → ((-1) : Int) = -1) from (by
                                                            intro D hm hb
                                                            have h0 : (gi 70 0).toInt = D 0 := hm.1.1.1
                                                            exact ⟨fun h => absurd h (by omega), fun _ => rfl⟩))⟩⟩
    · have r9 : ar1.toInt < (gi 70 0).toInt := Int32.lt_iff_toInt_lt.mp (t_nle h6)
      have u10 : ar1.toInt ≤ 5 := t_ltu (t_nle h6) u5 rfl
      have l11 : 1 ≤ (gi 70 0).toInt := t_ltl (t_nle h6) l4 rfl
      refine ev_ic f_X12_isPort (nx := 15) (v := 1) rfl (by decide) rfl ?_
      refine ev_jmp f_X12_isPort (nx := 19) rfl rfl rfl ?_
      refine ev_retK1 f_X12_isPort rfl rfl rfl ?_
      refine ev_f f_X12_lasts (t1 := 8) (t2 := 14) rfl rfl rfl (by decide) ?_
      refine ev_ic f_X12_lasts (nx := 15) (v := 0) rfl (by decide) rfl ?_
      refine ev_loc f_X12_lasts (nx := 16) (lo' := [(2, .int 0), (0, .ref 69), (1, .int ar1)]) rfl rfl rfl rfl ?_
      refine ev_loc f_X12_lasts (nx := 17) rfl rfl rfl rfl ?_
      refine ev_loc f_X12_lasts (nx := 18) rfl rfl rfl rfl ?_
      refine ev_qL0 f_X12_lasts (nx := 21) (r := []) rfl rfl rfl rfl rfl rfl rfl (c_n_heardOf hI (ar1) l4 u10) rfl (fun w12 q12 => ?_)
      have q12 : (0 ≤ w12.toInt ∧ w12.toInt < 8589934592) ∧ ∀ D : s_D, t_ME 0 gi D → ar1.toInt < D 0 → w12 = s_ec (s_so D ar1.toNatClampNeg) (D 7) := q12
      refine ev_loc f_X12_lasts (nx := 22) (lo' := [(3, .long w12), (2, .int 0), (0, .ref 69), (1, .int ar1)]) rfl rfl rfl rfl ?_
      have L13 : ∀ (m13 : Nat) (y13_3 : Int64) (y13_2 : Int32), 0 ≤ y13_2.toInt → y13_2.toInt ≤ 34 → y13_2.toInt ≤ 33 → (∃ h : Int, 0 ≤ h ∧ h < 8589934592 ∧ s_lw h y13_2.toInt y13_3.toInt ∧ ∀ D : s_D, t_ME 0 gi D → ar1.toInt < D 0 → h = (s_hd D ar1.toInt).toInt) → y13_3.toInt.toNat = m13 → x_Ev X (d + 4) n_X12_lasts 22 [(3, .long y13_3), (2, .int y13_2), (0, .ref 69), (1, .int ar1)] [] (sh, gi, gl, gr) (t_PI wl_e_lasts sh gi gl gr (-1) 34 (Q_e_lasts gi gl gr ar1)) := by
        intro m13
        induction m13 using Nat.strongRecOn with
        | _ m13 ih13 =>
        intro y13_3 y13_2 l13_2 u13_2 j13_0 j13_1 hm13
        refine ev_loc f_X12_lasts (nx := 23) rfl rfl rfl rfl ?_
        refine ev_lc f_X12_lasts (nx := 24) (v := 0) rfl (by decide) rfl ?_
        refine ev_anyIE f_X12_lasts (nx := 25) rfl rfl rfl rfl (fun z14 e14 => ?_)
        refine ev_if f_X12_lasts (t1 := 38) (t2 := 28) rfl rfl rfl (fun h15 => ?_) (fun h15 => ?_)
        · have u16 : z14.toInt ≤ 0 := t_leu h15 (by decide : (0:Int32).toInt ≤ (0:Int))
          refine ev_loc f_X12_lasts (nx := 39) rfl rfl rfl rfl ?_
          refine ev_loc f_X12_lasts (nx := 40) rfl rfl rfl rfl ?_
          refine ev_inV2 f_X12_lasts (nx := 43) (lo2 := [(0, .ref 69), (1, .int y13_2)]) rfl rfl rfl rfl f_X12_gives (hI.wf.s rfl) rfl rfl rfl rfl rfl ?_
          refine ev_loc f_X12_gives (nx := 1) rfl rfl rfl rfl ?_
          refine ev_ic f_X12_gives (nx := 2) (v := 0) rfl (by decide) rfl ?_
          refine ev_putIT f_X12_gives (nx := 5) rfl (hI.wf.s rfl) rfl rfl rfl (hI.put0 (hI.wf.s rfl) rfl rfl) (hX.upI rfl) (fun g17 e17 hI hX => ?_)
          refine ev_loc f_X12_gives (nx := 6) rfl rfl rfl rfl ?_
          refine ev_retK1 f_X12_gives rfl rfl rfl ?_
          exact ev_ret f_X12_lasts rfl rfl rfl ⟨_, _, _, rfl, hI, hX, ⟨_, rfl, (Int.le_trans (by decide : ((-1):Int) ≤ 0) l13_2), u13_2, (show ∀ D : s_D, t_ME 0 gi D → t_Cb D → ((0 ≤ ar1.toInt ∧ ar1.toInt < D 0) → 0 ≤ (s_hd D ar1.toInt).toInt ∧ s_lg2 (s_hd D ar1.toInt).toInt y13_2.toInt) ∧ (¬ (0 ≤ ar1.toInt ∧ ar1.toInt < D 0) → y13_2.toInt = -1) from (by
                                                            intro D hm hb
                                                            have h0 : (gi 70 0).toInt = D 0 := hm.1.1.1
                                                            refine ⟨fun hin => ?_, fun h => absurd (show _ from ⟨by omega, by omega⟩) h⟩
                                                            obtain ⟨hh, g0, g1, h2, h3⟩ := j13_1
                                                            have h4 := h3 D hm hin.2
                                                            rw [← h4]
                                                            exact ⟨g0, s_lw_e h2 g0 (t_lgn e14 h15)⟩))⟩⟩
        · have l18 : 1 ≤ z14.toInt := t_ltl (t_nle h15) (by decide : (0:Int) ≤ (0:Int32).toInt) rfl
          refine ev_incR f_X12_lasts (nx := 31) (c := 1) (l := 1) (u := 35) rfl rfl (by decide) (by decide) l13_2 u13_2 rfl rfl (by decide) (by decide) rfl (fun z19 e19 l19 u19 => ?_)
          refine ev_loc f_X12_lasts (nx := 32) rfl rfl rfl rfl ?_
          refine ev_ic f_X12_lasts (nx := 33) (v := 1) rfl (by decide) rfl ?_
          refine ev_anyLE f_X12_lasts (nx := 34) rfl rfl rfl rfl (fun z20 e20 => ?_)
          refine ev_loc f_X12_lasts (nx := 35) (lo' := [(3, .long z20), (2, .int z19), (0, .ref 69), (1, .int ar1)]) rfl rfl rfl rfl ?_
          refine ev_jmp f_X12_lasts (nx := 22) rfl rfl rfl ?_
          refine ev_sub (lo := [(3, .long z20), (2, .int z19), (0, .ref 69), (1, .int ar1)]) rfl (t_sc rfl (t_sc rfl (t_sc rfl (t_sc rfl t_sn)))) ?_
          exact ih13 _ (by have := t_shr1 e14 h15 e20; omega) (z20) (z19) (Int.le_trans (by decide : (0:Int) ≤ 1) l19) (by omega : z19.toInt ≤ (34:Int)) (by obtain ⟨hh, h0, h1, h2, h3⟩ := j13_1; have h4 := s_lw_b2 h2 h0 h1 (t_lgp e14 h15); omega) (by
                                                            obtain ⟨hh, h0, h1, h2, h3⟩ := j13_1
                                                            have hv : 0 < y13_3.toInt := (t_lgp e14 h15)
                                                            refine ⟨hh, h0, h1, s_lw_s h2 h0 hv ?_ (by omega), h3⟩
                                                            have hs := t_sh1B e20
                                                            exact hs) rfl
      refine ev_sub (lo := [(3, .long w12), (2, .int 0), (0, .ref 69), (1, .int ar1)]) rfl (t_sc rfl (t_sc rfl (t_sc rfl (t_sc rfl t_sn)))) ?_
      exact L13 _ (w12) (0) (by decide : (0:Int) ≤ (0:Int32).toInt) (Int.le_trans (by decide : (0:Int32).toInt ≤ (0:Int)) (by decide : (0:Int) ≤ 34)) (by decide) (by
                                                            have hb := q12.1
                                                            refine ⟨w12.toInt, hb.1, hb.2, s_lw_0 _, fun D hm hp => ?_⟩
                                                            exact congrArg Int64.toInt ((q12.2 D hm hp).trans (((s_hd_i (D := D) (p := ar1.toInt) (by omega) hp).trans (by rw [show ar1.toInt.toNat = ar1.toNatClampNeg from (by have := t_clamp (i := ar1) (by omega); omega)])).symm))) rfl
