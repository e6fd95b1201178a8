/-! ===== printed by cls.py: typed contracts of the class ===== -/
noncomputable def wl_h_lasts : List (Nat × Nat) := [(0, 0)]
theorem c_h_lasts {X : x_Ext} {d : Nat} {sh : List (Nat ⊕ (Nat × Nat))} {gi : Nat → Nat → Int32} {gl : Nat → Nat → Int64} {gr : Nat → Nat → Value} (hI : t_I sh gi gr) (ar1 : Int32) : x_Me X (d + 3) n_X11_lasts [.ref 0, .int ar1] (sh, gi, gl, gr) (t_P wl_h_lasts sh gi gl gr (t_Ri (-2147483648) 2147483647)) := by
  have hX : t_X wl_h_lasts sh gi gl gr gi gl gr := t_X.rf
  refine me_i f_X11_lasts (hI.wf.s rfl) rfl rfl rfl ?_
  refine ev_loc f_X11_lasts (nx := 1) rfl rfl rfl rfl ?_
  refine ev_loc f_X11_lasts (nx := 2) rfl rfl rfl rfl ?_
  refine ev_inV2 f_X11_lasts (nx := 5) (lo2 := [(0, .ref 0), (1, .int ar1)]) rfl rfl rfl rfl f_X11_isPort (hI.wf.s rfl) rfl rfl rfl rfl rfl ?_
  refine ev_loc f_X11_isPort (nx := 1) rfl rfl rfl rfl ?_
  refine ev_if f_X11_isPort (t1 := 19) (t2 := 4) rfl rfl rfl (fun h1 => ?_) (fun h1 => ?_)
  · have u2 : ar1.toInt ≤ (-1) := t_ltu h1 (by decide : (0:Int32).toInt ≤ (0:Int)) rfl
    refine ev_ic f_X11_isPort (nx := 20) (v := 0) rfl (by decide) rfl ?_
    refine ev_retK1 f_X11_isPort rfl rfl rfl ?_
    refine ev_t f_X11_lasts (t1 := 8) (t2 := 14) rfl rfl rfl (by decide) ?_
    refine ev_loc f_X11_lasts (nx := 9) rfl rfl rfl rfl ?_
    refine ev_ic f_X11_lasts (nx := 10) (v := 1) rfl (by decide) rfl ?_
    refine ev_inV2 f_X11_lasts (nx := 13) (lo2 := [(0, .ref 0), (1, .int 1)]) rfl rfl rfl rfl f_X11_refuse (hI.wf.s rfl) rfl rfl rfl rfl rfl ?_
    refine ev_loc f_X11_refuse (nx := 1) rfl rfl rfl rfl ?_
    refine ev_loc f_X11_refuse (nx := 2) rfl rfl rfl rfl ?_
    refine ev_putIT f_X11_refuse (nx := 5) rfl (hI.wf.s rfl) rfl rfl rfl (hI.put0 (hI.wf.s rfl) rfl rfl) (hX.upI rfl) (fun g3 e3 hI hX => ?_)
    refine ev_ic f_X11_refuse (nx := 6) (v := -1) rfl (by decide) rfl ?_
    refine ev_retK1 f_X11_refuse rfl rfl rfl ?_
    exact ev_ret f_X11_lasts rfl rfl rfl ⟨_, _, _, rfl, hI, hX, ⟨_, rfl, (Int.le_trans (by decide : ((-2147483648):Int) ≤ (-1)) (by decide : ((-1):Int) ≤ ((-1):Int32).toInt)), (Int.le_trans (by decide : ((-1):Int32).toInt ≤ ((-1):Int)) (by decide : ((-1):Int) ≤ 2147483647))⟩⟩
  · have l4 : 0 ≤ ar1.toInt := t_lel (t_nlt h1) (by decide : (0:Int) ≤ (0:Int32).toInt)
    refine ev_loc f_X11_isPort (nx := 5) rfl rfl rfl rfl ?_
    refine ev_loc f_X11_isPort (nx := 6) rfl rfl rfl rfl ?_
    obtain ⟨a5, e5, p5⟩ := hI.2.2.2.1.1
    refine ev_getR f_X11_isPort (nx := 9) rfl (hI.wf.s rfl) rfl rfl e5 rfl rfl ?_
    refine ev_getI f_X11_isPort (nx := 12) rfl p5.1 rfl rfl rfl ?_
    obtain ⟨l6, u6⟩ := hI.b p5.1 (t_bdK rfl : t_bd 4 0 = some (0, 6))
    refine ev_if f_X11_isPort (t1 := 19) (t2 := 15) rfl rfl rfl (fun h7 => ?_) (fun h7 => ?_)
    · refine ev_ic f_X11_isPort (nx := 20) (v := 0) rfl (by decide) rfl ?_
      refine ev_retK1 f_X11_isPort rfl rfl rfl ?_
      refine ev_t f_X11_lasts (t1 := 8) (t2 := 14) rfl rfl rfl (by decide) ?_
      refine ev_loc f_X11_lasts (nx := 9) rfl rfl rfl rfl ?_
      refine ev_ic f_X11_lasts (nx := 10) (v := 1) rfl (by decide) rfl ?_
      refine ev_inV2 f_X11_lasts (nx := 13) (lo2 := [(0, .ref 0), (1, .int 1)]) rfl rfl rfl rfl f_X11_refuse (hI.wf.s rfl) rfl rfl rfl rfl rfl ?_
      refine ev_loc f_X11_refuse (nx := 1) rfl rfl rfl rfl ?_
      refine ev_loc f_X11_refuse (nx := 2) rfl rfl rfl rfl ?_
      refine ev_putIT f_X11_refuse (nx := 5) rfl (hI.wf.s rfl) rfl rfl rfl (hI.put0 (hI.wf.s rfl) rfl rfl) (hX.upI rfl) (fun g8 e8 hI hX => ?_)
      refine ev_ic f_X11_refuse (nx := 6) (v := -1) rfl (by decide) rfl ?_
      refine ev_retK1 f_X11_refuse rfl rfl rfl ?_
      exact ev_ret f_X11_lasts rfl rfl rfl ⟨_, _, _, rfl, hI, hX, ⟨_, rfl, (Int.le_trans (by decide : ((-2147483648):Int) ≤ (-1)) (by decide : ((-1):Int) ≤ ((-1):Int32).toInt)), (Int.le_trans (by decide : ((-1):Int32).toInt ≤ ((-1):Int)) (by decide : ((-1):Int) ≤ 2147483647))⟩⟩
    · have u9 : ar1.toInt ≤ 5 := t_ltu (t_nle h7) u6 rfl
      have l10 : 1 ≤ (gi a5 0).toInt := t_ltl (t_nle h7) l4 rfl
      refine ev_ic f_X11_isPort (nx := 16) (v := 1) rfl (by decide) rfl ?_
      refine ev_jmp f_X11_isPort (nx := 20) rfl rfl rfl ?_
      refine ev_retK1 f_X11_isPort rfl rfl rfl ?_
      refine ev_f f_X11_lasts (t1 := 8) (t2 := 14) rfl rfl rfl (by decide) ?_
      refine ev_loc f_X11_lasts (nx := 15) rfl rfl rfl rfl ?_
      refine ev_bp f_X11_lasts (nx := 17) (v := 64) rfl (by decide) rfl ?_
      refine ev_loc f_X11_lasts (nx := 18) rfl rfl rfl rfl ?_
      refine ev_getR f_X11_lasts (nx := 21) (v := .ref a5) rfl (hI.wf.s rfl) rfl rfl e5 rfl rfl ?_
      refine ev_loc f_X11_lasts (nx := 22) rfl rfl rfl rfl ?_
      refine ev_cL f_X11_lasts (nx := 25) (r := [.int 64, .ref 0]) rfl rfl rfl rfl rfl rfl rfl (c_heardOf hI (a5) p5 (ar1)) rfl hX rfl (fun w11 gi11 gl11 gr11 hI hX hC11 => ?_)
      replace p5 := p5.ext hC11.2
      refine ev_inS1 f_X11_lasts (nx := 28) (lo2 := [(0, .long w11)]) rfl rfl rfl rfl f_J13_numberOfLeadingZeros_95d88 rfl rfl rfl rfl ?_
      refine ev_loc f_J13_numberOfLeadingZeros_95d88 (nx := 1) rfl rfl rfl rfl ?_
      refine ev_bp f_J13_numberOfLeadingZeros_95d88 (nx := 3) (v := 32) rfl (by decide) rfl ?_
      refine ev_anyL f_J13_numberOfLeadingZeros_95d88 (nx := 4) rfl rfl rfl rfl (fun z12 => ?_)
      refine ev_anyI f_J13_numberOfLeadingZeros_95d88 (nx := 5) rfl rfl rfl rfl (fun z13 => ?_)
      refine ev_loc f_J13_numberOfLeadingZeros_95d88 (nx := 6) (lo' := [(2, .int z13), (0, .long w11)]) rfl rfl rfl rfl ?_
      refine ev_loc f_J13_numberOfLeadingZeros_95d88 (nx := 7) rfl rfl rfl rfl ?_
      refine ev_if f_J13_numberOfLeadingZeros_95d88 (t1 := 10) (t2 := 21) rfl rfl rfl (fun h14 => ?_) (fun h14 => ?_)
      · have u15 : z13.toInt ≤ 0 := t_equ h14 (by decide : (0:Int32).toInt ≤ (0:Int))
        have l16 : 0 ≤ z13.toInt := t_eql h14 (by decide : (0:Int) ≤ (0:Int32).toInt)
        refine ev_bp f_J13_numberOfLeadingZeros_95d88 (nx := 12) (v := 32) rfl (by decide) rfl ?_
        refine ev_loc f_J13_numberOfLeadingZeros_95d88 (nx := 13) rfl rfl rfl rfl ?_
        refine ev_anyI f_J13_numberOfLeadingZeros_95d88 (nx := 14) rfl rfl rfl rfl (fun z17 => ?_)
        refine ev_inS1 f_J13_numberOfLeadingZeros_95d88 (nx := 17) (lo2 := [(0, .int z17)]) rfl rfl rfl rfl f_J6_numberOfLeadingZeros_0f7a4 rfl rfl rfl rfl ?_
        refine ev_loc f_J6_numberOfLeadingZeros_0f7a4 (nx := 1) rfl rfl rfl rfl ?_
        refine ev_if f_J6_numberOfLeadingZeros_0f7a4 (t1 := 15) (t2 := 4) rfl rfl rfl (fun h18 => ?_) (fun h18 => ?_)
        · have l19 : 1 ≤ z17.toInt := t_ltl h18 (by decide : (0:Int) ≤ (0:Int32).toInt) rfl
          refine ev_bp f_J6_numberOfLeadingZeros_0f7a4 (nx := 17) (v := 31) rfl (by decide) rfl ?_
          refine ev_loc f_J6_numberOfLeadingZeros_0f7a4 (nx := 18) (lo' := [(1, .int 31), (0, .int z17)]) rfl rfl rfl rfl ?_
          refine ev_loc f_J6_numberOfLeadingZeros_0f7a4 (nx := 19) rfl rfl rfl rfl ?_
          refine ev_ldW f_J6_numberOfLeadingZeros_0f7a4 (nx := 22) (v := 65536) rfl (by decide) rfl ?_
          refine ev_if f_J6_numberOfLeadingZeros_0f7a4 (t1 := 33) (t2 := 25) rfl rfl rfl (fun h20 => ?_) (fun h20 => ?_)
          · have u21 : z17.toInt ≤ 65535 := t_ltu h20 (by decide : (65536:Int32).toInt ≤ (65536:Int)) rfl
            refine ev_loc f_J6_numberOfLeadingZeros_0f7a4 (nx := 34) rfl rfl rfl rfl ?_
            refine ev_sp f_J6_numberOfLeadingZeros_0f7a4 (nx := 37) (v := 256) rfl (by decide) rfl ?_
            refine ev_if f_J6_numberOfLeadingZeros_0f7a4 (t1 := 48) (t2 := 40) rfl rfl rfl (fun h22 => ?_) (fun h22 => ?_)
            · have u23 : z17.toInt ≤ 255 := t_ltu h22 (by decide : (256:Int32).toInt ≤ (256:Int)) rfl
              refine ev_loc f_J6_numberOfLeadingZeros_0f7a4 (nx := 49) rfl rfl rfl rfl ?_
              refine ev_bp f_J6_numberOfLeadingZeros_0f7a4 (nx := 51) (v := 16) rfl (by decide) rfl ?_
              refine ev_if f_J6_numberOfLeadingZeros_0f7a4 (t1 := 61) (t2 := 54) rfl rfl rfl (fun h24 => ?_) (fun h24 => ?_)
              · have u25 : z17.toInt ≤ 15 := t_ltu h24 (by decide : (16:Int32).toInt ≤ (16:Int)) rfl
                refine ev_loc f_J6_numberOfLeadingZeros_0f7a4 (nx := 62) rfl rfl rfl rfl ?_
                refine ev_ic f_J6_numberOfLeadingZeros_0f7a4 (nx := 63) (v := 4) rfl (by decide) rfl ?_
                refine ev_if f_J6_numberOfLeadingZeros_0f7a4 (t1 := 73) (t2 := 66) rfl rfl rfl (fun h26 => ?_) (fun h26 => ?_)
                · have u27 : z17.toInt ≤ 3 := t_ltu h26 (by decide : (4:Int32).toInt ≤ (4:Int)) rfl
                  refine ev_loc f_J6_numberOfLeadingZeros_0f7a4 (nx := 74) rfl rfl rfl rfl ?_
                  refine ev_loc f_J6_numberOfLeadingZeros_0f7a4 (nx := 75) rfl rfl rfl rfl ?_
                  refine ev_ic f_J6_numberOfLeadingZeros_0f7a4 (nx := 76) (v := 1) rfl (by decide) rfl ?_
                  refine ev_anyI f_J6_numberOfLeadingZeros_0f7a4 (nx := 77) rfl rfl rfl rfl (fun z28 => ?_)
                  refine ev_anyI f_J6_numberOfLeadingZeros_0f7a4 (nx := 78) rfl rfl rfl rfl (fun z29 => ?_)
                  refine ev_retK1 f_J6_numberOfLeadingZeros_0f7a4 rfl rfl rfl ?_
                  refine ev_anyI f_J13_numberOfLeadingZeros_95d88 (nx := 18) rfl rfl rfl rfl (fun z30 => ?_)
                  refine ev_jmp f_J13_numberOfLeadingZeros_95d88 (nx := 25) rfl rfl rfl ?_
                  refine ev_retK1 f_J13_numberOfLeadingZeros_95d88 rfl rfl rfl ?_
                  refine ev_anyI f_X11_lasts (nx := 29) rfl rfl rfl rfl (fun z31 => ?_)
                  refine ev_inV2 f_X11_lasts (nx := 32) (lo2 := [(0, .ref 0), (1, .int z31)]) rfl rfl rfl rfl f_X11_answer (hI.wf.s rfl) rfl rfl rfl rfl rfl ?_
                  refine ev_loc f_X11_answer (nx := 1) rfl rfl rfl rfl ?_
                  refine ev_ic f_X11_answer (nx := 2) (v := 0) rfl (by decide) rfl ?_
                  refine ev_putIT f_X11_answer (nx := 5) rfl (hI.wf.s rfl) rfl rfl rfl (hI.put0 (hI.wf.s rfl) rfl rfl) (hX.upI rfl) (fun g32 e32 hI hX => ?_)
                  refine ev_loc f_X11_answer (nx := 6) rfl rfl rfl rfl ?_
                  refine ev_retK1 f_X11_answer rfl rfl rfl ?_
                  exact ev_ret f_X11_lasts rfl rfl rfl ⟨_, _, _, rfl, hI, hX, ⟨_, rfl, (t_lo z31), (t_hi z31)⟩⟩
                · have l33 : 4 ≤ z17.toInt := t_lel (t_nlt h26) (by decide : (4:Int) ≤ (4:Int32).toInt)
                  refine ev_incv f_J6_numberOfLeadingZeros_0f7a4 (nx := 69) (c := -2) (w := 29) (lo' := [(1, .int 29), (0, .int z17)]) rfl rfl (by decide) (by decide) rfl rfl rfl ?_
                  refine ev_loc f_J6_numberOfLeadingZeros_0f7a4 (nx := 70) rfl rfl rfl rfl ?_
                  refine ev_ic f_J6_numberOfLeadingZeros_0f7a4 (nx := 71) (v := 2) rfl (by decide) rfl ?_
                  refine ev_anyI f_J6_numberOfLeadingZeros_0f7a4 (nx := 72) rfl rfl rfl rfl (fun z34 => ?_)
                  refine ev_loc f_J6_numberOfLeadingZeros_0f7a4 (nx := 73) (lo' := [(0, .int z34), (1, .int 29)]) rfl rfl rfl rfl ?_
                  refine ev_loc f_J6_numberOfLeadingZeros_0f7a4 (nx := 74) rfl rfl rfl rfl ?_
                  refine ev_loc f_J6_numberOfLeadingZeros_0f7a4 (nx := 75) rfl rfl rfl rfl ?_
                  refine ev_ic f_J6_numberOfLeadingZeros_0f7a4 (nx := 76) (v := 1) rfl (by decide) rfl ?_
                  refine ev_anyI f_J6_numberOfLeadingZeros_0f7a4 (nx := 77) rfl rfl rfl rfl (fun z35 => ?_)
                  refine ev_anyI f_J6_numberOfLeadingZeros_0f7a4 (nx := 78) rfl rfl rfl rfl (fun z36 => ?_)
                  refine ev_retK1 f_J6_numberOfLeadingZeros_0f7a4 rfl rfl rfl ?_
                  refine ev_anyI f_J13_numberOfLeadingZeros_95d88 (nx := 18) rfl rfl rfl rfl (fun z37 => ?_)
                  refine ev_jmp f_J13_numberOfLeadingZeros_95d88 (nx := 25) rfl rfl rfl ?_
                  refine ev_retK1 f_J13_numberOfLeadingZeros_95d88 rfl rfl rfl ?_
                  refine ev_anyI f_X11_lasts (nx := 29) rfl rfl rfl rfl (fun z38 => ?_)
                  refine ev_inV2 f_X11_lasts (nx := 32) (lo2 := [(0, .ref 0), (1, .int z38)]) rfl rfl rfl rfl f_X11_answer (hI.wf.s rfl) rfl rfl rfl rfl rfl ?_
                  refine ev_loc f_X11_answer (nx := 1) rfl rfl rfl rfl ?_
                  refine ev_ic f_X11_answer (nx := 2) (v := 0) rfl (by decide) rfl ?_
                  refine ev_putIT f_X11_answer (nx := 5) rfl (hI.wf.s rfl) rfl rfl rfl (hI.put0 (hI.wf.s rfl) rfl rfl) (hX.upI rfl) (fun g39 e39 hI hX => ?_)
                  refine ev_loc f_X11_answer (nx := 6) rfl rfl rfl rfl ?_
                  refine ev_retK1 f_X11_answer rfl rfl rfl ?_
                  exact ev_ret f_X11_lasts rfl rfl rfl ⟨_, _, _, rfl, hI, hX, ⟨_, rfl, (t_lo z38), (t_hi z38)⟩⟩
              · have l40 : 16 ≤ z17.toInt := t_lel (t_nlt h24) (by decide : (16:Int) ≤ (16:Int32).toInt)
                refine ev_incv f_J6_numberOfLeadingZeros_0f7a4 (nx := 57) (c := -4) (w := 27) (lo' := [(1, .int 27), (0, .int z17)]) rfl rfl (by decide) (by decide) rfl rfl rfl ?_
                refine ev_loc f_J6_numberOfLeadingZeros_0f7a4 (nx := 58) rfl rfl rfl rfl ?_
                refine ev_ic f_J6_numberOfLeadingZeros_0f7a4 (nx := 59) (v := 4) rfl (by decide) rfl ?_
                refine ev_anyI f_J6_numberOfLeadingZeros_0f7a4 (nx := 60) rfl rfl rfl rfl (fun z41 => ?_)
                refine ev_loc f_J6_numberOfLeadingZeros_0f7a4 (nx := 61) (lo' := [(0, .int z41), (1, .int 27)]) rfl rfl rfl rfl ?_
                refine ev_loc f_J6_numberOfLeadingZeros_0f7a4 (nx := 62) rfl rfl rfl rfl ?_
                refine ev_ic f_J6_numberOfLeadingZeros_0f7a4 (nx := 63) (v := 4) rfl (by decide) rfl ?_
                refine ev_if f_J6_numberOfLeadingZeros_0f7a4 (t1 := 73) (t2 := 66) rfl rfl rfl (fun h42 => ?_) (fun h42 => ?_)
                · have u43 : z41.toInt ≤ 3 := t_ltu h42 (by decide : (4:Int32).toInt ≤ (4:Int)) rfl
                  refine ev_loc f_J6_numberOfLeadingZeros_0f7a4 (nx := 74) rfl rfl rfl rfl ?_
                  refine ev_loc f_J6_numberOfLeadingZeros_0f7a4 (nx := 75) rfl rfl rfl rfl ?_
                  refine ev_ic f_J6_numberOfLeadingZeros_0f7a4 (nx := 76) (v := 1) rfl (by decide) rfl ?_
                  refine ev_anyI f_J6_numberOfLeadingZeros_0f7a4 (nx := 77) rfl rfl rfl rfl (fun z44 => ?_)
                  refine ev_anyI f_J6_numberOfLeadingZeros_0f7a4 (nx := 78) rfl rfl rfl rfl (fun z45 => ?_)
                  refine ev_retK1 f_J6_numberOfLeadingZeros_0f7a4 rfl rfl rfl ?_
                  refine ev_anyI f_J13_numberOfLeadingZeros_95d88 (nx := 18) rfl rfl rfl rfl (fun z46 => ?_)
                  refine ev_jmp f_J13_numberOfLeadingZeros_95d88 (nx := 25) rfl rfl rfl ?_
                  refine ev_retK1 f_J13_numberOfLeadingZeros_95d88 rfl rfl rfl ?_
                  refine ev_anyI f_X11_lasts (nx := 29) rfl rfl rfl rfl (fun z47 => ?_)
                  refine ev_inV2 f_X11_lasts (nx := 32) (lo2 := [(0, .ref 0), (1, .int z47)]) rfl rfl rfl rfl f_X11_answer (hI.wf.s rfl) rfl rfl rfl rfl rfl ?_
                  refine ev_loc f_X11_answer (nx := 1) rfl rfl rfl rfl ?_
                  refine ev_ic f_X11_answer (nx := 2) (v := 0) rfl (by decide) rfl ?_
                  refine ev_putIT f_X11_answer (nx := 5) rfl (hI.wf.s rfl) rfl rfl rfl (hI.put0 (hI.wf.s rfl) rfl rfl) (hX.upI rfl) (fun g48 e48 hI hX => ?_)
                  refine ev_loc f_X11_answer (nx := 6) rfl rfl rfl rfl ?_
                  refine ev_retK1 f_X11_answer rfl rfl rfl ?_
                  exact ev_ret f_X11_lasts rfl rfl rfl ⟨_, _, _, rfl, hI, hX, ⟨_, rfl, (t_lo z47), (t_hi z47)⟩⟩
                · have l49 : 4 ≤ z41.toInt := t_lel (t_nlt h42) (by decide : (4:Int) ≤ (4:Int32).toInt)
                  refine ev_incv f_J6_numberOfLeadingZeros_0f7a4 (nx := 69) (c := -2) (w := 25) (lo' := [(1, .int 25), (0, .int z41)]) rfl rfl (by decide) (by decide) rfl rfl rfl ?_
                  refine ev_loc f_J6_numberOfLeadingZeros_0f7a4 (nx := 70) rfl rfl rfl rfl ?_
                  refine ev_ic f_J6_numberOfLeadingZeros_0f7a4 (nx := 71) (v := 2) rfl (by decide) rfl ?_
                  refine ev_anyI f_J6_numberOfLeadingZeros_0f7a4 (nx := 72) rfl rfl rfl rfl (fun z50 => ?_)
                  refine ev_loc f_J6_numberOfLeadingZeros_0f7a4 (nx := 73) (lo' := [(0, .int z50), (1, .int 25)]) rfl rfl rfl rfl ?_
                  refine ev_loc f_J6_numberOfLeadingZeros_0f7a4 (nx := 74) rfl rfl rfl rfl ?_
                  refine ev_loc f_J6_numberOfLeadingZeros_0f7a4 (nx := 75) rfl rfl rfl rfl ?_
                  refine ev_ic f_J6_numberOfLeadingZeros_0f7a4 (nx := 76) (v := 1) rfl (by decide) rfl ?_
                  refine ev_anyI f_J6_numberOfLeadingZeros_0f7a4 (nx := 77) rfl rfl rfl rfl (fun z51 => ?_)
                  refine ev_anyI f_J6_numberOfLeadingZeros_0f7a4 (nx := 78) rfl rfl rfl rfl (fun z52 => ?_)
                  refine ev_retK1 f_J6_numberOfLeadingZeros_0f7a4 rfl rfl rfl ?_
                  refine ev_anyI f_J13_numberOfLeadingZeros_95d88 (nx := 18) rfl rfl rfl rfl (fun z53 => ?_)
                  refine ev_jmp f_J13_numberOfLeadingZeros_95d88 (nx := 25) rfl rfl rfl ?_
                  refine ev_retK1 f_J13_numberOfLeadingZeros_95d88 rfl rfl rfl ?_
                  refine ev_anyI f_X11_lasts (nx := 29) rfl rfl rfl rfl (fun z54 => ?_)
                  refine ev_inV2 f_X11_lasts (nx := 32) (lo2 := [(0, .ref 0), (1, .int z54)]) rfl rfl rfl rfl f_X11_answer (hI.wf.s rfl) rfl rfl rfl rfl rfl ?_
                  refine ev_loc f_X11_answer (nx := 1) rfl rfl rfl rfl ?_
                  refine ev_ic f_X11_answer (nx := 2) (v := 0) rfl (by decide) rfl ?_
                  refine ev_putIT f_X11_answer (nx := 5) rfl (hI.wf.s rfl) rfl rfl rfl (hI.put0 (hI.wf.s rfl) rfl rfl) (hX.upI rfl) (fun g55 e55 hI hX => ?_)
                  refine ev_loc f_X11_answer (nx := 6) rfl rfl rfl rfl ?_
                  refine ev_retK1 f_X11_answer rfl rfl rfl ?_
                  exact ev_ret f_X11_lasts rfl rfl rfl ⟨_, _, _, rfl, hI, hX, ⟨_, rfl, (t_lo z54), (t_hi z54)⟩⟩
            · have l56 : 256 ≤ z17.toInt := t_lel (t_nlt h22) (by decide : (256:Int) ≤ (256:Int32).toInt)
              refine ev_incv f_J6_numberOfLeadingZeros_0f7a4 (nx := 43) (c := -8) (w := 23) (lo' := [(1, .int 23), (0, .int z17)]) rfl rfl (by decide) (by decide) rfl rfl rfl ?_
              refine ev_loc f_J6_numberOfLeadingZeros_0f7a4 (nx := 44) rfl rfl rfl rfl ?_
              refine ev_bp f_J6_numberOfLeadingZeros_0f7a4 (nx := 46) (v := 8) rfl (by decide) rfl ?_
              refine ev_anyI f_J6_numberOfLeadingZeros_0f7a4 (nx := 47) rfl rfl rfl rfl (fun z57 => ?_)
              refine ev_loc f_J6_numberOfLeadingZeros_0f7a4 (nx := 48) (lo' := [(0, .int z57), (1, .int 23)]) rfl rfl rfl rfl ?_
              refine ev_loc f_J6_numberOfLeadingZeros_0f7a4 (nx := 49) rfl rfl rfl rfl ?_
              refine ev_bp f_J6_numberOfLeadingZeros_0f7a4 (nx := 51) (v := 16) rfl (by decide) rfl ?_
              refine ev_if f_J6_numberOfLeadingZeros_0f7a4 (t1 := 61) (t2 := 54) rfl rfl rfl (fun h58 => ?_) (fun h58 => ?_)
              · have u59 : z57.toInt ≤ 15 := t_ltu h58 (by decide : (16:Int32).toInt ≤ (16:Int)) rfl
                refine ev_loc f_J6_numberOfLeadingZeros_0f7a4 (nx := 62) rfl rfl rfl rfl ?_
                refine ev_ic f_J6_numberOfLeadingZeros_0f7a4 (nx := 63) (v := 4) rfl (by decide) rfl ?_
                refine ev_if f_J6_numberOfLeadingZeros_0f7a4 (t1 := 73) (t2 := 66) rfl rfl rfl (fun h60 => ?_) (fun h60 => ?_)
                · have u61 : z57.toInt ≤ 3 := t_ltu h60 (by decide : (4:Int32).toInt ≤ (4:Int)) rfl
                  refine ev_loc f_J6_numberOfLeadingZeros_0f7a4 (nx := 74) rfl rfl rfl rfl ?_
                  refine ev_loc f_J6_numberOfLeadingZeros_0f7a4 (nx := 75) rfl rfl rfl rfl ?_
                  refine ev_ic f_J6_numberOfLeadingZeros_0f7a4 (nx := 76) (v := 1) rfl (by decide) rfl ?_
                  refine ev_anyI f_J6_numberOfLeadingZeros_0f7a4 (nx := 77) rfl rfl rfl rfl (fun z62 => ?_)
                  refine ev_anyI f_J6_numberOfLeadingZeros_0f7a4 (nx := 78) rfl rfl rfl rfl (fun z63 => ?_)
                  refine ev_retK1 f_J6_numberOfLeadingZeros_0f7a4 rfl rfl rfl ?_
                  refine ev_anyI f_J13_numberOfLeadingZeros_95d88 (nx := 18) rfl rfl rfl rfl (fun z64 => ?_)
                  refine ev_jmp f_J13_numberOfLeadingZeros_95d88 (nx := 25) rfl rfl rfl ?_
                  refine ev_retK1 f_J13_numberOfLeadingZeros_95d88 rfl rfl rfl ?_
                  refine ev_anyI f_X11_lasts (nx := 29) rfl rfl rfl rfl (fun z65 => ?_)
                  refine ev_inV2 f_X11_lasts (nx := 32) (lo2 := [(0, .ref 0), (1, .int z65)]) rfl rfl rfl rfl f_X11_answer (hI.wf.s rfl) rfl rfl rfl rfl rfl ?_
                  refine ev_loc f_X11_answer (nx := 1) rfl rfl rfl rfl ?_
                  refine ev_ic f_X11_answer (nx := 2) (v := 0) rfl (by decide) rfl ?_
                  refine ev_putIT f_X11_answer (nx := 5) rfl (hI.wf.s rfl) rfl rfl rfl (hI.put0 (hI.wf.s rfl) rfl rfl) (hX.upI rfl) (fun g66 e66 hI hX => ?_)
                  refine ev_loc f_X11_answer (nx := 6) rfl rfl rfl rfl ?_
                  refine ev_retK1 f_X11_answer rfl rfl rfl ?_
                  exact ev_ret f_X11_lasts rfl rfl rfl ⟨_, _, _, rfl, hI, hX, ⟨_, rfl, (t_lo z65), (t_hi z65)⟩⟩
                · have l67 : 4 ≤ z57.toInt := t_lel (t_nlt h60) (by decide : (4:Int) ≤ (4:Int32).toInt)
                  refine ev_incv f_J6_numberOfLeadingZeros_0f7a4 (nx := 69) (c := -2) (w := 21) (lo' := [(1, .int 21), (0, .int z57)]) rfl rfl (by decide) (by decide) rfl rfl rfl ?_
                  refine ev_loc f_J6_numberOfLeadingZeros_0f7a4 (nx := 70) rfl rfl rfl rfl ?_
                  refine ev_ic f_J6_numberOfLeadingZeros_0f7a4 (nx := 71) (v := 2) rfl (by decide) rfl ?_
                  refine ev_anyI f_J6_numberOfLeadingZeros_0f7a4 (nx := 72) rfl rfl rfl rfl (fun z68 => ?_)
                  refine ev_loc f_J6_numberOfLeadingZeros_0f7a4 (nx := 73) (lo' := [(0, .int z68), (1, .int 21)]) rfl rfl rfl rfl ?_
                  refine ev_loc f_J6_numberOfLeadingZeros_0f7a4 (nx := 74) rfl rfl rfl rfl ?_
                  refine ev_loc f_J6_numberOfLeadingZeros_0f7a4 (nx := 75) rfl rfl rfl rfl ?_
                  refine ev_ic f_J6_numberOfLeadingZeros_0f7a4 (nx := 76) (v := 1) rfl (by decide) rfl ?_
                  refine ev_anyI f_J6_numberOfLeadingZeros_0f7a4 (nx := 77) rfl rfl rfl rfl (fun z69 => ?_)
                  refine ev_anyI f_J6_numberOfLeadingZeros_0f7a4 (nx := 78) rfl rfl rfl rfl (fun z70 => ?_)
                  refine ev_retK1 f_J6_numberOfLeadingZeros_0f7a4 rfl rfl rfl ?_
                  refine ev_anyI f_J13_numberOfLeadingZeros_95d88 (nx := 18) rfl rfl rfl rfl (fun z71 => ?_)
                  refine ev_jmp f_J13_numberOfLeadingZeros_95d88 (nx := 25) rfl rfl rfl ?_
                  refine ev_retK1 f_J13_numberOfLeadingZeros_95d88 rfl rfl rfl ?_
                  refine ev_anyI f_X11_lasts (nx := 29) rfl rfl rfl rfl (fun z72 => ?_)
                  refine ev_inV2 f_X11_lasts (nx := 32) (lo2 := [(0, .ref 0), (1, .int z72)]) rfl rfl rfl rfl f_X11_answer (hI.wf.s rfl) rfl rfl rfl rfl rfl ?_
                  refine ev_loc f_X11_answer (nx := 1) rfl rfl rfl rfl ?_
                  refine ev_ic f_X11_answer (nx := 2) (v := 0) rfl (by decide) rfl ?_
                  refine ev_putIT f_X11_answer (nx := 5) rfl (hI.wf.s rfl) rfl rfl rfl (hI.put0 (hI.wf.s rfl) rfl rfl) (hX.upI rfl) (fun g73 e73 hI hX => ?_)
                  refine ev_loc f_X11_answer (nx := 6) rfl rfl rfl rfl ?_
                  refine ev_retK1 f_X11_answer rfl rfl rfl ?_
                  exact ev_ret f_X11_lasts rfl rfl rfl ⟨_, _, _, rfl, hI, hX, ⟨_, rfl, (t_lo z72), (t_hi z72)⟩⟩
              · have l74 : 16 ≤ z57.toInt := t_lel (t_nlt h58) (by decide : (16:Int) ≤ (16:Int32).toInt)
                refine ev_incv f_J6_numberOfLeadingZeros_0f7a4 (nx := 57) (c := -4) (w := 19) (lo' := [(1, .int 19), (0, .int z57)]) rfl rfl (by decide) (by decide) rfl rfl rfl ?_
                refine ev_loc f_J6_numberOfLeadingZeros_0f7a4 (nx := 58) rfl rfl rfl rfl ?_
                refine ev_ic f_J6_numberOfLeadingZeros_0f7a4 (nx := 59) (v := 4) rfl (by decide) rfl ?_
                refine ev_anyI f_J6_numberOfLeadingZeros_0f7a4 (nx := 60) rfl rfl rfl rfl (fun z75 => ?_)
                refine ev_loc f_J6_numberOfLeadingZeros_0f7a4 (nx := 61) (lo' := [(0, .int z75), (1, .int 19)]) rfl rfl rfl rfl ?_
                refine ev_loc f_J6_numberOfLeadingZeros_0f7a4 (nx := 62) rfl rfl rfl rfl ?_
                refine ev_ic f_J6_numberOfLeadingZeros_0f7a4 (nx := 63) (v := 4) rfl (by decide) rfl ?_
                refine ev_if f_J6_numberOfLeadingZeros_0f7a4 (t1 := 73) (t2 := 66) rfl rfl rfl (fun h76 => ?_) (fun h76 => ?_)
                · have u77 : z75.toInt ≤ 3 := t_ltu h76 (by decide : (4:Int32).toInt ≤ (4:Int)) rfl
                  refine ev_loc f_J6_numberOfLeadingZeros_0f7a4 (nx := 74) rfl rfl rfl rfl ?_
                  refine ev_loc f_J6_numberOfLeadingZeros_0f7a4 (nx := 75) rfl rfl rfl rfl ?_
                  refine ev_ic f_J6_numberOfLeadingZeros_0f7a4 (nx := 76) (v := 1) rfl (by decide) rfl ?_
                  refine ev_anyI f_J6_numberOfLeadingZeros_0f7a4 (nx := 77) rfl rfl rfl rfl (fun z78 => ?_)
                  refine ev_anyI f_J6_numberOfLeadingZeros_0f7a4 (nx := 78) rfl rfl rfl rfl (fun z79 => ?_)
                  refine ev_retK1 f_J6_numberOfLeadingZeros_0f7a4 rfl rfl rfl ?_
                  refine ev_anyI f_J13_numberOfLeadingZeros_95d88 (nx := 18) rfl rfl rfl rfl (fun z80 => ?_)
                  refine ev_jmp f_J13_numberOfLeadingZeros_95d88 (nx := 25) rfl rfl rfl ?_
                  refine ev_retK1 f_J13_numberOfLeadingZeros_95d88 rfl rfl rfl ?_
                  refine ev_anyI f_X11_lasts (nx := 29) rfl rfl rfl rfl (fun z81 => ?_)
                  refine ev_inV2 f_X11_lasts (nx := 32) (lo2 := [(0, .ref 0), (1, .int z81)]) rfl rfl rfl rfl f_X11_answer (hI.wf.s rfl) rfl rfl rfl rfl rfl ?_
                  refine ev_loc f_X11_answer (nx := 1) rfl rfl rfl rfl ?_
                  refine ev_ic f_X11_answer (nx := 2) (v := 0) rfl (by decide) rfl ?_
                  refine ev_putIT f_X11_answer (nx := 5) rfl (hI.wf.s rfl) rfl rfl rfl (hI.put0 (hI.wf.s rfl) rfl rfl) (hX.upI rfl) (fun g82 e82 hI hX => ?_)
                  refine ev_loc f_X11_answer (nx := 6) rfl rfl rfl rfl ?_
                  refine ev_retK1 f_X11_answer rfl rfl rfl ?_
                  exact ev_ret f_X11_lasts rfl rfl rfl ⟨_, _, _, rfl, hI, hX, ⟨_, rfl, (t_lo z81), (t_hi z81)⟩⟩
                · have l83 : 4 ≤ z75.toInt := t_lel (t_nlt h76) (by decide : (4:Int) ≤ (4:Int32).toInt)
                  refine ev_incv f_J6_numberOfLeadingZeros_0f7a4 (nx := 69) (c := -2) (w := 17) (lo' := [(1, .int 17), (0, .int z75)]) rfl rfl (by decide) (by decide) rfl rfl rfl ?_
                  refine ev_loc f_J6_numberOfLeadingZeros_0f7a4 (nx := 70) rfl rfl rfl rfl ?_
                  refine ev_ic f_J6_numberOfLeadingZeros_0f7a4 (nx := 71) (v := 2) rfl (by decide) rfl ?_
                  refine ev_anyI f_J6_numberOfLeadingZeros_0f7a4 (nx := 72) rfl rfl rfl rfl (fun z84 => ?_)
                  refine ev_loc f_J6_numberOfLeadingZeros_0f7a4 (nx := 73) (lo' := [(0, .int z84), (1, .int 17)]) rfl rfl rfl rfl ?_
                  refine ev_loc f_J6_numberOfLeadingZeros_0f7a4 (nx := 74) rfl rfl rfl rfl ?_
                  refine ev_loc f_J6_numberOfLeadingZeros_0f7a4 (nx := 75) rfl rfl rfl rfl ?_
                  refine ev_ic f_J6_numberOfLeadingZeros_0f7a4 (nx := 76) (v := 1) rfl (by decide) rfl ?_
                  refine ev_anyI f_J6_numberOfLeadingZeros_0f7a4 (nx := 77) rfl rfl rfl rfl (fun z85 => ?_)
                  refine ev_anyI f_J6_numberOfLeadingZeros_0f7a4 (nx := 78) rfl rfl rfl rfl (fun z86 => ?_)
                  refine ev_retK1 f_J6_numberOfLeadingZeros_0f7a4 rfl rfl rfl ?_
                  refine ev_anyI f_J13_numberOfLeadingZeros_95d88 (nx := 18) rfl rfl rfl rfl (fun z87 => ?_)
                  refine ev_jmp f_J13_numberOfLeadingZeros_95d88 (nx := 25) rfl rfl rfl ?_
                  refine ev_retK1 f_J13_numberOfLeadingZeros_95d88 rfl rfl rfl ?_
                  refine ev_anyI f_X11_lasts (nx := 29) rfl rfl rfl rfl (fun z88 => ?_)
                  refine ev_inV2 f_X11_lasts (nx := 32) (lo2 := [(0, .ref 0), (1, .int z88)]) rfl rfl rfl rfl f_X11_answer (hI.wf.s rfl) rfl rfl rfl rfl rfl ?_
                  refine ev_loc f_X11_answer (nx := 1) rfl rfl rfl rfl ?_
                  refine ev_ic f_X11_answer (nx := 2) (v := 0) rfl (by decide) rfl ?_
                  refine ev_putIT f_X11_answer (nx := 5) rfl (hI.wf.s rfl) rfl rfl rfl (hI.put0 (hI.wf.s rfl) rfl rfl) (hX.upI rfl) (fun g89 e89 hI hX => ?_)
                  refine ev_loc f_X11_answer (nx := 6) rfl rfl rfl rfl ?_
                  refine ev_retK1 f_X11_answer rfl rfl rfl ?_
                  exact ev_ret f_X11_lasts rfl rfl rfl ⟨_, _, _, rfl, hI, hX, ⟨_, rfl, (t_lo z88), (t_hi z88)⟩⟩
          · have l90 : 65536 ≤ z17.toInt := t_lel (t_nlt h20) (by decide : (65536:Int) ≤ (65536:Int32).toInt)
            refine ev_incv f_J6_numberOfLeadingZeros_0f7a4 (nx := 28) (c := -16) (w := 15) (lo' := [(1, .int 15), (0, .int z17)]) rfl rfl (by decide) (by decide) rfl rfl rfl ?_
            refine ev_loc f_J6_numberOfLeadingZeros_0f7a4 (nx := 29) rfl rfl rfl rfl ?_
            refine ev_bp f_J6_numberOfLeadingZeros_0f7a4 (nx := 31) (v := 16) rfl (by decide) rfl ?_
            refine ev_anyI f_J6_numberOfLeadingZeros_0f7a4 (nx := 32) rfl rfl rfl rfl (fun z91 => ?_)
            refine ev_loc f_J6_numberOfLeadingZeros_0f7a4 (nx := 33) (lo' := [(0, .int z91), (1, .int 15)]) rfl rfl rfl rfl ?_
            refine ev_loc f_J6_numberOfLeadingZeros_0f7a4 (nx := 34) rfl rfl rfl rfl ?_
            refine ev_sp f_J6_numberOfLeadingZeros_0f7a4 (nx := 37) (v := 256) rfl (by decide) rfl ?_
            refine ev_if f_J6_numberOfLeadingZeros_0f7a4 (t1 := 48) (t2 := 40) rfl rfl rfl (fun h92 => ?_) (fun h92 => ?_)
            · have u93 : z91.toInt ≤ 255 := t_ltu h92 (by decide : (256:Int32).toInt ≤ (256:Int)) rfl
              refine ev_loc f_J6_numberOfLeadingZeros_0f7a4 (nx := 49) rfl rfl rfl rfl ?_
              refine ev_bp f_J6_numberOfLeadingZeros_0f7a4 (nx := 51) (v := 16) rfl (by decide) rfl ?_
              refine ev_if f_J6_numberOfLeadingZeros_0f7a4 (t1 := 61) (t2 := 54) rfl rfl rfl (fun h94 => ?_) (fun h94 => ?_)
              · have u95 : z91.toInt ≤ 15 := t_ltu h94 (by decide : (16:Int32).toInt ≤ (16:Int)) rfl
                refine ev_loc f_J6_numberOfLeadingZeros_0f7a4 (nx := 62) rfl rfl rfl rfl ?_
                refine ev_ic f_J6_numberOfLeadingZeros_0f7a4 (nx := 63) (v := 4) rfl (by decide) rfl ?_
                refine ev_if f_J6_numberOfLeadingZeros_0f7a4 (t1 := 73) (t2 := 66) rfl rfl rfl (fun h96 => ?_) (fun h96 => ?_)
                · have u97 : z91.toInt ≤ 3 := t_ltu h96 (by decide : (4:Int32).toInt ≤ (4:Int)) rfl
                  refine ev_loc f_J6_numberOfLeadingZeros_0f7a4 (nx := 74) rfl rfl rfl rfl ?_
                  refine ev_loc f_J6_numberOfLeadingZeros_0f7a4 (nx := 75) rfl rfl rfl rfl ?_
                  refine ev_ic f_J6_numberOfLeadingZeros_0f7a4 (nx := 76) (v := 1) rfl (by decide) rfl ?_
                  refine ev_anyI f_J6_numberOfLeadingZeros_0f7a4 (nx := 77) rfl rfl rfl rfl (fun z98 => ?_)
                  refine ev_anyI f_J6_numberOfLeadingZeros_0f7a4 (nx := 78) rfl rfl rfl rfl (fun z99 => ?_)
                  refine ev_retK1 f_J6_numberOfLeadingZeros_0f7a4 rfl rfl rfl ?_
                  refine ev_anyI f_J13_numberOfLeadingZeros_95d88 (nx := 18) rfl rfl rfl rfl (fun z100 => ?_)
                  refine ev_jmp f_J13_numberOfLeadingZeros_95d88 (nx := 25) rfl rfl rfl ?_
                  refine ev_retK1 f_J13_numberOfLeadingZeros_95d88 rfl rfl rfl ?_
                  refine ev_anyI f_X11_lasts (nx := 29) rfl rfl rfl rfl (fun z101 => ?_)
                  refine ev_inV2 f_X11_lasts (nx := 32) (lo2 := [(0, .ref 0), (1, .int z101)]) rfl rfl rfl rfl f_X11_answer (hI.wf.s rfl) rfl rfl rfl rfl rfl ?_
                  refine ev_loc f_X11_answer (nx := 1) rfl rfl rfl rfl ?_
                  refine ev_ic f_X11_answer (nx := 2) (v := 0) rfl (by decide) rfl ?_
                  refine ev_putIT f_X11_answer (nx := 5) rfl (hI.wf.s rfl) rfl rfl rfl (hI.put0 (hI.wf.s rfl) rfl rfl) (hX.upI rfl) (fun g102 e102 hI hX => ?_)
                  refine ev_loc f_X11_answer (nx := 6) rfl rfl rfl rfl ?_
                  refine ev_retK1 f_X11_answer rfl rfl rfl ?_
                  exact ev_ret f_X11_lasts rfl rfl rfl ⟨_, _, _, rfl, hI, hX, ⟨_, rfl, (t_lo z101), (t_hi z101)⟩⟩
                · have l103 : 4 ≤ z91.toInt := t_lel (t_nlt h96) (by decide : (4:Int) ≤ (4:Int32).toInt)
                  refine ev_incv f_J6_numberOfLeadingZeros_0f7a4 (nx := 69) (c := -2) (w := 13) (lo' := [(1, .int 13), (0, .int z91)]) rfl rfl (by decide) (by decide) rfl rfl rfl ?_
                  refine ev_loc f_J6_numberOfLeadingZeros_0f7a4 (nx := 70) rfl rfl rfl rfl ?_
                  refine ev_ic f_J6_numberOfLeadingZeros_0f7a4 (nx := 71) (v := 2) rfl (by decide) rfl ?_
                  refine ev_anyI f_J6_numberOfLeadingZeros_0f7a4 (nx := 72) rfl rfl rfl rfl (fun z104 => ?_)
                  refine ev_loc f_J6_numberOfLeadingZeros_0f7a4 (nx := 73) (lo' := [(0, .int z104), (1, .int 13)]) rfl rfl rfl rfl ?_
                  refine ev_loc f_J6_numberOfLeadingZeros_0f7a4 (nx := 74) rfl rfl rfl rfl ?_
                  refine ev_loc f_J6_numberOfLeadingZeros_0f7a4 (nx := 75) rfl rfl rfl rfl ?_
                  refine ev_ic f_J6_numberOfLeadingZeros_0f7a4 (nx := 76) (v := 1) rfl (by decide) rfl ?_
                  refine ev_anyI f_J6_numberOfLeadingZeros_0f7a4 (nx := 77) rfl rfl rfl rfl (fun z105 => ?_)
                  refine ev_anyI f_J6_numberOfLeadingZeros_0f7a4 (nx := 78) rfl rfl rfl rfl (fun z106 => ?_)
                  refine ev_retK1 f_J6_numberOfLeadingZeros_0f7a4 rfl rfl rfl ?_
                  refine ev_anyI f_J13_numberOfLeadingZeros_95d88 (nx := 18) rfl rfl rfl rfl (fun z107 => ?_)
                  refine ev_jmp f_J13_numberOfLeadingZeros_95d88 (nx := 25) rfl rfl rfl ?_
                  refine ev_retK1 f_J13_numberOfLeadingZeros_95d88 rfl rfl rfl ?_
                  refine ev_anyI f_X11_lasts (nx := 29) rfl rfl rfl rfl (fun z108 => ?_)
                  refine ev_inV2 f_X11_lasts (nx := 32) (lo2 := [(0, .ref 0), (1, .int z108)]) rfl rfl rfl rfl f_X11_answer (hI.wf.s rfl) rfl rfl rfl rfl rfl ?_
                  refine ev_loc f_X11_answer (nx := 1) rfl rfl rfl rfl ?_
                  refine ev_ic f_X11_answer (nx := 2) (v := 0) rfl (by decide) rfl ?_
                  refine ev_putIT f_X11_answer (nx := 5) rfl (hI.wf.s rfl) rfl rfl rfl (hI.put0 (hI.wf.s rfl) rfl rfl) (hX.upI rfl) (fun g109 e109 hI hX => ?_)
                  refine ev_loc f_X11_answer (nx := 6) rfl rfl rfl rfl ?_
                  refine ev_retK1 f_X11_answer rfl rfl rfl ?_
                  exact ev_ret f_X11_lasts rfl rfl rfl ⟨_, _, _, rfl, hI, hX, ⟨_, rfl, (t_lo z108), (t_hi z108)⟩⟩
              · have l110 : 16 ≤ z91.toInt := t_lel (t_nlt h94) (by decide : (16:Int) ≤ (16:Int32).toInt)
                refine ev_incv f_J6_numberOfLeadingZeros_0f7a4 (nx := 57) (c := -4) (w := 11) (lo' := [(1, .int 11), (0, .int z91)]) rfl rfl (by decide) (by decide) rfl rfl rfl ?_
                refine ev_loc f_J6_numberOfLeadingZeros_0f7a4 (nx := 58) rfl rfl rfl rfl ?_
                refine ev_ic f_J6_numberOfLeadingZeros_0f7a4 (nx := 59) (v := 4) rfl (by decide) rfl ?_
                refine ev_anyI f_J6_numberOfLeadingZeros_0f7a4 (nx := 60) rfl rfl rfl rfl (fun z111 => ?_)
                refine ev_loc f_J6_numberOfLeadingZeros_0f7a4 (nx := 61) (lo' := [(0, .int z111), (1, .int 11)]) rfl rfl rfl rfl ?_
                refine ev_loc f_J6_numberOfLeadingZeros_0f7a4 (nx := 62) rfl rfl rfl rfl ?_
                refine ev_ic f_J6_numberOfLeadingZeros_0f7a4 (nx := 63) (v := 4) rfl (by decide) rfl ?_
                refine ev_if f_J6_numberOfLeadingZeros_0f7a4 (t1 := 73) (t2 := 66) rfl rfl rfl (fun h112 => ?_) (fun h112 => ?_)
                · have u113 : z111.toInt ≤ 3 := t_ltu h112 (by decide : (4:Int32).toInt ≤ (4:Int)) rfl
                  refine ev_loc f_J6_numberOfLeadingZeros_0f7a4 (nx := 74) rfl rfl rfl rfl ?_
                  refine ev_loc f_J6_numberOfLeadingZeros_0f7a4 (nx := 75) rfl rfl rfl rfl ?_
                  refine ev_ic f_J6_numberOfLeadingZeros_0f7a4 (nx := 76) (v := 1) rfl (by decide) rfl ?_
                  refine ev_anyI f_J6_numberOfLeadingZeros_0f7a4 (nx := 77) rfl rfl rfl rfl (fun z114 => ?_)
                  refine ev_anyI f_J6_numberOfLeadingZeros_0f7a4 (nx := 78) rfl rfl rfl rfl (fun z115 => ?_)
                  refine ev_retK1 f_J6_numberOfLeadingZeros_0f7a4 rfl rfl rfl ?_
                  refine ev_anyI f_J13_numberOfLeadingZeros_95d88 (nx := 18) rfl rfl rfl rfl (fun z116 => ?_)
                  refine ev_jmp f_J13_numberOfLeadingZeros_95d88 (nx := 25) rfl rfl rfl ?_
                  refine ev_retK1 f_J13_numberOfLeadingZeros_95d88 rfl rfl rfl ?_
                  refine ev_anyI f_X11_lasts (nx := 29) rfl rfl rfl rfl (fun z117 => ?_)
                  refine ev_inV2 f_X11_lasts (nx := 32) (lo2 := [(0, .ref 0), (1, .int z117)]) rfl rfl rfl rfl f_X11_answer (hI.wf.s rfl) rfl rfl rfl rfl rfl ?_
                  refine ev_loc f_X11_answer (nx := 1) rfl rfl rfl rfl ?_
                  refine ev_ic f_X11_answer (nx := 2) (v := 0) rfl (by decide) rfl ?_
                  refine ev_putIT f_X11_answer (nx := 5) rfl (hI.wf.s rfl) rfl rfl rfl (hI.put0 (hI.wf.s rfl) rfl rfl) (hX.upI rfl) (fun g118 e118 hI hX => ?_)
                  refine ev_loc f_X11_answer (nx := 6) rfl rfl rfl rfl ?_
                  refine ev_retK1 f_X11_answer rfl rfl rfl ?_
                  exact ev_ret f_X11_lasts rfl rfl rfl ⟨_, _, _, rfl, hI, hX, ⟨_, rfl, (t_lo z117), (t_hi z117)⟩⟩
                · have l119 : 4 ≤ z111.toInt := t_lel (t_nlt h112) (by decide : (4:Int) ≤ (4:Int32).toInt)
                  refine ev_incv f_J6_numberOfLeadingZeros_0f7a4 (nx := 69) (c := -2) (w := 9) (lo' := [(1, .int 9), (0, .int z111)]) rfl rfl (by decide) (by decide) rfl rfl rfl ?_
                  refine ev_loc f_J6_numberOfLeadingZeros_0f7a4 (nx := 70) rfl rfl rfl rfl ?_
                  refine ev_ic f_J6_numberOfLeadingZeros_0f7a4 (nx := 71) (v := 2) rfl (by decide) rfl ?_
                  refine ev_anyI f_J6_numberOfLeadingZeros_0f7a4 (nx := 72) rfl rfl rfl rfl (fun z120 => ?_)
                  refine ev_loc f_J6_numberOfLeadingZeros_0f7a4 (nx := 73) (lo' := [(0, .int z120), (1, .int 9)]) rfl rfl rfl rfl ?_
                  refine ev_loc f_J6_numberOfLeadingZeros_0f7a4 (nx := 74) rfl rfl rfl rfl ?_
                  refine ev_loc f_J6_numberOfLeadingZeros_0f7a4 (nx := 75) rfl rfl rfl rfl ?_
                  refine ev_ic f_J6_numberOfLeadingZeros_0f7a4 (nx := 76) (v := 1) rfl (by decide) rfl ?_
                  refine ev_anyI f_J6_numberOfLeadingZeros_0f7a4 (nx := 77) rfl rfl rfl rfl (fun z121 => ?_)
                  refine ev_anyI f_J6_numberOfLeadingZeros_0f7a4 (nx := 78) rfl rfl rfl rfl (fun z122 => ?_)
                  refine ev_retK1 f_J6_numberOfLeadingZeros_0f7a4 rfl rfl rfl ?_
                  refine ev_anyI f_J13_numberOfLeadingZeros_95d88 (nx := 18) rfl rfl rfl rfl (fun z123 => ?_)
                  refine ev_jmp f_J13_numberOfLeadingZeros_95d88 (nx := 25) rfl rfl rfl ?_
                  refine ev_retK1 f_J13_numberOfLeadingZeros_95d88 rfl rfl rfl ?_
                  refine ev_anyI f_X11_lasts (nx := 29) rfl rfl rfl rfl (fun z124 => ?_)
                  refine ev_inV2 f_X11_lasts (nx := 32) (lo2 := [(0, .ref 0), (1, .int z124)]) rfl rfl rfl rfl f_X11_answer (hI.wf.s rfl) rfl rfl rfl rfl rfl ?_
                  refine ev_loc f_X11_answer (nx := 1) rfl rfl rfl rfl ?_
                  refine ev_ic f_X11_answer (nx := 2) (v := 0) rfl (by decide) rfl ?_
                  refine ev_putIT f_X11_answer (nx := 5) rfl (hI.wf.s rfl) rfl rfl rfl (hI.put0 (hI.wf.s rfl) rfl rfl) (hX.upI rfl) (fun g125 e125 hI hX => ?_)
                  refine ev_loc f_X11_answer (nx := 6) rfl rfl rfl rfl ?_
                  refine ev_retK1 f_X11_answer rfl rfl rfl ?_
                  exact ev_ret f_X11_lasts rfl rfl rfl ⟨_, _, _, rfl, hI, hX, ⟨_, rfl, (t_lo z124), (t_hi z124)⟩⟩
            · have l126 : 256 ≤ z91.toInt := t_lel (t_nlt h92) (by decide : (256:Int) ≤ (256:Int32).toInt)
              refine ev_incv f_J6_numberOfLeadingZeros_0f7a4 (nx := 43) (c := -8) (w := 7) (lo' := [(1, .int 7), (0, .int z91)]) rfl rfl (by decide) (by decide) rfl rfl rfl ?_
              refine ev_loc f_J6_numberOfLeadingZeros_0f7a4 (nx := 44) rfl rfl rfl rfl ?_
              refine ev_bp f_J6_numberOfLeadingZeros_0f7a4 (nx := 46) (v := 8) rfl (by decide) rfl ?_
              refine ev_anyI f_J6_numberOfLeadingZeros_0f7a4 (nx := 47) rfl rfl rfl rfl (fun z127 => ?_)
              refine ev_loc f_J6_numberOfLeadingZeros_0f7a4 (nx := 48) (lo' := [(0, .int z127), (1, .int 7)]) rfl rfl rfl rfl ?_
              refine ev_loc f_J6_numberOfLeadingZeros_0f7a4 (nx := 49) rfl rfl rfl rfl ?_
              refine ev_bp f_J6_numberOfLeadingZeros_0f7a4 (nx := 51) (v := 16) rfl (by decide) rfl ?_
              refine ev_if f_J6_numberOfLeadingZeros_0f7a4 (t1 := 61) (t2 := 54) rfl rfl rfl (fun h128 => ?_) (fun h128 => ?_)
              · have u129 : z127.toInt ≤ 15 := t_ltu h128 (by decide : (16:Int32).toInt ≤ (16:Int)) rfl
                refine ev_loc f_J6_numberOfLeadingZeros_0f7a4 (nx := 62) rfl rfl rfl rfl ?_
                refine ev_ic f_J6_numberOfLeadingZeros_0f7a4 (nx := 63) (v := 4) rfl (by decide) rfl ?_
                refine ev_if f_J6_numberOfLeadingZeros_0f7a4 (t1 := 73) (t2 := 66) rfl rfl rfl (fun h130 => ?_) (fun h130 => ?_)
                · have u131 : z127.toInt ≤ 3 := t_ltu h130 (by decide : (4:Int32).toInt ≤ (4:Int)) rfl
                  refine ev_loc f_J6_numberOfLeadingZeros_0f7a4 (nx := 74) rfl rfl rfl rfl ?_
                  refine ev_loc f_J6_numberOfLeadingZeros_0f7a4 (nx := 75) rfl rfl rfl rfl ?_
                  refine ev_ic f_J6_numberOfLeadingZeros_0f7a4 (nx := 76) (v := 1) rfl (by decide) rfl ?_
                  refine ev_anyI f_J6_numberOfLeadingZeros_0f7a4 (nx := 77) rfl rfl rfl rfl (fun z132 => ?_)
                  refine ev_anyI f_J6_numberOfLeadingZeros_0f7a4 (nx := 78) rfl rfl rfl rfl (fun z133 => ?_)
                  refine ev_retK1 f_J6_numberOfLeadingZeros_0f7a4 rfl rfl rfl ?_
                  refine ev_anyI f_J13_numberOfLeadingZeros_95d88 (nx := 18) rfl rfl rfl rfl (fun z134 => ?_)
                  refine ev_jmp f_J13_numberOfLeadingZeros_95d88 (nx := 25) rfl rfl rfl ?_
                  refine ev_retK1 f_J13_numberOfLeadingZeros_95d88 rfl rfl rfl ?_
                  refine ev_anyI f_X11_lasts (nx := 29) rfl rfl rfl rfl (fun z135 => ?_)
                  refine ev_inV2 f_X11_lasts (nx := 32) (lo2 := [(0, .ref 0), (1, .int z135)]) rfl rfl rfl rfl f_X11_answer (hI.wf.s rfl) rfl rfl rfl rfl rfl ?_
                  refine ev_loc f_X11_answer (nx := 1) rfl rfl rfl rfl ?_
                  refine ev_ic f_X11_answer (nx := 2) (v := 0) rfl (by decide) rfl ?_
                  refine ev_putIT f_X11_answer (nx := 5) rfl (hI.wf.s rfl) rfl rfl rfl (hI.put0 (hI.wf.s rfl) rfl rfl) (hX.upI rfl) (fun g136 e136 hI hX => ?_)
                  refine ev_loc f_X11_answer (nx := 6) rfl rfl rfl rfl ?_
                  refine ev_retK1 f_X11_answer rfl rfl rfl ?_
                  exact ev_ret f_X11_lasts rfl rfl rfl ⟨_, _, _, rfl, hI, hX, ⟨_, rfl, (t_lo z135), (t_hi z135)⟩⟩
                · have l137 : 4 ≤ z127.toInt := t_lel (t_nlt h130) (by decide : (4:Int) ≤ (4:Int32).toInt)
                  refine ev_incv f_J6_numberOfLeadingZeros_0f7a4 (nx := 69) (c := -2) (w := 5) (lo' := [(1, .int 5), (0, .int z127)]) rfl rfl (by decide) (by decide) rfl rfl rfl ?_
                  refine ev_loc f_J6_numberOfLeadingZeros_0f7a4 (nx := 70) rfl rfl rfl rfl ?_
                  refine ev_ic f_J6_numberOfLeadingZeros_0f7a4 (nx := 71) (v := 2) rfl (by decide) rfl ?_
                  refine ev_anyI f_J6_numberOfLeadingZeros_0f7a4 (nx := 72) rfl rfl rfl rfl (fun z138 => ?_)
                  refine ev_loc f_J6_numberOfLeadingZeros_0f7a4 (nx := 73) (lo' := [(0, .int z138), (1, .int 5)]) rfl rfl rfl rfl ?_
                  refine ev_loc f_J6_numberOfLeadingZeros_0f7a4 (nx := 74) rfl rfl rfl rfl ?_
                  refine ev_loc f_J6_numberOfLeadingZeros_0f7a4 (nx := 75) rfl rfl rfl rfl ?_
                  refine ev_ic f_J6_numberOfLeadingZeros_0f7a4 (nx := 76) (v := 1) rfl (by decide) rfl ?_
                  refine ev_anyI f_J6_numberOfLeadingZeros_0f7a4 (nx := 77) rfl rfl rfl rfl (fun z139 => ?_)
                  refine ev_anyI f_J6_numberOfLeadingZeros_0f7a4 (nx := 78) rfl rfl rfl rfl (fun z140 => ?_)
                  refine ev_retK1 f_J6_numberOfLeadingZeros_0f7a4 rfl rfl rfl ?_
                  refine ev_anyI f_J13_numberOfLeadingZeros_95d88 (nx := 18) rfl rfl rfl rfl (fun z141 => ?_)
                  refine ev_jmp f_J13_numberOfLeadingZeros_95d88 (nx := 25) rfl rfl rfl ?_
                  refine ev_retK1 f_J13_numberOfLeadingZeros_95d88 rfl rfl rfl ?_
                  refine ev_anyI f_X11_lasts (nx := 29) rfl rfl rfl rfl (fun z142 => ?_)
                  refine ev_inV2 f_X11_lasts (nx := 32) (lo2 := [(0, .ref 0), (1, .int z142)]) rfl rfl rfl rfl f_X11_answer (hI.wf.s rfl) rfl rfl rfl rfl rfl ?_
                  refine ev_loc f_X11_answer (nx := 1) rfl rfl rfl rfl ?_
                  refine ev_ic f_X11_answer (nx := 2) (v := 0) rfl (by decide) rfl ?_
                  refine ev_putIT f_X11_answer (nx := 5) rfl (hI.wf.s rfl) rfl rfl rfl (hI.put0 (hI.wf.s rfl) rfl rfl) (hX.upI rfl) (fun g143 e143 hI hX => ?_)
                  refine ev_loc f_X11_answer (nx := 6) rfl rfl rfl rfl ?_
                  refine ev_retK1 f_X11_answer rfl rfl rfl ?_
                  exact ev_ret f_X11_lasts rfl rfl rfl ⟨_, _, _, rfl, hI, hX, ⟨_, rfl, (t_lo z142), (t_hi z142)⟩⟩
              · have l144 : 16 ≤ z127.toInt := t_lel (t_nlt h128) (by decide : (16:Int) ≤ (16:Int32).toInt)
                refine ev_incv f_J6_numberOfLeadingZeros_0f7a4 (nx := 57) (c := -4) (w := 3) (lo' := [(1, .int 3), (0, .int z127)]) rfl rfl (by decide) (by decide) rfl rfl rfl ?_
                refine ev_loc f_J6_numberOfLeadingZeros_0f7a4 (nx := 58) rfl rfl rfl rfl ?_
                refine ev_ic f_J6_numberOfLeadingZeros_0f7a4 (nx := 59) (v := 4) rfl (by decide) rfl ?_
                refine ev_anyI f_J6_numberOfLeadingZeros_0f7a4 (nx := 60) rfl rfl rfl rfl (fun z145 => ?_)
                refine ev_loc f_J6_numberOfLeadingZeros_0f7a4 (nx := 61) (lo' := [(0, .int z145), (1, .int 3)]) rfl rfl rfl rfl ?_
                refine ev_loc f_J6_numberOfLeadingZeros_0f7a4 (nx := 62) rfl rfl rfl rfl ?_
                refine ev_ic f_J6_numberOfLeadingZeros_0f7a4 (nx := 63) (v := 4) rfl (by decide) rfl ?_
                refine ev_if f_J6_numberOfLeadingZeros_0f7a4 (t1 := 73) (t2 := 66) rfl rfl rfl (fun h146 => ?_) (fun h146 => ?_)
                · have u147 : z145.toInt ≤ 3 := t_ltu h146 (by decide : (4:Int32).toInt ≤ (4:Int)) rfl
                  refine ev_loc f_J6_numberOfLeadingZeros_0f7a4 (nx := 74) rfl rfl rfl rfl ?_
                  refine ev_loc f_J6_numberOfLeadingZeros_0f7a4 (nx := 75) rfl rfl rfl rfl ?_
                  refine ev_ic f_J6_numberOfLeadingZeros_0f7a4 (nx := 76) (v := 1) rfl (by decide) rfl ?_
                  refine ev_anyI f_J6_numberOfLeadingZeros_0f7a4 (nx := 77) rfl rfl rfl rfl (fun z148 => ?_)
                  refine ev_anyI f_J6_numberOfLeadingZeros_0f7a4 (nx := 78) rfl rfl rfl rfl (fun z149 => ?_)
                  refine ev_retK1 f_J6_numberOfLeadingZeros_0f7a4 rfl rfl rfl ?_
                  refine ev_anyI f_J13_numberOfLeadingZeros_95d88 (nx := 18) rfl rfl rfl rfl (fun z150 => ?_)
                  refine ev_jmp f_J13_numberOfLeadingZeros_95d88 (nx := 25) rfl rfl rfl ?_
                  refine ev_retK1 f_J13_numberOfLeadingZeros_95d88 rfl rfl rfl ?_
                  refine ev_anyI f_X11_lasts (nx := 29) rfl rfl rfl rfl (fun z151 => ?_)
                  refine ev_inV2 f_X11_lasts (nx := 32) (lo2 := [(0, .ref 0), (1, .int z151)]) rfl rfl rfl rfl f_X11_answer (hI.wf.s rfl) rfl rfl rfl rfl rfl ?_
                  refine ev_loc f_X11_answer (nx := 1) rfl rfl rfl rfl ?_
                  refine ev_ic f_X11_answer (nx := 2) (v := 0) rfl (by decide) rfl ?_
                  refine ev_putIT f_X11_answer (nx := 5) rfl (hI.wf.s rfl) rfl rfl rfl (hI.put0 (hI.wf.s rfl) rfl rfl) (hX.upI rfl) (fun g152 e152 hI hX => ?_)
                  refine ev_loc f_X11_answer (nx := 6) rfl rfl rfl rfl ?_
                  refine ev_retK1 f_X11_answer rfl rfl rfl ?_
                  exact ev_ret f_X11_lasts rfl rfl rfl ⟨_, _, _, rfl, hI, hX, ⟨_, rfl, (t_lo z151), (t_hi z151)⟩⟩
                · have l153 : 4 ≤ z145.toInt := t_lel (t_nlt h146) (by decide : (4:Int) ≤ (4:Int32).toInt)
                  refine ev_incv f_J6_numberOfLeadingZeros_0f7a4 (nx := 69) (c := -2) (w := 1) (lo' := [(1, .int 1), (0, .int z145)]) rfl rfl (by decide) (by decide) rfl rfl rfl ?_
                  refine ev_loc f_J6_numberOfLeadingZeros_0f7a4 (nx := 70) rfl rfl rfl rfl ?_
                  refine ev_ic f_J6_numberOfLeadingZeros_0f7a4 (nx := 71) (v := 2) rfl (by decide) rfl ?_
                  refine ev_anyI f_J6_numberOfLeadingZeros_0f7a4 (nx := 72) rfl rfl rfl rfl (fun z154 => ?_)
                  refine ev_loc f_J6_numberOfLeadingZeros_0f7a4 (nx := 73) (lo' := [(0, .int z154), (1, .int 1)]) rfl rfl rfl rfl ?_
                  refine ev_loc f_J6_numberOfLeadingZeros_0f7a4 (nx := 74) rfl rfl rfl rfl ?_
                  refine ev_loc f_J6_numberOfLeadingZeros_0f7a4 (nx := 75) rfl rfl rfl rfl ?_
                  refine ev_ic f_J6_numberOfLeadingZeros_0f7a4 (nx := 76) (v := 1) rfl (by decide) rfl ?_
                  refine ev_anyI f_J6_numberOfLeadingZeros_0f7a4 (nx := 77) rfl rfl rfl rfl (fun z155 => ?_)
                  refine ev_anyI f_J6_numberOfLeadingZeros_0f7a4 (nx := 78) rfl rfl rfl rfl (fun z156 => ?_)
                  refine ev_retK1 f_J6_numberOfLeadingZeros_0f7a4 rfl rfl rfl ?_
                  refine ev_anyI f_J13_numberOfLeadingZeros_95d88 (nx := 18) rfl rfl rfl rfl (fun z157 => ?_)
                  refine ev_jmp f_J13_numberOfLeadingZeros_95d88 (nx := 25) rfl rfl rfl ?_
                  refine ev_retK1 f_J13_numberOfLeadingZeros_95d88 rfl rfl rfl ?_
                  refine ev_anyI f_X11_lasts (nx := 29) rfl rfl rfl rfl (fun z158 => ?_)
                  refine ev_inV2 f_X11_lasts (nx := 32) (lo2 := [(0, .ref 0), (1, .int z158)]) rfl rfl rfl rfl f_X11_answer (hI.wf.s rfl) rfl rfl rfl rfl rfl ?_
                  refine ev_loc f_X11_answer (nx := 1) rfl rfl rfl rfl ?_
                  refine ev_ic f_X11_answer (nx := 2) (v := 0) rfl (by decide) rfl ?_
                  refine ev_putIT f_X11_answer (nx := 5) rfl (hI.wf.s rfl) rfl rfl rfl (hI.put0 (hI.wf.s rfl) rfl rfl) (hX.upI rfl) (fun g159 e159 hI hX => ?_)
                  refine ev_loc f_X11_answer (nx := 6) rfl rfl rfl rfl ?_
                  refine ev_retK1 f_X11_answer rfl rfl rfl ?_
                  exact ev_ret f_X11_lasts rfl rfl rfl ⟨_, _, _, rfl, hI, hX, ⟨_, rfl, (t_lo z158), (t_hi z158)⟩⟩
        · have u160 : z17.toInt ≤ 0 := t_leu (t_nlt h18) (by decide : (0:Int32).toInt ≤ (0:Int))
          refine ev_loc f_J6_numberOfLeadingZeros_0f7a4 (nx := 5) rfl rfl rfl rfl ?_
          refine ev_if f_J6_numberOfLeadingZeros_0f7a4 (t1 := 8) (t2 := 13) rfl rfl rfl (fun h161 => ?_) (fun h161 => ?_)
          · have l162 : 0 ≤ z17.toInt := t_eql h161 (by decide : (0:Int) ≤ (0:Int32).toInt)
            refine ev_bp f_J6_numberOfLeadingZeros_0f7a4 (nx := 10) (v := 32) rfl (by decide) rfl ?_
            refine ev_jmp f_J6_numberOfLeadingZeros_0f7a4 (nx := 14) rfl rfl rfl ?_
            refine ev_retK1 f_J6_numberOfLeadingZeros_0f7a4 rfl rfl rfl ?_
            refine ev_aluvI f_J13_numberOfLeadingZeros_95d88 (nx := 18) (w := 64) rfl rfl rfl (by decide) rfl ?_
            refine ev_jmp f_J13_numberOfLeadingZeros_95d88 (nx := 25) rfl rfl rfl ?_
            refine ev_retK1 f_J13_numberOfLeadingZeros_95d88 rfl rfl rfl ?_
            refine ev_aluvI f_X11_lasts (nx := 29) (w := 0) rfl rfl rfl (by decide) rfl ?_
            refine ev_inV2 f_X11_lasts (nx := 32) (lo2 := [(0, .ref 0), (1, .int 0)]) rfl rfl rfl rfl f_X11_answer (hI.wf.s rfl) rfl rfl rfl rfl rfl ?_
            refine ev_loc f_X11_answer (nx := 1) rfl rfl rfl rfl ?_
            refine ev_ic f_X11_answer (nx := 2) (v := 0) rfl (by decide) rfl ?_
            refine ev_putIT f_X11_answer (nx := 5) rfl (hI.wf.s rfl) rfl rfl rfl (hI.put0 (hI.wf.s rfl) rfl rfl) (hX.upI rfl) (fun g163 e163 hI hX => ?_)
            refine ev_loc f_X11_answer (nx := 6) rfl rfl rfl rfl ?_
            refine ev_retK1 f_X11_answer rfl rfl rfl ?_
            exact ev_ret f_X11_lasts rfl rfl rfl ⟨_, _, _, rfl, hI, hX, ⟨_, rfl, (Int.le_trans (by decide : ((-2147483648):Int) ≤ 0) (by decide : (0:Int) ≤ (0:Int32).toInt)), (Int.le_trans (by decide : (0:Int32).toInt ≤ (0:Int)) (by decide : (0:Int) ≤ 2147483647))⟩⟩
          · have u164 : z17.toInt ≤ (-1) := t_neu h161 u160 rfl rfl
            refine ev_ic f_J6_numberOfLeadingZeros_0f7a4 (nx := 14) (v := 0) rfl (by decide) rfl ?_
            refine ev_retK1 f_J6_numberOfLeadingZeros_0f7a4 rfl rfl rfl ?_
            refine ev_aluvI f_J13_numberOfLeadingZeros_95d88 (nx := 18) (w := 32) rfl rfl rfl (by decide) rfl ?_
            refine ev_jmp f_J13_numberOfLeadingZeros_95d88 (nx := 25) rfl rfl rfl ?_
            refine ev_retK1 f_J13_numberOfLeadingZeros_95d88 rfl rfl rfl ?_
            refine ev_aluvI f_X11_lasts (nx := 29) (w := 32) rfl rfl rfl (by decide) rfl ?_
            refine ev_inV2 f_X11_lasts (nx := 32) (lo2 := [(0, .ref 0), (1, .int 32)]) rfl rfl rfl rfl f_X11_answer (hI.wf.s rfl) rfl rfl rfl rfl rfl ?_
            refine ev_loc f_X11_answer (nx := 1) rfl rfl rfl rfl ?_
            refine ev_ic f_X11_answer (nx := 2) (v := 0) rfl (by decide) rfl ?_
            refine ev_putIT f_X11_answer (nx := 5) rfl (hI.wf.s rfl) rfl rfl rfl (hI.put0 (hI.wf.s rfl) rfl rfl) (hX.upI rfl) (fun g165 e165 hI hX => ?_)
            refine ev_loc f_X11_answer (nx := 6) rfl rfl rfl rfl ?_
            refine ev_retK1 f_X11_answer rfl rfl rfl ?_
            exact ev_ret f_X11_lasts rfl rfl rfl ⟨_, _, _, rfl, hI, hX, ⟨_, rfl, (Int.le_trans (by decide : ((-2147483648):Int) ≤ 32) (by decide : (32:Int) ≤ (32:Int32).toInt)), (Int.le_trans (by decide : (32:Int32).toInt ≤ (32:Int)) (by decide : (32:Int) ≤ 2147483647))⟩⟩
      · refine ev_loc f_J13_numberOfLeadingZeros_95d88 (nx := 22) rfl rfl rfl rfl ?_
        refine ev_inS1 f_J13_numberOfLeadingZeros_95d88 (nx := 25) (lo2 := [(0, .int z13)]) rfl rfl rfl rfl f_J6_numberOfLeadingZeros_0f7a4 rfl rfl rfl rfl ?_
        refine ev_loc f_J6_numberOfLeadingZeros_0f7a4 (nx := 1) rfl rfl rfl rfl ?_
        refine ev_if f_J6_numberOfLeadingZeros_0f7a4 (t1 := 15) (t2 := 4) rfl rfl rfl (fun h166 => ?_) (fun h166 => ?_)
        · have l167 : 1 ≤ z13.toInt := t_ltl h166 (by decide : (0:Int) ≤ (0:Int32).toInt) rfl
          refine ev_bp f_J6_numberOfLeadingZeros_0f7a4 (nx := 17) (v := 31) rfl (by decide) rfl ?_
          refine ev_loc f_J6_numberOfLeadingZeros_0f7a4 (nx := 18) (lo' := [(1, .int 31), (0, .int z13)]) rfl rfl rfl rfl ?_
          refine ev_loc f_J6_numberOfLeadingZeros_0f7a4 (nx := 19) rfl rfl rfl rfl ?_
          refine ev_ldW f_J6_numberOfLeadingZeros_0f7a4 (nx := 22) (v := 65536) rfl (by decide) rfl ?_
          refine ev_if f_J6_numberOfLeadingZeros_0f7a4 (t1 := 33) (t2 := 25) rfl rfl rfl (fun h168 => ?_) (fun h168 => ?_)
          · have u169 : z13.toInt ≤ 65535 := t_ltu h168 (by decide : (65536:Int32).toInt ≤ (65536:Int)) rfl
            refine ev_loc f_J6_numberOfLeadingZeros_0f7a4 (nx := 34) rfl rfl rfl rfl ?_
            refine ev_sp f_J6_numberOfLeadingZeros_0f7a4 (nx := 37) (v := 256) rfl (by decide) rfl ?_
            refine ev_if f_J6_numberOfLeadingZeros_0f7a4 (t1 := 48) (t2 := 40) rfl rfl rfl (fun h170 => ?_) (fun h170 => ?_)
            · have u171 : z13.toInt ≤ 255 := t_ltu h170 (by decide : (256:Int32).toInt ≤ (256:Int)) rfl
              refine ev_loc f_J6_numberOfLeadingZeros_0f7a4 (nx := 49) rfl rfl rfl rfl ?_
              refine ev_bp f_J6_numberOfLeadingZeros_0f7a4 (nx := 51) (v := 16) rfl (by decide) rfl ?_
              refine ev_if f_J6_numberOfLeadingZeros_0f7a4 (t1 := 61) (t2 := 54) rfl rfl rfl (fun h172 => ?_) (fun h172 => ?_)
              · have u173 : z13.toInt ≤ 15 := t_ltu h172 (by decide : (16:Int32).toInt ≤ (16:Int)) rfl
                refine ev_loc f_J6_numberOfLeadingZeros_0f7a4 (nx := 62) rfl rfl rfl rfl ?_
                refine ev_ic f_J6_numberOfLeadingZeros_0f7a4 (nx := 63) (v := 4) rfl (by decide) rfl ?_
                refine ev_if f_J6_numberOfLeadingZeros_0f7a4 (t1 := 73) (t2 := 66) rfl rfl rfl (fun h174 => ?_) (fun h174 => ?_)
                · have u175 : z13.toInt ≤ 3 := t_ltu h174 (by decide : (4:Int32).toInt ≤ (4:Int)) rfl
                  refine ev_loc f_J6_numberOfLeadingZeros_0f7a4 (nx := 74) rfl rfl rfl rfl ?_
                  refine ev_loc f_J6_numberOfLeadingZeros_0f7a4 (nx := 75) rfl rfl rfl rfl ?_
                  refine ev_ic f_J6_numberOfLeadingZeros_0f7a4 (nx := 76) (v := 1) rfl (by decide) rfl ?_
                  refine ev_anyI f_J6_numberOfLeadingZeros_0f7a4 (nx := 77) rfl rfl rfl rfl (fun z176 => ?_)
                  refine ev_anyI f_J6_numberOfLeadingZeros_0f7a4 (nx := 78) rfl rfl rfl rfl (fun z177 => ?_)
                  refine ev_retK1 f_J6_numberOfLeadingZeros_0f7a4 rfl rfl rfl ?_
                  refine ev_retK1 f_J13_numberOfLeadingZeros_95d88 rfl rfl rfl ?_
                  refine ev_anyI f_X11_lasts (nx := 29) rfl rfl rfl rfl (fun z178 => ?_)
                  refine ev_inV2 f_X11_lasts (nx := 32) (lo2 := [(0, .ref 0), (1, .int z178)]) rfl rfl rfl rfl f_X11_answer (hI.wf.s rfl) rfl rfl rfl rfl rfl ?_
                  refine ev_loc f_X11_answer (nx := 1) rfl rfl rfl rfl ?_
                  refine ev_ic f_X11_answer (nx := 2) (v := 0) rfl (by decide) rfl ?_
                  refine ev_putIT f_X11_answer (nx := 5) rfl (hI.wf.s rfl) rfl rfl rfl (hI.put0 (hI.wf.s rfl) rfl rfl) (hX.upI rfl) (fun g179 e179 hI hX => ?_)
                  refine ev_loc f_X11_answer (nx := 6) rfl rfl rfl rfl ?_
                  refine ev_retK1 f_X11_answer rfl rfl rfl ?_
                  exact ev_ret f_X11_lasts rfl rfl rfl ⟨_, _, _, rfl, hI, hX, ⟨_, rfl, (t_lo z178), (t_hi z178)⟩⟩
                · have l180 : 4 ≤ z13.toInt := t_lel (t_nlt h174) (by decide : (4:Int) ≤ (4:Int32).toInt)
                  refine ev_incv f_J6_numberOfLeadingZeros_0f7a4 (nx := 69) (c := -2) (w := 29) (lo' := [(1, .int 29), (0, .int z13)]) rfl rfl (by decide) (by decide) rfl rfl rfl ?_
                  refine ev_loc f_J6_numberOfLeadingZeros_0f7a4 (nx := 70) rfl rfl rfl rfl ?_
                  refine ev_ic f_J6_numberOfLeadingZeros_0f7a4 (nx := 71) (v := 2) rfl (by decide) rfl ?_
                  refine ev_anyI f_J6_numberOfLeadingZeros_0f7a4 (nx := 72) rfl rfl rfl rfl (fun z181 => ?_)
                  refine ev_loc f_J6_numberOfLeadingZeros_0f7a4 (nx := 73) (lo' := [(0, .int z181), (1, .int 29)]) rfl rfl rfl rfl ?_
                  refine ev_loc f_J6_numberOfLeadingZeros_0f7a4 (nx := 74) rfl rfl rfl rfl ?_
                  refine ev_loc f_J6_numberOfLeadingZeros_0f7a4 (nx := 75) rfl rfl rfl rfl ?_
                  refine ev_ic f_J6_numberOfLeadingZeros_0f7a4 (nx := 76) (v := 1) rfl (by decide) rfl ?_
                  refine ev_anyI f_J6_numberOfLeadingZeros_0f7a4 (nx := 77) rfl rfl rfl rfl (fun z182 => ?_)
                  refine ev_anyI f_J6_numberOfLeadingZeros_0f7a4 (nx := 78) rfl rfl rfl rfl (fun z183 => ?_)
                  refine ev_retK1 f_J6_numberOfLeadingZeros_0f7a4 rfl rfl rfl ?_
                  refine ev_retK1 f_J13_numberOfLeadingZeros_95d88 rfl rfl rfl ?_
                  refine ev_anyI f_X11_lasts (nx := 29) rfl rfl rfl rfl (fun z184 => ?_)
                  refine ev_inV2 f_X11_lasts (nx := 32) (lo2 := [(0, .ref 0), (1, .int z184)]) rfl rfl rfl rfl f_X11_answer (hI.wf.s rfl) rfl rfl rfl rfl rfl ?_
                  refine ev_loc f_X11_answer (nx := 1) rfl rfl rfl rfl ?_
                  refine ev_ic f_X11_answer (nx := 2) (v := 0) rfl (by decide) rfl ?_
                  refine ev_putIT f_X11_answer (nx := 5) rfl (hI.wf.s rfl) rfl rfl rfl (hI.put0 (hI.wf.s rfl) rfl rfl) (hX.upI rfl) (fun g185 e185 hI hX => ?_)
                  refine ev_loc f_X11_answer (nx := 6) rfl rfl rfl rfl ?_
                  refine ev_retK1 f_X11_answer rfl rfl rfl ?_
                  exact ev_ret f_X11_lasts rfl rfl rfl ⟨_, _, _, rfl, hI, hX, ⟨_, rfl, (t_lo z184), (t_hi z184)⟩⟩
              · have l186 : 16 ≤ z13.toInt := t_lel (t_nlt h172) (by decide : (16:Int) ≤ (16:Int32).toInt)
                refine ev_incv f_J6_numberOfLeadingZeros_0f7a4 (nx := 57) (c := -4) (w := 27) (lo' := [(1, .int 27), (0, .int z13)]) rfl rfl (by decide) (by decide) rfl rfl rfl ?_
                refine ev_loc f_J6_numberOfLeadingZeros_0f7a4 (nx := 58) rfl rfl rfl rfl ?_
                refine ev_ic f_J6_numberOfLeadingZeros_0f7a4 (nx := 59) (v := 4) rfl (by decide) rfl ?_
                refine ev_anyI f_J6_numberOfLeadingZeros_0f7a4 (nx := 60) rfl rfl rfl rfl (fun z187 => ?_)
                refine ev_loc f_J6_numberOfLeadingZeros_0f7a4 (nx := 61) (lo' := [(0, .int z187), (1, .int 27)]) rfl rfl rfl rfl ?_
                refine ev_loc f_J6_numberOfLeadingZeros_0f7a4 (nx := 62) rfl rfl rfl rfl ?_
                refine ev_ic f_J6_numberOfLeadingZeros_0f7a4 (nx := 63) (v := 4) rfl (by decide) rfl ?_
                refine ev_if f_J6_numberOfLeadingZeros_0f7a4 (t1 := 73) (t2 := 66) rfl rfl rfl (fun h188 => ?_) (fun h188 => ?_)
                · have u189 : z187.toInt ≤ 3 := t_ltu h188 (by decide : (4:Int32).toInt ≤ (4:Int)) rfl
                  refine ev_loc f_J6_numberOfLeadingZeros_0f7a4 (nx := 74) rfl rfl rfl rfl ?_
                  refine ev_loc f_J6_numberOfLeadingZeros_0f7a4 (nx := 75) rfl rfl rfl rfl ?_
                  refine ev_ic f_J6_numberOfLeadingZeros_0f7a4 (nx := 76) (v := 1) rfl (by decide) rfl ?_
                  refine ev_anyI f_J6_numberOfLeadingZeros_0f7a4 (nx := 77) rfl rfl rfl rfl (fun z190 => ?_)
                  refine ev_anyI f_J6_numberOfLeadingZeros_0f7a4 (nx := 78) rfl rfl rfl rfl (fun z191 => ?_)
                  refine ev_retK1 f_J6_numberOfLeadingZeros_0f7a4 rfl rfl rfl ?_
                  refine ev_retK1 f_J13_numberOfLeadingZeros_95d88 rfl rfl rfl ?_
                  refine ev_anyI f_X11_lasts (nx := 29) rfl rfl rfl rfl (fun z192 => ?_)
                  refine ev_inV2 f_X11_lasts (nx := 32) (lo2 := [(0, .ref 0), (1, .int z192)]) rfl rfl rfl rfl f_X11_answer (hI.wf.s rfl) rfl rfl rfl rfl rfl ?_
                  refine ev_loc f_X11_answer (nx := 1) rfl rfl rfl rfl ?_
                  refine ev_ic f_X11_answer (nx := 2) (v := 0) rfl (by decide) rfl ?_
                  refine ev_putIT f_X11_answer (nx := 5) rfl (hI.wf.s rfl) rfl rfl rfl (hI.put0 (hI.wf.s rfl) rfl rfl) (hX.upI rfl) (fun g193 e193 hI hX => ?_)
                  refine ev_loc f_X11_answer (nx := 6) rfl rfl rfl rfl ?_
                  refine ev_retK1 f_X11_answer rfl rfl rfl ?_
                  exact ev_ret f_X11_lasts rfl rfl rfl ⟨_, _, _, rfl, hI, hX, ⟨_, rfl, (t_lo z192), (t_hi z192)⟩⟩
                · have l194 : 4 ≤ z187.toInt := t_lel (t_nlt h188) (by decide : (4:Int) ≤ (4:Int32).toInt)
                  refine ev_incv f_J6_numberOfLeadingZeros_0f7a4 (nx := 69) (c := -2) (w := 25) (lo' := [(1, .int 25), (0, .int z187)]) rfl rfl (by decide) (by decide) rfl rfl rfl ?_
                  refine ev_loc f_J6_numberOfLeadingZeros_0f7a4 (nx := 70) rfl rfl rfl rfl ?_
                  refine ev_ic f_J6_numberOfLeadingZeros_0f7a4 (nx := 71) (v := 2) rfl (by decide) rfl ?_
                  refine ev_anyI f_J6_numberOfLeadingZeros_0f7a4 (nx := 72) rfl rfl rfl rfl (fun z195 => ?_)
                  refine ev_loc f_J6_numberOfLeadingZeros_0f7a4 (nx := 73) (lo' := [(0, .int z195), (1, .int 25)]) rfl rfl rfl rfl ?_
                  refine ev_loc f_J6_numberOfLeadingZeros_0f7a4 (nx := 74) rfl rfl rfl rfl ?_
                  refine ev_loc f_J6_numberOfLeadingZeros_0f7a4 (nx := 75) rfl rfl rfl rfl ?_
                  refine ev_ic f_J6_numberOfLeadingZeros_0f7a4 (nx := 76) (v := 1) rfl (by decide) rfl ?_
                  refine ev_anyI f_J6_numberOfLeadingZeros_0f7a4 (nx := 77) rfl rfl rfl rfl (fun z196 => ?_)
                  refine ev_anyI f_J6_numberOfLeadingZeros_0f7a4 (nx := 78) rfl rfl rfl rfl (fun z197 => ?_)
                  refine ev_retK1 f_J6_numberOfLeadingZeros_0f7a4 rfl rfl rfl ?_
                  refine ev_retK1 f_J13_numberOfLeadingZeros_95d88 rfl rfl rfl ?_
                  refine ev_anyI f_X11_lasts (nx := 29) rfl rfl rfl rfl (fun z198 => ?_)
                  refine ev_inV2 f_X11_lasts (nx := 32) (lo2 := [(0, .ref 0), (1, .int z198)]) rfl rfl rfl rfl f_X11_answer (hI.wf.s rfl) rfl rfl rfl rfl rfl ?_
                  refine ev_loc f_X11_answer (nx := 1) rfl rfl rfl rfl ?_
                  refine ev_ic f_X11_answer (nx := 2) (v := 0) rfl (by decide) rfl ?_
                  refine ev_putIT f_X11_answer (nx := 5) rfl (hI.wf.s rfl) rfl rfl rfl (hI.put0 (hI.wf.s rfl) rfl rfl) (hX.upI rfl) (fun g199 e199 hI hX => ?_)
                  refine ev_loc f_X11_answer (nx := 6) rfl rfl rfl rfl ?_
                  refine ev_retK1 f_X11_answer rfl rfl rfl ?_
                  exact ev_ret f_X11_lasts rfl rfl rfl ⟨_, _, _, rfl, hI, hX, ⟨_, rfl, (t_lo z198), (t_hi z198)⟩⟩
            · have l200 : 256 ≤ z13.toInt := t_lel (t_nlt h170) (by decide : (256:Int) ≤ (256:Int32).toInt)
              refine ev_incv f_J6_numberOfLeadingZeros_0f7a4 (nx := 43) (c := -8) (w := 23) (lo' := [(1, .int 23), (0, .int z13)]) rfl rfl (by decide) (by decide) rfl rfl rfl ?_
              refine ev_loc f_J6_numberOfLeadingZeros_0f7a4 (nx := 44) rfl rfl rfl rfl ?_
              refine ev_bp f_J6_numberOfLeadingZeros_0f7a4 (nx := 46) (v := 8) rfl (by decide) rfl ?_
              refine ev_anyI f_J6_numberOfLeadingZeros_0f7a4 (nx := 47) rfl rfl rfl rfl (fun z201 => ?_)
              refine ev_loc f_J6_numberOfLeadingZeros_0f7a4 (nx := 48) (lo' := [(0, .int z201), (1, .int 23)]) rfl rfl rfl rfl ?_
              refine ev_loc f_J6_numberOfLeadingZeros_0f7a4 (nx := 49) rfl rfl rfl rfl ?_
              refine ev_bp f_J6_numberOfLeadingZeros_0f7a4 (nx := 51) (v := 16) rfl (by decide) rfl ?_
              refine ev_if f_J6_numberOfLeadingZeros_0f7a4 (t1 := 61) (t2 := 54) rfl rfl rfl (fun h202 => ?_) (fun h202 => ?_)
              · have u203 : z201.toInt ≤ 15 := t_ltu h202 (by decide : (16:Int32).toInt ≤ (16:Int)) rfl
                refine ev_loc f_J6_numberOfLeadingZeros_0f7a4 (nx := 62) rfl rfl rfl rfl ?_
                refine ev_ic f_J6_numberOfLeadingZeros_0f7a4 (nx := 63) (v := 4) rfl (by decide) rfl ?_
                refine ev_if f_J6_numberOfLeadingZeros_0f7a4 (t1 := 73) (t2 := 66) rfl rfl rfl (fun h204 => ?_) (fun h204 => ?_)
                · have u205 : z201.toInt ≤ 3 := t_ltu h204 (by decide : (4:Int32).toInt ≤ (4:Int)) rfl
                  refine ev_loc f_J6_numberOfLeadingZeros_0f7a4 (nx := 74) rfl rfl rfl rfl ?_
                  refine ev_loc f_J6_numberOfLeadingZeros_0f7a4 (nx := 75) rfl rfl rfl rfl ?_
                  refine ev_ic f_J6_numberOfLeadingZeros_0f7a4 (nx := 76) (v := 1) rfl (by decide) rfl ?_
                  refine ev_anyI f_J6_numberOfLeadingZeros_0f7a4 (nx := 77) rfl rfl rfl rfl (fun z206 => ?_)
                  refine ev_anyI f_J6_numberOfLeadingZeros_0f7a4 (nx := 78) rfl rfl rfl rfl (fun z207 => ?_)
                  refine ev_retK1 f_J6_numberOfLeadingZeros_0f7a4 rfl rfl rfl ?_
                  refine ev_retK1 f_J13_numberOfLeadingZeros_95d88 rfl rfl rfl ?_
                  refine ev_anyI f_X11_lasts (nx := 29) rfl rfl rfl rfl (fun z208 => ?_)
                  refine ev_inV2 f_X11_lasts (nx := 32) (lo2 := [(0, .ref 0), (1, .int z208)]) rfl rfl rfl rfl f_X11_answer (hI.wf.s rfl) rfl rfl rfl rfl rfl ?_
                  refine ev_loc f_X11_answer (nx := 1) rfl rfl rfl rfl ?_
                  refine ev_ic f_X11_answer (nx := 2) (v := 0) rfl (by decide) rfl ?_
                  refine ev_putIT f_X11_answer (nx := 5) rfl (hI.wf.s rfl) rfl rfl rfl (hI.put0 (hI.wf.s rfl) rfl rfl) (hX.upI rfl) (fun g209 e209 hI hX => ?_)
                  refine ev_loc f_X11_answer (nx := 6) rfl rfl rfl rfl ?_
                  refine ev_retK1 f_X11_answer rfl rfl rfl ?_
                  exact ev_ret f_X11_lasts rfl rfl rfl ⟨_, _, _, rfl, hI, hX, ⟨_, rfl, (t_lo z208), (t_hi z208)⟩⟩
                · have l210 : 4 ≤ z201.toInt := t_lel (t_nlt h204) (by decide : (4:Int) ≤ (4:Int32).toInt)
                  refine ev_incv f_J6_numberOfLeadingZeros_0f7a4 (nx := 69) (c := -2) (w := 21) (lo' := [(1, .int 21), (0, .int z201)]) rfl rfl (by decide) (by decide) rfl rfl rfl ?_
                  refine ev_loc f_J6_numberOfLeadingZeros_0f7a4 (nx := 70) rfl rfl rfl rfl ?_
                  refine ev_ic f_J6_numberOfLeadingZeros_0f7a4 (nx := 71) (v := 2) rfl (by decide) rfl ?_
                  refine ev_anyI f_J6_numberOfLeadingZeros_0f7a4 (nx := 72) rfl rfl rfl rfl (fun z211 => ?_)
                  refine ev_loc f_J6_numberOfLeadingZeros_0f7a4 (nx := 73) (lo' := [(0, .int z211), (1, .int 21)]) rfl rfl rfl rfl ?_
                  refine ev_loc f_J6_numberOfLeadingZeros_0f7a4 (nx := 74) rfl rfl rfl rfl ?_
                  refine ev_loc f_J6_numberOfLeadingZeros_0f7a4 (nx := 75) rfl rfl rfl rfl ?_
                  refine ev_ic f_J6_numberOfLeadingZeros_0f7a4 (nx := 76) (v := 1) rfl (by decide) rfl ?_
                  refine ev_anyI f_J6_numberOfLeadingZeros_0f7a4 (nx := 77) rfl rfl rfl rfl (fun z212 => ?_)
                  refine ev_anyI f_J6_numberOfLeadingZeros_0f7a4 (nx := 78) rfl rfl rfl rfl (fun z213 => ?_)
                  refine ev_retK1 f_J6_numberOfLeadingZeros_0f7a4 rfl rfl rfl ?_
                  refine ev_retK1 f_J13_numberOfLeadingZeros_95d88 rfl rfl rfl ?_
                  refine ev_anyI f_X11_lasts (nx := 29) rfl rfl rfl rfl (fun z214 => ?_)
                  refine ev_inV2 f_X11_lasts (nx := 32) (lo2 := [(0, .ref 0), (1, .int z214)]) rfl rfl rfl rfl f_X11_answer (hI.wf.s rfl) rfl rfl rfl rfl rfl ?_
                  refine ev_loc f_X11_answer (nx := 1) rfl rfl rfl rfl ?_
                  refine ev_ic f_X11_answer (nx := 2) (v := 0) rfl (by decide) rfl ?_
                  refine ev_putIT f_X11_answer (nx := 5) rfl (hI.wf.s rfl) rfl rfl rfl (hI.put0 (hI.wf.s rfl) rfl rfl) (hX.upI rfl) (fun g215 e215 hI hX => ?_)
                  refine ev_loc f_X11_answer (nx := 6) rfl rfl rfl rfl ?_
                  refine ev_retK1 f_X11_answer rfl rfl rfl ?_
                  exact ev_ret f_X11_lasts rfl rfl rfl ⟨_, _, _, rfl, hI, hX, ⟨_, rfl, (t_lo z214), (t_hi z214)⟩⟩
              · have l216 : 16 ≤ z201.toInt := t_lel (t_nlt h202) (by decide : (16:Int) ≤ (16:Int32).toInt)
                refine ev_incv f_J6_numberOfLeadingZeros_0f7a4 (nx := 57) (c := -4) (w := 19) (lo' := [(1, .int 19), (0, .int z201)]) rfl rfl (by decide) (by decide) rfl rfl rfl ?_
                refine ev_loc f_J6_numberOfLeadingZeros_0f7a4 (nx := 58) rfl rfl rfl rfl ?_
                refine ev_ic f_J6_numberOfLeadingZeros_0f7a4 (nx := 59) (v := 4) rfl (by decide) rfl ?_
                refine ev_anyI f_J6_numberOfLeadingZeros_0f7a4 (nx := 60) rfl rfl rfl rfl (fun z217 => ?_)
                refine ev_loc f_J6_numberOfLeadingZeros_0f7a4 (nx := 61) (lo' := [(0, .int z217), (1, .int 19)]) rfl rfl rfl rfl ?_
                refine ev_loc f_J6_numberOfLeadingZeros_0f7a4 (nx := 62) rfl rfl rfl rfl ?_
                refine ev_ic f_J6_numberOfLeadingZeros_0f7a4 (nx := 63) (v := 4) rfl (by decide) rfl ?_
                refine ev_if f_J6_numberOfLeadingZeros_0f7a4 (t1 := 73) (t2 := 66) rfl rfl rfl (fun h218 => ?_) (fun h218 => ?_)
                · have u219 : z217.toInt ≤ 3 := t_ltu h218 (by decide : (4:Int32).toInt ≤ (4:Int)) rfl
                  refine ev_loc f_J6_numberOfLeadingZeros_0f7a4 (nx := 74) rfl rfl rfl rfl ?_
                  refine ev_loc f_J6_numberOfLeadingZeros_0f7a4 (nx := 75) rfl rfl rfl rfl ?_
                  refine ev_ic f_J6_numberOfLeadingZeros_0f7a4 (nx := 76) (v := 1) rfl (by decide) rfl ?_
                  refine ev_anyI f_J6_numberOfLeadingZeros_0f7a4 (nx := 77) rfl rfl rfl rfl (fun z220 => ?_)
                  refine ev_anyI f_J6_numberOfLeadingZeros_0f7a4 (nx := 78) rfl rfl rfl rfl (fun z221 => ?_)
                  refine ev_retK1 f_J6_numberOfLeadingZeros_0f7a4 rfl rfl rfl ?_
                  refine ev_retK1 f_J13_numberOfLeadingZeros_95d88 rfl rfl rfl ?_
                  refine ev_anyI f_X11_lasts (nx := 29) rfl rfl rfl rfl (fun z222 => ?_)
                  refine ev_inV2 f_X11_lasts (nx := 32) (lo2 := [(0, .ref 0), (1, .int z222)]) rfl rfl rfl rfl f_X11_answer (hI.wf.s rfl) rfl rfl rfl rfl rfl ?_
                  refine ev_loc f_X11_answer (nx := 1) rfl rfl rfl rfl ?_
                  refine ev_ic f_X11_answer (nx := 2) (v := 0) rfl (by decide) rfl ?_
                  refine ev_putIT f_X11_answer (nx := 5) rfl (hI.wf.s rfl) rfl rfl rfl (hI.put0 (hI.wf.s rfl) rfl rfl) (hX.upI rfl) (fun g223 e223 hI hX => ?_)
                  refine ev_loc f_X11_answer (nx := 6) rfl rfl rfl rfl ?_
                  refine ev_retK1 f_X11_answer rfl rfl rfl ?_
                  exact ev_ret f_X11_lasts rfl rfl rfl ⟨_, _, _, rfl, hI, hX, ⟨_, rfl, (t_lo z222), (t_hi z222)⟩⟩
                · have l224 : 4 ≤ z217.toInt := t_lel (t_nlt h218) (by decide : (4:Int) ≤ (4:Int32).toInt)
                  refine ev_incv f_J6_numberOfLeadingZeros_0f7a4 (nx := 69) (c := -2) (w := 17) (lo' := [(1, .int 17), (0, .int z217)]) rfl rfl (by decide) (by decide) rfl rfl rfl ?_
                  refine ev_loc f_J6_numberOfLeadingZeros_0f7a4 (nx := 70) rfl rfl rfl rfl ?_
                  refine ev_ic f_J6_numberOfLeadingZeros_0f7a4 (nx := 71) (v := 2) rfl (by decide) rfl ?_
                  refine ev_anyI f_J6_numberOfLeadingZeros_0f7a4 (nx := 72) rfl rfl rfl rfl (fun z225 => ?_)
                  refine ev_loc f_J6_numberOfLeadingZeros_0f7a4 (nx := 73) (lo' := [(0, .int z225), (1, .int 17)]) rfl rfl rfl rfl ?_
                  refine ev_loc f_J6_numberOfLeadingZeros_0f7a4 (nx := 74) rfl rfl rfl rfl ?_
                  refine ev_loc f_J6_numberOfLeadingZeros_0f7a4 (nx := 75) rfl rfl rfl rfl ?_
                  refine ev_ic f_J6_numberOfLeadingZeros_0f7a4 (nx := 76) (v := 1) rfl (by decide) rfl ?_
                  refine ev_anyI f_J6_numberOfLeadingZeros_0f7a4 (nx := 77) rfl rfl rfl rfl (fun z226 => ?_)
                  refine ev_anyI f_J6_numberOfLeadingZeros_0f7a4 (nx := 78) rfl rfl rfl rfl (fun z227 => ?_)
                  refine ev_retK1 f_J6_numberOfLeadingZeros_0f7a4 rfl rfl rfl ?_
                  refine ev_retK1 f_J13_numberOfLeadingZeros_95d88 rfl rfl rfl ?_
                  refine ev_anyI f_X11_lasts (nx := 29) rfl rfl rfl rfl (fun z228 => ?_)
                  refine ev_inV2 f_X11_lasts (nx := 32) (lo2 := [(0, .ref 0), (1, .int z228)]) rfl rfl rfl rfl f_X11_answer (hI.wf.s rfl) rfl rfl rfl rfl rfl ?_
                  refine ev_loc f_X11_answer (nx := 1) rfl rfl rfl rfl ?_
                  refine ev_ic f_X11_answer (nx := 2) (v := 0) rfl (by decide) rfl ?_
                  refine ev_putIT f_X11_answer (nx := 5) rfl (hI.wf.s rfl) rfl rfl rfl (hI.put0 (hI.wf.s rfl) rfl rfl) (hX.upI rfl) (fun g229 e229 hI hX => ?_)
                  refine ev_loc f_X11_answer (nx := 6) rfl rfl rfl rfl ?_
                  refine ev_retK1 f_X11_answer rfl rfl rfl ?_
                  exact ev_ret f_X11_lasts rfl rfl rfl ⟨_, _, _, rfl, hI, hX, ⟨_, rfl, (t_lo z228), (t_hi z228)⟩⟩
          · have l230 : 65536 ≤ z13.toInt := t_lel (t_nlt h168) (by decide : (65536:Int) ≤ (65536:Int32).toInt)
            refine ev_incv f_J6_numberOfLeadingZeros_0f7a4 (nx := 28) (c := -16) (w := 15) (lo' := [(1, .int 15), (0, .int z13)]) rfl rfl (by decide) (by decide) rfl rfl rfl ?_
            refine ev_loc f_J6_numberOfLeadingZeros_0f7a4 (nx := 29) rfl rfl rfl rfl ?_
            refine ev_bp f_J6_numberOfLeadingZeros_0f7a4 (nx := 31) (v := 16) rfl (by decide) rfl ?_
            refine ev_anyI f_J6_numberOfLeadingZeros_0f7a4 (nx := 32) rfl rfl rfl rfl (fun z231 => ?_)
            refine ev_loc f_J6_numberOfLeadingZeros_0f7a4 (nx := 33) (lo' := [(0, .int z231), (1, .int 15)]) rfl rfl rfl rfl ?_
            refine ev_loc f_J6_numberOfLeadingZeros_0f7a4 (nx := 34) rfl rfl rfl rfl ?_
            refine ev_sp f_J6_numberOfLeadingZeros_0f7a4 (nx := 37) (v := 256) rfl (by decide) rfl ?_
            refine ev_if f_J6_numberOfLeadingZeros_0f7a4 (t1 := 48) (t2 := 40) rfl rfl rfl (fun h232 => ?_) (fun h232 => ?_)
            · have u233 : z231.toInt ≤ 255 := t_ltu h232 (by decide : (256:Int32).toInt ≤ (256:Int)) rfl
              refine ev_loc f_J6_numberOfLeadingZeros_0f7a4 (nx := 49) rfl rfl rfl rfl ?_
              refine ev_bp f_J6_numberOfLeadingZeros_0f7a4 (nx := 51) (v := 16) rfl (by decide) rfl ?_
              refine ev_if f_J6_numberOfLeadingZeros_0f7a4 (t1 := 61) (t2 := 54) rfl rfl rfl (fun h234 => ?_) (fun h234 => ?_)
              · have u235 : z231.toInt ≤ 15 := t_ltu h234 (by decide : (16:Int32).toInt ≤ (16:Int)) rfl
                refine ev_loc f_J6_numberOfLeadingZeros_0f7a4 (nx := 62) rfl rfl rfl rfl ?_
                refine ev_ic f_J6_numberOfLeadingZeros_0f7a4 (nx := 63) (v := 4) rfl (by decide) rfl ?_
                refine ev_if f_J6_numberOfLeadingZeros_0f7a4 (t1 := 73) (t2 := 66) rfl rfl rfl (fun h236 => ?_) (fun h236 => ?_)
                · have u237 : z231.toInt ≤ 3 := t_ltu h236 (by decide : (4:Int32).toInt ≤ (4:Int)) rfl
                  refine ev_loc f_J6_numberOfLeadingZeros_0f7a4 (nx := 74) rfl rfl rfl rfl ?_
                  refine ev_loc f_J6_numberOfLeadingZeros_0f7a4 (nx := 75) rfl rfl rfl rfl ?_
                  refine ev_ic f_J6_numberOfLeadingZeros_0f7a4 (nx := 76) (v := 1) rfl (by decide) rfl ?_
                  refine ev_anyI f_J6_numberOfLeadingZeros_0f7a4 (nx := 77) rfl rfl rfl rfl (fun z238 => ?_)
                  refine ev_anyI f_J6_numberOfLeadingZeros_0f7a4 (nx := 78) rfl rfl rfl rfl (fun z239 => ?_)
                  refine ev_retK1 f_J6_numberOfLeadingZeros_0f7a4 rfl rfl rfl ?_
                  refine ev_retK1 f_J13_numberOfLeadingZeros_95d88 rfl rfl rfl ?_
                  refine ev_anyI f_X11_lasts (nx := 29) rfl rfl rfl rfl (fun z240 => ?_)
                  refine ev_inV2 f_X11_lasts (nx := 32) (lo2 := [(0, .ref 0), (1, .int z240)]) rfl rfl rfl rfl f_X11_answer (hI.wf.s rfl) rfl rfl rfl rfl rfl ?_
                  refine ev_loc f_X11_answer (nx := 1) rfl rfl rfl rfl ?_
                  refine ev_ic f_X11_answer (nx := 2) (v := 0) rfl (by decide) rfl ?_
                  refine ev_putIT f_X11_answer (nx := 5) rfl (hI.wf.s rfl) rfl rfl rfl (hI.put0 (hI.wf.s rfl) rfl rfl) (hX.upI rfl) (fun g241 e241 hI hX => ?_)
                  refine ev_loc f_X11_answer (nx := 6) rfl rfl rfl rfl ?_
                  refine ev_retK1 f_X11_answer rfl rfl rfl ?_
                  exact ev_ret f_X11_lasts rfl rfl rfl ⟨_, _, _, rfl, hI, hX, ⟨_, rfl, (t_lo z240), (t_hi z240)⟩⟩
                · have l242 : 4 ≤ z231.toInt := t_lel (t_nlt h236) (by decide : (4:Int) ≤ (4:Int32).toInt)
                  refine ev_incv f_J6_numberOfLeadingZeros_0f7a4 (nx := 69) (c := -2) (w := 13) (lo' := [(1, .int 13), (0, .int z231)]) rfl rfl (by decide) (by decide) rfl rfl rfl ?_
                  refine ev_loc f_J6_numberOfLeadingZeros_0f7a4 (nx := 70) rfl rfl rfl rfl ?_
                  refine ev_ic f_J6_numberOfLeadingZeros_0f7a4 (nx := 71) (v := 2) rfl (by decide) rfl ?_
                  refine ev_anyI f_J6_numberOfLeadingZeros_0f7a4 (nx := 72) rfl rfl rfl rfl (fun z243 => ?_)
                  refine ev_loc f_J6_numberOfLeadingZeros_0f7a4 (nx := 73) (lo' := [(0, .int z243), (1, .int 13)]) rfl rfl rfl rfl ?_
                  refine ev_loc f_J6_numberOfLeadingZeros_0f7a4 (nx := 74) rfl rfl rfl rfl ?_
                  refine ev_loc f_J6_numberOfLeadingZeros_0f7a4 (nx := 75) rfl rfl rfl rfl ?_
                  refine ev_ic f_J6_numberOfLeadingZeros_0f7a4 (nx := 76) (v := 1) rfl (by decide) rfl ?_
                  refine ev_anyI f_J6_numberOfLeadingZeros_0f7a4 (nx := 77) rfl rfl rfl rfl (fun z244 => ?_)
                  refine ev_anyI f_J6_numberOfLeadingZeros_0f7a4 (nx := 78) rfl rfl rfl rfl (fun z245 => ?_)
                  refine ev_retK1 f_J6_numberOfLeadingZeros_0f7a4 rfl rfl rfl ?_
                  refine ev_retK1 f_J13_numberOfLeadingZeros_95d88 rfl rfl rfl ?_
                  refine ev_anyI f_X11_lasts (nx := 29) rfl rfl rfl rfl (fun z246 => ?_)
                  refine ev_inV2 f_X11_lasts (nx := 32) (lo2 := [(0, .ref 0), (1, .int z246)]) rfl rfl rfl rfl f_X11_answer (hI.wf.s rfl) rfl rfl rfl rfl rfl ?_
                  refine ev_loc f_X11_answer (nx := 1) rfl rfl rfl rfl ?_
                  refine ev_ic f_X11_answer (nx := 2) (v := 0) rfl (by decide) rfl ?_
                  refine ev_putIT f_X11_answer (nx := 5) rfl (hI.wf.s rfl) rfl rfl rfl (hI.put0 (hI.wf.s rfl) rfl rfl) (hX.upI rfl) (fun g247 e247 hI hX => ?_)
                  refine ev_loc f_X11_answer (nx := 6) rfl rfl rfl rfl ?_
                  refine ev_retK1 f_X11_answer rfl rfl rfl ?_
                  exact ev_ret f_X11_lasts rfl rfl rfl ⟨_, _, _, rfl, hI, hX, ⟨_, rfl, (t_lo z246), (t_hi z246)⟩⟩
              · have l248 : 16 ≤ z231.toInt := t_lel (t_nlt h234) (by decide : (16:Int) ≤ (16:Int32).toInt)
                refine ev_incv f_J6_numberOfLeadingZeros_0f7a4 (nx := 57) (c := -4) (w := 11) (lo' := [(1, .int 11), (0, .int z231)]) rfl rfl (by decide) (by decide) rfl rfl rfl ?_
                refine ev_loc f_J6_numberOfLeadingZeros_0f7a4 (nx := 58) rfl rfl rfl rfl ?_
                refine ev_ic f_J6_numberOfLeadingZeros_0f7a4 (nx := 59) (v := 4) rfl (by decide) rfl ?_
                refine ev_anyI f_J6_numberOfLeadingZeros_0f7a4 (nx := 60) rfl rfl rfl rfl (fun z249 => ?_)
                refine ev_loc f_J6_numberOfLeadingZeros_0f7a4 (nx := 61) (lo' := [(0, .int z249), (1, .int 11)]) rfl rfl rfl rfl ?_
                refine ev_loc f_J6_numberOfLeadingZeros_0f7a4 (nx := 62) rfl rfl rfl rfl ?_
                refine ev_ic f_J6_numberOfLeadingZeros_0f7a4 (nx := 63) (v := 4) rfl (by decide) rfl ?_
                refine ev_if f_J6_numberOfLeadingZeros_0f7a4 (t1 := 73) (t2 := 66) rfl rfl rfl (fun h250 => ?_) (fun h250 => ?_)
                · have u251 : z249.toInt ≤ 3 := t_ltu h250 (by decide : (4:Int32).toInt ≤ (4:Int)) rfl
                  refine ev_loc f_J6_numberOfLeadingZeros_0f7a4 (nx := 74) rfl rfl rfl rfl ?_
                  refine ev_loc f_J6_numberOfLeadingZeros_0f7a4 (nx := 75) rfl rfl rfl rfl ?_
                  refine ev_ic f_J6_numberOfLeadingZeros_0f7a4 (nx := 76) (v := 1) rfl (by decide) rfl ?_
                  refine ev_anyI f_J6_numberOfLeadingZeros_0f7a4 (nx := 77) rfl rfl rfl rfl (fun z252 => ?_)
                  refine ev_anyI f_J6_numberOfLeadingZeros_0f7a4 (nx := 78) rfl rfl rfl rfl (fun z253 => ?_)
                  refine ev_retK1 f_J6_numberOfLeadingZeros_0f7a4 rfl rfl rfl ?_
                  refine ev_retK1 f_J13_numberOfLeadingZeros_95d88 rfl rfl rfl ?_
                  refine ev_anyI f_X11_lasts (nx := 29) rfl rfl rfl rfl (fun z254 => ?_)
                  refine ev_inV2 f_X11_lasts (nx := 32) (lo2 := [(0, .ref 0), (1, .int z254)]) rfl rfl rfl rfl f_X11_answer (hI.wf.s rfl) rfl rfl rfl rfl rfl ?_
                  refine ev_loc f_X11_answer (nx := 1) rfl rfl rfl rfl ?_
                  refine ev_ic f_X11_answer (nx := 2) (v := 0) rfl (by decide) rfl ?_
                  refine ev_putIT f_X11_answer (nx := 5) rfl (hI.wf.s rfl) rfl rfl rfl (hI.put0 (hI.wf.s rfl) rfl rfl) (hX.upI rfl) (fun g255 e255 hI hX => ?_)
                  refine ev_loc f_X11_answer (nx := 6) rfl rfl rfl rfl ?_
                  refine ev_retK1 f_X11_answer rfl rfl rfl ?_
                  exact ev_ret f_X11_lasts rfl rfl rfl ⟨_, _, _, rfl, hI, hX, ⟨_, rfl, (t_lo z254), (t_hi z254)⟩⟩
                · have l256 : 4 ≤ z249.toInt := t_lel (t_nlt h250) (by decide : (4:Int) ≤ (4:Int32).toInt)
                  refine ev_incv f_J6_numberOfLeadingZeros_0f7a4 (nx := 69) (c := -2) (w := 9) (lo' := [(1, .int 9), (0, .int z249)]) rfl rfl (by decide) (by decide) rfl rfl rfl ?_
                  refine ev_loc f_J6_numberOfLeadingZeros_0f7a4 (nx := 70) rfl rfl rfl rfl ?_
                  refine ev_ic f_J6_numberOfLeadingZeros_0f7a4 (nx := 71) (v := 2) rfl (by decide) rfl ?_
                  refine ev_anyI f_J6_numberOfLeadingZeros_0f7a4 (nx := 72) rfl rfl rfl rfl (fun z257 => ?_)
                  refine ev_loc f_J6_numberOfLeadingZeros_0f7a4 (nx := 73) (lo' := [(0, .int z257), (1, .int 9)]) rfl rfl rfl rfl ?_
                  refine ev_loc f_J6_numberOfLeadingZeros_0f7a4 (nx := 74) rfl rfl rfl rfl ?_
                  refine ev_loc f_J6_numberOfLeadingZeros_0f7a4 (nx := 75) rfl rfl rfl rfl ?_
                  refine ev_ic f_J6_numberOfLeadingZeros_0f7a4 (nx := 76) (v := 1) rfl (by decide) rfl ?_
                  refine ev_anyI f_J6_numberOfLeadingZeros_0f7a4 (nx := 77) rfl rfl rfl rfl (fun z258 => ?_)
                  refine ev_anyI f_J6_numberOfLeadingZeros_0f7a4 (nx := 78) rfl rfl rfl rfl (fun z259 => ?_)
                  refine ev_retK1 f_J6_numberOfLeadingZeros_0f7a4 rfl rfl rfl ?_
                  refine ev_retK1 f_J13_numberOfLeadingZeros_95d88 rfl rfl rfl ?_
                  refine ev_anyI f_X11_lasts (nx := 29) rfl rfl rfl rfl (fun z260 => ?_)
                  refine ev_inV2 f_X11_lasts (nx := 32) (lo2 := [(0, .ref 0), (1, .int z260)]) rfl rfl rfl rfl f_X11_answer (hI.wf.s rfl) rfl rfl rfl rfl rfl ?_
                  refine ev_loc f_X11_answer (nx := 1) rfl rfl rfl rfl ?_
                  refine ev_ic f_X11_answer (nx := 2) (v := 0) rfl (by decide) rfl ?_
                  refine ev_putIT f_X11_answer (nx := 5) rfl (hI.wf.s rfl) rfl rfl rfl (hI.put0 (hI.wf.s rfl) rfl rfl) (hX.upI rfl) (fun g261 e261 hI hX => ?_)
                  refine ev_loc f_X11_answer (nx := 6) rfl rfl rfl rfl ?_
                  refine ev_retK1 f_X11_answer rfl rfl rfl ?_
                  exact ev_ret f_X11_lasts rfl rfl rfl ⟨_, _, _, rfl, hI, hX, ⟨_, rfl, (t_lo z260), (t_hi z260)⟩⟩
            · have l262 : 256 ≤ z231.toInt := t_lel (t_nlt h232) (by decide : (256:Int) ≤ (256:Int32).toInt)
              refine ev_incv f_J6_numberOfLeadingZeros_0f7a4 (nx := 43) (c := -8) (w := 7) (lo' := [(1, .int 7), (0, .int z231)]) rfl rfl (by decide) (by decide) rfl rfl rfl ?_
              refine ev_loc f_J6_numberOfLeadingZeros_0f7a4 (nx := 44) rfl rfl rfl rfl ?_
              refine ev_bp f_J6_numberOfLeadingZeros_0f7a4 (nx := 46) (v := 8) rfl (by decide) rfl ?_
              refine ev_anyI f_J6_numberOfLeadingZeros_0f7a4 (nx := 47) rfl rfl rfl rfl (fun z263 => ?_)
              refine ev_loc f_J6_numberOfLeadingZeros_0f7a4 (nx := 48) (lo' := [(0, .int z263), (1, .int 7)]) rfl rfl rfl rfl ?_
              refine ev_loc f_J6_numberOfLeadingZeros_0f7a4 (nx := 49) rfl rfl rfl rfl ?_
              refine ev_bp f_J6_numberOfLeadingZeros_0f7a4 (nx := 51) (v := 16) rfl (by decide) rfl ?_
              refine ev_if f_J6_numberOfLeadingZeros_0f7a4 (t1 := 61) (t2 := 54) rfl rfl rfl (fun h264 => ?_) (fun h264 => ?_)
              · have u265 : z263.toInt ≤ 15 := t_ltu h264 (by decide : (16:Int32).toInt ≤ (16:Int)) rfl
                refine ev_loc f_J6_numberOfLeadingZeros_0f7a4 (nx := 62) rfl rfl rfl rfl ?_
                refine ev_ic f_J6_numberOfLeadingZeros_0f7a4 (nx := 63) (v := 4) rfl (by decide) rfl ?_
                refine ev_if f_J6_numberOfLeadingZeros_0f7a4 (t1 := 73) (t2 := 66) rfl rfl rfl (fun h266 => ?_) (fun h266 => ?_)
                · have u267 : z263.toInt ≤ 3 := t_ltu h266 (by decide : (4:Int32).toInt ≤ (4:Int)) rfl
                  refine ev_loc f_J6_numberOfLeadingZeros_0f7a4 (nx := 74) rfl rfl rfl rfl ?_
                  refine ev_loc f_J6_numberOfLeadingZeros_0f7a4 (nx := 75) rfl rfl rfl rfl ?_
                  refine ev_ic f_J6_numberOfLeadingZeros_0f7a4 (nx := 76) (v := 1) rfl (by decide) rfl ?_
                  refine ev_anyI f_J6_numberOfLeadingZeros_0f7a4 (nx := 77) rfl rfl rfl rfl (fun z268 => ?_)
                  refine ev_anyI f_J6_numberOfLeadingZeros_0f7a4 (nx := 78) rfl rfl rfl rfl (fun z269 => ?_)
                  refine ev_retK1 f_J6_numberOfLeadingZeros_0f7a4 rfl rfl rfl ?_
                  refine ev_retK1 f_J13_numberOfLeadingZeros_95d88 rfl rfl rfl ?_
                  refine ev_anyI f_X11_lasts (nx := 29) rfl rfl rfl rfl (fun z270 => ?_)
                  refine ev_inV2 f_X11_lasts (nx := 32) (lo2 := [(0, .ref 0), (1, .int z270)]) rfl rfl rfl rfl f_X11_answer (hI.wf.s rfl) rfl rfl rfl rfl rfl ?_
                  refine ev_loc f_X11_answer (nx := 1) rfl rfl rfl rfl ?_
                  refine ev_ic f_X11_answer (nx := 2) (v := 0) rfl (by decide) rfl ?_
                  refine ev_putIT f_X11_answer (nx := 5) rfl (hI.wf.s rfl) rfl rfl rfl (hI.put0 (hI.wf.s rfl) rfl rfl) (hX.upI rfl) (fun g271 e271 hI hX => ?_)
                  refine ev_loc f_X11_answer (nx := 6) rfl rfl rfl rfl ?_
                  refine ev_retK1 f_X11_answer rfl rfl rfl ?_
                  exact ev_ret f_X11_lasts rfl rfl rfl ⟨_, _, _, rfl, hI, hX, ⟨_, rfl, (t_lo z270), (t_hi z270)⟩⟩
                · have l272 : 4 ≤ z263.toInt := t_lel (t_nlt h266) (by decide : (4:Int) ≤ (4:Int32).toInt)
                  refine ev_incv f_J6_numberOfLeadingZeros_0f7a4 (nx := 69) (c := -2) (w := 5) (lo' := [(1, .int 5), (0, .int z263)]) rfl rfl (by decide) (by decide) rfl rfl rfl ?_
                  refine ev_loc f_J6_numberOfLeadingZeros_0f7a4 (nx := 70) rfl rfl rfl rfl ?_
                  refine ev_ic f_J6_numberOfLeadingZeros_0f7a4 (nx := 71) (v := 2) rfl (by decide) rfl ?_
                  refine ev_anyI f_J6_numberOfLeadingZeros_0f7a4 (nx := 72) rfl rfl rfl rfl (fun z273 => ?_)
                  refine ev_loc f_J6_numberOfLeadingZeros_0f7a4 (nx := 73) (lo' := [(0, .int z273), (1, .int 5)]) rfl rfl rfl rfl ?_
                  refine ev_loc f_J6_numberOfLeadingZeros_0f7a4 (nx := 74) rfl rfl rfl rfl ?_
                  refine ev_loc f_J6_numberOfLeadingZeros_0f7a4 (nx := 75) rfl rfl rfl rfl ?_
                  refine ev_ic f_J6_numberOfLeadingZeros_0f7a4 (nx := 76) (v := 1) rfl (by decide) rfl ?_
                  refine ev_anyI f_J6_numberOfLeadingZeros_0f7a4 (nx := 77) rfl rfl rfl rfl (fun z274 => ?_)
                  refine ev_anyI f_J6_numberOfLeadingZeros_0f7a4 (nx := 78) rfl rfl rfl rfl (fun z275 => ?_)
                  refine ev_retK1 f_J6_numberOfLeadingZeros_0f7a4 rfl rfl rfl ?_
                  refine ev_retK1 f_J13_numberOfLeadingZeros_95d88 rfl rfl rfl ?_
                  refine ev_anyI f_X11_lasts (nx := 29) rfl rfl rfl rfl (fun z276 => ?_)
                  refine ev_inV2 f_X11_lasts (nx := 32) (lo2 := [(0, .ref 0), (1, .int z276)]) rfl rfl rfl rfl f_X11_answer (hI.wf.s rfl) rfl rfl rfl rfl rfl ?_
                  refine ev_loc f_X11_answer (nx := 1) rfl rfl rfl rfl ?_
                  refine ev_ic f_X11_answer (nx := 2) (v := 0) rfl (by decide) rfl ?_
                  refine ev_putIT f_X11_answer (nx := 5) rfl (hI.wf.s rfl) rfl rfl rfl (hI.put0 (hI.wf.s rfl) rfl rfl) (hX.upI rfl) (fun g277 e277 hI hX => ?_)
                  refine ev_loc f_X11_answer (nx := 6) rfl rfl rfl rfl ?_
                  refine ev_retK1 f_X11_answer rfl rfl rfl ?_
                  exact ev_ret f_X11_lasts rfl rfl rfl ⟨_, _, _, rfl, hI, hX, ⟨_, rfl, (t_lo z276), (t_hi z276)⟩⟩
              · have l278 : 16 ≤ z263.toInt := t_lel (t_nlt h264) (by decide : (16:Int) ≤ (16:Int32).toInt)
                refine ev_incv f_J6_numberOfLeadingZeros_0f7a4 (nx := 57) (c := -4) (w := 3) (lo' := [(1, .int 3), (0, .int z263)]) rfl rfl (by decide) (by decide) rfl rfl rfl ?_
                refine ev_loc f_J6_numberOfLeadingZeros_0f7a4 (nx := 58) rfl rfl rfl rfl ?_
                refine ev_ic f_J6_numberOfLeadingZeros_0f7a4 (nx := 59) (v := 4) rfl (by decide) rfl ?_
                refine ev_anyI f_J6_numberOfLeadingZeros_0f7a4 (nx := 60) rfl rfl rfl rfl (fun z279 => ?_)
                refine ev_loc f_J6_numberOfLeadingZeros_0f7a4 (nx := 61) (lo' := [(0, .int z279), (1, .int 3)]) rfl rfl rfl rfl ?_
                refine ev_loc f_J6_numberOfLeadingZeros_0f7a4 (nx := 62) rfl rfl rfl rfl ?_
                refine ev_ic f_J6_numberOfLeadingZeros_0f7a4 (nx := 63) (v := 4) rfl (by decide) rfl ?_
                refine ev_if f_J6_numberOfLeadingZeros_0f7a4 (t1 := 73) (t2 := 66) rfl rfl rfl (fun h280 => ?_) (fun h280 => ?_)
                · have u281 : z279.toInt ≤ 3 := t_ltu h280 (by decide : (4:Int32).toInt ≤ (4:Int)) rfl
                  refine ev_loc f_J6_numberOfLeadingZeros_0f7a4 (nx := 74) rfl rfl rfl rfl ?_
                  refine ev_loc f_J6_numberOfLeadingZeros_0f7a4 (nx := 75) rfl rfl rfl rfl ?_
                  refine ev_ic f_J6_numberOfLeadingZeros_0f7a4 (nx := 76) (v := 1) rfl (by decide) rfl ?_
                  refine ev_anyI f_J6_numberOfLeadingZeros_0f7a4 (nx := 77) rfl rfl rfl rfl (fun z282 => ?_)
                  refine ev_anyI f_J6_numberOfLeadingZeros_0f7a4 (nx := 78) rfl rfl rfl rfl (fun z283 => ?_)
                  refine ev_retK1 f_J6_numberOfLeadingZeros_0f7a4 rfl rfl rfl ?_
                  refine ev_retK1 f_J13_numberOfLeadingZeros_95d88 rfl rfl rfl ?_
                  refine ev_anyI f_X11_lasts (nx := 29) rfl rfl rfl rfl (fun z284 => ?_)
                  refine ev_inV2 f_X11_lasts (nx := 32) (lo2 := [(0, .ref 0), (1, .int z284)]) rfl rfl rfl rfl f_X11_answer (hI.wf.s rfl) rfl rfl rfl rfl rfl ?_
                  refine ev_loc f_X11_answer (nx := 1) rfl rfl rfl rfl ?_
                  refine ev_ic f_X11_answer (nx := 2) (v := 0) rfl (by decide) rfl ?_
                  refine ev_putIT f_X11_answer (nx := 5) rfl (hI.wf.s rfl) rfl rfl rfl (hI.put0 (hI.wf.s rfl) rfl rfl) (hX.upI rfl) (fun g285 e285 hI hX => ?_)
                  refine ev_loc f_X11_answer (nx := 6) rfl rfl rfl rfl ?_
                  refine ev_retK1 f_X11_answer rfl rfl rfl ?_
                  exact ev_ret f_X11_lasts rfl rfl rfl ⟨_, _, _, rfl, hI, hX, ⟨_, rfl, (t_lo z284), (t_hi z284)⟩⟩
                · have l286 : 4 ≤ z279.toInt := t_lel (t_nlt h280) (by decide : (4:Int) ≤ (4:Int32).toInt)
                  refine ev_incv f_J6_numberOfLeadingZeros_0f7a4 (nx := 69) (c := -2) (w := 1) (lo' := [(1, .int 1), (0, .int z279)]) rfl rfl (by decide) (by decide) rfl rfl rfl ?_
                  refine ev_loc f_J6_numberOfLeadingZeros_0f7a4 (nx := 70) rfl rfl rfl rfl ?_
                  refine ev_ic f_J6_numberOfLeadingZeros_0f7a4 (nx := 71) (v := 2) rfl (by decide) rfl ?_
                  refine ev_anyI f_J6_numberOfLeadingZeros_0f7a4 (nx := 72) rfl rfl rfl rfl (fun z287 => ?_)
                  refine ev_loc f_J6_numberOfLeadingZeros_0f7a4 (nx := 73) (lo' := [(0, .int z287), (1, .int 1)]) rfl rfl rfl rfl ?_
                  refine ev_loc f_J6_numberOfLeadingZeros_0f7a4 (nx := 74) rfl rfl rfl rfl ?_
                  refine ev_loc f_J6_numberOfLeadingZeros_0f7a4 (nx := 75) rfl rfl rfl rfl ?_
                  refine ev_ic f_J6_numberOfLeadingZeros_0f7a4 (nx := 76) (v := 1) rfl (by decide) rfl ?_
                  refine ev_anyI f_J6_numberOfLeadingZeros_0f7a4 (nx := 77) rfl rfl rfl rfl (fun z288 => ?_)
                  refine ev_anyI f_J6_numberOfLeadingZeros_0f7a4 (nx := 78) rfl rfl rfl rfl (fun z289 => ?_)
                  refine ev_retK1 f_J6_numberOfLeadingZeros_0f7a4 rfl rfl rfl ?_
                  refine ev_retK1 f_J13_numberOfLeadingZeros_95d88 rfl rfl rfl ?_
                  refine ev_anyI f_X11_lasts (nx := 29) rfl rfl rfl rfl (fun z290 => ?_)
                  refine ev_inV2 f_X11_lasts (nx := 32) (lo2 := [(0, .ref 0), (1, .int z290)]) rfl rfl rfl rfl f_X11_answer (hI.wf.s rfl) rfl rfl rfl rfl rfl ?_
                  refine ev_loc f_X11_answer (nx := 1) rfl rfl rfl rfl ?_
                  refine ev_ic f_X11_answer (nx := 2) (v := 0) rfl (by decide) rfl ?_
                  refine ev_putIT f_X11_answer (nx := 5) rfl (hI.wf.s rfl) rfl rfl rfl (hI.put0 (hI.wf.s rfl) rfl rfl) (hX.upI rfl) (fun g291 e291 hI hX => ?_)
                  refine ev_loc f_X11_answer (nx := 6) rfl rfl rfl rfl ?_
                  refine ev_retK1 f_X11_answer rfl rfl rfl ?_
                  exact ev_ret f_X11_lasts rfl rfl rfl ⟨_, _, _, rfl, hI, hX, ⟨_, rfl, (t_lo z290), (t_hi z290)⟩⟩
        · have u292 : z13.toInt ≤ 0 := t_leu (t_nlt h166) (by decide : (0:Int32).toInt ≤ (0:Int))
          refine ev_loc f_J6_numberOfLeadingZeros_0f7a4 (nx := 5) rfl rfl rfl rfl ?_
          refine ev_if f_J6_numberOfLeadingZeros_0f7a4 (t1 := 8) (t2 := 13) rfl rfl rfl (fun h293 => ?_) (fun h293 => ?_)
          · have l294 : 0 ≤ z13.toInt := t_eql h293 (by decide : (0:Int) ≤ (0:Int32).toInt)
            refine ev_bp f_J6_numberOfLeadingZeros_0f7a4 (nx := 10) (v := 32) rfl (by decide) rfl ?_
            refine ev_jmp f_J6_numberOfLeadingZeros_0f7a4 (nx := 14) rfl rfl rfl ?_
            refine ev_retK1 f_J6_numberOfLeadingZeros_0f7a4 rfl rfl rfl ?_
            refine ev_retK1 f_J13_numberOfLeadingZeros_95d88 rfl rfl rfl ?_
            refine ev_aluvI f_X11_lasts (nx := 29) (w := 32) rfl rfl rfl (by decide) rfl ?_
            refine ev_inV2 f_X11_lasts (nx := 32) (lo2 := [(0, .ref 0), (1, .int 32)]) rfl rfl rfl rfl f_X11_answer (hI.wf.s rfl) rfl rfl rfl rfl rfl ?_
            refine ev_loc f_X11_answer (nx := 1) rfl rfl rfl rfl ?_
            refine ev_ic f_X11_answer (nx := 2) (v := 0) rfl (by decide) rfl ?_
            refine ev_putIT f_X11_answer (nx := 5) rfl (hI.wf.s rfl) rfl rfl rfl (hI.put0 (hI.wf.s rfl) rfl rfl) (hX.upI rfl) (fun g295 e295 hI hX => ?_)
            refine ev_loc f_X11_answer (nx := 6) rfl rfl rfl rfl ?_
            refine ev_retK1 f_X11_answer rfl rfl rfl ?_
            exact ev_ret f_X11_lasts rfl rfl rfl ⟨_, _, _, rfl, hI, hX, ⟨_, rfl, (Int.le_trans (by decide : ((-2147483648):Int) ≤ 32) (by decide : (32:Int) ≤ (32:Int32).toInt)), (Int.le_trans (by decide : (32:Int32).toInt ≤ (32:Int)) (by decide : (32:Int) ≤ 2147483647))⟩⟩
          · have u296 : z13.toInt ≤ (-1) := t_neu h293 u292 rfl rfl
            refine ev_ic f_J6_numberOfLeadingZeros_0f7a4 (nx := 14) (v := 0) rfl (by decide) rfl ?_
            refine ev_retK1 f_J6_numberOfLeadingZeros_0f7a4 rfl rfl rfl ?_
            refine ev_retK1 f_J13_numberOfLeadingZeros_95d88 rfl rfl rfl ?_
            refine ev_aluvI f_X11_lasts (nx := 29) (w := 64) rfl rfl rfl (by decide) rfl ?_
            refine ev_inV2 f_X11_lasts (nx := 32) (lo2 := [(0, .ref 0), (1, .int 64)]) rfl rfl rfl rfl f_X11_answer (hI.wf.s rfl) rfl rfl rfl rfl rfl ?_
            refine ev_loc f_X11_answer (nx := 1) rfl rfl rfl rfl ?_
            refine ev_ic f_X11_answer (nx := 2) (v := 0) rfl (by decide) rfl ?_
            refine ev_putIT f_X11_answer (nx := 5) rfl (hI.wf.s rfl) rfl rfl rfl (hI.put0 (hI.wf.s rfl) rfl rfl) (hX.upI rfl) (fun g297 e297 hI hX => ?_)
            refine ev_loc f_X11_answer (nx := 6) rfl rfl rfl rfl ?_
            refine ev_retK1 f_X11_answer rfl rfl rfl ?_
            exact ev_ret f_X11_lasts rfl rfl rfl ⟨_, _, _, rfl, hI, hX, ⟨_, rfl, (Int.le_trans (by decide : ((-2147483648):Int) ≤ 64) (by decide : (64:Int) ≤ (64:Int32).toInt)), (Int.le_trans (by decide : (64:Int32).toInt ≤ (64:Int)) (by decide : (64:Int) ≤ 2147483647))⟩⟩
noncomputable def wl_h_far : List (Nat × Nat) := [(0, 0)]
theorem c_h_far {X : x_Ext} {d : Nat} {sh : List (Nat ⊕ (Nat × Nat))} {gi : Nat → Nat → Int32} {gl : Nat → Nat → Int64} {gr : Nat → Nat → Value} (hI : t_I sh gi gr) (ar1 : Int32) (ar2 : Int32) : x_Me X (d + 3) n_X11_far [.ref 0, .int ar1, .int ar2] (sh, gi, gl, gr) (t_P wl_h_far sh gi gl gr (t_Ri (-1) 127)) := by
  have hX : t_X wl_h_far sh gi gl gr gi gl gr := t_X.rf
  refine me_i f_X11_far (hI.wf.s rfl) rfl rfl rfl ?_
  refine ev_loc f_X11_far (nx := 1) rfl rfl rfl rfl ?_
  refine ev_loc f_X11_far (nx := 2) rfl rfl rfl rfl ?_
  refine ev_inV2 f_X11_far (nx := 5) (lo2 := [(0, .ref 0), (1, .int ar1)]) rfl rfl rfl rfl f_X11_isPort (hI.wf.s rfl) rfl rfl rfl rfl rfl ?_
  refine ev_loc f_X11_isPort (nx := 1) rfl rfl rfl rfl ?_
  refine ev_if f_X11_isPort (t1 := 19) (t2 := 4) rfl rfl rfl (fun h1 => ?_) (fun h1 => ?_)
  · have u2 : ar1.toInt ≤ (-1) := t_ltu h1 (by decide : (0:Int32).toInt ≤ (0:Int)) rfl
    refine ev_ic f_X11_isPort (nx := 20) (v := 0) rfl (by decide) rfl ?_
    refine ev_retK1 f_X11_isPort rfl rfl rfl ?_
    refine ev_t f_X11_far (t1 := 16) (t2 := 8) rfl rfl rfl (by decide) ?_
    refine ev_loc f_X11_far (nx := 17) rfl rfl rfl rfl ?_
    refine ev_ic f_X11_far (nx := 18) (v := 1) rfl (by decide) rfl ?_
    refine ev_inV2 f_X11_far (nx := 21) (lo2 := [(0, .ref 0), (1, .int 1)]) rfl rfl rfl rfl f_X11_refuse (hI.wf.s rfl) rfl rfl rfl rfl rfl ?_
    refine ev_loc f_X11_refuse (nx := 1) rfl rfl rfl rfl ?_
    refine ev_loc f_X11_refuse (nx := 2) rfl rfl rfl rfl ?_
    refine ev_putIT f_X11_refuse (nx := 5) rfl (hI.wf.s rfl) rfl rfl rfl (hI.put0 (hI.wf.s rfl) rfl rfl) (hX.upI rfl) (fun g3 e3 hI hX => ?_)
    refine ev_ic f_X11_refuse (nx := 6) (v := -1) rfl (by decide) rfl ?_
    refine ev_retK1 f_X11_refuse rfl rfl rfl ?_
    exact ev_ret f_X11_far rfl rfl rfl ⟨_, _, _, rfl, hI, hX, ⟨_, rfl, (by decide : ((-1):Int) ≤ ((-1):Int32).toInt), (Int.le_trans (by decide : ((-1):Int32).toInt ≤ ((-1):Int)) (by decide : ((-1):Int) ≤ 127))⟩⟩
  · have l4 : 0 ≤ ar1.toInt := t_lel (t_nlt h1) (by decide : (0:Int) ≤ (0:Int32).toInt)
    refine ev_loc f_X11_isPort (nx := 5) rfl rfl rfl rfl ?_
    refine ev_loc f_X11_isPort (nx := 6) rfl rfl rfl rfl ?_
    obtain ⟨a5, e5, p5⟩ := hI.2.2.2.1.1
    refine ev_getR f_X11_isPort (nx := 9) rfl (hI.wf.s rfl) rfl rfl e5 rfl rfl ?_
    refine ev_getI f_X11_isPort (nx := 12) rfl p5.1 rfl rfl rfl ?_
    obtain ⟨l6, u6⟩ := hI.b p5.1 (t_bdK rfl : t_bd 4 0 = some (0, 6))
    refine ev_if f_X11_isPort (t1 := 19) (t2 := 15) rfl rfl rfl (fun h7 => ?_) (fun h7 => ?_)
    · refine ev_ic f_X11_isPort (nx := 20) (v := 0) rfl (by decide) rfl ?_
      refine ev_retK1 f_X11_isPort rfl rfl rfl ?_
      refine ev_t f_X11_far (t1 := 16) (t2 := 8) rfl rfl rfl (by decide) ?_
      refine ev_loc f_X11_far (nx := 17) rfl rfl rfl rfl ?_
      refine ev_ic f_X11_far (nx := 18) (v := 1) rfl (by decide) rfl ?_
      refine ev_inV2 f_X11_far (nx := 21) (lo2 := [(0, .ref 0), (1, .int 1)]) rfl rfl rfl rfl f_X11_refuse (hI.wf.s rfl) rfl rfl rfl rfl rfl ?_
      refine ev_loc f_X11_refuse (nx := 1) rfl rfl rfl rfl ?_
      refine ev_loc f_X11_refuse (nx := 2) rfl rfl rfl rfl ?_
      refine ev_putIT f_X11_refuse (nx := 5) rfl (hI.wf.s rfl) rfl rfl rfl (hI.put0 (hI.wf.s rfl) rfl rfl) (hX.upI rfl) (fun g8 e8 hI hX => ?_)
      refine ev_ic f_X11_refuse (nx := 6) (v := -1) rfl (by decide) rfl ?_
      refine ev_retK1 f_X11_refuse rfl rfl rfl ?_
      exact ev_ret f_X11_far rfl rfl rfl ⟨_, _, _, rfl, hI, hX, ⟨_, rfl, (by decide : ((-1):Int) ≤ ((-1):Int32).toInt), (Int.le_trans (by decide : ((-1):Int32).toInt ≤ ((-1):Int)) (by decide : ((-1):Int) ≤ 127))⟩⟩
    · have u9 : ar1.toInt ≤ 5 := t_ltu (t_nle h7) u6 rfl
      have l10 : 1 ≤ (gi a5 0).toInt := t_ltl (t_nle h7) l4 rfl
      refine ev_ic f_X11_isPort (nx := 16) (v := 1) rfl (by decide) rfl ?_
      refine ev_jmp f_X11_isPort (nx := 20) rfl rfl rfl ?_
      refine ev_retK1 f_X11_isPort rfl rfl rfl ?_
      refine ev_f f_X11_far (t1 := 16) (t2 := 8) rfl rfl rfl (by decide) ?_
      refine ev_loc f_X11_far (nx := 9) rfl rfl rfl rfl ?_
      refine ev_loc f_X11_far (nx := 10) rfl rfl rfl rfl ?_
      refine ev_inV2 f_X11_far (nx := 13) (lo2 := [(0, .ref 0), (1, .int ar2)]) rfl rfl rfl rfl f_X11_isPort (hI.wf.s rfl) rfl rfl rfl rfl rfl ?_
      refine ev_loc f_X11_isPort (nx := 1) rfl rfl rfl rfl ?_
      refine ev_if f_X11_isPort (t1 := 19) (t2 := 4) rfl rfl rfl (fun h11 => ?_) (fun h11 => ?_)
      · have u12 : ar2.toInt ≤ (-1) := t_ltu h11 (by decide : (0:Int32).toInt ≤ (0:Int)) rfl
        refine ev_ic f_X11_isPort (nx := 20) (v := 0) rfl (by decide) rfl ?_
        refine ev_retK1 f_X11_isPort rfl rfl rfl ?_
        refine ev_t f_X11_far (t1 := 16) (t2 := 22) rfl rfl rfl (by decide) ?_
        refine ev_loc f_X11_far (nx := 17) rfl rfl rfl rfl ?_
        refine ev_ic f_X11_far (nx := 18) (v := 1) rfl (by decide) rfl ?_
        refine ev_inV2 f_X11_far (nx := 21) (lo2 := [(0, .ref 0), (1, .int 1)]) rfl rfl rfl rfl f_X11_refuse (hI.wf.s rfl) rfl rfl rfl rfl rfl ?_
        refine ev_loc f_X11_refuse (nx := 1) rfl rfl rfl rfl ?_
        refine ev_loc f_X11_refuse (nx := 2) rfl rfl rfl rfl ?_
        refine ev_putIT f_X11_refuse (nx := 5) rfl (hI.wf.s rfl) rfl rfl rfl (hI.put0 (hI.wf.s rfl) rfl rfl) (hX.upI rfl) (fun g13 e13 hI hX => ?_)
        refine ev_ic f_X11_refuse (nx := 6) (v := -1) rfl (by decide) rfl ?_
        refine ev_retK1 f_X11_refuse rfl rfl rfl ?_
        exact ev_ret f_X11_far rfl rfl rfl ⟨_, _, _, rfl, hI, hX, ⟨_, rfl, (by decide : ((-1):Int) ≤ ((-1):Int32).toInt), (Int.le_trans (by decide : ((-1):Int32).toInt ≤ ((-1):Int)) (by decide : ((-1):Int) ≤ 127))⟩⟩
      · have l14 : 0 ≤ ar2.toInt := t_lel (t_nlt h11) (by decide : (0:Int) ≤ (0:Int32).toInt)
        refine ev_loc f_X11_isPort (nx := 5) rfl rfl rfl rfl ?_
        refine ev_loc f_X11_isPort (nx := 6) rfl rfl rfl rfl ?_
        refine ev_getR f_X11_isPort (nx := 9) (v := .ref a5) rfl (hI.wf.s rfl) rfl rfl e5 rfl rfl ?_
        refine ev_gvI f_X11_isPort (nx := 12) (w := (gi a5 0)) rfl p5.1 rfl rfl rfl rfl ?_
        refine ev_if f_X11_isPort (t1 := 19) (t2 := 15) rfl rfl rfl (fun h15 => ?_) (fun h15 => ?_)
        · have l16 : 1 ≤ ar2.toInt := t_lel h15 l10
          refine ev_ic f_X11_isPort (nx := 20) (v := 0) rfl (by decide) rfl ?_
          refine ev_retK1 f_X11_isPort rfl rfl rfl ?_
          refine ev_t f_X11_far (t1 := 16) (t2 := 22) rfl rfl rfl (by decide) ?_
          refine ev_loc f_X11_far (nx := 17) rfl rfl rfl rfl ?_
          refine ev_ic f_X11_far (nx := 18) (v := 1) rfl (by decide) rfl ?_
          refine ev_inV2 f_X11_far (nx := 21) (lo2 := [(0, .ref 0), (1, .int 1)]) rfl rfl rfl rfl f_X11_refuse (hI.wf.s rfl) rfl rfl rfl rfl rfl ?_
          refine ev_loc f_X11_refuse (nx := 1) rfl rfl rfl rfl ?_
          refine ev_loc f_X11_refuse (nx := 2) rfl rfl rfl rfl ?_
          refine ev_putIT f_X11_refuse (nx := 5) rfl (hI.wf.s rfl) rfl rfl rfl (hI.put0 (hI.wf.s rfl) rfl rfl) (hX.upI rfl) (fun g17 e17 hI hX => ?_)
          refine ev_ic f_X11_refuse (nx := 6) (v := -1) rfl (by decide) rfl ?_
          refine ev_retK1 f_X11_refuse rfl rfl rfl ?_
          exact ev_ret f_X11_far rfl rfl rfl ⟨_, _, _, rfl, hI, hX, ⟨_, rfl, (by decide : ((-1):Int) ≤ ((-1):Int32).toInt), (Int.le_trans (by decide : ((-1):Int32).toInt ≤ ((-1):Int)) (by decide : ((-1):Int) ≤ 127))⟩⟩
        · have u18 : ar2.toInt ≤ 5 := t_ltu (t_nle h15) u6 rfl
          refine ev_ic f_X11_isPort (nx := 16) (v := 1) rfl (by decide) rfl ?_
          refine ev_jmp f_X11_isPort (nx := 20) rfl rfl rfl ?_
          refine ev_retK1 f_X11_isPort rfl rfl rfl ?_
          refine ev_f f_X11_far (t1 := 16) (t2 := 22) rfl rfl rfl (by decide) ?_
          refine ev_loc f_X11_far (nx := 23) rfl rfl rfl rfl ?_
          refine ev_loc f_X11_far (nx := 24) rfl rfl rfl rfl ?_
          refine ev_getR f_X11_far (nx := 27) (v := .ref a5) rfl (hI.wf.s rfl) rfl rfl e5 rfl rfl ?_
          refine ev_loc f_X11_far (nx := 28) rfl rfl rfl rfl ?_
          refine ev_cL f_X11_far (nx := 31) (r := [.ref 0]) rfl rfl rfl rfl rfl rfl rfl (c_heardOf hI (a5) p5 (ar1)) rfl hX rfl (fun w19 gi19 gl19 gr19 hI hX hC19 => ?_)
          replace p5 := p5.ext hC19.2
          refine ev_loc f_X11_far (nx := 32) rfl rfl rfl rfl ?_
          refine ev_getR f_X11_far (nx := 35) (v := .ref a5) rfl (hI.wf.s rfl) rfl rfl ((hC19.1 0 6 rfl).2.2.trans e5) rfl rfl ?_
          refine ev_loc f_X11_far (nx := 36) rfl rfl rfl rfl ?_
          refine ev_cL f_X11_far (nx := 39) (r := [.long w19, .ref 0]) rfl rfl rfl rfl rfl rfl rfl (c_heardOf hI (a5) p5 (ar2)) rfl hX rfl (fun w20 gi20 gl20 gr20 hI hX hC20 => ?_)
          replace p5 := p5.ext hC20.2
          refine ev_anyL f_X11_far (nx := 40) rfl rfl rfl rfl (fun z21 => ?_)
          refine ev_inS1 f_X11_far (nx := 43) (lo2 := [(0, .long z21)]) rfl rfl rfl rfl f_J13_bitCount_95d88 rfl rfl rfl rfl ?_
          refine ev_loc f_J13_bitCount_95d88 (nx := 1) rfl rfl rfl rfl ?_
          refine ev_loc f_J13_bitCount_95d88 (nx := 2) rfl rfl rfl rfl ?_
          refine ev_ic f_J13_bitCount_95d88 (nx := 3) (v := 1) rfl (by decide) rfl ?_
          refine ev_anyL f_J13_bitCount_95d88 (nx := 4) rfl rfl rfl rfl (fun z22 => ?_)
          refine ev_ldL f_J13_bitCount_95d88 (nx := 7) (v := 6148914691236517205) rfl (by decide) rfl ?_
          refine ev_anyL f_J13_bitCount_95d88 (nx := 8) rfl rfl rfl rfl (fun z23 => ?_)
          refine ev_anyL f_J13_bitCount_95d88 (nx := 9) rfl rfl rfl rfl (fun z24 => ?_)
          refine ev_loc f_J13_bitCount_95d88 (nx := 10) (lo' := [(0, .long z24)]) rfl rfl rfl rfl ?_
          refine ev_loc f_J13_bitCount_95d88 (nx := 11) rfl rfl rfl rfl ?_
          refine ev_ldL f_J13_bitCount_95d88 (nx := 14) (v := 3689348814741910323) rfl (by decide) rfl ?_
          refine ev_anyL f_J13_bitCount_95d88 (nx := 15) rfl rfl rfl rfl (fun z25 => ?_)
          refine ev_loc f_J13_bitCount_95d88 (nx := 16) rfl rfl rfl rfl ?_
          refine ev_ic f_J13_bitCount_95d88 (nx := 17) (v := 2) rfl (by decide) rfl ?_
          refine ev_anyL f_J13_bitCount_95d88 (nx := 18) rfl rfl rfl rfl (fun z26 => ?_)
          refine ev_ldL f_J13_bitCount_95d88 (nx := 21) (v := 3689348814741910323) rfl (by decide) rfl ?_
          refine ev_anyL f_J13_bitCount_95d88 (nx := 22) rfl rfl rfl rfl (fun z27 => ?_)
          refine ev_anyL f_J13_bitCount_95d88 (nx := 23) rfl rfl rfl rfl (fun z28 => ?_)
          refine ev_loc f_J13_bitCount_95d88 (nx := 24) (lo' := [(0, .long z28)]) rfl rfl rfl rfl ?_
          refine ev_loc f_J13_bitCount_95d88 (nx := 25) rfl rfl rfl rfl ?_
          refine ev_loc f_J13_bitCount_95d88 (nx := 26) rfl rfl rfl rfl ?_
          refine ev_ic f_J13_bitCount_95d88 (nx := 27) (v := 4) rfl (by decide) rfl ?_
          refine ev_anyL f_J13_bitCount_95d88 (nx := 28) rfl rfl rfl rfl (fun z29 => ?_)
          refine ev_anyL f_J13_bitCount_95d88 (nx := 29) rfl rfl rfl rfl (fun z30 => ?_)
          refine ev_ldL f_J13_bitCount_95d88 (nx := 32) (v := 1085102592571150095) rfl (by decide) rfl ?_
          refine ev_anyL f_J13_bitCount_95d88 (nx := 33) rfl rfl rfl rfl (fun z31 => ?_)
          refine ev_loc f_J13_bitCount_95d88 (nx := 34) (lo' := [(0, .long z31)]) rfl rfl rfl rfl ?_
          refine ev_loc f_J13_bitCount_95d88 (nx := 35) rfl rfl rfl rfl ?_
          refine ev_loc f_J13_bitCount_95d88 (nx := 36) rfl rfl rfl rfl ?_
          refine ev_bp f_J13_bitCount_95d88 (nx := 38) (v := 8) rfl (by decide) rfl ?_
          refine ev_anyL f_J13_bitCount_95d88 (nx := 39) rfl rfl rfl rfl (fun z32 => ?_)
          refine ev_anyL f_J13_bitCount_95d88 (nx := 40) rfl rfl rfl rfl (fun z33 => ?_)
          refine ev_loc f_J13_bitCount_95d88 (nx := 41) (lo' := [(0, .long z33)]) rfl rfl rfl rfl ?_
          refine ev_loc f_J13_bitCount_95d88 (nx := 42) rfl rfl rfl rfl ?_
          refine ev_loc f_J13_bitCount_95d88 (nx := 43) rfl rfl rfl rfl ?_
          refine ev_bp f_J13_bitCount_95d88 (nx := 45) (v := 16) rfl (by decide) rfl ?_
          refine ev_anyL f_J13_bitCount_95d88 (nx := 46) rfl rfl rfl rfl (fun z34 => ?_)
          refine ev_anyL f_J13_bitCount_95d88 (nx := 47) rfl rfl rfl rfl (fun z35 => ?_)
          refine ev_loc f_J13_bitCount_95d88 (nx := 48) (lo' := [(0, .long z35)]) rfl rfl rfl rfl ?_
          refine ev_loc f_J13_bitCount_95d88 (nx := 49) rfl rfl rfl rfl ?_
          refine ev_loc f_J13_bitCount_95d88 (nx := 50) rfl rfl rfl rfl ?_
          refine ev_bp f_J13_bitCount_95d88 (nx := 52) (v := 32) rfl (by decide) rfl ?_
          refine ev_anyL f_J13_bitCount_95d88 (nx := 53) rfl rfl rfl rfl (fun z36 => ?_)
          refine ev_anyL f_J13_bitCount_95d88 (nx := 54) rfl rfl rfl rfl (fun z37 => ?_)
          refine ev_loc f_J13_bitCount_95d88 (nx := 55) (lo' := [(0, .long z37)]) rfl rfl rfl rfl ?_
          refine ev_loc f_J13_bitCount_95d88 (nx := 56) rfl rfl rfl rfl ?_
          refine ev_anyI f_J13_bitCount_95d88 (nx := 57) rfl rfl rfl rfl (fun z38 => ?_)
          refine ev_bp f_J13_bitCount_95d88 (nx := 59) (v := 127) rfl (by decide) rfl ?_
          refine ev_andR f_J13_bitCount_95d88 (nx := 60) (c := 127) rfl (by decide) (by decide) rfl (fun z39 l39 u39 => ?_)
          refine ev_retK1 f_J13_bitCount_95d88 rfl rfl rfl ?_
          refine ev_inV2 f_X11_far (nx := 46) (lo2 := [(0, .ref 0), (1, .int z39)]) rfl rfl rfl rfl f_X11_answer (hI.wf.s rfl) rfl rfl rfl rfl rfl ?_
          refine ev_loc f_X11_answer (nx := 1) rfl rfl rfl rfl ?_
          refine ev_ic f_X11_answer (nx := 2) (v := 0) rfl (by decide) rfl ?_
          refine ev_putIT f_X11_answer (nx := 5) rfl (hI.wf.s rfl) rfl rfl rfl (hI.put0 (hI.wf.s rfl) rfl rfl) (hX.upI rfl) (fun g40 e40 hI hX => ?_)
          refine ev_loc f_X11_answer (nx := 6) rfl rfl rfl rfl ?_
          refine ev_retK1 f_X11_answer rfl rfl rfl ?_
          exact ev_ret f_X11_far rfl rfl rfl ⟨_, _, _, rfl, hI, hX, ⟨_, rfl, (Int.le_trans (by decide : ((-1):Int) ≤ 0) l39), u39⟩⟩
noncomputable def wl_h_reading : List (Nat × Nat) := [(0, 0)]
theorem c_h_reading {X : x_Ext} {d : Nat} {sh : List (Nat ⊕ (Nat × Nat))} {gi : Nat → Nat → Int32} {gl : Nat → Nat → Int64} {gr : Nat → Nat → Value} (hI : t_I sh gi gr) (ar1 : Int32) (ar2 : Int32) : x_Me X (d + 2) n_X11_reading [.ref 0, .int ar1, .int ar2] (sh, gi, gl, gr) (t_P wl_h_reading sh gi gl gr (t_Ri (-2147483648) 2147483647)) := by
  have hX : t_X wl_h_reading sh gi gl gr gi gl gr := t_X.rf
  refine me_i f_X11_reading (hI.wf.s rfl) rfl rfl rfl ?_
  refine ev_loc f_X11_reading (nx := 1) rfl rfl rfl rfl ?_
  refine ev_if f_X11_reading (t1 := 9) (t2 := 4) rfl rfl rfl (fun h1 => ?_) (fun h1 => ?_)
  · have u2 : ar2.toInt ≤ (-1) := t_ltu h1 (by decide : (0:Int32).toInt ≤ (0:Int)) rfl
    refine ev_loc f_X11_reading (nx := 10) rfl rfl rfl rfl ?_
    refine ev_ic f_X11_reading (nx := 11) (v := 1) rfl (by decide) rfl ?_
    refine ev_inV2 f_X11_reading (nx := 14) (lo2 := [(0, .ref 0), (1, .int 1)]) rfl rfl rfl rfl f_X11_refuse (hI.wf.s rfl) rfl rfl rfl rfl rfl ?_
    refine ev_loc f_X11_refuse (nx := 1) rfl rfl rfl rfl ?_
    refine ev_loc f_X11_refuse (nx := 2) rfl rfl rfl rfl ?_
    refine ev_putIT f_X11_refuse (nx := 5) rfl (hI.wf.s rfl) rfl rfl rfl (hI.put0 (hI.wf.s rfl) rfl rfl) (hX.upI rfl) (fun g3 e3 hI hX => ?_)
    refine ev_ic f_X11_refuse (nx := 6) (v := -1) rfl (by decide) rfl ?_
    refine ev_retK1 f_X11_refuse rfl rfl rfl ?_
    exact ev_ret f_X11_reading rfl rfl rfl ⟨_, _, _, rfl, hI, hX, ⟨_, rfl, (Int.le_trans (by decide : ((-2147483648):Int) ≤ (-1)) (by decide : ((-1):Int) ≤ ((-1):Int32).toInt)), (Int.le_trans (by decide : ((-1):Int32).toInt ≤ ((-1):Int)) (by decide : ((-1):Int) ≤ 2147483647))⟩⟩
  · have l4 : 0 ≤ ar2.toInt := t_lel (t_nlt h1) (by decide : (0:Int) ≤ (0:Int32).toInt)
    refine ev_loc f_X11_reading (nx := 5) rfl rfl rfl rfl ?_
    refine ev_ic f_X11_reading (nx := 6) (v := 2) rfl (by decide) rfl ?_
    refine ev_if f_X11_reading (t1 := 15) (t2 := 9) rfl rfl rfl (fun h5 => ?_) (fun h5 => ?_)
    · have u6 : ar2.toInt ≤ 2 := t_leu h5 (by decide : (2:Int32).toInt ≤ (2:Int))
      refine ev_loc f_X11_reading (nx := 16) rfl rfl rfl rfl ?_
      refine ev_if f_X11_reading (t1 := 27) (t2 := 19) rfl rfl rfl (fun h7 => ?_) (fun h7 => ?_)
      · have u8 : ar1.toInt ≤ (-1) := t_ltu h7 (by decide : (0:Int32).toInt ≤ (0:Int)) rfl
        refine ev_loc f_X11_reading (nx := 28) rfl rfl rfl rfl ?_
        refine ev_bp f_X11_reading (nx := 30) (v := 6) rfl (by decide) rfl ?_
        refine ev_inV2 f_X11_reading (nx := 33) (lo2 := [(0, .ref 0), (1, .int 6)]) rfl rfl rfl rfl f_X11_refuse (hI.wf.s rfl) rfl rfl rfl rfl rfl ?_
        refine ev_loc f_X11_refuse (nx := 1) rfl rfl rfl rfl ?_
        refine ev_loc f_X11_refuse (nx := 2) rfl rfl rfl rfl ?_
        refine ev_putIT f_X11_refuse (nx := 5) rfl (hI.wf.s rfl) rfl rfl rfl (hI.put0 (hI.wf.s rfl) rfl rfl) (hX.upI rfl) (fun g9 e9 hI hX => ?_)
        refine ev_ic f_X11_refuse (nx := 6) (v := -1) rfl (by decide) rfl ?_
        refine ev_retK1 f_X11_refuse rfl rfl rfl ?_
        exact ev_ret f_X11_reading rfl rfl rfl ⟨_, _, _, rfl, hI, hX, ⟨_, rfl, (Int.le_trans (by decide : ((-2147483648):Int) ≤ (-1)) (by decide : ((-1):Int) ≤ ((-1):Int32).toInt)), (Int.le_trans (by decide : ((-1):Int32).toInt ≤ ((-1):Int)) (by decide : ((-1):Int) ≤ 2147483647))⟩⟩
      · have l10 : 0 ≤ ar1.toInt := t_lel (t_nlt h7) (by decide : (0:Int) ≤ (0:Int32).toInt)
        refine ev_loc f_X11_reading (nx := 20) rfl rfl rfl rfl ?_
        refine ev_loc f_X11_reading (nx := 21) rfl rfl rfl rfl ?_
        refine ev_getI f_X11_reading (nx := 24) rfl (hI.wf.s rfl) rfl rfl rfl ?_
        obtain ⟨l11, u11⟩ := hI.b (hI.wf.s (k := 0) rfl) (t_bdK rfl : t_bd 10 14 = some (0, 474))
        refine ev_if f_X11_reading (t1 := 34) (t2 := 27) rfl rfl rfl (fun h12 => ?_) (fun h12 => ?_)
        · have u13 : ar1.toInt ≤ 473 := t_ltu h12 u11 rfl
          have l14 : 1 ≤ (gi 0 14).toInt := t_ltl h12 l10 rfl
          refine ev_loc f_X11_reading (nx := 35) rfl rfl rfl rfl ?_
          refine ev_if f_X11_reading (t1 := 60) (t2 := 38) rfl rfl rfl (fun h15 => ?_) (fun h15 => ?_)
          · have u16 : ar2.toInt ≤ 0 := t_leu h15 (by decide : (0:Int32).toInt ≤ (0:Int))
            refine ev_loc f_X11_reading (nx := 61) rfl rfl rfl rfl ?_
            refine ev_loc f_X11_reading (nx := 62) rfl rfl rfl rfl ?_
            refine ev_getR f_X11_reading (nx := 65) rfl (hI.wf.s rfl) rfl rfl (hI.wf.r rfl) rfl rfl ?_
            refine ev_ic f_X11_reading (nx := 66) (v := 3) rfl (by decide) rfl ?_
            refine ev_loc f_X11_reading (nx := 67) rfl rfl rfl rfl ?_
            refine ev_mulL f_X11_reading (nx := 68) (c := 3) (l := 0) (u := 1419) rfl (by decide) (by decide) l10 u13 rfl rfl (by decide) (by decide) rfl (fun z17 e17 l17 u17 => ?_)
            refine ev_loc f_X11_reading (nx := 69) rfl rfl rfl rfl ?_
            refine ev_addR f_X11_reading (nx := 70) (l := 0) (u := 1419) rfl l17 u17 l4 u16 rfl rfl (by decide) (by decide) rfl (fun z18 e18 l18 u18 => ?_)
            refine ev_ialdT f_X11_reading (nx := 71) rfl (hI.wf.s rfl) l18 (by decide) u18 (by decide) rfl (fun w19 e19 => ?_)
            refine ev_inV2 f_X11_reading (nx := 74) (lo2 := [(0, .ref 0), (1, .int w19)]) rfl rfl rfl rfl f_X11_answer (hI.wf.s rfl) rfl rfl rfl rfl rfl ?_
            refine ev_loc f_X11_answer (nx := 1) rfl rfl rfl rfl ?_
            refine ev_ic f_X11_answer (nx := 2) (v := 0) rfl (by decide) rfl ?_
            refine ev_putIT f_X11_answer (nx := 5) rfl (hI.wf.s rfl) rfl rfl rfl (hI.put0 (hI.wf.s rfl) rfl rfl) (hX.upI rfl) (fun g20 e20 hI hX => ?_)
            refine ev_loc f_X11_answer (nx := 6) rfl rfl rfl rfl ?_
            refine ev_retK1 f_X11_answer rfl rfl rfl ?_
            exact ev_ret f_X11_reading rfl rfl rfl ⟨_, _, _, rfl, hI, hX, ⟨_, rfl, (t_lo w19), (t_hi w19)⟩⟩
          · have l21 : 1 ≤ ar2.toInt := t_ltl (t_nle h15) (by decide : (0:Int) ≤ (0:Int32).toInt) rfl
            refine ev_loc f_X11_reading (nx := 39) rfl rfl rfl rfl ?_
            refine ev_getR f_X11_reading (nx := 42) rfl (hI.wf.s rfl) rfl rfl (hI.wf.r rfl) rfl rfl ?_
            refine ev_ic f_X11_reading (nx := 43) (v := 3) rfl (by decide) rfl ?_
            refine ev_loc f_X11_reading (nx := 44) rfl rfl rfl rfl ?_
            refine ev_mulL f_X11_reading (nx := 45) (c := 3) (l := 0) (u := 1419) rfl (by decide) (by decide) l10 u13 rfl rfl (by decide) (by decide) rfl (fun z22 e22 l22 u22 => ?_)
            refine ev_ic f_X11_reading (nx := 46) (v := 1) rfl (by decide) rfl ?_
            refine ev_addC f_X11_reading (nx := 47) (c := 1) (l := 1) (u := 1420) rfl (by decide) l22 u22 rfl rfl (by decide) (by decide) rfl (fun z23 e23 l23 u23 => ?_)
            refine ev_ialdT f_X11_reading (nx := 48) rfl (hI.wf.s rfl) l23 (by decide) u23 (by decide) rfl (fun w24 e24 => ?_)
            refine ev_bp f_X11_reading (nx := 50) (v := 6) rfl (by decide) rfl ?_
            refine ev_if f_X11_reading (t1 := 53) (t2 := 60) rfl rfl rfl (fun h25 => ?_) (fun h25 => ?_)
            · have u26 : w24.toInt ≤ 6 := t_equ h25 (by decide : (6:Int32).toInt ≤ (6:Int))
              have l27 : 6 ≤ w24.toInt := t_eql h25 (by decide : (6:Int) ≤ (6:Int32).toInt)
              refine ev_loc f_X11_reading (nx := 54) rfl rfl rfl rfl ?_
              refine ev_bp f_X11_reading (nx := 56) (v := 6) rfl (by decide) rfl ?_
              refine ev_inV2 f_X11_reading (nx := 59) (lo2 := [(0, .ref 0), (1, .int 6)]) rfl rfl rfl rfl f_X11_refuse (hI.wf.s rfl) rfl rfl rfl rfl rfl ?_
              refine ev_loc f_X11_refuse (nx := 1) rfl rfl rfl rfl ?_
              refine ev_loc f_X11_refuse (nx := 2) rfl rfl rfl rfl ?_
              refine ev_putIT f_X11_refuse (nx := 5) rfl (hI.wf.s rfl) rfl rfl rfl (hI.put0 (hI.wf.s rfl) rfl rfl) (hX.upI rfl) (fun g28 e28 hI hX => ?_)
              refine ev_ic f_X11_refuse (nx := 6) (v := -1) rfl (by decide) rfl ?_
              refine ev_retK1 f_X11_refuse rfl rfl rfl ?_
              exact ev_ret f_X11_reading rfl rfl rfl ⟨_, _, _, rfl, hI, hX, ⟨_, rfl, (Int.le_trans (by decide : ((-2147483648):Int) ≤ (-1)) (by decide : ((-1):Int) ≤ ((-1):Int32).toInt)), (Int.le_trans (by decide : ((-1):Int32).toInt ≤ ((-1):Int)) (by decide : ((-1):Int) ≤ 2147483647))⟩⟩
            · refine ev_loc f_X11_reading (nx := 61) rfl rfl rfl rfl ?_
              refine ev_loc f_X11_reading (nx := 62) rfl rfl rfl rfl ?_
              refine ev_getR f_X11_reading (nx := 65) rfl (hI.wf.s rfl) rfl rfl (hI.wf.r rfl) rfl rfl ?_
              refine ev_ic f_X11_reading (nx := 66) (v := 3) rfl (by decide) rfl ?_
              refine ev_loc f_X11_reading (nx := 67) rfl rfl rfl rfl ?_
              refine ev_mulL f_X11_reading (nx := 68) (c := 3) (l := 0) (u := 1419) rfl (by decide) (by decide) l10 u13 rfl rfl (by decide) (by decide) rfl (fun z29 e29 l29 u29 => ?_)
              refine ev_loc f_X11_reading (nx := 69) rfl rfl rfl rfl ?_
              refine ev_addR f_X11_reading (nx := 70) (l := 1) (u := 1421) rfl l29 u29 l21 u6 rfl rfl (by decide) (by decide) rfl (fun z30 e30 l30 u30 => ?_)
              refine ev_ialdT f_X11_reading (nx := 71) rfl (hI.wf.s rfl) l30 (by decide) u30 (by decide) rfl (fun w31 e31 => ?_)
              refine ev_inV2 f_X11_reading (nx := 74) (lo2 := [(0, .ref 0), (1, .int w31)]) rfl rfl rfl rfl f_X11_answer (hI.wf.s rfl) rfl rfl rfl rfl rfl ?_
              refine ev_loc f_X11_answer (nx := 1) rfl rfl rfl rfl ?_
              refine ev_ic f_X11_answer (nx := 2) (v := 0) rfl (by decide) rfl ?_
              refine ev_putIT f_X11_answer (nx := 5) rfl (hI.wf.s rfl) rfl rfl rfl (hI.put0 (hI.wf.s rfl) rfl rfl) (hX.upI rfl) (fun g32 e32 hI hX => ?_)
              refine ev_loc f_X11_answer (nx := 6) rfl rfl rfl rfl ?_
              refine ev_retK1 f_X11_answer rfl rfl rfl ?_
              exact ev_ret f_X11_reading rfl rfl rfl ⟨_, _, _, rfl, hI, hX, ⟨_, rfl, (t_lo w31), (t_hi w31)⟩⟩
        · refine ev_loc f_X11_reading (nx := 28) rfl rfl rfl rfl ?_
          refine ev_bp f_X11_reading (nx := 30) (v := 6) rfl (by decide) rfl ?_
          refine ev_inV2 f_X11_reading (nx := 33) (lo2 := [(0, .ref 0), (1, .int 6)]) rfl rfl rfl rfl f_X11_refuse (hI.wf.s rfl) rfl rfl rfl rfl rfl ?_
          refine ev_loc f_X11_refuse (nx := 1) rfl rfl rfl rfl ?_
          refine ev_loc f_X11_refuse (nx := 2) rfl rfl rfl rfl ?_
          refine ev_putIT f_X11_refuse (nx := 5) rfl (hI.wf.s rfl) rfl rfl rfl (hI.put0 (hI.wf.s rfl) rfl rfl) (hX.upI rfl) (fun g33 e33 hI hX => ?_)
          refine ev_ic f_X11_refuse (nx := 6) (v := -1) rfl (by decide) rfl ?_
          refine ev_retK1 f_X11_refuse rfl rfl rfl ?_
          exact ev_ret f_X11_reading rfl rfl rfl ⟨_, _, _, rfl, hI, hX, ⟨_, rfl, (Int.le_trans (by decide : ((-2147483648):Int) ≤ (-1)) (by decide : ((-1):Int) ≤ ((-1):Int32).toInt)), (Int.le_trans (by decide : ((-1):Int32).toInt ≤ ((-1):Int)) (by decide : ((-1):Int) ≤ 2147483647))⟩⟩
    · have l34 : 3 ≤ ar2.toInt := t_ltl (t_nle h5) (by decide : (2:Int) ≤ (2:Int32).toInt) rfl
      refine ev_loc f_X11_reading (nx := 10) rfl rfl rfl rfl ?_
      refine ev_ic f_X11_reading (nx := 11) (v := 1) rfl (by decide) rfl ?_
      refine ev_inV2 f_X11_reading (nx := 14) (lo2 := [(0, .ref 0), (1, .int 1)]) rfl rfl rfl rfl f_X11_refuse (hI.wf.s rfl) rfl rfl rfl rfl rfl ?_
      refine ev_loc f_X11_refuse (nx := 1) rfl rfl rfl rfl ?_
      refine ev_loc f_X11_refuse (nx := 2) rfl rfl rfl rfl ?_
      refine ev_putIT f_X11_refuse (nx := 5) rfl (hI.wf.s rfl) rfl rfl rfl (hI.put0 (hI.wf.s rfl) rfl rfl) (hX.upI rfl) (fun g35 e35 hI hX => ?_)
      refine ev_ic f_X11_refuse (nx := 6) (v := -1) rfl (by decide) rfl ?_
      refine ev_retK1 f_X11_refuse rfl rfl rfl ?_
      exact ev_ret f_X11_reading rfl rfl rfl ⟨_, _, _, rfl, hI, hX, ⟨_, rfl, (Int.le_trans (by decide : ((-2147483648):Int) ≤ (-1)) (by decide : ((-1):Int) ≤ ((-1):Int32).toInt)), (Int.le_trans (by decide : ((-1):Int32).toInt ≤ ((-1):Int)) (by decide : ((-1):Int) ≤ 2147483647))⟩⟩
noncomputable def wl_h_alike : List (Nat × Nat) := [(0, 0)]
theorem c_h_alike {X : x_Ext} {d : Nat} {sh : List (Nat ⊕ (Nat × Nat))} {gi : Nat → Nat → Int32} {gl : Nat → Nat → Int64} {gr : Nat → Nat → Value} (hI : t_I sh gi gr) : x_Me X (d + 3) n_X11_alike [.ref 0] (sh, gi, gl, gr) (t_P wl_h_alike sh gi gl gr (t_Ri (-2147483648) 2147483647)) := by
  have hX : t_X wl_h_alike sh gi gl gr gi gl gr := t_X.rf
  refine me_i f_X11_alike (hI.wf.s rfl) rfl rfl rfl ?_
  refine ev_loc f_X11_alike (nx := 1) rfl rfl rfl rfl ?_
  refine ev_loc f_X11_alike (nx := 2) rfl rfl rfl rfl ?_
  obtain ⟨a1, e1, p1⟩ := hI.2.2.2.1.1
  refine ev_getR f_X11_alike (nx := 5) rfl (hI.wf.s rfl) rfl rfl e1 rfl rfl ?_
  refine ev_loc f_X11_alike (nx := 6) rfl rfl rfl rfl ?_
  refine ev_getR f_X11_alike (nx := 9) (v := .ref a1) rfl (hI.wf.s rfl) rfl rfl e1 rfl rfl ?_
  refine ev_getI f_X11_alike (nx := 12) rfl p1.1 rfl rfl rfl ?_
  refine ev_cI f_X11_alike (nx := 15) (r := [.ref 0]) rfl rfl rfl rfl rfl rfl rfl (c_couplesAlike hI (a1) p1 ((gi a1 6))) rfl hX rfl (fun w2 gi2 gl2 gr2 l2 u2 hI hX hC2 => ?_)
  replace p1 := p1.ext hC2.2
  refine ev_inV2 f_X11_alike (nx := 18) (lo2 := [(0, .ref 0), (1, .int w2)]) rfl rfl rfl rfl f_X11_answer (hI.wf.s rfl) rfl rfl rfl rfl rfl ?_
  refine ev_loc f_X11_answer (nx := 1) rfl rfl rfl rfl ?_
  refine ev_ic f_X11_answer (nx := 2) (v := 0) rfl (by decide) rfl ?_
  refine ev_putIT f_X11_answer (nx := 5) rfl (hI.wf.s rfl) rfl rfl rfl (hI.put0 (hI.wf.s rfl) rfl rfl) (hX.upI rfl) (fun g3 e3 hI hX => ?_)
  refine ev_loc f_X11_answer (nx := 6) rfl rfl rfl rfl ?_
  refine ev_retK1 f_X11_answer rfl rfl rfl ?_
  exact ev_ret f_X11_alike rfl rfl rfl ⟨_, _, _, rfl, hI, hX, ⟨_, rfl, l2, u2⟩⟩
noncomputable def wl_h_code : List (Nat × Nat) := [(0, 0), (22, 6), (25, 9999), (26, 9999), (27, 9999)]
theorem c_h_code {X : x_Ext} {d : Nat} {sh : List (Nat ⊕ (Nat × Nat))} {gi : Nat → Nat → Int32} {gl : Nat → Nat → Int64} {gr : Nat → Nat → Value} (hI : t_I sh gi gr) (ar1 : Int32) (ar2 : Int32) (ar3 : Int32) : x_Me X (d + 11) n_X11_code [.ref 0, .int ar1, .int ar2, .int ar3] (sh, gi, gl, gr) (t_P wl_h_code sh gi gl gr (t_Ri (-2147483648) 2147483647)) := by
  have hX : t_X wl_h_code sh gi gl gr gi gl gr := t_X.rf
  refine me_i f_X11_code (hI.wf.s rfl) rfl rfl rfl ?_
  refine ev_loc f_X11_code (nx := 1) rfl rfl rfl rfl ?_
  refine ev_ic f_X11_code (nx := 2) (v := 1) rfl (by decide) rfl ?_
  refine ev_if f_X11_code (t1 := 30) (t2 := 5) rfl rfl rfl (fun h1 => ?_) (fun h1 => ?_)
  · have u2 : ar1.toInt ≤ 0 := t_ltu h1 (by decide : (1:Int32).toInt ≤ (1:Int)) rfl
    refine ev_loc f_X11_code (nx := 31) rfl rfl rfl rfl ?_
    refine ev_ic f_X11_code (nx := 32) (v := 1) rfl (by decide) rfl ?_
    refine ev_inV2 f_X11_code (nx := 35) (lo2 := [(0, .ref 0), (1, .int 1)]) rfl rfl rfl rfl f_X11_refuse (hI.wf.s rfl) rfl rfl rfl rfl rfl ?_
    refine ev_loc f_X11_refuse (nx := 1) rfl rfl rfl rfl ?_
    refine ev_loc f_X11_refuse (nx := 2) rfl rfl rfl rfl ?_
    refine ev_putIT f_X11_refuse (nx := 5) rfl (hI.wf.s rfl) rfl rfl rfl (hI.put0 (hI.wf.s rfl) rfl rfl) (hX.upI rfl) (fun g3 e3 hI hX => ?_)
    refine ev_ic f_X11_refuse (nx := 6) (v := -1) rfl (by decide) rfl ?_
    refine ev_retK1 f_X11_refuse rfl rfl rfl ?_
    exact ev_ret f_X11_code rfl rfl rfl ⟨_, _, _, rfl, hI, hX, ⟨_, rfl, (Int.le_trans (by decide : ((-2147483648):Int) ≤ (-1)) (by decide : ((-1):Int) ≤ ((-1):Int32).toInt)), (Int.le_trans (by decide : ((-1):Int32).toInt ≤ ((-1):Int)) (by decide : ((-1):Int) ≤ 2147483647))⟩⟩
  · have l4 : 1 ≤ ar1.toInt := t_lel (t_nlt h1) (by decide : (1:Int) ≤ (1:Int32).toInt)
    refine ev_loc f_X11_code (nx := 6) rfl rfl rfl rfl ?_
    refine ev_ic f_X11_code (nx := 7) (v := 4) rfl (by decide) rfl ?_
    refine ev_if f_X11_code (t1 := 30) (t2 := 10) rfl rfl rfl (fun h5 => ?_) (fun h5 => ?_)
    · have l6 : 5 ≤ ar1.toInt := t_ltl h5 (by decide : (4:Int) ≤ (4:Int32).toInt) rfl
      refine ev_loc f_X11_code (nx := 31) rfl rfl rfl rfl ?_
      refine ev_ic f_X11_code (nx := 32) (v := 1) rfl (by decide) rfl ?_
      refine ev_inV2 f_X11_code (nx := 35) (lo2 := [(0, .ref 0), (1, .int 1)]) rfl rfl rfl rfl f_X11_refuse (hI.wf.s rfl) rfl rfl rfl rfl rfl ?_
      refine ev_loc f_X11_refuse (nx := 1) rfl rfl rfl rfl ?_
      refine ev_loc f_X11_refuse (nx := 2) rfl rfl rfl rfl ?_
      refine ev_putIT f_X11_refuse (nx := 5) rfl (hI.wf.s rfl) rfl rfl rfl (hI.put0 (hI.wf.s rfl) rfl rfl) (hX.upI rfl) (fun g7 e7 hI hX => ?_)
      refine ev_ic f_X11_refuse (nx := 6) (v := -1) rfl (by decide) rfl ?_
      refine ev_retK1 f_X11_refuse rfl rfl rfl ?_
      exact ev_ret f_X11_code rfl rfl rfl ⟨_, _, _, rfl, hI, hX, ⟨_, rfl, (Int.le_trans (by decide : ((-2147483648):Int) ≤ (-1)) (by decide : ((-1):Int) ≤ ((-1):Int32).toInt)), (Int.le_trans (by decide : ((-1):Int32).toInt ≤ ((-1):Int)) (by decide : ((-1):Int) ≤ 2147483647))⟩⟩
    · have u8 : ar1.toInt ≤ 4 := t_leu (t_nlt h5) (by decide : (4:Int32).toInt ≤ (4:Int))
      refine ev_loc f_X11_code (nx := 11) rfl rfl rfl rfl ?_
      refine ev_ic f_X11_code (nx := 12) (v := 1) rfl (by decide) rfl ?_
      refine ev_if f_X11_code (t1 := 30) (t2 := 15) rfl rfl rfl (fun h9 => ?_) (fun h9 => ?_)
      · have u10 : ar2.toInt ≤ 0 := t_ltu h9 (by decide : (1:Int32).toInt ≤ (1:Int)) rfl
        refine ev_loc f_X11_code (nx := 31) rfl rfl rfl rfl ?_
        refine ev_ic f_X11_code (nx := 32) (v := 1) rfl (by decide) rfl ?_
        refine ev_inV2 f_X11_code (nx := 35) (lo2 := [(0, .ref 0), (1, .int 1)]) rfl rfl rfl rfl f_X11_refuse (hI.wf.s rfl) rfl rfl rfl rfl rfl ?_
        refine ev_loc f_X11_refuse (nx := 1) rfl rfl rfl rfl ?_
        refine ev_loc f_X11_refuse (nx := 2) rfl rfl rfl rfl ?_
        refine ev_putIT f_X11_refuse (nx := 5) rfl (hI.wf.s rfl) rfl rfl rfl (hI.put0 (hI.wf.s rfl) rfl rfl) (hX.upI rfl) (fun g11 e11 hI hX => ?_)
        refine ev_ic f_X11_refuse (nx := 6) (v := -1) rfl (by decide) rfl ?_
        refine ev_retK1 f_X11_refuse rfl rfl rfl ?_
        exact ev_ret f_X11_code rfl rfl rfl ⟨_, _, _, rfl, hI, hX, ⟨_, rfl, (Int.le_trans (by decide : ((-2147483648):Int) ≤ (-1)) (by decide : ((-1):Int) ≤ ((-1):Int32).toInt)), (Int.le_trans (by decide : ((-1):Int32).toInt ≤ ((-1):Int)) (by decide : ((-1):Int) ≤ 2147483647))⟩⟩
      · have l12 : 1 ≤ ar2.toInt := t_lel (t_nlt h9) (by decide : (1:Int) ≤ (1:Int32).toInt)
        refine ev_loc f_X11_code (nx := 16) rfl rfl rfl rfl ?_
        refine ev_ic f_X11_code (nx := 17) (v := 4) rfl (by decide) rfl ?_
        refine ev_if f_X11_code (t1 := 30) (t2 := 20) rfl rfl rfl (fun h13 => ?_) (fun h13 => ?_)
        · have l14 : 5 ≤ ar2.toInt := t_ltl h13 (by decide : (4:Int) ≤ (4:Int32).toInt) rfl
          refine ev_loc f_X11_code (nx := 31) rfl rfl rfl rfl ?_
          refine ev_ic f_X11_code (nx := 32) (v := 1) rfl (by decide) rfl ?_
          refine ev_inV2 f_X11_code (nx := 35) (lo2 := [(0, .ref 0), (1, .int 1)]) rfl rfl rfl rfl f_X11_refuse (hI.wf.s rfl) rfl rfl rfl rfl rfl ?_
          refine ev_loc f_X11_refuse (nx := 1) rfl rfl rfl rfl ?_
          refine ev_loc f_X11_refuse (nx := 2) rfl rfl rfl rfl ?_
          refine ev_putIT f_X11_refuse (nx := 5) rfl (hI.wf.s rfl) rfl rfl rfl (hI.put0 (hI.wf.s rfl) rfl rfl) (hX.upI rfl) (fun g15 e15 hI hX => ?_)
          refine ev_ic f_X11_refuse (nx := 6) (v := -1) rfl (by decide) rfl ?_
          refine ev_retK1 f_X11_refuse rfl rfl rfl ?_
          exact ev_ret f_X11_code rfl rfl rfl ⟨_, _, _, rfl, hI, hX, ⟨_, rfl, (Int.le_trans (by decide : ((-2147483648):Int) ≤ (-1)) (by decide : ((-1):Int) ≤ ((-1):Int32).toInt)), (Int.le_trans (by decide : ((-1):Int32).toInt ≤ ((-1):Int)) (by decide : ((-1):Int) ≤ 2147483647))⟩⟩
        · have u16 : ar2.toInt ≤ 4 := t_leu (t_nlt h13) (by decide : (4:Int32).toInt ≤ (4:Int))
          refine ev_loc f_X11_code (nx := 21) rfl rfl rfl rfl ?_
          refine ev_if f_X11_code (t1 := 30) (t2 := 24) rfl rfl rfl (fun h17 => ?_) (fun h17 => ?_)
          · have u18 : ar3.toInt ≤ (-1) := t_ltu h17 (by decide : (0:Int32).toInt ≤ (0:Int)) rfl
            refine ev_loc f_X11_code (nx := 31) rfl rfl rfl rfl ?_
            refine ev_ic f_X11_code (nx := 32) (v := 1) rfl (by decide) rfl ?_
            refine ev_inV2 f_X11_code (nx := 35) (lo2 := [(0, .ref 0), (1, .int 1)]) rfl rfl rfl rfl f_X11_refuse (hI.wf.s rfl) rfl rfl rfl rfl rfl ?_
            refine ev_loc f_X11_refuse (nx := 1) rfl rfl rfl rfl ?_
            refine ev_loc f_X11_refuse (nx := 2) rfl rfl rfl rfl ?_
            refine ev_putIT f_X11_refuse (nx := 5) rfl (hI.wf.s rfl) rfl rfl rfl (hI.put0 (hI.wf.s rfl) rfl rfl) (hX.upI rfl) (fun g19 e19 hI hX => ?_)
            refine ev_ic f_X11_refuse (nx := 6) (v := -1) rfl (by decide) rfl ?_
            refine ev_retK1 f_X11_refuse rfl rfl rfl ?_
            exact ev_ret f_X11_code rfl rfl rfl ⟨_, _, _, rfl, hI, hX, ⟨_, rfl, (Int.le_trans (by decide : ((-2147483648):Int) ≤ (-1)) (by decide : ((-1):Int) ≤ ((-1):Int32).toInt)), (Int.le_trans (by decide : ((-1):Int32).toInt ≤ ((-1):Int)) (by decide : ((-1):Int) ≤ 2147483647))⟩⟩
          · have l20 : 0 ≤ ar3.toInt := t_lel (t_nlt h17) (by decide : (0:Int) ≤ (0:Int32).toInt)
            refine ev_loc f_X11_code (nx := 25) rfl rfl rfl rfl ?_
            refine ev_bp f_X11_code (nx := 27) (v := 9) rfl (by decide) rfl ?_
            refine ev_if f_X11_code (t1 := 36) (t2 := 30) rfl rfl rfl (fun h21 => ?_) (fun h21 => ?_)
            · have u22 : ar3.toInt ≤ 9 := t_leu h21 (by decide : (9:Int32).toInt ≤ (9:Int))
              refine ev_loc f_X11_code (nx := 37) rfl rfl rfl rfl ?_
              refine ev_getR f_X11_code (nx := 40) rfl (hI.wf.s rfl) rfl rfl (hI.wf.r rfl) rfl rfl ?_
              refine ev_loc f_X11_code (nx := 41) rfl rfl rfl rfl ?_
              refine ev_loc f_X11_code (nx := 42) rfl rfl rfl rfl ?_
              refine ev_loc f_X11_code (nx := 43) rfl rfl rfl rfl ?_
              refine ev_cI f_X11_code (nx := 46) (r := []) rfl rfl rfl rfl rfl rfl rfl (c_find hI (ar1) l4 u8 (ar2) l12 u16 (ar3) l20 u22) rfl hX rfl (fun w23 gi23 gl23 gr23 l23 u23 hI hX hC23 => ?_)
              refine ev_if f_X11_code (t1 := 63) (t2 := 49) rfl rfl rfl (fun h24 => ?_) (fun h24 => ?_)
              · have u25 : w23.toInt ≤ 0 := t_equ h24 (by decide : (0:Int32).toInt ≤ (0:Int))
                refine ev_loc f_X11_code (nx := 64) rfl rfl rfl rfl ?_
                refine ev_bp f_X11_code (nx := 66) (v := 6) rfl (by decide) rfl ?_
                refine ev_inV2 f_X11_code (nx := 69) (lo2 := [(0, .ref 0), (1, .int 6)]) rfl rfl rfl rfl f_X11_refuse (hI.wf.s rfl) rfl rfl rfl rfl rfl ?_
                refine ev_loc f_X11_refuse (nx := 1) rfl rfl rfl rfl ?_
                refine ev_loc f_X11_refuse (nx := 2) rfl rfl rfl rfl ?_
                refine ev_putIT f_X11_refuse (nx := 5) rfl (hI.wf.s rfl) rfl rfl rfl (hI.put0 (hI.wf.s rfl) rfl rfl) (hX.upI rfl) (fun g26 e26 hI hX => ?_)
                refine ev_ic f_X11_refuse (nx := 6) (v := -1) rfl (by decide) rfl ?_
                refine ev_retK1 f_X11_refuse rfl rfl rfl ?_
                exact ev_ret f_X11_code rfl rfl rfl ⟨_, _, _, rfl, hI, hX, ⟨_, rfl, (Int.le_trans (by decide : ((-2147483648):Int) ≤ (-1)) (by decide : ((-1):Int) ≤ ((-1):Int32).toInt)), (Int.le_trans (by decide : ((-1):Int32).toInt ≤ ((-1):Int)) (by decide : ((-1):Int) ≤ 2147483647))⟩⟩
              · have l27 : 1 ≤ w23.toInt := t_nel h24 l23 rfl rfl
                refine ev_loc f_X11_code (nx := 50) rfl rfl rfl rfl ?_
                refine ev_loc f_X11_code (nx := 51) rfl rfl rfl rfl ?_
                refine ev_getR f_X11_code (nx := 54) rfl (hI.wf.s rfl) rfl rfl (hI.wf.r rfl) rfl rfl ?_
                refine ev_cI f_X11_code (nx := 57) (r := [.ref 0]) rfl rfl rfl rfl rfl rfl rfl (c_blastsTold hI ) rfl hX rfl (fun w28 gi28 gl28 gr28 l28 u28 hI hX hC28 => ?_)
                refine ev_inV2 f_X11_code (nx := 60) (lo2 := [(0, .ref 0), (1, .int w28)]) rfl rfl rfl rfl f_X11_answer (hI.wf.s rfl) rfl rfl rfl rfl rfl ?_
                refine ev_loc f_X11_answer (nx := 1) rfl rfl rfl rfl ?_
                refine ev_ic f_X11_answer (nx := 2) (v := 0) rfl (by decide) rfl ?_
                refine ev_putIT f_X11_answer (nx := 5) rfl (hI.wf.s rfl) rfl rfl rfl (hI.put0 (hI.wf.s rfl) rfl rfl) (hX.upI rfl) (fun g29 e29 hI hX => ?_)
                refine ev_loc f_X11_answer (nx := 6) rfl rfl rfl rfl ?_
                refine ev_retK1 f_X11_answer rfl rfl rfl ?_
                refine ev_jmp f_X11_code (nx := 69) rfl rfl rfl ?_
                exact ev_ret f_X11_code rfl rfl rfl ⟨_, _, _, rfl, hI, hX, ⟨_, rfl, l28, u28⟩⟩
            · have l30 : 10 ≤ ar3.toInt := t_ltl (t_nle h21) (by decide : (9:Int) ≤ (9:Int32).toInt) rfl
              refine ev_loc f_X11_code (nx := 31) rfl rfl rfl rfl ?_
              refine ev_ic f_X11_code (nx := 32) (v := 1) rfl (by decide) rfl ?_
              refine ev_inV2 f_X11_code (nx := 35) (lo2 := [(0, .ref 0), (1, .int 1)]) rfl rfl rfl rfl f_X11_refuse (hI.wf.s rfl) rfl rfl rfl rfl rfl ?_
              refine ev_loc f_X11_refuse (nx := 1) rfl rfl rfl rfl ?_
              refine ev_loc f_X11_refuse (nx := 2) rfl rfl rfl rfl ?_
              refine ev_putIT f_X11_refuse (nx := 5) rfl (hI.wf.s rfl) rfl rfl rfl (hI.put0 (hI.wf.s rfl) rfl rfl) (hX.upI rfl) (fun g31 e31 hI hX => ?_)
              refine ev_ic f_X11_refuse (nx := 6) (v := -1) rfl (by decide) rfl ?_
              refine ev_retK1 f_X11_refuse rfl rfl rfl ?_
              exact ev_ret f_X11_code rfl rfl rfl ⟨_, _, _, rfl, hI, hX, ⟨_, rfl, (Int.le_trans (by decide : ((-2147483648):Int) ≤ (-1)) (by decide : ((-1):Int) ≤ ((-1):Int32).toInt)), (Int.le_trans (by decide : ((-1):Int32).toInt ≤ ((-1):Int)) (by decide : ((-1):Int) ≤ 2147483647))⟩⟩
noncomputable def wl_h_codeAt : List (Nat × Nat) := [(0, 0)]
theorem c_h_codeAt {X : x_Ext} {d : Nat} {sh : List (Nat ⊕ (Nat × Nat))} {gi : Nat → Nat → Int32} {gl : Nat → Nat → Int64} {gr : Nat → Nat → Value} (hI : t_I sh gi gr) (ar1 : Int32) : x_Me X (d + 2) n_X11_codeAt [.ref 0, .int ar1] (sh, gi, gl, gr) (t_P wl_h_codeAt sh gi gl gr t_Rl) := by
  have hX : t_X wl_h_codeAt sh gi gl gr gi gl gr := t_X.rf
  refine me_i f_X11_codeAt (hI.wf.s rfl) rfl rfl rfl ?_
  refine ev_loc f_X11_codeAt (nx := 1) rfl rfl rfl rfl ?_
  refine ev_if f_X11_codeAt (t1 := 15) (t2 := 4) rfl rfl rfl (fun h1 => ?_) (fun h1 => ?_)
  · have u2 : ar1.toInt ≤ (-1) := t_ltu h1 (by decide : (0:Int32).toInt ≤ (0:Int)) rfl
    refine ev_loc f_X11_codeAt (nx := 16) rfl rfl rfl rfl ?_
    refine ev_bp f_X11_codeAt (nx := 18) (v := 6) rfl (by decide) rfl ?_
    refine ev_inV2 f_X11_codeAt (nx := 21) (lo2 := [(0, .ref 0), (1, .int 6)]) rfl rfl rfl rfl f_X11_refuse (hI.wf.s rfl) rfl rfl rfl rfl rfl ?_
    refine ev_loc f_X11_refuse (nx := 1) rfl rfl rfl rfl ?_
    refine ev_loc f_X11_refuse (nx := 2) rfl rfl rfl rfl ?_
    refine ev_putIT f_X11_refuse (nx := 5) rfl (hI.wf.s rfl) rfl rfl rfl (hI.put0 (hI.wf.s rfl) rfl rfl) (hX.upI rfl) (fun g3 e3 hI hX => ?_)
    refine ev_ic f_X11_refuse (nx := 6) (v := -1) rfl (by decide) rfl ?_
    refine ev_retK1 f_X11_refuse rfl rfl rfl ?_
    refine ev_aluvL f_X11_codeAt (nx := 22) (w := -1) rfl rfl rfl (by decide) rfl ?_
    exact ev_ret f_X11_codeAt rfl rfl rfl ⟨_, _, _, rfl, hI, hX, ⟨_, rfl⟩⟩
  · have l4 : 0 ≤ ar1.toInt := t_lel (t_nlt h1) (by decide : (0:Int) ≤ (0:Int32).toInt)
    refine ev_loc f_X11_codeAt (nx := 5) rfl rfl rfl rfl ?_
    refine ev_loc f_X11_codeAt (nx := 6) rfl rfl rfl rfl ?_
    refine ev_getR f_X11_codeAt (nx := 9) rfl (hI.wf.s rfl) rfl rfl (hI.wf.r rfl) rfl rfl ?_
    refine ev_getI f_X11_codeAt (nx := 12) rfl (hI.wf.s rfl) rfl rfl rfl ?_
    obtain ⟨l5, u5⟩ := hI.b (hI.wf.s (k := 22) rfl) (t_bdK rfl : t_bd 0 6 = some (0, 4))
    refine ev_if f_X11_codeAt (t1 := 23) (t2 := 15) rfl rfl rfl (fun h6 => ?_) (fun h6 => ?_)
    · have u7 : ar1.toInt ≤ 3 := t_ltu h6 u5 rfl
      have l8 : 1 ≤ (gi 22 6).toInt := t_ltl h6 l4 rfl
      refine ev_loc f_X11_codeAt (nx := 24) rfl rfl rfl rfl ?_
      refine ev_loc f_X11_codeAt (nx := 25) rfl rfl rfl rfl ?_
      refine ev_getR f_X11_codeAt (nx := 28) rfl (hI.wf.s rfl) rfl rfl (hI.wf.r rfl) rfl rfl ?_
      refine ev_loc f_X11_codeAt (nx := 29) rfl rfl rfl rfl ?_
      refine ev_inV2 f_X11_codeAt (nx := 32) (lo2 := [(0, .ref 22), (1, .int ar1)]) rfl rfl rfl rfl f_X0_callTold (hI.wf.s rfl) rfl rfl rfl rfl rfl ?_
      refine ev_loc f_X0_callTold (nx := 1) rfl rfl rfl rfl ?_
      refine ev_f f_X0_callTold (t1 := 26) (t2 := 4) rfl rfl rfl (t_ltF (by decide : (0:Int32).toInt ≤ (0:Int)) l4 (by decide)) ?_
      refine ev_loc f_X0_callTold (nx := 5) rfl rfl rfl rfl ?_
      refine ev_loc f_X0_callTold (nx := 6) rfl rfl rfl rfl ?_
      refine ev_gvI f_X0_callTold (nx := 9) (w := (gi 22 6)) rfl (hI.wf.s rfl) rfl rfl rfl rfl ?_
      refine ev_if f_X0_callTold (t1 := 26) (t2 := 12) rfl rfl rfl (fun h9 => ?_) (fun h9 => ?_)
      · have u10 : (gi 22 6).toInt ≤ 3 := t_leu h9 u7
        have l11 : 1 ≤ ar1.toInt := t_lel h9 l8
        refine ev_ldL f_X0_callTold (nx := 29) (v := -1) rfl (by decide) rfl ?_
        refine ev_retK1 f_X0_callTold rfl rfl rfl ?_
        refine ev_inV2 f_X11_codeAt (nx := 35) (lo2 := [(0, .ref 0), (1, .long (-1))]) rfl rfl rfl rfl f_X11_answerLong (hI.wf.s rfl) rfl rfl rfl rfl rfl ?_
        refine ev_loc f_X11_answerLong (nx := 1) rfl rfl rfl rfl ?_
        refine ev_ic f_X11_answerLong (nx := 2) (v := 0) rfl (by decide) rfl ?_
        refine ev_putIT f_X11_answerLong (nx := 5) rfl (hI.wf.s rfl) rfl rfl rfl (hI.put0 (hI.wf.s rfl) rfl rfl) (hX.upI rfl) (fun g12 e12 hI hX => ?_)
        refine ev_loc f_X11_answerLong (nx := 6) rfl rfl rfl rfl ?_
        refine ev_retK1 f_X11_answerLong rfl rfl rfl ?_
        exact ev_ret f_X11_codeAt rfl rfl rfl ⟨_, _, _, rfl, hI, hX, ⟨_, rfl⟩⟩
      · refine ev_loc f_X0_callTold (nx := 13) rfl rfl rfl rfl ?_
        refine ev_getR f_X0_callTold (nx := 16) rfl (hI.wf.s rfl) rfl rfl (hI.wf.r rfl) rfl rfl ?_
        refine ev_loc f_X0_callTold (nx := 17) rfl rfl rfl rfl ?_
        refine ev_getR f_X0_callTold (nx := 20) rfl (hI.wf.s rfl) rfl rfl (hI.wf.r rfl) rfl rfl ?_
        refine ev_loc f_X0_callTold (nx := 21) rfl rfl rfl rfl ?_
        refine ev_ialdT f_X0_callTold (nx := 22) rfl (hI.wf.s rfl) l4 (by decide) u7 (by decide) rfl (fun w13 e13 => ?_)
        obtain ⟨l13, u13⟩ := hI.abi e13 (by decide +kernel : t_abr 27 0 3 0 29 = true) l4 (by decide) u7 (by decide)
        refine ev_laldT f_X0_callTold (nx := 23) rfl (hI.wf.s rfl) l13 (by decide) u13 (by decide) rfl (fun w14 e14 => ?_)
        refine ev_jmp f_X0_callTold (nx := 29) rfl rfl rfl ?_
        refine ev_retK1 f_X0_callTold rfl rfl rfl ?_
        refine ev_inV2 f_X11_codeAt (nx := 35) (lo2 := [(0, .ref 0), (1, .long w14)]) rfl rfl rfl rfl f_X11_answerLong (hI.wf.s rfl) rfl rfl rfl rfl rfl ?_
        refine ev_loc f_X11_answerLong (nx := 1) rfl rfl rfl rfl ?_
        refine ev_ic f_X11_answerLong (nx := 2) (v := 0) rfl (by decide) rfl ?_
        refine ev_putIT f_X11_answerLong (nx := 5) rfl (hI.wf.s rfl) rfl rfl rfl (hI.put0 (hI.wf.s rfl) rfl rfl) (hX.upI rfl) (fun g15 e15 hI hX => ?_)
        refine ev_loc f_X11_answerLong (nx := 6) rfl rfl rfl rfl ?_
        refine ev_retK1 f_X11_answerLong rfl rfl rfl ?_
        exact ev_ret f_X11_codeAt rfl rfl rfl ⟨_, _, _, rfl, hI, hX, ⟨_, rfl⟩⟩
    · refine ev_loc f_X11_codeAt (nx := 16) rfl rfl rfl rfl ?_
      refine ev_bp f_X11_codeAt (nx := 18) (v := 6) rfl (by decide) rfl ?_
      refine ev_inV2 f_X11_codeAt (nx := 21) (lo2 := [(0, .ref 0), (1, .int 6)]) rfl rfl rfl rfl f_X11_refuse (hI.wf.s rfl) rfl rfl rfl rfl rfl ?_
      refine ev_loc f_X11_refuse (nx := 1) rfl rfl rfl rfl ?_
      refine ev_loc f_X11_refuse (nx := 2) rfl rfl rfl rfl ?_
      refine ev_putIT f_X11_refuse (nx := 5) rfl (hI.wf.s rfl) rfl rfl rfl (hI.put0 (hI.wf.s rfl) rfl rfl) (hX.upI rfl) (fun g16 e16 hI hX => ?_)
      refine ev_ic f_X11_refuse (nx := 6) (v := -1) rfl (by decide) rfl ?_
      refine ev_retK1 f_X11_refuse rfl rfl rfl ?_
      refine ev_aluvL f_X11_codeAt (nx := 22) (w := -1) rfl rfl rfl (by decide) rfl ?_
      exact ev_ret f_X11_codeAt rfl rfl rfl ⟨_, _, _, rfl, hI, hX, ⟨_, rfl⟩⟩
