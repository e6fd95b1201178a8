/-! ===== printed by alloc.py: pour, river, rules ===== -/
noncomputable def wl_h_pour : List (Nat × Nat) := [(0, 0), (62, 9999), (64, 9999), (66, 9999), (68, 9999)]
theorem c_h_pour {X : x_Ext} {d : Nat} {sh : List (Nat ⊕ (Nat × Nat))} {gi : Nat → Nat → Int32} {gl : Nat → Nat → Int64} {gr : Nat → Nat → Value} (hI : t_I sh gi gr) (ar1 : Int32) (ar2 : Int32) (ar3 : Int32) (ar4 : Int32) (ar5 : Int32) : x_Me X (d + 2) n_X11_pour [.ref 0, .int ar1, .int ar2, .int ar3, .int ar4, .int ar5] (sh, gi, gl, gr) (t_P wl_h_pour sh gi gl gr (t_Ri 0 1)) := by
  have hX : t_X wl_h_pour sh gi gl gr gi gl gr := t_X.rf
  refine me_i f_X11_pour (hI.wf.s rfl) rfl rfl rfl ?_
  refine ev_loc f_X11_pour (nx := 1) rfl rfl rfl rfl ?_
  refine ev_loc f_X11_pour (nx := 2) rfl rfl rfl rfl ?_
  refine ev_inV2 f_X11_pour (nx := 5) (lo2 := [(0, .ref 0), (1, .int ar1)]) rfl rfl rfl rfl f_X11_isTray (hI.wf.s rfl) rfl rfl rfl rfl rfl ?_
  refine ev_loc f_X11_isTray (nx := 1) rfl rfl rfl rfl ?_
  refine ev_if f_X11_isTray (t1 := 26) (t2 := 4) rfl rfl rfl (fun h1 => ?_) (fun h1 => ?_)
  · have u2 : ar1.toInt ≤ (-1) := t_ltu h1 (by decide : (0:Int32).toInt ≤ (0:Int)) rfl
    refine ev_ic f_X11_isTray (nx := 27) (v := 0) rfl (by decide) rfl ?_
    refine ev_retK1 f_X11_isTray rfl rfl rfl ?_
    refine ev_t f_X11_pour (t1 := 30) (t2 := 8) rfl rfl rfl (by decide) ?_
    refine ev_loc f_X11_pour (nx := 31) rfl rfl rfl rfl ?_
    refine ev_ic f_X11_pour (nx := 32) (v := 1) rfl (by decide) rfl ?_
    refine ev_inV2 f_X11_pour (nx := 35) (lo2 := [(0, .ref 0), (1, .int 1)]) rfl rfl rfl rfl f_X11_deny (hI.wf.s rfl) rfl rfl rfl rfl rfl ?_
    refine ev_loc f_X11_deny (nx := 1) rfl rfl rfl rfl ?_
    refine ev_loc f_X11_deny (nx := 2) rfl rfl rfl rfl ?_
    refine ev_putIT f_X11_deny (nx := 5) rfl (hI.wf.s rfl) rfl rfl rfl (hI.put0 (hI.wf.s rfl) rfl rfl) (hX.upI rfl) (fun g3 e3 hI hX => ?_)
    refine ev_ic f_X11_deny (nx := 6) (v := 0) rfl (by decide) rfl ?_
    refine ev_retK1 f_X11_deny rfl rfl rfl ?_
    exact ev_ret f_X11_pour rfl rfl rfl ⟨_, _, _, rfl, hI, hX, ⟨_, rfl, (by decide : (0:Int) ≤ (0:Int32).toInt), (Int.le_trans (by decide : (0:Int32).toInt ≤ (0:Int)) (by decide : (0:Int) ≤ 1))⟩⟩
  · have l4 : 0 ≤ ar1.toInt := t_lel (t_nlt h1) (by decide : (0:Int) ≤ (0:Int32).toInt)
    refine ev_loc f_X11_isTray (nx := 5) rfl rfl rfl rfl ?_
    refine ev_loc f_X11_isTray (nx := 6) rfl rfl rfl rfl ?_
    refine ev_getR f_X11_isTray (nx := 9) rfl (hI.wf.s rfl) rfl rfl (hI.wf.r rfl) rfl rfl ?_
    refine ev_alenv f_X11_isTray (nx := 10) (w := 4) rfl (hI.wf.s rfl) rfl (by decide) rfl ?_
    refine ev_if f_X11_isTray (t1 := 26) (t2 := 13) rfl rfl rfl (fun h5 => ?_) (fun h5 => ?_)
    · have l6 : 4 ≤ ar1.toInt := t_lel h5 (by decide : (4:Int) ≤ (4:Int32).toInt)
      refine ev_ic f_X11_isTray (nx := 27) (v := 0) rfl (by decide) rfl ?_
      refine ev_retK1 f_X11_isTray rfl rfl rfl ?_
      refine ev_t f_X11_pour (t1 := 30) (t2 := 8) rfl rfl rfl (by decide) ?_
      refine ev_loc f_X11_pour (nx := 31) rfl rfl rfl rfl ?_
      refine ev_ic f_X11_pour (nx := 32) (v := 1) rfl (by decide) rfl ?_
      refine ev_inV2 f_X11_pour (nx := 35) (lo2 := [(0, .ref 0), (1, .int 1)]) rfl rfl rfl rfl f_X11_deny (hI.wf.s rfl) rfl rfl rfl rfl rfl ?_
      refine ev_loc f_X11_deny (nx := 1) rfl rfl rfl rfl ?_
      refine ev_loc f_X11_deny (nx := 2) rfl rfl rfl rfl ?_
      refine ev_putIT f_X11_deny (nx := 5) rfl (hI.wf.s rfl) rfl rfl rfl (hI.put0 (hI.wf.s rfl) rfl rfl) (hX.upI rfl) (fun g7 e7 hI hX => ?_)
      refine ev_ic f_X11_deny (nx := 6) (v := 0) rfl (by decide) rfl ?_
      refine ev_retK1 f_X11_deny rfl rfl rfl ?_
      exact ev_ret f_X11_pour rfl rfl rfl ⟨_, _, _, rfl, hI, hX, ⟨_, rfl, (by decide : (0:Int) ≤ (0:Int32).toInt), (Int.le_trans (by decide : (0:Int32).toInt ≤ (0:Int)) (by decide : (0:Int) ≤ 1))⟩⟩
    · have u8 : ar1.toInt ≤ 3 := t_ltu (t_nle h5) (by decide : (4:Int32).toInt ≤ (4:Int)) rfl
      refine ev_loc f_X11_isTray (nx := 14) rfl rfl rfl rfl ?_
      refine ev_getR f_X11_isTray (nx := 17) rfl (hI.wf.s rfl) rfl rfl (hI.wf.r rfl) rfl rfl ?_
      refine ev_loc f_X11_isTray (nx := 18) rfl rfl rfl rfl ?_
      obtain ⟨a9, e9, p9⟩ := t_tray hI.wf l4 (by decide) u8 (by decide)
      refine ev_aald f_X11_isTray (nx := 19) rfl (hI.wf.s rfl) rfl (t_idx (n := 4) l4 (by decide) u8 (by decide)).1 (t_idx (n := 4) l4 (by decide) u8 (by decide)).2 e9 rfl rfl ?_
      refine ev_jmp f_X11_isTray (nx := 22) rfl rfl rfl ?_
      refine ev_ic f_X11_isTray (nx := 23) (v := 1) rfl (by decide) rfl ?_
      refine ev_jmp f_X11_isTray (nx := 27) rfl rfl rfl ?_
      refine ev_retK1 f_X11_isTray rfl rfl rfl ?_
      refine ev_f f_X11_pour (t1 := 30) (t2 := 8) rfl rfl rfl (by decide) ?_
      refine ev_loc f_X11_pour (nx := 9) rfl rfl rfl rfl ?_
      refine ev_loc f_X11_pour (nx := 10) rfl rfl rfl rfl ?_
      refine ev_inV2 f_X11_pour (nx := 13) (lo2 := [(0, .ref 0), (1, .int ar3)]) rfl rfl rfl rfl f_X11_isTray (hI.wf.s rfl) rfl rfl rfl rfl rfl ?_
      refine ev_loc f_X11_isTray (nx := 1) rfl rfl rfl rfl ?_
      refine ev_if f_X11_isTray (t1 := 26) (t2 := 4) rfl rfl rfl (fun h10 => ?_) (fun h10 => ?_)
      · have u11 : ar3.toInt ≤ (-1) := t_ltu h10 (by decide : (0:Int32).toInt ≤ (0:Int)) rfl
        refine ev_ic f_X11_isTray (nx := 27) (v := 0) rfl (by decide) rfl ?_
        refine ev_retK1 f_X11_isTray rfl rfl rfl ?_
        refine ev_t f_X11_pour (t1 := 30) (t2 := 16) rfl rfl rfl (by decide) ?_
        refine ev_loc f_X11_pour (nx := 31) rfl rfl rfl rfl ?_
        refine ev_ic f_X11_pour (nx := 32) (v := 1) rfl (by decide) rfl ?_
        refine ev_inV2 f_X11_pour (nx := 35) (lo2 := [(0, .ref 0), (1, .int 1)]) rfl rfl rfl rfl f_X11_deny (hI.wf.s rfl) rfl rfl rfl rfl rfl ?_
        refine ev_loc f_X11_deny (nx := 1) rfl rfl rfl rfl ?_
        refine ev_loc f_X11_deny (nx := 2) rfl rfl rfl rfl ?_
        refine ev_putIT f_X11_deny (nx := 5) rfl (hI.wf.s rfl) rfl rfl rfl (hI.put0 (hI.wf.s rfl) rfl rfl) (hX.upI rfl) (fun g12 e12 hI hX => ?_)
        refine ev_ic f_X11_deny (nx := 6) (v := 0) rfl (by decide) rfl ?_
        refine ev_retK1 f_X11_deny rfl rfl rfl ?_
        exact ev_ret f_X11_pour rfl rfl rfl ⟨_, _, _, rfl, hI, hX, ⟨_, rfl, (by decide : (0:Int) ≤ (0:Int32).toInt), (Int.le_trans (by decide : (0:Int32).toInt ≤ (0:Int)) (by decide : (0:Int) ≤ 1))⟩⟩
      · have l13 : 0 ≤ ar3.toInt := t_lel (t_nlt h10) (by decide : (0:Int) ≤ (0:Int32).toInt)
        refine ev_loc f_X11_isTray (nx := 5) rfl rfl rfl rfl ?_
        refine ev_loc f_X11_isTray (nx := 6) rfl rfl rfl rfl ?_
        refine ev_getR f_X11_isTray (nx := 9) rfl (hI.wf.s rfl) rfl rfl (hI.wf.r rfl) rfl rfl ?_
        refine ev_alenv f_X11_isTray (nx := 10) (w := 4) rfl (hI.wf.s rfl) rfl (by decide) rfl ?_
        refine ev_if f_X11_isTray (t1 := 26) (t2 := 13) rfl rfl rfl (fun h14 => ?_) (fun h14 => ?_)
        · have l15 : 4 ≤ ar3.toInt := t_lel h14 (by decide : (4:Int) ≤ (4:Int32).toInt)
          refine ev_ic f_X11_isTray (nx := 27) (v := 0) rfl (by decide) rfl ?_
          refine ev_retK1 f_X11_isTray rfl rfl rfl ?_
          refine ev_t f_X11_pour (t1 := 30) (t2 := 16) rfl rfl rfl (by decide) ?_
          refine ev_loc f_X11_pour (nx := 31) rfl rfl rfl rfl ?_
          refine ev_ic f_X11_pour (nx := 32) (v := 1) rfl (by decide) rfl ?_
          refine ev_inV2 f_X11_pour (nx := 35) (lo2 := [(0, .ref 0), (1, .int 1)]) rfl rfl rfl rfl f_X11_deny (hI.wf.s rfl) rfl rfl rfl rfl rfl ?_
          refine ev_loc f_X11_deny (nx := 1) rfl rfl rfl rfl ?_
          refine ev_loc f_X11_deny (nx := 2) rfl rfl rfl rfl ?_
          refine ev_putIT f_X11_deny (nx := 5) rfl (hI.wf.s rfl) rfl rfl rfl (hI.put0 (hI.wf.s rfl) rfl rfl) (hX.upI rfl) (fun g16 e16 hI hX => ?_)
          refine ev_ic f_X11_deny (nx := 6) (v := 0) rfl (by decide) rfl ?_
          refine ev_retK1 f_X11_deny rfl rfl rfl ?_
          exact ev_ret f_X11_pour rfl rfl rfl ⟨_, _, _, rfl, hI, hX, ⟨_, rfl, (by decide : (0:Int) ≤ (0:Int32).toInt), (Int.le_trans (by decide : (0:Int32).toInt ≤ (0:Int)) (by decide : (0:Int) ≤ 1))⟩⟩
        · have u17 : ar3.toInt ≤ 3 := t_ltu (t_nle h14) (by decide : (4:Int32).toInt ≤ (4:Int)) rfl
          refine ev_loc f_X11_isTray (nx := 14) rfl rfl rfl rfl ?_
          refine ev_getR f_X11_isTray (nx := 17) rfl (hI.wf.s rfl) rfl rfl (hI.wf.r rfl) rfl rfl ?_
          refine ev_loc f_X11_isTray (nx := 18) rfl rfl rfl rfl ?_
          obtain ⟨a18, e18, p18⟩ := t_tray hI.wf l13 (by decide) u17 (by decide)
          refine ev_aald f_X11_isTray (nx := 19) rfl (hI.wf.s rfl) rfl (t_idx (n := 4) l13 (by decide) u17 (by decide)).1 (t_idx (n := 4) l13 (by decide) u17 (by decide)).2 e18 rfl rfl ?_
          refine ev_jmp f_X11_isTray (nx := 22) rfl rfl rfl ?_
          refine ev_ic f_X11_isTray (nx := 23) (v := 1) rfl (by decide) rfl ?_
          refine ev_jmp f_X11_isTray (nx := 27) rfl rfl rfl ?_
          refine ev_retK1 f_X11_isTray rfl rfl rfl ?_
          refine ev_f f_X11_pour (t1 := 30) (t2 := 16) rfl rfl rfl (by decide) ?_
          refine ev_loc f_X11_pour (nx := 17) rfl rfl rfl rfl ?_
          refine ev_if f_X11_pour (t1 := 30) (t2 := 20) rfl rfl rfl (fun h19 => ?_) (fun h19 => ?_)
          · have u20 : ar2.toInt ≤ (-1) := t_ltu h19 (by decide : (0:Int32).toInt ≤ (0:Int)) rfl
            refine ev_loc f_X11_pour (nx := 31) rfl rfl rfl rfl ?_
            refine ev_ic f_X11_pour (nx := 32) (v := 1) rfl (by decide) rfl ?_
            refine ev_inV2 f_X11_pour (nx := 35) (lo2 := [(0, .ref 0), (1, .int 1)]) rfl rfl rfl rfl f_X11_deny (hI.wf.s rfl) rfl rfl rfl rfl rfl ?_
            refine ev_loc f_X11_deny (nx := 1) rfl rfl rfl rfl ?_
            refine ev_loc f_X11_deny (nx := 2) rfl rfl rfl rfl ?_
            refine ev_putIT f_X11_deny (nx := 5) rfl (hI.wf.s rfl) rfl rfl rfl (hI.put0 (hI.wf.s rfl) rfl rfl) (hX.upI rfl) (fun g21 e21 hI hX => ?_)
            refine ev_ic f_X11_deny (nx := 6) (v := 0) rfl (by decide) rfl ?_
            refine ev_retK1 f_X11_deny rfl rfl rfl ?_
            exact ev_ret f_X11_pour rfl rfl rfl ⟨_, _, _, rfl, hI, hX, ⟨_, rfl, (by decide : (0:Int) ≤ (0:Int32).toInt), (Int.le_trans (by decide : (0:Int32).toInt ≤ (0:Int)) (by decide : (0:Int) ≤ 1))⟩⟩
          · have l22 : 0 ≤ ar2.toInt := t_lel (t_nlt h19) (by decide : (0:Int) ≤ (0:Int32).toInt)
            refine ev_loc f_X11_pour (nx := 22) rfl rfl rfl rfl ?_
            refine ev_if f_X11_pour (t1 := 30) (t2 := 25) rfl rfl rfl (fun h23 => ?_) (fun h23 => ?_)
            · have u24 : ar4.toInt ≤ (-1) := t_ltu h23 (by decide : (0:Int32).toInt ≤ (0:Int)) rfl
              refine ev_loc f_X11_pour (nx := 31) rfl rfl rfl rfl ?_
              refine ev_ic f_X11_pour (nx := 32) (v := 1) rfl (by decide) rfl ?_
              refine ev_inV2 f_X11_pour (nx := 35) (lo2 := [(0, .ref 0), (1, .int 1)]) rfl rfl rfl rfl f_X11_deny (hI.wf.s rfl) rfl rfl rfl rfl rfl ?_
              refine ev_loc f_X11_deny (nx := 1) rfl rfl rfl rfl ?_
              refine ev_loc f_X11_deny (nx := 2) rfl rfl rfl rfl ?_
              refine ev_putIT f_X11_deny (nx := 5) rfl (hI.wf.s rfl) rfl rfl rfl (hI.put0 (hI.wf.s rfl) rfl rfl) (hX.upI rfl) (fun g25 e25 hI hX => ?_)
              refine ev_ic f_X11_deny (nx := 6) (v := 0) rfl (by decide) rfl ?_
              refine ev_retK1 f_X11_deny rfl rfl rfl ?_
              exact ev_ret f_X11_pour rfl rfl rfl ⟨_, _, _, rfl, hI, hX, ⟨_, rfl, (by decide : (0:Int) ≤ (0:Int32).toInt), (Int.le_trans (by decide : (0:Int32).toInt ≤ (0:Int)) (by decide : (0:Int) ≤ 1))⟩⟩
            · have l26 : 0 ≤ ar4.toInt := t_lel (t_nlt h23) (by decide : (0:Int) ≤ (0:Int32).toInt)
              refine ev_loc f_X11_pour (nx := 27) rfl rfl rfl rfl ?_
              refine ev_if f_X11_pour (t1 := 36) (t2 := 30) rfl rfl rfl (fun h27 => ?_) (fun h27 => ?_)
              · have l28 : 0 ≤ ar5.toInt := t_lel h27 (by decide : (0:Int) ≤ (0:Int32).toInt)
                refine ev_loc f_X11_pour (nx := 37) rfl rfl rfl rfl ?_
                refine ev_getR f_X11_pour (nx := 40) rfl (hI.wf.s rfl) rfl rfl (hI.wf.r rfl) rfl rfl ?_
                refine ev_loc f_X11_pour (nx := 41) rfl rfl rfl rfl ?_
                obtain ⟨a29, e29, p29⟩ := t_tray hI.wf l4 (by decide) u8 (by decide)
                refine ev_aald f_X11_pour (nx := 42) rfl (hI.wf.s rfl) rfl (t_idx (n := 4) l4 (by decide) u8 (by decide)).1 (t_idx (n := 4) l4 (by decide) u8 (by decide)).2 e29 rfl rfl ?_
                refine ev_loc f_X11_pour (nx := 44) (lo' := [(6, .ref a29), (0, .ref 0), (1, .int ar1), (2, .int ar2), (3, .int ar3), (4, .int ar4), (5, .int ar5)]) rfl rfl rfl rfl ?_
                refine ev_loc f_X11_pour (nx := 45) rfl rfl rfl rfl ?_
                refine ev_getR f_X11_pour (nx := 48) rfl (hI.wf.s rfl) rfl rfl (hI.wf.r rfl) rfl rfl ?_
                refine ev_loc f_X11_pour (nx := 49) rfl rfl rfl rfl ?_
                obtain ⟨a30, e30, p30⟩ := t_tray hI.wf l13 (by decide) u17 (by decide)
                refine ev_aald f_X11_pour (nx := 50) rfl (hI.wf.s rfl) rfl (t_idx (n := 4) l13 (by decide) u17 (by decide)).1 (t_idx (n := 4) l13 (by decide) u17 (by decide)).2 e30 rfl rfl ?_
                refine ev_loc f_X11_pour (nx := 52) (lo' := [(7, .ref a30), (6, .ref a29), (0, .ref 0), (1, .int ar1), (2, .int ar2), (3, .int ar3), (4, .int ar4), (5, .int ar5)]) rfl rfl rfl rfl ?_
                refine ev_loc f_X11_pour (nx := 54) rfl rfl rfl rfl ?_
                refine ev_inV1 f_X11_pour (nx := 57) (lo2 := [(0, .ref a29)]) rfl rfl rfl rfl f_X10_isMissing p29.1 rfl rfl rfl rfl rfl ?_
                refine ev_loc f_X10_isMissing (nx := 1) rfl rfl rfl rfl ?_
                refine ev_getI f_X10_isMissing (nx := 4) rfl p29.1 rfl rfl rfl ?_
                obtain ⟨l31, u31⟩ := hI.b p29.1 (t_bdK rfl : t_bd 9 2 = some ((-1), 60))
                refine ev_ic f_X10_isMissing (nx := 5) (v := -1) rfl (by decide) rfl ?_
                refine ev_if f_X10_isMissing (t1 := 8) (t2 := 12) rfl rfl rfl (fun h32 => ?_) (fun h32 => ?_)
                · have u33 : (gi a29 2).toInt ≤ (-1) := t_equ h32 (by decide : ((-1):Int32).toInt ≤ ((-1):Int))
                  refine ev_ic f_X10_isMissing (nx := 9) (v := 1) rfl (by decide) rfl ?_
                  refine ev_jmp f_X10_isMissing (nx := 13) rfl rfl rfl ?_
                  refine ev_retK1 f_X10_isMissing rfl rfl rfl ?_
                  refine ev_f f_X11_pour (t1 := 60) (t2 := 68) rfl rfl rfl (by decide) ?_
                  refine ev_loc f_X11_pour (nx := 69) rfl rfl rfl rfl ?_
                  refine ev_ic f_X11_pour (nx := 70) (v := 2) rfl (by decide) rfl ?_
                  refine ev_inV2 f_X11_pour (nx := 73) (lo2 := [(0, .ref 0), (1, .int 2)]) rfl rfl rfl rfl f_X11_deny (hI.wf.s rfl) rfl rfl rfl rfl rfl ?_
                  refine ev_loc f_X11_deny (nx := 1) rfl rfl rfl rfl ?_
                  refine ev_loc f_X11_deny (nx := 2) rfl rfl rfl rfl ?_
                  refine ev_putIT f_X11_deny (nx := 5) rfl (hI.wf.s rfl) rfl rfl rfl (hI.put0 (hI.wf.s rfl) rfl rfl) (hX.upI rfl) (fun g34 e34 hI hX => ?_)
                  refine ev_ic f_X11_deny (nx := 6) (v := 0) rfl (by decide) rfl ?_
                  refine ev_retK1 f_X11_deny rfl rfl rfl ?_
                  exact ev_ret f_X11_pour rfl rfl rfl ⟨_, _, _, rfl, hI, hX, ⟨_, rfl, (by decide : (0:Int) ≤ (0:Int32).toInt), (Int.le_trans (by decide : (0:Int32).toInt ≤ (0:Int)) (by decide : (0:Int) ≤ 1))⟩⟩
                · have r35 : (gi a29 2).toInt ≠ (-1) := fun e => h32 (Int32.toInt_inj.mp (e.trans (by decide : ((-1):Int) = ((-1) : Int32).toInt)))
                  have l36 : 0 ≤ (gi a29 2).toInt := t_nel h32 l31 rfl rfl
                  refine ev_ic f_X10_isMissing (nx := 13) (v := 0) rfl (by decide) rfl ?_
                  refine ev_retK1 f_X10_isMissing rfl rfl rfl ?_
                  refine ev_t f_X11_pour (t1 := 60) (t2 := 68) rfl rfl rfl (by decide) ?_
                  refine ev_loc f_X11_pour (nx := 62) rfl rfl rfl rfl ?_
                  refine ev_inV1 f_X11_pour (nx := 65) (lo2 := [(0, .ref a30)]) rfl rfl rfl rfl f_X10_isMissing p30.1 rfl rfl rfl rfl rfl ?_
                  refine ev_loc f_X10_isMissing (nx := 1) rfl rfl rfl rfl ?_
                  refine ev_getI f_X10_isMissing (nx := 4) rfl p30.1 rfl rfl rfl ?_
                  obtain ⟨l37, u37⟩ := hI.b p30.1 (t_bdK rfl : t_bd 9 2 = some ((-1), 60))
                  refine ev_ic f_X10_isMissing (nx := 5) (v := -1) rfl (by decide) rfl ?_
                  refine ev_if f_X10_isMissing (t1 := 8) (t2 := 12) rfl rfl rfl (fun h38 => ?_) (fun h38 => ?_)
                  · have u39 : (gi a30 2).toInt ≤ (-1) := t_equ h38 (by decide : ((-1):Int32).toInt ≤ ((-1):Int))
                    refine ev_ic f_X10_isMissing (nx := 9) (v := 1) rfl (by decide) rfl ?_
                    refine ev_jmp f_X10_isMissing (nx := 13) rfl rfl rfl ?_
                    refine ev_retK1 f_X10_isMissing rfl rfl rfl ?_
                    refine ev_f f_X11_pour (t1 := 74) (t2 := 68) rfl rfl rfl (by decide) ?_
                    refine ev_loc f_X11_pour (nx := 69) rfl rfl rfl rfl ?_
                    refine ev_ic f_X11_pour (nx := 70) (v := 2) rfl (by decide) rfl ?_
                    refine ev_inV2 f_X11_pour (nx := 73) (lo2 := [(0, .ref 0), (1, .int 2)]) rfl rfl rfl rfl f_X11_deny (hI.wf.s rfl) rfl rfl rfl rfl rfl ?_
                    refine ev_loc f_X11_deny (nx := 1) rfl rfl rfl rfl ?_
                    refine ev_loc f_X11_deny (nx := 2) rfl rfl rfl rfl ?_
                    refine ev_putIT f_X11_deny (nx := 5) rfl (hI.wf.s rfl) rfl rfl rfl (hI.put0 (hI.wf.s rfl) rfl rfl) (hX.upI rfl) (fun g40 e40 hI hX => ?_)
                    refine ev_ic f_X11_deny (nx := 6) (v := 0) rfl (by decide) rfl ?_
                    refine ev_retK1 f_X11_deny rfl rfl rfl ?_
                    exact ev_ret f_X11_pour rfl rfl rfl ⟨_, _, _, rfl, hI, hX, ⟨_, rfl, (by decide : (0:Int) ≤ (0:Int32).toInt), (Int.le_trans (by decide : (0:Int32).toInt ≤ (0:Int)) (by decide : (0:Int) ≤ 1))⟩⟩
                  · have r41 : (gi a30 2).toInt ≠ (-1) := fun e => h38 (Int32.toInt_inj.mp (e.trans (by decide : ((-1):Int) = ((-1) : Int32).toInt)))
                    have l42 : 0 ≤ (gi a30 2).toInt := t_nel h38 l37 rfl rfl
                    refine ev_ic f_X10_isMissing (nx := 13) (v := 0) rfl (by decide) rfl ?_
                    refine ev_retK1 f_X10_isMissing rfl rfl rfl ?_
                    refine ev_t f_X11_pour (t1 := 74) (t2 := 68) rfl rfl rfl (by decide) ?_
                    refine ev_loc f_X11_pour (nx := 76) rfl rfl rfl rfl ?_
                    refine ev_getI f_X11_pour (nx := 79) rfl p29.1 rfl rfl rfl ?_
                    refine ev_loc f_X11_pour (nx := 81) rfl rfl rfl rfl ?_
                    refine ev_getI f_X11_pour (nx := 84) rfl p30.1 rfl rfl rfl ?_
                    refine ev_if f_X11_pour (t1 := 94) (t2 := 87) rfl rfl rfl (fun h43 => ?_) (fun h43 => ?_)
                    · have r44 : (gi a29 1).toInt = (gi a30 1).toInt := t_eqi h43
                      refine ev_loc f_X11_pour (nx := 96) rfl rfl rfl rfl ?_
                      refine ev_loc f_X11_pour (nx := 97) rfl rfl rfl rfl ?_
                      refine ev_loc f_X11_pour (nx := 99) rfl rfl rfl rfl ?_
                      refine ev_inV3 f_X11_pour (nx := 102) (lo2 := [(0, .ref a29), (1, .int ar2), (2, .int ar5)]) rfl rfl rfl rfl f_X10_hasStretch p29.1 rfl rfl rfl rfl rfl ?_
                      refine ev_loc f_X10_hasStretch (nx := 1) rfl rfl rfl rfl ?_
                      refine ev_loc f_X10_hasStretch (nx := 2) rfl rfl rfl rfl ?_
                      refine ev_gvI f_X10_hasStretch (nx := 5) (w := (gi a29 2)) rfl p29.1 rfl rfl rfl rfl ?_
                      refine ev_if f_X10_hasStretch (t1 := 22) (t2 := 8) rfl rfl rfl (fun h45 => ?_) (fun h45 => ?_)
                      · have r46 : (gi a29 2).toInt < ar2.toInt := Int32.lt_iff_toInt_lt.mp h45
                        have l47 : 1 ≤ ar2.toInt := t_ltl h45 l36 rfl
                        refine ev_ic f_X10_hasStretch (nx := 23) (v := 0) rfl (by decide) rfl ?_
                        refine ev_retK1 f_X10_hasStretch rfl rfl rfl ?_
                        refine ev_t f_X11_pour (t1 := 117) (t2 := 105) rfl rfl rfl (by decide) ?_
                        refine ev_loc f_X11_pour (nx := 118) rfl rfl rfl rfl ?_
                        refine ev_ic f_X11_pour (nx := 119) (v := 3) rfl (by decide) rfl ?_
                        refine ev_inV2 f_X11_pour (nx := 122) (lo2 := [(0, .ref 0), (1, .int 3)]) rfl rfl rfl rfl f_X11_deny (hI.wf.s rfl) rfl rfl rfl rfl rfl ?_
                        refine ev_loc f_X11_deny (nx := 1) rfl rfl rfl rfl ?_
                        refine ev_loc f_X11_deny (nx := 2) rfl rfl rfl rfl ?_
                        refine ev_putIT f_X11_deny (nx := 5) rfl (hI.wf.s rfl) rfl rfl rfl (hI.put0 (hI.wf.s rfl) rfl rfl) (hX.upI rfl) (fun g48 e48 hI hX => ?_)
                        refine ev_ic f_X11_deny (nx := 6) (v := 0) rfl (by decide) rfl ?_
                        refine ev_retK1 f_X11_deny rfl rfl rfl ?_
                        exact ev_ret f_X11_pour rfl rfl rfl ⟨_, _, _, rfl, hI, hX, ⟨_, rfl, (by decide : (0:Int) ≤ (0:Int32).toInt), (Int.le_trans (by decide : (0:Int32).toInt ≤ (0:Int)) (by decide : (0:Int) ≤ 1))⟩⟩
                      · have r49 : ar2.toInt ≤ (gi a29 2).toInt := Int32.le_iff_toInt_le.mp (t_nlt h45)
                        have u50 : ar2.toInt ≤ 60 := t_leu (t_nlt h45) u31
                        refine ev_loc f_X10_hasStretch (nx := 9) rfl rfl rfl rfl ?_
                        refine ev_loc f_X10_hasStretch (nx := 10) rfl rfl rfl rfl ?_
                        refine ev_gvI f_X10_hasStretch (nx := 13) (w := (gi a29 2)) rfl p29.1 rfl rfl rfl rfl ?_
                        refine ev_loc f_X10_hasStretch (nx := 14) rfl rfl rfl rfl ?_
                        refine ev_subR f_X10_hasStretch (nx := 15) (l := (-60)) (u := 60) rfl l36 u31 l22 u50 rfl rfl (by decide) (by decide) rfl (fun z51 e51 l51 u51 => ?_)
                        refine ev_if f_X10_hasStretch (t1 := 22) (t2 := 18) rfl rfl rfl (fun h52 => ?_) (fun h52 => ?_)
                        · have r53 : z51.toInt < ar5.toInt := Int32.lt_iff_toInt_lt.mp h52
                          refine ev_ic f_X10_hasStretch (nx := 23) (v := 0) rfl (by decide) rfl ?_
                          refine ev_retK1 f_X10_hasStretch rfl rfl rfl ?_
                          refine ev_t f_X11_pour (t1 := 117) (t2 := 105) rfl rfl rfl (by decide) ?_
                          refine ev_loc f_X11_pour (nx := 118) rfl rfl rfl rfl ?_
                          refine ev_ic f_X11_pour (nx := 119) (v := 3) rfl (by decide) rfl ?_
                          refine ev_inV2 f_X11_pour (nx := 122) (lo2 := [(0, .ref 0), (1, .int 3)]) rfl rfl rfl rfl f_X11_deny (hI.wf.s rfl) rfl rfl rfl rfl rfl ?_
                          refine ev_loc f_X11_deny (nx := 1) rfl rfl rfl rfl ?_
                          refine ev_loc f_X11_deny (nx := 2) rfl rfl rfl rfl ?_
                          refine ev_putIT f_X11_deny (nx := 5) rfl (hI.wf.s rfl) rfl rfl rfl (hI.put0 (hI.wf.s rfl) rfl rfl) (hX.upI rfl) (fun g54 e54 hI hX => ?_)
                          refine ev_ic f_X11_deny (nx := 6) (v := 0) rfl (by decide) rfl ?_
                          refine ev_retK1 f_X11_deny rfl rfl rfl ?_
                          exact ev_ret f_X11_pour rfl rfl rfl ⟨_, _, _, rfl, hI, hX, ⟨_, rfl, (by decide : (0:Int) ≤ (0:Int32).toInt), (Int.le_trans (by decide : (0:Int32).toInt ≤ (0:Int)) (by decide : (0:Int) ≤ 1))⟩⟩
                        · have r55 : ar5.toInt ≤ z51.toInt := Int32.le_iff_toInt_le.mp (t_nlt h52)
                          have u56 : ar5.toInt ≤ 60 := t_leu (t_nlt h52) u51
                          have l57 : 0 ≤ z51.toInt := t_lel (t_nlt h52) l28
                          refine ev_ic f_X10_hasStretch (nx := 19) (v := 1) rfl (by decide) rfl ?_
                          refine ev_jmp f_X10_hasStretch (nx := 23) rfl rfl rfl ?_
                          refine ev_retK1 f_X10_hasStretch rfl rfl rfl ?_
                          refine ev_f f_X11_pour (t1 := 117) (t2 := 105) rfl rfl rfl (by decide) ?_
                          refine ev_loc f_X11_pour (nx := 107) rfl rfl rfl rfl ?_
                          refine ev_loc f_X11_pour (nx := 109) rfl rfl rfl rfl ?_
                          refine ev_loc f_X11_pour (nx := 111) rfl rfl rfl rfl ?_
                          refine ev_inV3 f_X11_pour (nx := 114) (lo2 := [(0, .ref a30), (1, .int ar4), (2, .int ar5)]) rfl rfl rfl rfl f_X10_hasStretch p30.1 rfl rfl rfl rfl rfl ?_
                          refine ev_loc f_X10_hasStretch (nx := 1) rfl rfl rfl rfl ?_
                          refine ev_loc f_X10_hasStretch (nx := 2) rfl rfl rfl rfl ?_
                          refine ev_gvI f_X10_hasStretch (nx := 5) (w := (gi a30 2)) rfl p30.1 rfl rfl rfl rfl ?_
                          refine ev_if f_X10_hasStretch (t1 := 22) (t2 := 8) rfl rfl rfl (fun h58 => ?_) (fun h58 => ?_)
                          · have r59 : (gi a30 2).toInt < ar4.toInt := Int32.lt_iff_toInt_lt.mp h58
                            have l60 : 1 ≤ ar4.toInt := t_ltl h58 l42 rfl
                            refine ev_ic f_X10_hasStretch (nx := 23) (v := 0) rfl (by decide) rfl ?_
                            refine ev_retK1 f_X10_hasStretch rfl rfl rfl ?_
                            refine ev_t f_X11_pour (t1 := 117) (t2 := 123) rfl rfl rfl (by decide) ?_
                            refine ev_loc f_X11_pour (nx := 118) rfl rfl rfl rfl ?_
                            refine ev_ic f_X11_pour (nx := 119) (v := 3) rfl (by decide) rfl ?_
                            refine ev_inV2 f_X11_pour (nx := 122) (lo2 := [(0, .ref 0), (1, .int 3)]) rfl rfl rfl rfl f_X11_deny (hI.wf.s rfl) rfl rfl rfl rfl rfl ?_
                            refine ev_loc f_X11_deny (nx := 1) rfl rfl rfl rfl ?_
                            refine ev_loc f_X11_deny (nx := 2) rfl rfl rfl rfl ?_
                            refine ev_putIT f_X11_deny (nx := 5) rfl (hI.wf.s rfl) rfl rfl rfl (hI.put0 (hI.wf.s rfl) rfl rfl) (hX.upI rfl) (fun g61 e61 hI hX => ?_)
                            refine ev_ic f_X11_deny (nx := 6) (v := 0) rfl (by decide) rfl ?_
                            refine ev_retK1 f_X11_deny rfl rfl rfl ?_
                            exact ev_ret f_X11_pour rfl rfl rfl ⟨_, _, _, rfl, hI, hX, ⟨_, rfl, (by decide : (0:Int) ≤ (0:Int32).toInt), (Int.le_trans (by decide : (0:Int32).toInt ≤ (0:Int)) (by decide : (0:Int) ≤ 1))⟩⟩
                          · have r62 : ar4.toInt ≤ (gi a30 2).toInt := Int32.le_iff_toInt_le.mp (t_nlt h58)
                            have u63 : ar4.toInt ≤ 60 := t_leu (t_nlt h58) u37
                            refine ev_loc f_X10_hasStretch (nx := 9) rfl rfl rfl rfl ?_
                            refine ev_loc f_X10_hasStretch (nx := 10) rfl rfl rfl rfl ?_
                            refine ev_gvI f_X10_hasStretch (nx := 13) (w := (gi a30 2)) rfl p30.1 rfl rfl rfl rfl ?_
                            refine ev_loc f_X10_hasStretch (nx := 14) rfl rfl rfl rfl ?_
                            refine ev_subR f_X10_hasStretch (nx := 15) (l := (-60)) (u := 60) rfl l42 u37 l26 u63 rfl rfl (by decide) (by decide) rfl (fun z64 e64 l64 u64 => ?_)
                            refine ev_if f_X10_hasStretch (t1 := 22) (t2 := 18) rfl rfl rfl (fun h65 => ?_) (fun h65 => ?_)
                            · have r66 : z64.toInt < ar5.toInt := Int32.lt_iff_toInt_lt.mp h65
                              have u67 : z64.toInt ≤ 59 := t_ltu h65 u56 rfl
                              refine ev_ic f_X10_hasStretch (nx := 23) (v := 0) rfl (by decide) rfl ?_
                              refine ev_retK1 f_X10_hasStretch rfl rfl rfl ?_
                              refine ev_t f_X11_pour (t1 := 117) (t2 := 123) rfl rfl rfl (by decide) ?_
                              refine ev_loc f_X11_pour (nx := 118) rfl rfl rfl rfl ?_
                              refine ev_ic f_X11_pour (nx := 119) (v := 3) rfl (by decide) rfl ?_
                              refine ev_inV2 f_X11_pour (nx := 122) (lo2 := [(0, .ref 0), (1, .int 3)]) rfl rfl rfl rfl f_X11_deny (hI.wf.s rfl) rfl rfl rfl rfl rfl ?_
                              refine ev_loc f_X11_deny (nx := 1) rfl rfl rfl rfl ?_
                              refine ev_loc f_X11_deny (nx := 2) rfl rfl rfl rfl ?_
                              refine ev_putIT f_X11_deny (nx := 5) rfl (hI.wf.s rfl) rfl rfl rfl (hI.put0 (hI.wf.s rfl) rfl rfl) (hX.upI rfl) (fun g68 e68 hI hX => ?_)
                              refine ev_ic f_X11_deny (nx := 6) (v := 0) rfl (by decide) rfl ?_
                              refine ev_retK1 f_X11_deny rfl rfl rfl ?_
                              exact ev_ret f_X11_pour rfl rfl rfl ⟨_, _, _, rfl, hI, hX, ⟨_, rfl, (by decide : (0:Int) ≤ (0:Int32).toInt), (Int.le_trans (by decide : (0:Int32).toInt ≤ (0:Int)) (by decide : (0:Int) ≤ 1))⟩⟩
                            · have r69 : ar5.toInt ≤ z64.toInt := Int32.le_iff_toInt_le.mp (t_nlt h65)
                              have l70 : 0 ≤ z64.toInt := t_lel (t_nlt h65) l28
                              refine ev_ic f_X10_hasStretch (nx := 19) (v := 1) rfl (by decide) rfl ?_
                              refine ev_jmp f_X10_hasStretch (nx := 23) rfl rfl rfl ?_
                              refine ev_retK1 f_X10_hasStretch rfl rfl rfl ?_
                              refine ev_f f_X11_pour (t1 := 117) (t2 := 123) rfl rfl rfl (by decide) ?_
                              refine ev_loc f_X11_pour (nx := 125) rfl rfl rfl rfl ?_
                              have e71 := p29.2.1.1
                              have s71 := p29.2.1.2
                              refine ev_getR f_X11_pour (nx := 128) rfl p29.1 rfl rfl e71 rfl rfl ?_
                              refine ev_loc f_X11_pour (nx := 129) rfl rfl rfl rfl ?_
                              refine ev_loc f_X11_pour (nx := 131) rfl rfl rfl rfl ?_
                              have e72 := p30.2.1.1
                              have s72 := p30.2.1.2
                              refine ev_getR f_X11_pour (nx := 134) rfl p30.1 rfl rfl e72 rfl rfl ?_
                              refine ev_loc f_X11_pour (nx := 136) rfl rfl rfl rfl ?_
                              refine ev_loc f_X11_pour (nx := 138) rfl rfl rfl rfl ?_
                              refine ev_cpyTL f_X11_pour (nx := 141) rfl rfl s71 s72 (by omega) l22 l26 l28 (by omega) (by omega) rfl (hX.arrL (fun j => (t_in4A p30.2.2 rfl))) (fun g73 e73 hX => ?_)
                              refine ev_loc f_X11_pour (nx := 142) rfl rfl rfl rfl ?_
                              refine ev_inV1 f_X11_pour (nx := 145) (lo2 := [(0, .ref 0)]) rfl rfl rfl rfl f_X11_grant (hI.wf.s rfl) rfl rfl rfl rfl rfl ?_
                              refine ev_loc f_X11_grant (nx := 1) rfl rfl rfl rfl ?_
                              refine ev_ic f_X11_grant (nx := 2) (v := 0) rfl (by decide) rfl ?_
                              refine ev_putIT f_X11_grant (nx := 5) rfl (hI.wf.s rfl) rfl rfl rfl (hI.put0 (hI.wf.s rfl) rfl rfl) (hX.upI rfl) (fun g74 e74 hI hX => ?_)
                              refine ev_ic f_X11_grant (nx := 6) (v := 1) rfl (by decide) rfl ?_
                              refine ev_retK1 f_X11_grant rfl rfl rfl ?_
                              exact ev_ret f_X11_pour rfl rfl rfl ⟨_, _, _, rfl, hI, hX, ⟨_, rfl, (Int.le_trans (by decide : (0:Int) ≤ 1) (by decide : (1:Int) ≤ (1:Int32).toInt)), (by decide : (1:Int32).toInt ≤ (1:Int))⟩⟩
                    · have r75 : (gi a29 1).toInt ≠ (gi a30 1).toInt := t_nei h43
                      refine ev_loc f_X11_pour (nx := 88) rfl rfl rfl rfl ?_
                      refine ev_bp f_X11_pour (nx := 90) (v := 8) rfl (by decide) rfl ?_
                      refine ev_inV2 f_X11_pour (nx := 93) (lo2 := [(0, .ref 0), (1, .int 8)]) rfl rfl rfl rfl f_X11_deny (hI.wf.s rfl) rfl rfl rfl rfl rfl ?_
                      refine ev_loc f_X11_deny (nx := 1) rfl rfl rfl rfl ?_
                      refine ev_loc f_X11_deny (nx := 2) rfl rfl rfl rfl ?_
                      refine ev_putIT f_X11_deny (nx := 5) rfl (hI.wf.s rfl) rfl rfl rfl (hI.put0 (hI.wf.s rfl) rfl rfl) (hX.upI rfl) (fun g76 e76 hI hX => ?_)
                      refine ev_ic f_X11_deny (nx := 6) (v := 0) rfl (by decide) rfl ?_
                      refine ev_retK1 f_X11_deny rfl rfl rfl ?_
                      exact ev_ret f_X11_pour rfl rfl rfl ⟨_, _, _, rfl, hI, hX, ⟨_, rfl, (by decide : (0:Int) ≤ (0:Int32).toInt), (Int.le_trans (by decide : (0:Int32).toInt ≤ (0:Int)) (by decide : (0:Int) ≤ 1))⟩⟩
              · have u77 : ar5.toInt ≤ (-1) := t_ltu (t_nle h27) (by decide : (0:Int32).toInt ≤ (0:Int)) rfl
                refine ev_loc f_X11_pour (nx := 31) rfl rfl rfl rfl ?_
                refine ev_ic f_X11_pour (nx := 32) (v := 1) rfl (by decide) rfl ?_
                refine ev_inV2 f_X11_pour (nx := 35) (lo2 := [(0, .ref 0), (1, .int 1)]) rfl rfl rfl rfl f_X11_deny (hI.wf.s rfl) rfl rfl rfl rfl rfl ?_
                refine ev_loc f_X11_deny (nx := 1) rfl rfl rfl rfl ?_
                refine ev_loc f_X11_deny (nx := 2) rfl rfl rfl rfl ?_
                refine ev_putIT f_X11_deny (nx := 5) rfl (hI.wf.s rfl) rfl rfl rfl (hI.put0 (hI.wf.s rfl) rfl rfl) (hX.upI rfl) (fun g78 e78 hI hX => ?_)
                refine ev_ic f_X11_deny (nx := 6) (v := 0) rfl (by decide) rfl ?_
                refine ev_retK1 f_X11_deny rfl rfl rfl ?_
                exact ev_ret f_X11_pour rfl rfl rfl ⟨_, _, _, rfl, hI, hX, ⟨_, rfl, (by decide : (0:Int) ≤ (0:Int32).toInt), (Int.le_trans (by decide : (0:Int32).toInt ≤ (0:Int)) (by decide : (0:Int) ≤ 1))⟩⟩
noncomputable def wl_h_tray2 : List (Nat × Nat) := [(0, 0), (61, 1), (61, 2), (62, 9999), (63, 1), (63, 2), (64, 9999), (65, 1), (65, 2), (66, 9999), (67, 1), (67, 2), (68, 9999)]
noncomputable def Q_h_tray2 (gi : Nat → Nat → Int32) (gl : Nat → Nat → Int64) (gr : Nat → Nat → Value) (ar1 : Int32) (ar2 : Int32) (ar3 : Int32) : Int32 → (Nat → Nat → Int32) → (Nat → Nat → Int64) → (Nat → Nat → Value) → Prop := fun (v : Int32) (gi2 : Nat → Nat → Int32) (gl2 : Nat → Nat → Int64) (gr2 : Nat → Nat → Value) => (0 ≤ v.toInt ∧ v.toInt ≤ 1) ∧ (v.toInt = 1 ↔ (0 ≤ ar1.toInt ∧ ar1.toInt ≤ 3 ∧ 0 ≤ ar2.toInt ∧ ar2.toInt ≤ 3 ∧ 0 ≤ ar3.toInt ∧ ar3.toInt ≤ 60))
theorem c_h_tray2 {X : x_Ext} {d : Nat} {sh : List (Nat ⊕ (Nat × Nat))} {gi : Nat → Nat → Int32} {gl : Nat → Nat → Int64} {gr : Nat → Nat → Value} (hI : t_I sh gi gr) (ar1 : Int32) (ar2 : Int32) (ar3 : Int32) : x_Me X (d + 2) n_X11_tray [.ref 0, .int ar1, .int ar2, .int ar3] (sh, gi, gl, gr) (t_PI wl_h_tray2 sh gi gl gr 0 1 (Q_h_tray2 gi gl gr ar1 ar2 ar3)) := by
  have hX : t_X wl_h_tray2 sh gi gl gr gi gl gr := t_X.rf
  refine me_i f_X11_tray (hI.wf.s rfl) rfl rfl rfl ?_
  refine ev_loc f_X11_tray (nx := 1) rfl rfl rfl rfl ?_
  refine ev_loc f_X11_tray (nx := 2) rfl rfl rfl rfl ?_
  refine ev_inV2 f_X11_tray (nx := 5) (lo2 := [(0, .ref 0), (1, .int ar1)]) rfl rfl rfl rfl f_X11_isTray (hI.wf.s rfl) rfl rfl rfl rfl rfl ?_
  refine ev_loc f_X11_isTray (nx := 1) rfl rfl rfl rfl ?_
  refine ev_if f_X11_isTray (t1 := 26) (t2 := 4) rfl rfl rfl (fun h1 => ?_) (fun h1 => ?_)
  · have u2 : ar1.toInt ≤ (-1) := t_ltu h1 (by decide : (0:Int32).toInt ≤ (0:Int)) rfl
    refine ev_ic f_X11_isTray (nx := 27) (v := 0) rfl (by decide) rfl ?_
    refine ev_retK1 f_X11_isTray rfl rfl rfl ?_
    refine ev_t f_X11_tray (t1 := 27) (t2 := 8) rfl rfl rfl (by decide) ?_
    refine ev_loc f_X11_tray (nx := 28) rfl rfl rfl rfl ?_
    refine ev_ic f_X11_tray (nx := 29) (v := 1) rfl (by decide) rfl ?_
    refine ev_inV2 f_X11_tray (nx := 32) (lo2 := [(0, .ref 0), (1, .int 1)]) rfl rfl rfl rfl f_X11_deny (hI.wf.s rfl) rfl rfl rfl rfl rfl ?_
    refine ev_loc f_X11_deny (nx := 1) rfl rfl rfl rfl ?_
    refine ev_loc f_X11_deny (nx := 2) rfl rfl rfl rfl ?_
    refine ev_putIT f_X11_deny (nx := 5) rfl (hI.wf.s rfl) rfl rfl rfl (hI.put0 (hI.wf.s rfl) rfl rfl) (hX.upI rfl) (fun g3 e3 hI hX => ?_)
    refine ev_ic f_X11_deny (nx := 6) (v := 0) rfl (by decide) rfl ?_
    refine ev_retK1 f_X11_deny rfl rfl rfl ?_
    exact ev_ret f_X11_tray rfl rfl rfl ⟨_, _, _, rfl, hI, hX, ⟨_, rfl, (by decide : (0:Int) ≤ (0:Int32).toInt), (Int.le_trans (by decide : (0:Int32).toInt ≤ (0:Int)) (by decide : (0:Int) ≤ 1)), (show (0 ≤ 0 ∧ 0 ≤ 1) ∧ (0 = 1 ↔ (0 ≤ ar1.toInt ∧ ar1.toInt ≤ 3 ∧ 0 ≤ ar2.toInt ∧ ar2.toInt ≤ 3 ∧ 0 ≤ ar3.toInt ∧ ar3.toInt ≤ 60)) from (by omega))⟩⟩
  · have l4 : 0 ≤ ar1.toInt := t_lel (t_nlt h1) (by decide : (0:Int) ≤ (0:Int32).toInt)
    refine ev_loc f_X11_isTray (nx := 5) rfl rfl rfl rfl ?_
    refine ev_loc f_X11_isTray (nx := 6) rfl rfl rfl rfl ?_
    refine ev_getR f_X11_isTray (nx := 9) rfl (hI.wf.s rfl) rfl rfl (hI.wf.r rfl) rfl rfl ?_
    refine ev_alenv f_X11_isTray (nx := 10) (w := 4) rfl (hI.wf.s rfl) rfl (by decide) rfl ?_
    refine ev_if f_X11_isTray (t1 := 26) (t2 := 13) rfl rfl rfl (fun h5 => ?_) (fun h5 => ?_)
    · have l6 : 4 ≤ ar1.toInt := t_lel h5 (by decide : (4:Int) ≤ (4:Int32).toInt)
      refine ev_ic f_X11_isTray (nx := 27) (v := 0) rfl (by decide) rfl ?_
      refine ev_retK1 f_X11_isTray rfl rfl rfl ?_
      refine ev_t f_X11_tray (t1 := 27) (t2 := 8) rfl rfl rfl (by decide) ?_
      refine ev_loc f_X11_tray (nx := 28) rfl rfl rfl rfl ?_
      refine ev_ic f_X11_tray (nx := 29) (v := 1) rfl (by decide) rfl ?_
      refine ev_inV2 f_X11_tray (nx := 32) (lo2 := [(0, .ref 0), (1, .int 1)]) rfl rfl rfl rfl f_X11_deny (hI.wf.s rfl) rfl rfl rfl rfl rfl ?_
      refine ev_loc f_X11_deny (nx := 1) rfl rfl rfl rfl ?_
      refine ev_loc f_X11_deny (nx := 2) rfl rfl rfl rfl ?_
      refine ev_putIT f_X11_deny (nx := 5) rfl (hI.wf.s rfl) rfl rfl rfl (hI.put0 (hI.wf.s rfl) rfl rfl) (hX.upI rfl) (fun g7 e7 hI hX => ?_)
      refine ev_ic f_X11_deny (nx := 6) (v := 0) rfl (by decide) rfl ?_
      refine ev_retK1 f_X11_deny rfl rfl rfl ?_
      exact ev_ret f_X11_tray rfl rfl rfl ⟨_, _, _, rfl, hI, hX, ⟨_, rfl, (by decide : (0:Int) ≤ (0:Int32).toInt), (Int.le_trans (by decide : (0:Int32).toInt ≤ (0:Int)) (by decide : (0:Int) ≤ 1)), (show (0 ≤ 0 ∧ 0 ≤ 1) ∧ (0 = 1 ↔ (0 ≤ ar1.toInt ∧ ar1.toInt ≤ 3 ∧ 0 ≤ ar2.toInt ∧ ar2.toInt ≤ 3 ∧ 0 ≤ ar3.toInt ∧ ar3.toInt ≤ 60)) from (by omega))⟩⟩
    · have u8 : ar1.toInt ≤ 3 := t_ltu (t_nle h5) (by decide : (4:Int32).toInt ≤ (4:Int)) rfl
      refine ev_loc f_X11_isTray (nx := 14) rfl rfl rfl rfl ?_
      refine ev_getR f_X11_isTray (nx := 17) rfl (hI.wf.s rfl) rfl rfl (hI.wf.r rfl) rfl rfl ?_
      refine ev_loc f_X11_isTray (nx := 18) rfl rfl rfl rfl ?_
      obtain ⟨a9, e9, p9⟩ := t_tray hI.wf l4 (by decide) u8 (by decide)
      refine ev_aald f_X11_isTray (nx := 19) rfl (hI.wf.s rfl) rfl (t_idx (n := 4) l4 (by decide) u8 (by decide)).1 (t_idx (n := 4) l4 (by decide) u8 (by decide)).2 e9 rfl rfl ?_
      refine ev_jmp f_X11_isTray (nx := 22) rfl rfl rfl ?_
      refine ev_ic f_X11_isTray (nx := 23) (v := 1) rfl (by decide) rfl ?_
      refine ev_jmp f_X11_isTray (nx := 27) rfl rfl rfl ?_
      refine ev_retK1 f_X11_isTray rfl rfl rfl ?_
      refine ev_f f_X11_tray (t1 := 27) (t2 := 8) rfl rfl rfl (by decide) ?_
      refine ev_loc f_X11_tray (nx := 9) rfl rfl rfl rfl ?_
      refine ev_if f_X11_tray (t1 := 27) (t2 := 12) rfl rfl rfl (fun h10 => ?_) (fun h10 => ?_)
      · have u11 : ar2.toInt ≤ (-1) := t_ltu h10 (by decide : (0:Int32).toInt ≤ (0:Int)) rfl
        refine ev_loc f_X11_tray (nx := 28) rfl rfl rfl rfl ?_
        refine ev_ic f_X11_tray (nx := 29) (v := 1) rfl (by decide) rfl ?_
        refine ev_inV2 f_X11_tray (nx := 32) (lo2 := [(0, .ref 0), (1, .int 1)]) rfl rfl rfl rfl f_X11_deny (hI.wf.s rfl) rfl rfl rfl rfl rfl ?_
        refine ev_loc f_X11_deny (nx := 1) rfl rfl rfl rfl ?_
        refine ev_loc f_X11_deny (nx := 2) rfl rfl rfl rfl ?_
        refine ev_putIT f_X11_deny (nx := 5) rfl (hI.wf.s rfl) rfl rfl rfl (hI.put0 (hI.wf.s rfl) rfl rfl) (hX.upI rfl) (fun g12 e12 hI hX => ?_)
        refine ev_ic f_X11_deny (nx := 6) (v := 0) rfl (by decide) rfl ?_
        refine ev_retK1 f_X11_deny rfl rfl rfl ?_
        exact ev_ret f_X11_tray rfl rfl rfl ⟨_, _, _, rfl, hI, hX, ⟨_, rfl, (by decide : (0:Int) ≤ (0:Int32).toInt), (Int.le_trans (by decide : (0:Int32).toInt ≤ (0:Int)) (by decide : (0:Int) ≤ 1)), (show (0 ≤ 0 ∧ 0 ≤ 1) ∧ (0 = 1 ↔ (0 ≤ ar1.toInt ∧ ar1.toInt ≤ 3 ∧ 0 ≤ ar2.toInt ∧ ar2.toInt ≤ 3 ∧ 0 ≤ ar3.toInt ∧ ar3.toInt ≤ 60)) from (by omega))⟩⟩
      · have l13 : 0 ≤ ar2.toInt := t_lel (t_nlt h10) (by decide : (0:Int) ≤ (0:Int32).toInt)
        refine ev_loc f_X11_tray (nx := 13) rfl rfl rfl rfl ?_
        refine ev_ic f_X11_tray (nx := 14) (v := 3) rfl (by decide) rfl ?_
        refine ev_if f_X11_tray (t1 := 27) (t2 := 17) rfl rfl rfl (fun h14 => ?_) (fun h14 => ?_)
        · have l15 : 4 ≤ ar2.toInt := t_ltl h14 (by decide : (3:Int) ≤ (3:Int32).toInt) rfl
          refine ev_loc f_X11_tray (nx := 28) rfl rfl rfl rfl ?_
          refine ev_ic f_X11_tray (nx := 29) (v := 1) rfl (by decide) rfl ?_
          refine ev_inV2 f_X11_tray (nx := 32) (lo2 := [(0, .ref 0), (1, .int 1)]) rfl rfl rfl rfl f_X11_deny (hI.wf.s rfl) rfl rfl rfl rfl rfl ?_
          refine ev_loc f_X11_deny (nx := 1) rfl rfl rfl rfl ?_
          refine ev_loc f_X11_deny (nx := 2) rfl rfl rfl rfl ?_
          refine ev_putIT f_X11_deny (nx := 5) rfl (hI.wf.s rfl) rfl rfl rfl (hI.put0 (hI.wf.s rfl) rfl rfl) (hX.upI rfl) (fun g16 e16 hI hX => ?_)
          refine ev_ic f_X11_deny (nx := 6) (v := 0) rfl (by decide) rfl ?_
          refine ev_retK1 f_X11_deny rfl rfl rfl ?_
          exact ev_ret f_X11_tray rfl rfl rfl ⟨_, _, _, rfl, hI, hX, ⟨_, rfl, (by decide : (0:Int) ≤ (0:Int32).toInt), (Int.le_trans (by decide : (0:Int32).toInt ≤ (0:Int)) (by decide : (0:Int) ≤ 1)), (show (0 ≤ 0 ∧ 0 ≤ 1) ∧ (0 = 1 ↔ (0 ≤ ar1.toInt ∧ ar1.toInt ≤ 3 ∧ 0 ≤ ar2.toInt ∧ ar2.toInt ≤ 3 ∧ 0 ≤ ar3.toInt ∧ ar3.toInt ≤ 60)) from (by omega))⟩⟩
        · have u17 : ar2.toInt ≤ 3 := t_leu (t_nlt h14) (by decide : (3:Int32).toInt ≤ (3:Int))
          refine ev_loc f_X11_tray (nx := 18) rfl rfl rfl rfl ?_
          refine ev_if f_X11_tray (t1 := 27) (t2 := 21) rfl rfl rfl (fun h18 => ?_) (fun h18 => ?_)
          · have u19 : ar3.toInt ≤ (-1) := t_ltu h18 (by decide : (0:Int32).toInt ≤ (0:Int)) rfl
            refine ev_loc f_X11_tray (nx := 28) rfl rfl rfl rfl ?_
            refine ev_ic f_X11_tray (nx := 29) (v := 1) rfl (by decide) rfl ?_
            refine ev_inV2 f_X11_tray (nx := 32) (lo2 := [(0, .ref 0), (1, .int 1)]) rfl rfl rfl rfl f_X11_deny (hI.wf.s rfl) rfl rfl rfl rfl rfl ?_
            refine ev_loc f_X11_deny (nx := 1) rfl rfl rfl rfl ?_
            refine ev_loc f_X11_deny (nx := 2) rfl rfl rfl rfl ?_
            refine ev_putIT f_X11_deny (nx := 5) rfl (hI.wf.s rfl) rfl rfl rfl (hI.put0 (hI.wf.s rfl) rfl rfl) (hX.upI rfl) (fun g20 e20 hI hX => ?_)
            refine ev_ic f_X11_deny (nx := 6) (v := 0) rfl (by decide) rfl ?_
            refine ev_retK1 f_X11_deny rfl rfl rfl ?_
            exact ev_ret f_X11_tray rfl rfl rfl ⟨_, _, _, rfl, hI, hX, ⟨_, rfl, (by decide : (0:Int) ≤ (0:Int32).toInt), (Int.le_trans (by decide : (0:Int32).toInt ≤ (0:Int)) (by decide : (0:Int) ≤ 1)), (show (0 ≤ 0 ∧ 0 ≤ 1) ∧ (0 = 1 ↔ (0 ≤ ar1.toInt ∧ ar1.toInt ≤ 3 ∧ 0 ≤ ar2.toInt ∧ ar2.toInt ≤ 3 ∧ 0 ≤ ar3.toInt ∧ ar3.toInt ≤ 60)) from (by omega))⟩⟩
          · have l21 : 0 ≤ ar3.toInt := t_lel (t_nlt h18) (by decide : (0:Int) ≤ (0:Int32).toInt)
            refine ev_loc f_X11_tray (nx := 22) rfl rfl rfl rfl ?_
            refine ev_bp f_X11_tray (nx := 24) (v := 60) rfl (by decide) rfl ?_
            refine ev_if f_X11_tray (t1 := 33) (t2 := 27) rfl rfl rfl (fun h22 => ?_) (fun h22 => ?_)
            · have u23 : ar3.toInt ≤ 60 := t_leu h22 (by decide : (60:Int32).toInt ≤ (60:Int))
              refine ev_loc f_X11_tray (nx := 34) rfl rfl rfl rfl ?_
              refine ev_getR f_X11_tray (nx := 37) rfl (hI.wf.s rfl) rfl rfl (hI.wf.r rfl) rfl rfl ?_
              refine ev_loc f_X11_tray (nx := 38) rfl rfl rfl rfl ?_
              obtain ⟨a24, e24, p24⟩ := t_tray hI.wf l4 (by decide) u8 (by decide)
              refine ev_aald f_X11_tray (nx := 39) rfl (hI.wf.s rfl) rfl (t_idx (n := 4) l4 (by decide) u8 (by decide)).1 (t_idx (n := 4) l4 (by decide) u8 (by decide)).2 e24 rfl rfl ?_
              refine ev_loc f_X11_tray (nx := 40) rfl rfl rfl rfl ?_
              refine ev_loc f_X11_tray (nx := 41) rfl rfl rfl rfl ?_
              refine ev_c0 f_X11_tray (nx := 44) (r := []) rfl rfl rfl rfl rfl rfl rfl (c_lay hI (a24) p24 (ar2) (ar3) l21 u23) rfl hX rfl (fun gi25 gl25 gr25 hI hX hC25 => ?_)
              refine ev_loc f_X11_tray (nx := 45) rfl rfl rfl rfl ?_
              refine ev_inV1 f_X11_tray (nx := 48) (lo2 := [(0, .ref 0)]) rfl rfl rfl rfl f_X11_grant (hI.wf.s rfl) rfl rfl rfl rfl rfl ?_
              refine ev_loc f_X11_grant (nx := 1) rfl rfl rfl rfl ?_
              refine ev_ic f_X11_grant (nx := 2) (v := 0) rfl (by decide) rfl ?_
              refine ev_putIT f_X11_grant (nx := 5) rfl (hI.wf.s rfl) rfl rfl rfl (hI.put0 (hI.wf.s rfl) rfl rfl) (hX.upI rfl) (fun g26 e26 hI hX => ?_)
              refine ev_ic f_X11_grant (nx := 6) (v := 1) rfl (by decide) rfl ?_
              refine ev_retK1 f_X11_grant rfl rfl rfl ?_
              exact ev_ret f_X11_tray rfl rfl rfl ⟨_, _, _, rfl, hI, hX, ⟨_, rfl, (Int.le_trans (by decide : (0:Int) ≤ 1) (by decide : (1:Int) ≤ (1:Int32).toInt)), (by decide : (1:Int32).toInt ≤ (1:Int)), (show (0 ≤ 1 ∧ 1 ≤ 1) ∧ (1 = 1 ↔ (0 ≤ ar1.toInt ∧ ar1.toInt ≤ 3 ∧ 0 ≤ ar2.toInt ∧ ar2.toInt ≤ 3 ∧ 0 ≤ ar3.toInt ∧ ar3.toInt ≤ 60)) from (by omega))⟩⟩
            · have l27 : 61 ≤ ar3.toInt := t_ltl (t_nle h22) (by decide : (60:Int) ≤ (60:Int32).toInt) rfl
              refine ev_loc f_X11_tray (nx := 28) rfl rfl rfl rfl ?_
              refine ev_ic f_X11_tray (nx := 29) (v := 1) rfl (by decide) rfl ?_
              refine ev_inV2 f_X11_tray (nx := 32) (lo2 := [(0, .ref 0), (1, .int 1)]) rfl rfl rfl rfl f_X11_deny (hI.wf.s rfl) rfl rfl rfl rfl rfl ?_
              refine ev_loc f_X11_deny (nx := 1) rfl rfl rfl rfl ?_
              refine ev_loc f_X11_deny (nx := 2) rfl rfl rfl rfl ?_
              refine ev_putIT f_X11_deny (nx := 5) rfl (hI.wf.s rfl) rfl rfl rfl (hI.put0 (hI.wf.s rfl) rfl rfl) (hX.upI rfl) (fun g28 e28 hI hX => ?_)
              refine ev_ic f_X11_deny (nx := 6) (v := 0) rfl (by decide) rfl ?_
              refine ev_retK1 f_X11_deny rfl rfl rfl ?_
              exact ev_ret f_X11_tray rfl rfl rfl ⟨_, _, _, rfl, hI, hX, ⟨_, rfl, (by decide : (0:Int) ≤ (0:Int32).toInt), (Int.le_trans (by decide : (0:Int32).toInt ≤ (0:Int)) (by decide : (0:Int) ≤ 1)), (show (0 ≤ 0 ∧ 0 ≤ 1) ∧ (0 = 1 ↔ (0 ≤ ar1.toInt ∧ ar1.toInt ≤ 3 ∧ 0 ≤ ar2.toInt ∧ ar2.toInt ≤ 3 ∧ 0 ≤ ar3.toInt ∧ ar3.toInt ≤ 60)) from (by omega))⟩⟩
noncomputable def wl_m_tray2 : List (Nat × Nat) := [(69, 2), (72, 9999), (73, 9999), (74, 9999)]
noncomputable def Q_m_tray2 (gi : Nat → Nat → Int32) (gl : Nat → Nat → Int64) (gr : Nat → Nat → Value) (ar1 : Int32) (ar2 : Int32) (ar3 : Int32) : Int32 → (Nat → Nat → Int32) → (Nat → Nat → Int64) → (Nat → Nat → Value) → Prop := fun (v : Int32) (gi2 : Nat → Nat → Int32) (gl2 : Nat → Nat → Int64) (gr2 : Nat → Nat → Value) => (0 ≤ v.toInt ∧ v.toInt ≤ 1) ∧ (v.toInt = 1 ↔ (0 ≤ ar1.toInt ∧ ar1.toInt ≤ 3 ∧ 0 ≤ ar2.toInt ∧ ar2.toInt ≤ 3 ∧ 0 ≤ ar3.toInt ∧ ar3.toInt ≤ 60))
theorem c_m_tray2 {X : x_Ext} {d : Nat} {sh : List (Nat ⊕ (Nat × Nat))} {gi : Nat → Nat → Int32} {gl : Nat → Nat → Int64} {gr : Nat → Nat → Value} (hI : t_I sh gi gr) (ar1 : Int32) (ar2 : Int32) (ar3 : Int32) : x_Me X (d + 2) n_X12_tray [.ref 69, .int ar1, .int ar2, .int ar3] (sh, gi, gl, gr) (t_PI wl_m_tray2 sh gi gl gr 0 1 (Q_m_tray2 gi gl gr ar1 ar2 ar3)) := by
  have hX : t_X wl_m_tray2 sh gi gl gr gi gl gr := t_X.rf
  refine me_i f_X12_tray (hI.wf.s rfl) rfl rfl rfl ?_
  refine ev_loc f_X12_tray (nx := 1) rfl rfl rfl rfl ?_
  refine ev_inS1 f_X12_tray (nx := 4) (lo2 := [(0, .int ar1)]) rfl rfl rfl rfl f_X12_isTray rfl rfl rfl rfl ?_
  refine ev_loc f_X12_isTray (nx := 1) rfl rfl rfl rfl ?_
  refine ev_if f_X12_isTray (t1 := 13) (t2 := 4) rfl rfl rfl (fun h1 => ?_) (fun h1 => ?_)
  · have u2 : ar1.toInt ≤ (-1) := t_ltu h1 (by decide : (0:Int32).toInt ≤ (0:Int)) rfl
    refine ev_ic f_X12_isTray (nx := 14) (v := 0) rfl (by decide) rfl ?_
    refine ev_retK1 f_X12_isTray rfl rfl rfl ?_
    refine ev_t f_X12_tray (t1 := 26) (t2 := 7) rfl rfl rfl (by decide) ?_
    refine ev_loc f_X12_tray (nx := 27) rfl rfl rfl rfl ?_
    refine ev_ic f_X12_tray (nx := 28) (v := 1) rfl (by decide) rfl ?_
    refine ev_inV2 f_X12_tray (nx := 31) (lo2 := [(0, .ref 69), (1, .int 1)]) rfl rfl rfl rfl f_X12_is (hI.wf.s rfl) rfl rfl rfl rfl rfl ?_
    refine ev_loc f_X12_is (nx := 1) rfl rfl rfl rfl ?_
    refine ev_loc f_X12_is (nx := 2) rfl rfl rfl rfl ?_
    refine ev_putIT f_X12_is (nx := 5) rfl (hI.wf.s rfl) rfl rfl rfl (hI.put0 (hI.wf.s rfl) rfl rfl) (hX.upI rfl) (fun g3 e3 hI hX => ?_)
    refine ev_loc f_X12_is (nx := 6) rfl rfl rfl rfl ?_
    refine ev_f f_X12_is (t1 := 9) (t2 := 13) rfl rfl rfl (by decide) ?_
    refine ev_ic f_X12_is (nx := 14) (v := 0) rfl (by decide) rfl ?_
    refine ev_retK1 f_X12_is rfl rfl rfl ?_
    exact ev_ret f_X12_tray rfl rfl rfl ⟨_, _, _, rfl, hI, hX, ⟨_, rfl, (by decide : (0:Int) ≤ (0:Int32).toInt), (Int.le_trans (by decide : (0:Int32).toInt ≤ (0:Int)) (by decide : (0:Int) ≤ 1)), (show (0 ≤ 0 ∧ 0 ≤ 1) ∧ (0 = 1 ↔ (0 ≤ ar1.toInt ∧ ar1.toInt ≤ 3 ∧ 0 ≤ ar2.toInt ∧ ar2.toInt ≤ 3 ∧ 0 ≤ ar3.toInt ∧ ar3.toInt ≤ 60)) from (by omega))⟩⟩
  · have l4 : 0 ≤ ar1.toInt := t_lel (t_nlt h1) (by decide : (0:Int) ≤ (0:Int32).toInt)
    refine ev_loc f_X12_isTray (nx := 5) rfl rfl rfl rfl ?_
    refine ev_ic f_X12_isTray (nx := 6) (v := 4) rfl (by decide) rfl ?_
    refine ev_if f_X12_isTray (t1 := 13) (t2 := 9) rfl rfl rfl (fun h5 => ?_) (fun h5 => ?_)
    · have l6 : 4 ≤ ar1.toInt := t_lel h5 (by decide : (4:Int) ≤ (4:Int32).toInt)
      refine ev_ic f_X12_isTray (nx := 14) (v := 0) rfl (by decide) rfl ?_
      refine ev_retK1 f_X12_isTray rfl rfl rfl ?_
      refine ev_t f_X12_tray (t1 := 26) (t2 := 7) rfl rfl rfl (by decide) ?_
      refine ev_loc f_X12_tray (nx := 27) rfl rfl rfl rfl ?_
      refine ev_ic f_X12_tray (nx := 28) (v := 1) rfl (by decide) rfl ?_
      refine ev_inV2 f_X12_tray (nx := 31) (lo2 := [(0, .ref 69), (1, .int 1)]) rfl rfl rfl rfl f_X12_is (hI.wf.s rfl) rfl rfl rfl rfl rfl ?_
      refine ev_loc f_X12_is (nx := 1) rfl rfl rfl rfl ?_
      refine ev_loc f_X12_is (nx := 2) rfl rfl rfl rfl ?_
      refine ev_putIT f_X12_is (nx := 5) rfl (hI.wf.s rfl) rfl rfl rfl (hI.put0 (hI.wf.s rfl) rfl rfl) (hX.upI rfl) (fun g7 e7 hI hX => ?_)
      refine ev_loc f_X12_is (nx := 6) rfl rfl rfl rfl ?_
      refine ev_f f_X12_is (t1 := 9) (t2 := 13) rfl rfl rfl (by decide) ?_
      refine ev_ic f_X12_is (nx := 14) (v := 0) rfl (by decide) rfl ?_
      refine ev_retK1 f_X12_is rfl rfl rfl ?_
      exact ev_ret f_X12_tray rfl rfl rfl ⟨_, _, _, rfl, hI, hX, ⟨_, rfl, (by decide : (0:Int) ≤ (0:Int32).toInt), (Int.le_trans (by decide : (0:Int32).toInt ≤ (0:Int)) (by decide : (0:Int) ≤ 1)), (show (0 ≤ 0 ∧ 0 ≤ 1) ∧ (0 = 1 ↔ (0 ≤ ar1.toInt ∧ ar1.toInt ≤ 3 ∧ 0 ≤ ar2.toInt ∧ ar2.toInt ≤ 3 ∧ 0 ≤ ar3.toInt ∧ ar3.toInt ≤ 60)) from (by omega))⟩⟩
    · have u8 : ar1.toInt ≤ 3 := t_ltu (t_nle h5) (by decide : (4:Int32).toInt ≤ (4:Int)) rfl
      refine ev_ic f_X12_isTray (nx := 10) (v := 1) rfl (by decide) rfl ?_
      refine ev_jmp f_X12_isTray (nx := 14) rfl rfl rfl ?_
      refine ev_retK1 f_X12_isTray rfl rfl rfl ?_
      refine ev_f f_X12_tray (t1 := 26) (t2 := 7) rfl rfl rfl (by decide) ?_
      refine ev_loc f_X12_tray (nx := 8) rfl rfl rfl rfl ?_
      refine ev_if f_X12_tray (t1 := 26) (t2 := 11) rfl rfl rfl (fun h9 => ?_) (fun h9 => ?_)
      · have u10 : ar2.toInt ≤ (-1) := t_ltu h9 (by decide : (0:Int32).toInt ≤ (0:Int)) rfl
        refine ev_loc f_X12_tray (nx := 27) rfl rfl rfl rfl ?_
        refine ev_ic f_X12_tray (nx := 28) (v := 1) rfl (by decide) rfl ?_
        refine ev_inV2 f_X12_tray (nx := 31) (lo2 := [(0, .ref 69), (1, .int 1)]) rfl rfl rfl rfl f_X12_is (hI.wf.s rfl) rfl rfl rfl rfl rfl ?_
        refine ev_loc f_X12_is (nx := 1) rfl rfl rfl rfl ?_
        refine ev_loc f_X12_is (nx := 2) rfl rfl rfl rfl ?_
        refine ev_putIT f_X12_is (nx := 5) rfl (hI.wf.s rfl) rfl rfl rfl (hI.put0 (hI.wf.s rfl) rfl rfl) (hX.upI rfl) (fun g11 e11 hI hX => ?_)
        refine ev_loc f_X12_is (nx := 6) rfl rfl rfl rfl ?_
        refine ev_f f_X12_is (t1 := 9) (t2 := 13) rfl rfl rfl (by decide) ?_
        refine ev_ic f_X12_is (nx := 14) (v := 0) rfl (by decide) rfl ?_
        refine ev_retK1 f_X12_is rfl rfl rfl ?_
        exact ev_ret f_X12_tray rfl rfl rfl ⟨_, _, _, rfl, hI, hX, ⟨_, rfl, (by decide : (0:Int) ≤ (0:Int32).toInt), (Int.le_trans (by decide : (0:Int32).toInt ≤ (0:Int)) (by decide : (0:Int) ≤ 1)), (show (0 ≤ 0 ∧ 0 ≤ 1) ∧ (0 = 1 ↔ (0 ≤ ar1.toInt ∧ ar1.toInt ≤ 3 ∧ 0 ≤ ar2.toInt ∧ ar2.toInt ≤ 3 ∧ 0 ≤ ar3.toInt ∧ ar3.toInt ≤ 60)) from (by omega))⟩⟩
      · have l12 : 0 ≤ ar2.toInt := t_lel (t_nlt h9) (by decide : (0:Int) ≤ (0:Int32).toInt)
        refine ev_loc f_X12_tray (nx := 12) rfl rfl rfl rfl ?_
        refine ev_ic f_X12_tray (nx := 13) (v := 3) rfl (by decide) rfl ?_
        refine ev_if f_X12_tray (t1 := 26) (t2 := 16) rfl rfl rfl (fun h13 => ?_) (fun h13 => ?_)
        · have l14 : 4 ≤ ar2.toInt := t_ltl h13 (by decide : (3:Int) ≤ (3:Int32).toInt) rfl
          refine ev_loc f_X12_tray (nx := 27) rfl rfl rfl rfl ?_
          refine ev_ic f_X12_tray (nx := 28) (v := 1) rfl (by decide) rfl ?_
          refine ev_inV2 f_X12_tray (nx := 31) (lo2 := [(0, .ref 69), (1, .int 1)]) rfl rfl rfl rfl f_X12_is (hI.wf.s rfl) rfl rfl rfl rfl rfl ?_
          refine ev_loc f_X12_is (nx := 1) rfl rfl rfl rfl ?_
          refine ev_loc f_X12_is (nx := 2) rfl rfl rfl rfl ?_
          refine ev_putIT f_X12_is (nx := 5) rfl (hI.wf.s rfl) rfl rfl rfl (hI.put0 (hI.wf.s rfl) rfl rfl) (hX.upI rfl) (fun g15 e15 hI hX => ?_)
          refine ev_loc f_X12_is (nx := 6) rfl rfl rfl rfl ?_
          refine ev_f f_X12_is (t1 := 9) (t2 := 13) rfl rfl rfl (by decide) ?_
          refine ev_ic f_X12_is (nx := 14) (v := 0) rfl (by decide) rfl ?_
          refine ev_retK1 f_X12_is rfl rfl rfl ?_
          exact ev_ret f_X12_tray rfl rfl rfl ⟨_, _, _, rfl, hI, hX, ⟨_, rfl, (by decide : (0:Int) ≤ (0:Int32).toInt), (Int.le_trans (by decide : (0:Int32).toInt ≤ (0:Int)) (by decide : (0:Int) ≤ 1)), (show (0 ≤ 0 ∧ 0 ≤ 1) ∧ (0 = 1 ↔ (0 ≤ ar1.toInt ∧ ar1.toInt ≤ 3 ∧ 0 ≤ ar2.toInt ∧ ar2.toInt ≤ 3 ∧ 0 ≤ ar3.toInt ∧ ar3.toInt ≤ 60)) from (by omega))⟩⟩
        · have u16 : ar2.toInt ≤ 3 := t_leu (t_nlt h13) (by decide : (3:Int32).toInt ≤ (3:Int))
          refine ev_loc f_X12_tray (nx := 17) rfl rfl rfl rfl ?_
          refine ev_if f_X12_tray (t1 := 26) (t2 := 20) rfl rfl rfl (fun h17 => ?_) (fun h17 => ?_)
          · have u18 : ar3.toInt ≤ (-1) := t_ltu h17 (by decide : (0:Int32).toInt ≤ (0:Int)) rfl
            refine ev_loc f_X12_tray (nx := 27) rfl rfl rfl rfl ?_
            refine ev_ic f_X12_tray (nx := 28) (v := 1) rfl (by decide) rfl ?_
            refine ev_inV2 f_X12_tray (nx := 31) (lo2 := [(0, .ref 69), (1, .int 1)]) rfl rfl rfl rfl f_X12_is (hI.wf.s rfl) rfl rfl rfl rfl rfl ?_
            refine ev_loc f_X12_is (nx := 1) rfl rfl rfl rfl ?_
            refine ev_loc f_X12_is (nx := 2) rfl rfl rfl rfl ?_
            refine ev_putIT f_X12_is (nx := 5) rfl (hI.wf.s rfl) rfl rfl rfl (hI.put0 (hI.wf.s rfl) rfl rfl) (hX.upI rfl) (fun g19 e19 hI hX => ?_)
            refine ev_loc f_X12_is (nx := 6) rfl rfl rfl rfl ?_
            refine ev_f f_X12_is (t1 := 9) (t2 := 13) rfl rfl rfl (by decide) ?_
            refine ev_ic f_X12_is (nx := 14) (v := 0) rfl (by decide) rfl ?_
            refine ev_retK1 f_X12_is rfl rfl rfl ?_
            exact ev_ret f_X12_tray rfl rfl rfl ⟨_, _, _, rfl, hI, hX, ⟨_, rfl, (by decide : (0:Int) ≤ (0:Int32).toInt), (Int.le_trans (by decide : (0:Int32).toInt ≤ (0:Int)) (by decide : (0:Int) ≤ 1)), (show (0 ≤ 0 ∧ 0 ≤ 1) ∧ (0 = 1 ↔ (0 ≤ ar1.toInt ∧ ar1.toInt ≤ 3 ∧ 0 ≤ ar2.toInt ∧ ar2.toInt ≤ 3 ∧ 0 ≤ ar3.toInt ∧ ar3.toInt ≤ 60)) from (by omega))⟩⟩
          · have l20 : 0 ≤ ar3.toInt := t_lel (t_nlt h17) (by decide : (0:Int) ≤ (0:Int32).toInt)
            refine ev_loc f_X12_tray (nx := 21) rfl rfl rfl rfl ?_
            refine ev_bp f_X12_tray (nx := 23) (v := 60) rfl (by decide) rfl ?_
            refine ev_if f_X12_tray (t1 := 32) (t2 := 26) rfl rfl rfl (fun h21 => ?_) (fun h21 => ?_)
            · have u22 : ar3.toInt ≤ 60 := t_leu h21 (by decide : (60:Int32).toInt ≤ (60:Int))
              refine ev_loc f_X12_tray (nx := 33) rfl rfl rfl rfl ?_
              refine ev_getR f_X12_tray (nx := 36) rfl (hI.wf.s rfl) rfl rfl (hI.wf.r rfl) rfl rfl ?_
              refine ev_loc f_X12_tray (nx := 37) rfl rfl rfl rfl ?_
              refine ev_loc f_X12_tray (nx := 38) rfl rfl rfl rfl ?_
              refine ev_iastT f_X12_tray (nx := 39) rfl (hI.wf.s rfl) l4 (by decide) u8 (by decide) rfl (hI.astL (hI.wf.s rfl) (by decide +kernel : t_abw 72 0 3 0 3 = true) (t_cl1 l4 (by decide)) (t_cl2 l4 u8 (by decide) (by decide)) l12 u16 rfl) (hX.upI (t_inA_ok rfl)) (fun g23 e23 hI hX => ?_)
              refine ev_loc f_X12_tray (nx := 40) rfl rfl rfl rfl ?_
              refine ev_getR f_X12_tray (nx := 43) rfl (hI.wf.s rfl) rfl rfl (hI.wf.r rfl) rfl rfl ?_
              refine ev_loc f_X12_tray (nx := 44) rfl rfl rfl rfl ?_
              refine ev_loc f_X12_tray (nx := 45) rfl rfl rfl rfl ?_
              refine ev_iastT f_X12_tray (nx := 46) rfl (hI.wf.s rfl) l4 (by decide) u8 (by decide) rfl (hI.astL (hI.wf.s rfl) (by decide +kernel : t_abw 73 0 3 0 60 = true) (t_cl1 l4 (by decide)) (t_cl2 l4 u8 (by decide) (by decide)) l20 u22 rfl) (hX.upI (t_inA_ok rfl)) (fun g24 e24 hI hX => ?_)
              refine ev_ic f_X12_tray (nx := 47) (v := 0) rfl (by decide) rfl ?_
              refine ev_loc f_X12_tray (nx := 49) (lo' := [(4, .int 0), (0, .ref 69), (1, .int ar1), (2, .int ar2), (3, .int ar3)]) rfl rfl rfl rfl ?_
              have L25 : ∀ (m25 : Nat) (gi25 : Nat → Nat → Int32) (gl25 : Nat → Nat → Int64) (gr25 : Nat → Nat → Value) (y25_4 : Int32), t_I sh gi25 gr25 → t_X wl_m_tray2 sh gi gl gr gi25 gl25 gr25 → 0 ≤ y25_4.toInt → y25_4.toInt ≤ 60 → gi25 72 ar1.toNatClampNeg = ar2 → gi25 73 ar1.toNatClampNeg = ar3 → (60 - y25_4.toInt).toNat = m25 → x_Ev X (d + 2) n_X12_tray 49 [(4, .int y25_4), (0, .ref 69), (1, .int ar1), (2, .int ar2), (3, .int ar3)] [] (sh, gi25, gl25, gr25) (t_PI wl_m_tray2 sh gi gl gr 0 1 (Q_m_tray2 gi gl gr ar1 ar2 ar3)) := by
                intro m25
                induction m25 using Nat.strongRecOn with
                | _ m25 ih25 =>
                intro gi25 gl25 gr25 y25_4 hI hX l25_4 u25_4 c25_0 c25_1 hm25
                refine ev_loc f_X12_tray (nx := 51) rfl rfl rfl rfl ?_
                refine ev_loc f_X12_tray (nx := 52) rfl rfl rfl rfl ?_
                refine ev_if f_X12_tray (t1 := 74) (t2 := 55) rfl rfl rfl (fun h26 => ?_) (fun h26 => ?_)
                · have r27 : ar3.toInt ≤ y25_4.toInt := Int32.le_iff_toInt_le.mp h26
                  refine ev_loc f_X12_tray (nx := 75) rfl rfl rfl rfl ?_
                  refine ev_ic f_X12_tray (nx := 76) (v := 0) rfl (by decide) rfl ?_
                  refine ev_inV2 f_X12_tray (nx := 79) (lo2 := [(0, .ref 69), (1, .int 0)]) rfl rfl rfl rfl f_X12_is (hI.wf.s rfl) rfl rfl rfl rfl rfl ?_
                  refine ev_loc f_X12_is (nx := 1) rfl rfl rfl rfl ?_
                  refine ev_loc f_X12_is (nx := 2) rfl rfl rfl rfl ?_
                  refine ev_putIT f_X12_is (nx := 5) rfl (hI.wf.s rfl) rfl rfl rfl (hI.put0 (hI.wf.s rfl) rfl rfl) (hX.upI rfl) (fun g28 e28 hI hX => ?_)
                  refine ev_loc f_X12_is (nx := 6) rfl rfl rfl rfl ?_
                  refine ev_t f_X12_is (t1 := 9) (t2 := 13) rfl rfl rfl (by decide) ?_
                  refine ev_ic f_X12_is (nx := 10) (v := 1) rfl (by decide) rfl ?_
                  refine ev_jmp f_X12_is (nx := 14) rfl rfl rfl ?_
                  refine ev_retK1 f_X12_is rfl rfl rfl ?_
                  exact ev_ret f_X12_tray rfl rfl rfl ⟨_, _, _, rfl, hI, hX, ⟨_, rfl, (Int.le_trans (by decide : (0:Int) ≤ 1) (by decide : (1:Int) ≤ (1:Int32).toInt)), (by decide : (1:Int32).toInt ≤ (1:Int)), (show (0 ≤ 1 ∧ 1 ≤ 1) ∧ (1 = 1 ↔ (0 ≤ ar1.toInt ∧ ar1.toInt ≤ 3 ∧ 0 ≤ ar2.toInt ∧ ar2.toInt ≤ 3 ∧ 0 ≤ ar3.toInt ∧ ar3.toInt ≤ 60)) from (by omega))⟩⟩
                · have r29 : y25_4.toInt < ar3.toInt := Int32.lt_iff_toInt_lt.mp (t_nle h26)
                  have u30 : y25_4.toInt ≤ 59 := t_ltu (t_nle h26) u22 rfl
                  have l31 : 1 ≤ ar3.toInt := t_ltl (t_nle h26) l25_4 rfl
                  refine ev_loc f_X12_tray (nx := 56) rfl rfl rfl rfl ?_
                  refine ev_getR f_X12_tray (nx := 59) rfl (hI.wf.s rfl) rfl rfl (hI.wf.r rfl) rfl rfl ?_
                  refine ev_bp f_X12_tray (nx := 61) (v := 60) rfl (by decide) rfl ?_
                  refine ev_loc f_X12_tray (nx := 62) rfl rfl rfl rfl ?_
                  refine ev_mulL f_X12_tray (nx := 63) (c := 60) (l := 0) (u := 180) rfl (by decide) (by decide) l4 u8 rfl rfl (by decide) (by decide) rfl (fun z32 e32 l32 u32 => ?_)
                  refine ev_loc f_X12_tray (nx := 65) rfl rfl rfl rfl ?_
                  refine ev_addR f_X12_tray (nx := 66) (l := 0) (u := 239) rfl l32 u32 l25_4 u30 rfl rfl (by decide) (by decide) rfl (fun z33 e33 l33 u33 => ?_)
                  refine ev_lc f_X12_tray (nx := 67) (v := 0) rfl (by decide) rfl ?_
                  refine ev_lastT f_X12_tray (nx := 68) rfl (hI.wf.s rfl) l33 (by decide) u33 (by decide) rfl (hX.upL (t_inA_ok rfl)) (fun g34 e34 hX => ?_)
                  refine ev_incR f_X12_tray (nx := 71) (c := 1) (l := 1) (u := 60) rfl rfl (by decide) (by decide) l25_4 u30 rfl rfl (by decide) (by decide) rfl (fun z35 e35 l35 u35 => ?_)
                  refine ev_jmp f_X12_tray (nx := 49) rfl rfl rfl ?_
                  refine ev_sub (lo := [(4, .int z35), (0, .ref 69), (1, .int ar1), (2, .int ar2), (3, .int ar3)]) rfl (t_sc rfl (t_sc rfl (t_sc rfl (t_sc rfl (t_sc rfl t_sn))))) ?_
                  exact ih25 _ (by omega) gi25 g34 gr25 (z35) hI hX  (Int.le_trans (by decide : (0:Int) ≤ 1) l35) u35 c25_0 c25_1 rfl
              refine ev_sub (lo := [(4, .int 0), (0, .ref 69), (1, .int ar1), (2, .int ar2), (3, .int ar3)]) rfl (t_sc rfl (t_sc rfl (t_sc rfl (t_sc rfl (t_sc rfl t_sn))))) ?_
              exact L25 _ g24 gl gr (0) hI hX  (by decide : (0:Int) ≤ (0:Int32).toInt) (Int.le_trans (by decide : (0:Int32).toInt ≤ (0:Int)) (by decide : (0:Int) ≤ 60)) ((by rw [e24]; exact x_up2_off (Or.inl (by decide)) : g24 72 ar1.toNatClampNeg = g23 72 ar1.toNatClampNeg).trans (by rw [e23]; exact x_up2_at _ _ _ _ : g23 72 ar1.toNatClampNeg = ar2)) (by rw [e24]; exact x_up2_at _ _ _ _ : g24 73 ar1.toNatClampNeg = ar3) rfl
            · have l36 : 61 ≤ ar3.toInt := t_ltl (t_nle h21) (by decide : (60:Int) ≤ (60:Int32).toInt) rfl
              refine ev_loc f_X12_tray (nx := 27) rfl rfl rfl rfl ?_
              refine ev_ic f_X12_tray (nx := 28) (v := 1) rfl (by decide) rfl ?_
              refine ev_inV2 f_X12_tray (nx := 31) (lo2 := [(0, .ref 69), (1, .int 1)]) rfl rfl rfl rfl f_X12_is (hI.wf.s rfl) rfl rfl rfl rfl rfl ?_
              refine ev_loc f_X12_is (nx := 1) rfl rfl rfl rfl ?_
              refine ev_loc f_X12_is (nx := 2) rfl rfl rfl rfl ?_
              refine ev_putIT f_X12_is (nx := 5) rfl (hI.wf.s rfl) rfl rfl rfl (hI.put0 (hI.wf.s rfl) rfl rfl) (hX.upI rfl) (fun g37 e37 hI hX => ?_)
              refine ev_loc f_X12_is (nx := 6) rfl rfl rfl rfl ?_
              refine ev_f f_X12_is (t1 := 9) (t2 := 13) rfl rfl rfl (by decide) ?_
              refine ev_ic f_X12_is (nx := 14) (v := 0) rfl (by decide) rfl ?_
              refine ev_retK1 f_X12_is rfl rfl rfl ?_
              exact ev_ret f_X12_tray rfl rfl rfl ⟨_, _, _, rfl, hI, hX, ⟨_, rfl, (by decide : (0:Int) ≤ (0:Int32).toInt), (Int.le_trans (by decide : (0:Int32).toInt ≤ (0:Int)) (by decide : (0:Int) ≤ 1)), (show (0 ≤ 0 ∧ 0 ≤ 1) ∧ (0 = 1 ↔ (0 ≤ ar1.toInt ∧ ar1.toInt ≤ 3 ∧ 0 ≤ ar2.toInt ∧ ar2.toInt ≤ 3 ∧ 0 ≤ ar3.toInt ∧ ar3.toInt ≤ 60)) from (by omega))⟩⟩
noncomputable def wl_t_river : List (Nat × Nat) := [(0, 0), (0, 5), (0, 6), (0, 7), (0, 8), (0, 9), (3, 0), (3, 3), (3, 4), (3, 5), (3, 6), (4, 9999), (5, 9999), (6, 0), (7, 9999), (8, 9999), (9, 9999), (10, 9999), (11, 9999), (12, 9999), (13, 0), (14, 9999), (15, 9999), (16, 9999), (17, 9999), (18, 9999), (29, 0), (30, 9999), (31, 9999), (32, 9999), (33, 9999), (34, 9999), (35, 0), (36, 9999), (37, 9999), (38, 9999), (39, 9999), (40, 9999), (43, 9999), (44, 9999), (46, 0), (47, 9999), (48, 9999), (49, 9999), (50, 9999), (51, 9999), (52, 0), (53, 9999), (54, 9999), (55, 9999), (56, 9999), (57, 9999), (58, 9999), (59, 9999), (113, 0), (114, 0), (114, 3), (114, 4), (114, 5), (114, 6), (115, 4), (115, 5), (115, 6), (115, 7), (118, 2), (118, 3), (118, 4), (118, 5), (118, 6), (118, 7), (118, 8), (118, 9), (118, 10), (118, 11), (130, 9999), (131, 9999), (133, 9999)]
noncomputable def Q_t_river (gi : Nat → Nat → Int32) (gl : Nat → Nat → Int64) (gr : Nat → Nat → Value) (ar1 : Int32) (ar2 : Nat) : Int32 → (Nat → Nat → Int32) → (Nat → Nat → Int64) → (Nat → Nat → Value) → Prop := fun (v : Int32) (gi2 : Nat → Nat → Int32) (gl2 : Nat → Nat → Int64) (gr2 : Nat → Nat → Value) => (gi2 0 5).toInt = 0
theorem c_t_river {X : x_Ext} {d : Nat} {sh : List (Nat ⊕ (Nat × Nat))} {gi : Nat → Nat → Int32} {gl : Nat → Nat → Int64} {gr : Nat → Nat → Value} (hI : t_I sh gi gr) (ar1 : Int32) (ar2 : Nat) (p_a2 : t_RR sh gr ar2) : x_Ev X (d + 7) n_X11_river 38 [(0, .ref 0), (1, .int ar1), (2, .ref ar2)] [] (sh, gi, gl, gr) (t_PI wl_t_river sh gi gl gr (-1) 6 (Q_t_river gi gl gr ar1 ar2)) := by
  have hX : t_X wl_t_river sh gi gl gr gi gl gr := t_X.rf
  obtain ⟨l1, u1⟩ := hI.b (hI.wf.s (k := 0) rfl) (t_bdK rfl : t_bd 10 5 = some (0, 900))
  refine ev_loc f_X11_river (nx := 39) rfl rfl rfl rfl ?_
  refine ev_cI f_X11_river (nx := 42) (r := []) rfl rfl rfl rfl rfl rfl rfl (c_r_readAll hI (ar2) p_a2) rfl hX rfl (fun w2 gi2 gl2 gr2 l2 u2 hI hX hC2 => ?_)
  replace p_a2 := p_a2.ext hC2.2
  refine ev_loc f_X11_river (nx := 43) (lo' := [(3, .int w2), (0, .ref 0), (1, .int ar1), (2, .ref ar2)]) rfl rfl rfl rfl ?_
  refine ev_loc f_X11_river (nx := 44) rfl rfl rfl rfl ?_
  refine ev_loc f_X11_river (nx := 45) rfl rfl rfl rfl ?_
  obtain ⟨a3, e3, p3⟩ := p_a2.2.1
  refine ev_getR f_X11_river (nx := 48) rfl p_a2.1 rfl rfl e3 rfl rfl ?_
  refine ev_inV2 f_X11_river (nx := 51) (lo2 := [(0, .ref 0), (1, .ref a3)]) rfl rfl rfl rfl f_X11_endText (hI.wf.s rfl) rfl rfl rfl rfl rfl ?_
  refine ev_loc f_X11_endText (nx := 1) rfl rfl rfl rfl ?_
  refine ev_ic f_X11_endText (nx := 2) (v := 0) rfl (by decide) rfl ?_
  refine ev_putIT f_X11_endText (nx := 5) rfl (hI.wf.s rfl) rfl rfl rfl (hI.putB (hI.wf.s rfl) rfl rfl (by decide : (0:Int) ≤ (0:Int32).toInt) (by decide) (by decide : (0:Int32).toInt ≤ (0:Int)) (by decide)) (hX.upI rfl) (fun g4 e4 hI hX => ?_)
  refine ev_loc f_X11_endText (nx := 6) rfl rfl rfl rfl ?_
  refine ev_loc f_X11_endText (nx := 7) rfl rfl rfl rfl ?_
  refine ev_getI f_X11_endText (nx := 10) rfl p3.1 rfl rfl rfl ?_
  refine ev_putIT f_X11_endText (nx := 13) rfl (hI.wf.s rfl) rfl rfl rfl (hI.put0 (hI.wf.s rfl) rfl rfl) (hX.upI rfl) (fun g5 e5 hI hX => ?_)
  refine ev_loc f_X11_endText (nx := 14) rfl rfl rfl rfl ?_
  refine ev_loc f_X11_endText (nx := 15) rfl rfl rfl rfl ?_
  refine ev_getI f_X11_endText (nx := 18) rfl p3.1 rfl rfl rfl ?_
  refine ev_putIT f_X11_endText (nx := 21) rfl (hI.wf.s rfl) rfl rfl rfl (hI.put0 (hI.wf.s rfl) rfl rfl) (hX.upI rfl) (fun g6 e6 hI hX => ?_)
  refine ev_retK0 f_X11_endText rfl rfl rfl ?_
  refine ev_loc f_X11_river (nx := 52) rfl rfl rfl rfl ?_
  refine ev_if f_X11_river (t1 := 55) (t2 := 62) rfl rfl rfl (fun h7 => ?_) (fun h7 => ?_)
  · have u8 : w2.toInt ≤ 0 := t_equ h7 (by decide : (0:Int32).toInt ≤ (0:Int))
    refine ev_loc f_X11_river (nx := 56) rfl rfl rfl rfl ?_
    refine ev_bp f_X11_river (nx := 58) (v := 9) rfl (by decide) rfl ?_
    refine ev_inV2 f_X11_river (nx := 61) (lo2 := [(0, .ref 0), (1, .int 9)]) rfl rfl rfl rfl f_X11_refuse (hI.wf.s rfl) rfl rfl rfl rfl rfl ?_
    refine ev_loc f_X11_refuse (nx := 1) rfl rfl rfl rfl ?_
    refine ev_loc f_X11_refuse (nx := 2) rfl rfl rfl rfl ?_
    refine ev_putIT f_X11_refuse (nx := 5) rfl (hI.wf.s rfl) rfl rfl rfl (hI.put0 (hI.wf.s rfl) rfl rfl) (hX.upI rfl) (fun g9 e9 hI hX => ?_)
    refine ev_ic f_X11_refuse (nx := 6) (v := -1) rfl (by decide) rfl ?_
    refine ev_retK1 f_X11_refuse rfl rfl rfl ?_
    exact ev_ret f_X11_river rfl rfl rfl ⟨_, _, _, rfl, hI, hX, ⟨_, rfl, (by decide : ((-1):Int) ≤ ((-1):Int32).toInt), (Int.le_trans (by decide : ((-1):Int32).toInt ≤ ((-1):Int)) (by decide : ((-1):Int) ≤ 6)), (show (g9 0 5).toInt = 0 from (by have ff10 : (g9 0 5).toInt = 0 := (congrArg Int32.toInt ((by rw [e9]; exact x_up2_off (Or.inr (by decide)) : g9 0 5 = g6 0 5).trans ((by rw [e6]; exact x_up2_off (Or.inr (by decide)) : g6 0 5 = g5 0 5).trans ((by rw [e5]; exact x_up2_off (Or.inr (by decide)) : g5 0 5 = g4 0 5).trans (by rw [e4]; exact x_up2_at _ _ _ _ : g4 0 5 = 0))))).trans (by decide); omega))⟩⟩
  · have r11 : w2.toInt ≠ 0 := fun e => h7 (Int32.toInt_inj.mp (e.trans (by decide : (0:Int) = (0 : Int32).toInt)))
    have l12 : 1 ≤ w2.toInt := t_nel h7 l2 rfl rfl
    refine ev_loc f_X11_river (nx := 63) rfl rfl rfl rfl ?_
    refine ev_loc f_X11_river (nx := 64) rfl rfl rfl rfl ?_
    obtain ⟨a13, e13, p13⟩ := p_a2.2.2.1
    refine ev_getR f_X11_river (nx := 67) rfl p_a2.1 rfl rfl e13 rfl rfl ?_
    have hE14 := t_eqf_up (gr := gr2) (j := 6) (v := .ref a13) (hI.wf.s (k := 0) rfl) rfl
    have hT14 := t_putRiver hI p13
    replace p_a2 := p_a2.ext hE14
    replace p3 := p3.ext hE14
    replace p13 := p13.ext hE14
    refine ev_putRT f_X11_river (nx := 70) rfl (hI.wf.s rfl) rfl rfl rfl rfl hT14 (hX.upR rfl hE14) (fun g14 e14 hI hX => ?_)
    rw [← e14] at p_a2
    rw [← e14] at p3
    rw [← e14] at p13
    refine ev_loc f_X11_river (nx := 71) rfl rfl rfl rfl ?_
    refine ev_alu f_X11_river (nx := 72) rfl rfl rfl rfl ?_
    have hE15 := t_eqf_up (gr := g14) (j := 7) (v := .null) (hI.wf.s (k := 0) rfl) rfl
    have hT15 := t_putRules hI (v := .null) (Or.inl rfl)
    replace p_a2 := p_a2.ext hE15
    replace p3 := p3.ext hE15
    replace p13 := p13.ext hE15
    refine ev_putRT f_X11_river (nx := 75) rfl (hI.wf.s rfl) rfl rfl rfl rfl hT15 (hX.upR rfl hE15) (fun g15 e15 hI hX => ?_)
    rw [← e15] at p_a2
    rw [← e15] at p3
    rw [← e15] at p13
    refine ev_loc f_X11_river (nx := 76) rfl rfl rfl rfl ?_
    refine ev_loc f_X11_river (nx := 77) rfl rfl rfl rfl ?_
    refine ev_getR f_X11_river (nx := 80) (v := .ref a13) rfl (hI.wf.s rfl) rfl rfl ((by rw [e15]; exact x_up2_off (Or.inr (by decide)) : g15 0 6 = g14 0 6).trans (by rw [e14]; exact x_up2_at _ _ _ _ : g14 0 6 = .ref a13)) rfl rfl ?_
    obtain ⟨a16, e16, p16⟩ := p13.2.2.2.2.1
    refine ev_getR f_X11_river (nx := 83) rfl p13.1 rfl rfl e16 rfl rfl ?_
    refine ev_getI f_X11_river (nx := 86) rfl p16.1 rfl rfl rfl ?_
    obtain ⟨l17, u17⟩ := hI.b p16.1 (t_bdK rfl : t_bd 3 0 = some (0, 6))
    refine ev_inV2 f_X11_river (nx := 89) (lo2 := [(0, .ref 0), (1, .int (g6 a16 0))]) rfl rfl rfl rfl f_X11_answer (hI.wf.s rfl) rfl rfl rfl rfl rfl ?_
    refine ev_loc f_X11_answer (nx := 1) rfl rfl rfl rfl ?_
    refine ev_ic f_X11_answer (nx := 2) (v := 0) rfl (by decide) rfl ?_
    refine ev_putIT f_X11_answer (nx := 5) rfl (hI.wf.s rfl) rfl rfl rfl (hI.put0 (hI.wf.s rfl) rfl rfl) (hX.upI rfl) (fun g18 e18 hI hX => ?_)
    refine ev_loc f_X11_answer (nx := 6) rfl rfl rfl rfl ?_
    refine ev_retK1 f_X11_answer rfl rfl rfl ?_
    exact ev_ret f_X11_river rfl rfl rfl ⟨_, _, _, rfl, hI, hX, ⟨_, rfl, (Int.le_trans (by decide : ((-1):Int) ≤ 0) l17), u17, (show (g18 0 5).toInt = 0 from (by have ff19 : (g18 0 5).toInt = 0 := (congrArg Int32.toInt ((by rw [e18]; exact x_up2_off (Or.inr (by decide)) : g18 0 5 = g6 0 5).trans ((by rw [e6]; exact x_up2_off (Or.inr (by decide)) : g6 0 5 = g5 0 5).trans ((by rw [e5]; exact x_up2_off (Or.inr (by decide)) : g5 0 5 = g4 0 5).trans (by rw [e4]; exact x_up2_at _ _ _ _ : g4 0 5 = 0))))).trans (by decide); omega))⟩⟩
noncomputable def wl_t_rules : List (Nat × Nat) := [(0, 0), (0, 5), (0, 7), (0, 8), (0, 9), (116, 0), (116, 3), (117, 2), (118, 2), (118, 3), (118, 4), (118, 5), (118, 6), (118, 7), (118, 8), (118, 9), (118, 10), (118, 11), (130, 9999)]
noncomputable def Q_t_rules (gi : Nat → Nat → Int32) (gl : Nat → Nat → Int64) (gr : Nat → Nat → Value) (ar1 : Int32) (ar2 : Nat) : Int32 → (Nat → Nat → Int32) → (Nat → Nat → Int64) → (Nat → Nat → Value) → Prop := fun (v : Int32) (gi2 : Nat → Nat → Int32) (gl2 : Nat → Nat → Int64) (gr2 : Nat → Nat → Value) => (gi2 0 5).toInt = 0
theorem c_t_rules {X : x_Ext} {d : Nat} {sh : List (Nat ⊕ (Nat × Nat))} {gi : Nat → Nat → Int32} {gl : Nat → Nat → Int64} {gr : Nat → Nat → Value} (hI : t_I sh gi gr) (ar1 : Int32) (ar2 : Nat) (p_a2 : t_RL sh gr ar2) : x_Ev X (d + 66) n_X11_rules 53 [(0, .ref 0), (1, .int ar1), (2, .ref ar2)] [] (sh, gi, gl, gr) (t_PI wl_t_rules sh gi gl gr (-1) 12 (Q_t_rules gi gl gr ar1 ar2)) := by
  have hX : t_X wl_t_rules sh gi gl gr gi gl gr := t_X.rf
  obtain ⟨l1, u1⟩ := hI.b (hI.wf.s (k := 0) rfl) (t_bdK rfl : t_bd 10 5 = some (0, 900))
  refine ev_loc f_X11_rules (nx := 54) rfl rfl rfl rfl ?_
  refine ev_cI f_X11_rules (nx := 57) (r := []) rfl rfl rfl rfl rfl rfl rfl (c_rl_readAll hI (ar2) p_a2) rfl hX rfl (fun w2 gi2 gl2 gr2 l2 u2 hI hX hC2 => ?_)
  replace p_a2 := p_a2.ext hC2.2
  refine ev_loc f_X11_rules (nx := 58) (lo' := [(3, .int w2), (0, .ref 0), (1, .int ar1), (2, .ref ar2)]) rfl rfl rfl rfl ?_
  refine ev_loc f_X11_rules (nx := 59) rfl rfl rfl rfl ?_
  refine ev_loc f_X11_rules (nx := 60) rfl rfl rfl rfl ?_
  obtain ⟨a3, e3, p3⟩ := p_a2.2.1
  refine ev_getR f_X11_rules (nx := 63) rfl p_a2.1 rfl rfl e3 rfl rfl ?_
  refine ev_inV2 f_X11_rules (nx := 66) (lo2 := [(0, .ref 0), (1, .ref a3)]) rfl rfl rfl rfl f_X11_endText (hI.wf.s rfl) rfl rfl rfl rfl rfl ?_
  refine ev_loc f_X11_endText (nx := 1) rfl rfl rfl rfl ?_
  refine ev_ic f_X11_endText (nx := 2) (v := 0) rfl (by decide) rfl ?_
  refine ev_putIT f_X11_endText (nx := 5) rfl (hI.wf.s rfl) rfl rfl rfl (hI.putB (hI.wf.s rfl) rfl rfl (by decide : (0:Int) ≤ (0:Int32).toInt) (by decide) (by decide : (0:Int32).toInt ≤ (0:Int)) (by decide)) (hX.upI rfl) (fun g4 e4 hI hX => ?_)
  refine ev_loc f_X11_endText (nx := 6) rfl rfl rfl rfl ?_
  refine ev_loc f_X11_endText (nx := 7) rfl rfl rfl rfl ?_
  refine ev_getI f_X11_endText (nx := 10) rfl p3.1 rfl rfl rfl ?_
  refine ev_putIT f_X11_endText (nx := 13) rfl (hI.wf.s rfl) rfl rfl rfl (hI.put0 (hI.wf.s rfl) rfl rfl) (hX.upI rfl) (fun g5 e5 hI hX => ?_)
  refine ev_loc f_X11_endText (nx := 14) rfl rfl rfl rfl ?_
  refine ev_loc f_X11_endText (nx := 15) rfl rfl rfl rfl ?_
  refine ev_getI f_X11_endText (nx := 18) rfl p3.1 rfl rfl rfl ?_
  refine ev_putIT f_X11_endText (nx := 21) rfl (hI.wf.s rfl) rfl rfl rfl (hI.put0 (hI.wf.s rfl) rfl rfl) (hX.upI rfl) (fun g6 e6 hI hX => ?_)
  refine ev_retK0 f_X11_endText rfl rfl rfl ?_
  refine ev_loc f_X11_rules (nx := 67) rfl rfl rfl rfl ?_
  refine ev_if f_X11_rules (t1 := 70) (t2 := 77) rfl rfl rfl (fun h7 => ?_) (fun h7 => ?_)
  · have u8 : w2.toInt ≤ 0 := t_equ h7 (by decide : (0:Int32).toInt ≤ (0:Int))
    refine ev_loc f_X11_rules (nx := 71) rfl rfl rfl rfl ?_
    refine ev_bp f_X11_rules (nx := 73) (v := 9) rfl (by decide) rfl ?_
    refine ev_inV2 f_X11_rules (nx := 76) (lo2 := [(0, .ref 0), (1, .int 9)]) rfl rfl rfl rfl f_X11_refuse (hI.wf.s rfl) rfl rfl rfl rfl rfl ?_
    refine ev_loc f_X11_refuse (nx := 1) rfl rfl rfl rfl ?_
    refine ev_loc f_X11_refuse (nx := 2) rfl rfl rfl rfl ?_
    refine ev_putIT f_X11_refuse (nx := 5) rfl (hI.wf.s rfl) rfl rfl rfl (hI.put0 (hI.wf.s rfl) rfl rfl) (hX.upI rfl) (fun g9 e9 hI hX => ?_)
    refine ev_ic f_X11_refuse (nx := 6) (v := -1) rfl (by decide) rfl ?_
    refine ev_retK1 f_X11_refuse rfl rfl rfl ?_
    exact ev_ret f_X11_rules rfl rfl rfl ⟨_, _, _, rfl, hI, hX, ⟨_, rfl, (by decide : ((-1):Int) ≤ ((-1):Int32).toInt), (Int.le_trans (by decide : ((-1):Int32).toInt ≤ ((-1):Int)) (by decide : ((-1):Int) ≤ 12)), (show (g9 0 5).toInt = 0 from (by have ff10 : (g9 0 5).toInt = 0 := (congrArg Int32.toInt ((by rw [e9]; exact x_up2_off (Or.inr (by decide)) : g9 0 5 = g6 0 5).trans ((by rw [e6]; exact x_up2_off (Or.inr (by decide)) : g6 0 5 = g5 0 5).trans ((by rw [e5]; exact x_up2_off (Or.inr (by decide)) : g5 0 5 = g4 0 5).trans (by rw [e4]; exact x_up2_at _ _ _ _ : g4 0 5 = 0))))).trans (by decide); omega))⟩⟩
  · have r11 : w2.toInt ≠ 0 := fun e => h7 (Int32.toInt_inj.mp (e.trans (by decide : (0:Int) = (0 : Int32).toInt)))
    have l12 : 1 ≤ w2.toInt := t_nel h7 l2 rfl rfl
    refine ev_loc f_X11_rules (nx := 78) rfl rfl rfl rfl ?_
    refine ev_loc f_X11_rules (nx := 79) rfl rfl rfl rfl ?_
    obtain ⟨a13, e13, p13⟩ := p_a2.2.2
    refine ev_getR f_X11_rules (nx := 82) rfl p_a2.1 rfl rfl e13 rfl rfl ?_
    have hE14 := t_eqf_up (gr := gr2) (j := 7) (v := .ref a13) (hI.wf.s (k := 0) rfl) rfl
    have hT14 := t_putRules hI (v := .ref a13) (Or.inr ⟨_, rfl, p13⟩)
    replace p_a2 := p_a2.ext hE14
    replace p3 := p3.ext hE14
    replace p13 := p13.ext hE14
    refine ev_putRT f_X11_rules (nx := 85) rfl (hI.wf.s rfl) rfl rfl rfl rfl hT14 (hX.upR rfl hE14) (fun g14 e14 hI hX => ?_)
    rw [← e14] at p_a2
    rw [← e14] at p3
    rw [← e14] at p13
    refine ev_loc f_X11_rules (nx := 86) rfl rfl rfl rfl ?_
    refine ev_loc f_X11_rules (nx := 87) rfl rfl rfl rfl ?_
    refine ev_getR f_X11_rules (nx := 90) (v := .ref a13) rfl (hI.wf.s rfl) rfl rfl (by rw [e14]; exact x_up2_at _ _ _ _ : g14 0 7 = .ref a13) rfl rfl ?_
    refine ev_getI f_X11_rules (nx := 93) rfl p13.1 rfl rfl rfl ?_
    obtain ⟨l15, u15⟩ := hI.b p13.1 (t_bdK rfl : t_bd 6 0 = some (0, 12))
    refine ev_inV2 f_X11_rules (nx := 96) (lo2 := [(0, .ref 0), (1, .int (g6 a13 0))]) rfl rfl rfl rfl f_X11_answer (hI.wf.s rfl) rfl rfl rfl rfl rfl ?_
    refine ev_loc f_X11_answer (nx := 1) rfl rfl rfl rfl ?_
    refine ev_ic f_X11_answer (nx := 2) (v := 0) rfl (by decide) rfl ?_
    refine ev_putIT f_X11_answer (nx := 5) rfl (hI.wf.s rfl) rfl rfl rfl (hI.put0 (hI.wf.s rfl) rfl rfl) (hX.upI rfl) (fun g16 e16 hI hX => ?_)
    refine ev_loc f_X11_answer (nx := 6) rfl rfl rfl rfl ?_
    refine ev_retK1 f_X11_answer rfl rfl rfl ?_
    exact ev_ret f_X11_rules rfl rfl rfl ⟨_, _, _, rfl, hI, hX, ⟨_, rfl, (Int.le_trans (by decide : ((-1):Int) ≤ 0) l15), u15, (show (g16 0 5).toInt = 0 from (by have ff17 : (g16 0 5).toInt = 0 := (congrArg Int32.toInt ((by rw [e16]; exact x_up2_off (Or.inr (by decide)) : g16 0 5 = g6 0 5).trans ((by rw [e6]; exact x_up2_off (Or.inr (by decide)) : g6 0 5 = g5 0 5).trans ((by rw [e5]; exact x_up2_off (Or.inr (by decide)) : g5 0 5 = g4 0 5).trans (by rw [e4]; exact x_up2_at _ _ _ _ : g4 0 5 = 0))))).trans (by decide); omega))⟩⟩
noncomputable def wl_t_riverN : List (Nat × Nat) := [(0, 0)]
noncomputable def Q_t_riverN (gi : Nat → Nat → Int32) (gl : Nat → Nat → Int64) (gr : Nat → Nat → Value) (ar1 : Int32) : Int32 → (Nat → Nat → Int32) → (Nat → Nat → Int64) → (Nat → Nat → Value) → Prop := fun (v : Int32) (gi2 : Nat → Nat → Int32) (gl2 : Nat → Nat → Int64) (gr2 : Nat → Nat → Value) => v.toInt = -1
theorem c_t_riverN {X : x_Ext} {d : Nat} {sh : List (Nat ⊕ (Nat × Nat))} {gi : Nat → Nat → Int32} {gl : Nat → Nat → Int64} {gr : Nat → Nat → Value} (hI : t_I sh gi gr) (ar1 : Int32) : x_Ev X (d + 2) n_X11_river 12 [(0, .ref 0), (1, .int ar1)] [] (sh, gi, gl, gr) (t_PI wl_t_riverN sh gi gl gr (-1) (-1) (Q_t_riverN gi gl gr ar1)) := by
  have hX : t_X wl_t_riverN sh gi gl gr gi gl gr := t_X.rf
  refine ev_loc f_X11_river (nx := 13) rfl rfl rfl rfl ?_
  refine ev_ic f_X11_river (nx := 14) (v := 1) rfl (by decide) rfl ?_
  refine ev_inV2 f_X11_river (nx := 17) (lo2 := [(0, .ref 0), (1, .int 1)]) rfl rfl rfl rfl f_X11_refuse (hI.wf.s rfl) rfl rfl rfl rfl rfl ?_
  refine ev_loc f_X11_refuse (nx := 1) rfl rfl rfl rfl ?_
  refine ev_loc f_X11_refuse (nx := 2) rfl rfl rfl rfl ?_
  refine ev_putIT f_X11_refuse (nx := 5) rfl (hI.wf.s rfl) rfl rfl rfl (hI.put0 (hI.wf.s rfl) rfl rfl) (hX.upI rfl) (fun g1 e1 hI hX => ?_)
  refine ev_ic f_X11_refuse (nx := 6) (v := -1) rfl (by decide) rfl ?_
  refine ev_retK1 f_X11_refuse rfl rfl rfl ?_
  exact ev_ret f_X11_river rfl rfl rfl ⟨_, _, _, rfl, hI, hX, ⟨_, rfl, (by decide : ((-1):Int) ≤ ((-1):Int32).toInt), (by decide : ((-1):Int32).toInt ≤ ((-1):Int)), (show (-1) = -1 from (by omega))⟩⟩
noncomputable def wl_t_rulesN : List (Nat × Nat) := [(0, 0)]
noncomputable def Q_t_rulesN (gi : Nat → Nat → Int32) (gl : Nat → Nat → Int64) (gr : Nat → Nat → Value) (ar1 : Int32) : Int32 → (Nat → Nat → Int32) → (Nat → Nat → Int64) → (Nat → Nat → Value) → Prop := fun (v : Int32) (gi2 : Nat → Nat → Int32) (gl2 : Nat → Nat → Int64) (gr2 : Nat → Nat → Value) => v.toInt = -1
theorem c_t_rulesN {X : x_Ext} {d : Nat} {sh : List (Nat ⊕ (Nat × Nat))} {gi : Nat → Nat → Int32} {gl : Nat → Nat → Int64} {gr : Nat → Nat → Value} (hI : t_I sh gi gr) (ar1 : Int32) : x_Ev X (d + 2) n_X11_rules 19 [(0, .ref 0), (1, .int ar1)] [] (sh, gi, gl, gr) (t_PI wl_t_rulesN sh gi gl gr (-1) (-1) (Q_t_rulesN gi gl gr ar1)) := by
  have hX : t_X wl_t_rulesN sh gi gl gr gi gl gr := t_X.rf
  refine ev_loc f_X11_rules (nx := 20) rfl rfl rfl rfl ?_
  refine ev_ic f_X11_rules (nx := 21) (v := 1) rfl (by decide) rfl ?_
  refine ev_inV2 f_X11_rules (nx := 24) (lo2 := [(0, .ref 0), (1, .int 1)]) rfl rfl rfl rfl f_X11_refuse (hI.wf.s rfl) rfl rfl rfl rfl rfl ?_
  refine ev_loc f_X11_refuse (nx := 1) rfl rfl rfl rfl ?_
  refine ev_loc f_X11_refuse (nx := 2) rfl rfl rfl rfl ?_
  refine ev_putIT f_X11_refuse (nx := 5) rfl (hI.wf.s rfl) rfl rfl rfl (hI.put0 (hI.wf.s rfl) rfl rfl) (hX.upI rfl) (fun g1 e1 hI hX => ?_)
  refine ev_ic f_X11_refuse (nx := 6) (v := -1) rfl (by decide) rfl ?_
  refine ev_retK1 f_X11_refuse rfl rfl rfl ?_
  exact ev_ret f_X11_rules rfl rfl rfl ⟨_, _, _, rfl, hI, hX, ⟨_, rfl, (by decide : ((-1):Int) ≤ ((-1):Int32).toInt), (by decide : ((-1):Int32).toInt ≤ ((-1):Int)), (show (-1) = -1 from (by omega))⟩⟩
noncomputable def wl_h_river : List (Nat × Nat) := wl_t_river ++ wl_t_riverN
set_option maxHeartbeats 4000000 in
theorem c_h_river {X : x_Ext} {d : Nat} {sh : List (Nat ⊕ (Nat × Nat))} {gi : Nat → Nat → Int32} {gl : Nat → Nat → Int64} {gr : Nat → Nat → Value} (hI : t_I sh gi gr) (hH : t_H sh) (ar1 : Int32) : x_Me X (d + 11) n_X11_river [.ref 0, .int ar1] (sh, gi, gl, gr) (t_PG wl_h_river 30 2000 sh gi gl gr (fun (x : Int32) (g : Nat → Nat → Int32) => ((0 ≤ ar1.toInt ∧ ar1.toInt ≤ (gi 0 5).toInt) → (g 0 5).toInt = 0) ∧ (¬ (0 ≤ ar1.toInt ∧ ar1.toInt ≤ (gi 0 5).toInt) → g 0 5 = gi 0 5 ∧ x.toInt = -1))) := by
  have hb0 := hI.b (hI.wf.s (k := 0) rfl) (t_bdK rfl : t_bd 10 5 = some (0, 900))
  refine me_i f_X11_river (hI.wf.s rfl) rfl rfl rfl ?_
  refine ev_loc f_X11_river (nx := 1) rfl rfl rfl rfl ?_
  refine ev_if f_X11_river (t1 := 12) (t2 := 4) rfl rfl rfl (fun h1 => ?_) (fun h1 => ?_)
  · have h1 := Int32.lt_iff_toInt_lt.mp h1; have kf0 : (0 : Int32).toInt = 0 := (by decide); refine x_Ev.mono (x_Ev.up (c_t_riverN (d := d) hI ar1) (by omega)) (fun v G' h => t_PG_of hH h (fun k j hn => (t_in_app hn).2) (fun x g1 g2 g3 hq hf => ⟨fun hi => absurd hi (by omega), fun _ => ⟨hf 0 5 (by decide) (by decide +kernel), hq⟩⟩))
  have h1 := Int32.le_iff_toInt_le.mp (t_nlt h1); have kf0 : (0 : Int32).toInt = 0 := (by decide)
  refine ev_loc f_X11_river (nx := 5) rfl rfl rfl rfl ?_
  refine ev_loc f_X11_river (nx := 6) rfl rfl rfl rfl ?_
  refine ev_getI f_X11_river (nx := 9) rfl (hI.wf.s rfl) rfl rfl rfl ?_
  refine ev_if f_X11_river (t1 := 18) (t2 := 12) rfl rfl rfl (fun h2 => ?_) (fun h2 => ?_)
  rotate_left
  · have h2 := Int32.lt_iff_toInt_lt.mp (t_nle h2); refine x_Ev.mono (x_Ev.up (c_t_riverN (d := d) hI ar1) (by omega)) (fun v G' h => t_PG_of hH h (fun k j hn => (t_in_app hn).2) (fun x g1 g2 g3 hq hf => ⟨fun hi => absurd hi (by omega), fun _ => ⟨hf 0 5 (by decide) (by decide +kernel), hq⟩⟩))
  have h2 := Int32.le_iff_toInt_le.mp h2
  have hin : (0 ≤ ar1.toInt ∧ ar1.toInt ≤ (gi 0 5).toInt) := by omega
  have lx : (0:Int) ≤ ar1.toInt := by omega
  have ux : ar1.toInt ≤ (900:Int) := by omega
  obtain ⟨N, hN⟩ : ∃ N, sh.length = N := ⟨_, rfl⟩
  have h102 := t_102 hI.wf
  rw [hN] at h102
  have hG := t_G.refl (N := N) (r := N) (gi0 := gi) (gl0 := gl) (gr0 := gr) hN (fun ci j lo hi hk ht => absurd (t_lt hk) (by omega))
  rw [show ((sh, gi, gl, gr) : x_G) = (sh ++ [], gi, gl, gr) by rw [List.append_nil]]
  refine ev_newG f_X11_river (nx := 21) (c := 0) (ext' := [.inl 5]) rfl rfl rfl hN rfl rfl hG (fun a101 b101 g101 ea101 eb101 e101 hG => ?_)
  refine ev_alu f_X11_river (nx := 22) rfl rfl rfl rfl ?_
  refine ev_newG f_X11_river (nx := 25) (c := 1) (ext' := [.inl 5, .inl 8]) rfl rfl rfl hN rfl rfl hG (fun a102 b102 g102 ea102 eb102 e102 hG => ?_)
  refine ev_alu f_X11_river (nx := 26) rfl rfl rfl rfl ?_
  refine ev_loc f_X11_river (nx := 27) rfl rfl rfl rfl ?_
  refine ev_getR f_X11_river (nx := 30) rfl (t_sl (hI.wf.s rfl)) rfl rfl ((congrFun (hG.1 0 (by omega) (by omega)).2.2 4).trans (hI.wf.r rfl)) rfl rfl ?_
  refine ev_loc f_X11_river (nx := 31) rfl rfl rfl rfl ?_
  refine ev_inV3 f_X11_river (nx := 34) (lo2 := [(0, .ref (N + 1)), (1, .ref 2), (2, .int ar1)]) rfl rfl rfl rfl f_X9_init ((t_sx hN).trans rfl) rfl rfl rfl rfl rfl ?_
  refine ev_loc f_X9_init (nx := 1) rfl rfl rfl rfl ?_
  refine ev_obj f_X9_init (nx := 4) rfl rfl (by omega) (by decide) rfl ?_
  refine ev_loc f_X9_init (nx := 5) rfl rfl rfl rfl ?_
  refine ev_ic f_X9_init (nx := 6) (v := 0) rfl (by decide) rfl ?_
  refine ev_putIG f_X9_init (nx := 9) rfl ((t_sx hN).trans rfl) rfl rfl rfl (hG.putI (Or.inl (by omega)) ((t_sx hN).trans rfl) (fun lo hi e => by have e : some ((0 : Int), (900 : Int)) = some (lo, hi) := e; cases e; exact ⟨by decide, by decide⟩) (fun _ => rfl)) (fun a103 ea103 hG => ?_)
  refine ev_loc f_X9_init (nx := 10) rfl rfl rfl rfl ?_
  refine ev_ic f_X9_init (nx := 11) (v := 3) rfl (by decide) rfl ?_
  refine ev_putIG f_X9_init (nx := 14) rfl ((t_sx hN).trans rfl) rfl rfl rfl (hG.putI (Or.inl (by omega)) ((t_sx hN).trans rfl) (fun lo hi e => by have e : (none : Option (Int × Int)) = some (lo, hi) := e; cases e) (fun h => absurd h (by decide))) (fun a104 ea104 hG => ?_)
  refine ev_loc f_X9_init (nx := 15) rfl rfl rfl rfl ?_
  refine ev_ic f_X9_init (nx := 16) (v := 0) rfl (by decide) rfl ?_
  refine ev_putIG f_X9_init (nx := 19) rfl ((t_sx hN).trans rfl) rfl rfl rfl (hG.putI (Or.inl (by omega)) ((t_sx hN).trans rfl) (fun lo hi e => by have e : some ((0 : Int), (900 : Int)) = some (lo, hi) := e; cases e; exact ⟨by decide, by decide⟩) (fun _ => rfl)) (fun a105 ea105 hG => ?_)
  refine ev_loc f_X9_init (nx := 20) rfl rfl rfl rfl ?_
  refine ev_ic f_X9_init (nx := 21) (v := 0) rfl (by decide) rfl ?_
  refine ev_putIG f_X9_init (nx := 24) rfl ((t_sx hN).trans rfl) rfl rfl rfl (hG.putI (Or.inl (by omega)) ((t_sx hN).trans rfl) (fun lo hi e => by have e : (none : Option (Int × Int)) = some (lo, hi) := e; cases e) (fun _ => rfl)) (fun a106 ea106 hG => ?_)
  refine ev_loc f_X9_init (nx := 25) rfl rfl rfl rfl ?_
  refine ev_lc f_X9_init (nx := 26) (v := 0) rfl (by decide) rfl ?_
  refine ev_putLG f_X9_init (nx := 29) rfl ((t_sx hN).trans rfl) rfl rfl rfl (hG.putL (Or.inl (by omega))) (fun b107 eb107 hG => ?_)
  refine ev_loc f_X9_init (nx := 30) rfl rfl rfl rfl ?_
  refine ev_alu f_X9_init (nx := 31) rfl rfl rfl rfl ?_
  refine ev_putRG f_X9_init (nx := 34) rfl ((t_sx hN).trans rfl) rfl rfl rfl rfl (hG.putR (Or.inl (by omega)) ((t_sx hN).trans rfl) (fun h8 h7 => Or.inl rfl)) (fun g108 e108 hG => ?_)
  refine ev_loc f_X9_init (nx := 35) rfl rfl rfl rfl ?_
  refine ev_ic f_X9_init (nx := 36) (v := 0) rfl (by decide) rfl ?_
  refine ev_putIG f_X9_init (nx := 39) rfl ((t_sx hN).trans rfl) rfl rfl rfl (hG.putI (Or.inl (by omega)) ((t_sx hN).trans rfl) (fun lo hi e => by have e : (none : Option (Int × Int)) = some (lo, hi) := e; cases e) (fun _ => rfl)) (fun a109 ea109 hG => ?_)
  refine ev_loc f_X9_init (nx := 40) rfl rfl rfl rfl ?_
  refine ev_ic f_X9_init (nx := 41) (v := 0) rfl (by decide) rfl ?_
  refine ev_putIG f_X9_init (nx := 44) rfl ((t_sx hN).trans rfl) rfl rfl rfl (hG.putI (Or.inl (by omega)) ((t_sx hN).trans rfl) (fun lo hi e => by have e : (none : Option (Int × Int)) = some (lo, hi) := e; cases e) (fun _ => rfl)) (fun a110 ea110 hG => ?_)
  refine ev_loc f_X9_init (nx := 45) rfl rfl rfl rfl ?_
  refine ev_ic f_X9_init (nx := 46) (v := 0) rfl (by decide) rfl ?_
  refine ev_putIG f_X9_init (nx := 49) rfl ((t_sx hN).trans rfl) rfl rfl rfl (hG.putI (Or.inl (by omega)) ((t_sx hN).trans rfl) (fun lo hi e => by have e : (none : Option (Int × Int)) = some (lo, hi) := e; cases e) (fun _ => rfl)) (fun a111 ea111 hG => ?_)
  refine ev_loc f_X9_init (nx := 50) rfl rfl rfl rfl ?_
  refine ev_ic f_X9_init (nx := 51) (v := -1) rfl (by decide) rfl ?_
  refine ev_putIG f_X9_init (nx := 54) rfl ((t_sx hN).trans rfl) rfl rfl rfl (hG.putI (Or.inl (by omega)) ((t_sx hN).trans rfl) (fun lo hi e => by have e : (none : Option (Int × Int)) = some (lo, hi) := e; cases e) (fun h => absurd h (by decide))) (fun a112 ea112 hG => ?_)
  refine ev_loc f_X9_init (nx := 55) rfl rfl rfl rfl ?_
  refine ev_loc f_X9_init (nx := 56) rfl rfl rfl rfl ?_
  refine ev_putRG f_X9_init (nx := 59) rfl ((t_sx hN).trans rfl) rfl rfl rfl rfl (hG.putR (Or.inl (by omega)) ((t_sx hN).trans rfl) (fun h8 h7 => absurd h7 (by decide))) (fun g113 e113 hG => ?_)
  refine ev_loc f_X9_init (nx := 60) rfl rfl rfl rfl ?_
  refine ev_loc f_X9_init (nx := 61) rfl rfl rfl rfl ?_
  refine ev_loc f_X9_init (nx := 62) rfl rfl rfl rfl ?_
  refine ev_alenv f_X9_init (nx := 63) (w := 900) rfl (t_sl (hI.wf.s rfl)) rfl (by decide) rfl ?_
  refine ev_mmR f_X9_init (nx := 66) (l := 0) (u := 900) rfl rfl rfl (by omega) rfl lx ux (by decide : (900:Int) ≤ (900:Int32).toInt) (by decide : (900:Int32).toInt ≤ (900:Int)) (by decide) (by decide) rfl (fun w114 l114 u114 => ?_)
  refine ev_putIG f_X9_init (nx := 69) rfl ((t_sx hN).trans rfl) rfl rfl rfl (hG.putI (Or.inl (by omega)) ((t_sx hN).trans rfl) (fun lo hi e => by have e : some ((0 : Int), (900 : Int)) = some (lo, hi) := e; cases e; exact ⟨l114, u114⟩) (fun h => absurd h (by decide))) (fun a115 ea115 hG => ?_)
  refine ev_loc f_X9_init (nx := 70) rfl rfl rfl rfl ?_
  have hI1 := hG.I hN hI hH (by omega) (fun s hs => absurd (t_lt hs) (by omega))
  have hTk : t_Tk (sh ++ ([.inl 5, .inl 8] : List (Nat ⊕ (Nat × Nat)))) g113 (N + 1) := ⟨(t_sx hN).trans rfl, (by rw [e113]; exact x_up2_at _ _ _ _)⟩
  have hG1 := hG
  have hX : t_X wl_step (sh ++ ([.inl 5, .inl 8] : List (Nat ⊕ (Nat × Nat)))) a115 b107 g113 a115 b107 g113 := t_X.rf
  refine ev_c0 f_X9_init (nx := 73) (r := []) rfl rfl rfl rfl rfl rfl rfl (x_Me.up (c_step (d := d) hI1 (N + 1) hTk) (by omega)) rfl hX rfl (fun gi1 gl1 gr1 hI2 hX1 _ => ?_)
  replace hTk := hTk.ext hX1.2
  have hN2 : (sh ++ ([.inl 5, .inl 8] : List (Nat ⊕ (Nat × Nat)))).length = N + 2 := by rw [List.length_append, hN]; rfl
  have hG := t_G.refl (N := N + 2) (r := N + 0) (gi0 := gi1) (gl0 := gl1) (gr0 := gr1) hN2 (fun ci j lo hi hk ht => hI2.b hk ht)
  rw [show (((sh ++ ([.inl 5, .inl 8] : List (Nat ⊕ (Nat × Nat)))), gi1, gl1, gr1) : x_G) = ((sh ++ ([.inl 5, .inl 8] : List (Nat ⊕ (Nat × Nat)))) ++ [], gi1, gl1, gr1) by rw [List.append_nil]]
  refine ev_retK0 f_X9_init rfl rfl rfl ?_
  refine ev_inV2 f_X11_river (nx := 37) (lo2 := [(0, .ref (N + 0)), (1, .ref (N + 1))]) rfl rfl rfl rfl f_X6_init (t_sl ((t_sx hN).trans rfl)) rfl rfl rfl rfl rfl ?_
  refine ev_loc f_X6_init (nx := 1) rfl rfl rfl rfl ?_
  refine ev_obj f_X6_init (nx := 4) rfl rfl (by omega) (by decide) rfl ?_
  refine ev_loc f_X6_init (nx := 5) rfl rfl rfl rfl ?_
  refine ev_newG f_X6_init (nx := 8) (c := 0) (ext' := [.inl 4]) rfl rfl rfl hN2 rfl rfl hG (fun a116 b116 g116 ea116 eb116 e116 hG => ?_)
  refine ev_alu f_X6_init (nx := 9) rfl rfl rfl rfl ?_
  refine ev_inV1 f_X6_init (nx := 12) (lo2 := [(0, .ref (N + 2 + 0))]) rfl rfl rfl rfl f_X5_init ((t_sx hN2).trans rfl) rfl rfl rfl rfl rfl ?_
  refine ev_loc f_X5_init (nx := 1) rfl rfl rfl rfl ?_
  refine ev_obj f_X5_init (nx := 4) rfl rfl (by omega) (by decide) rfl ?_
  refine ev_loc f_X5_init (nx := 5) rfl rfl rfl rfl ?_
  refine ev_ic f_X5_init (nx := 6) (v := 0) rfl (by decide) rfl ?_
  refine ev_putIG f_X5_init (nx := 9) rfl ((t_sx hN2).trans rfl) rfl rfl rfl (hG.putI (Or.inl (by omega)) ((t_sx hN2).trans rfl) (fun lo hi e => by have e : some ((0 : Int), (6 : Int)) = some (lo, hi) := e; cases e; exact ⟨by decide, by decide⟩) (fun _ => rfl)) (fun a117 ea117 hG => ?_)
  refine ev_loc f_X5_init (nx := 10) rfl rfl rfl rfl ?_
  refine ev_bp f_X5_init (nx := 12) (v := 6) rfl (by decide) rfl ?_
  refine ev_arrG f_X5_init (nx := 14) (c := 1) (m := 6) (ext' := [.inl 4, .inr (1, 6)]) rfl rfl (by decide) rfl (by decide) rfl hN2 rfl rfl hG (fun a118 b118 g118 ea118 eb118 e118 hG => ?_)
  refine ev_putRG f_X5_init (nx := 17) rfl ((t_sx hN2).trans rfl) rfl rfl rfl rfl (hG.putR (Or.inl (by omega)) ((t_sx hN2).trans rfl) (fun h8 h7 => absurd h8 (by decide))) (fun g119 e119 hG => ?_)
  refine ev_loc f_X5_init (nx := 18) rfl rfl rfl rfl ?_
  refine ev_bp f_X5_init (nx := 20) (v := 6) rfl (by decide) rfl ?_
  refine ev_arrG f_X5_init (nx := 22) (c := 2) (m := 6) (ext' := [.inl 4, .inr (1, 6), .inr (1, 6)]) rfl rfl (by decide) rfl (by decide) rfl hN2 rfl rfl hG (fun a120 b120 g120 ea120 eb120 e120 hG => ?_)
  refine ev_putRG f_X5_init (nx := 25) rfl ((t_sx hN2).trans rfl) rfl rfl rfl rfl (hG.putR (Or.inl (by omega)) ((t_sx hN2).trans rfl) (fun h8 h7 => absurd h8 (by decide))) (fun g121 e121 hG => ?_)
  refine ev_loc f_X5_init (nx := 26) rfl rfl rfl rfl ?_
  refine ev_ic f_X5_init (nx := 27) (v := 5) rfl (by decide) rfl ?_
  refine ev_putIG f_X5_init (nx := 30) rfl ((t_sx hN2).trans rfl) rfl rfl rfl (hG.putI (Or.inl (by omega)) ((t_sx hN2).trans rfl) (fun lo hi e => by have e : (none : Option (Int × Int)) = some (lo, hi) := e; cases e) (fun h => absurd h (by decide))) (fun a122 ea122 hG => ?_)
  refine ev_loc f_X5_init (nx := 31) rfl rfl rfl rfl ?_
  refine ev_ic f_X5_init (nx := 32) (v := 0) rfl (by decide) rfl ?_
  refine ev_putIG f_X5_init (nx := 35) rfl ((t_sx hN2).trans rfl) rfl rfl rfl (hG.putI (Or.inl (by omega)) ((t_sx hN2).trans rfl) (fun lo hi e => by have e : (none : Option (Int × Int)) = some (lo, hi) := e; cases e) (fun _ => rfl)) (fun a123 ea123 hG => ?_)
  refine ev_loc f_X5_init (nx := 36) rfl rfl rfl rfl ?_
  refine ev_ic f_X5_init (nx := 37) (v := 0) rfl (by decide) rfl ?_
  refine ev_putIG f_X5_init (nx := 40) rfl ((t_sx hN2).trans rfl) rfl rfl rfl (hG.putI (Or.inl (by omega)) ((t_sx hN2).trans rfl) (fun lo hi e => by have e : (none : Option (Int × Int)) = some (lo, hi) := e; cases e) (fun _ => rfl)) (fun a124 ea124 hG => ?_)
  refine ev_loc f_X5_init (nx := 41) rfl rfl rfl rfl ?_
  refine ev_ic f_X5_init (nx := 42) (v := 0) rfl (by decide) rfl ?_
  refine ev_putIG f_X5_init (nx := 45) rfl ((t_sx hN2).trans rfl) rfl rfl rfl (hG.putI (Or.inl (by omega)) ((t_sx hN2).trans rfl) (fun lo hi e => by have e : (none : Option (Int × Int)) = some (lo, hi) := e; cases e) (fun _ => rfl)) (fun a125 ea125 hG => ?_)
  refine ev_loc f_X5_init (nx := 46) rfl rfl rfl rfl ?_
  refine ev_newG f_X5_init (nx := 49) (c := 3) (ext' := [.inl 4, .inr (1, 6), .inr (1, 6), .inl 3]) rfl rfl rfl hN2 rfl rfl hG (fun a126 b126 g126 ea126 eb126 e126 hG => ?_)
  refine ev_alu f_X5_init (nx := 50) rfl rfl rfl rfl ?_
  refine ev_inV1 f_X5_init (nx := 53) (lo2 := [(0, .ref (N + 2 + 3))]) rfl rfl rfl rfl f_X4_init ((t_sx hN2).trans rfl) rfl rfl rfl rfl rfl ?_
  refine ev_loc f_X4_init (nx := 1) rfl rfl rfl rfl ?_
  refine ev_obj f_X4_init (nx := 4) rfl rfl (by omega) (by decide) rfl ?_
  refine ev_loc f_X4_init (nx := 5) rfl rfl rfl rfl ?_
  refine ev_ic f_X4_init (nx := 6) (v := 0) rfl (by decide) rfl ?_
  refine ev_putIG f_X4_init (nx := 9) rfl ((t_sx hN2).trans rfl) rfl rfl rfl (hG.putI (Or.inl (by omega)) ((t_sx hN2).trans rfl) (fun lo hi e => by have e : some ((0 : Int), (6 : Int)) = some (lo, hi) := e; cases e; exact ⟨by decide, by decide⟩) (fun _ => rfl)) (fun a127 ea127 hG => ?_)
  refine ev_loc f_X4_init (nx := 10) rfl rfl rfl rfl ?_
  refine ev_bp f_X4_init (nx := 12) (v := 6) rfl (by decide) rfl ?_
  refine ev_arrG f_X4_init (nx := 14) (c := 4) (m := 6) (ext' := [.inl 4, .inr (1, 6), .inr (1, 6), .inl 3, .inr (0, 6)]) rfl rfl (by decide) rfl (by decide) rfl hN2 rfl rfl hG (fun a128 b128 g128 ea128 eb128 e128 hG => ?_)
  refine ev_putRG f_X4_init (nx := 17) rfl ((t_sx hN2).trans rfl) rfl rfl rfl rfl (hG.putR (Or.inl (by omega)) ((t_sx hN2).trans rfl) (fun h8 h7 => absurd h8 (by decide))) (fun g129 e129 hG => ?_)
  refine ev_loc f_X4_init (nx := 18) rfl rfl rfl rfl ?_
  refine ev_bp f_X4_init (nx := 20) (v := 6) rfl (by decide) rfl ?_
  refine ev_arrG f_X4_init (nx := 22) (c := 5) (m := 6) (ext' := [.inl 4, .inr (1, 6), .inr (1, 6), .inl 3, .inr (0, 6), .inr (0, 6)]) rfl rfl (by decide) rfl (by decide) rfl hN2 rfl rfl hG (fun a130 b130 g130 ea130 eb130 e130 hG => ?_)
  refine ev_putRG f_X4_init (nx := 25) rfl ((t_sx hN2).trans rfl) rfl rfl rfl rfl (hG.putR (Or.inl (by omega)) ((t_sx hN2).trans rfl) (fun h8 h7 => absurd h8 (by decide))) (fun g131 e131 hG => ?_)
  refine ev_loc f_X4_init (nx := 26) rfl rfl rfl rfl ?_
  refine ev_bp f_X4_init (nx := 28) (v := 6) rfl (by decide) rfl ?_
  refine ev_arrG f_X4_init (nx := 30) (c := 6) (m := 6) (ext' := [.inl 4, .inr (1, 6), .inr (1, 6), .inl 3, .inr (0, 6), .inr (0, 6), .inr (0, 6)]) rfl rfl (by decide) rfl (by decide) rfl hN2 rfl rfl hG (fun a132 b132 g132 ea132 eb132 e132 hG => ?_)
  refine ev_putRG f_X4_init (nx := 33) rfl ((t_sx hN2).trans rfl) rfl rfl rfl rfl (hG.putR (Or.inl (by omega)) ((t_sx hN2).trans rfl) (fun h8 h7 => absurd h8 (by decide))) (fun g133 e133 hG => ?_)
  refine ev_loc f_X4_init (nx := 34) rfl rfl rfl rfl ?_
  refine ev_bp f_X4_init (nx := 36) (v := 6) rfl (by decide) rfl ?_
  refine ev_arrG f_X4_init (nx := 38) (c := 7) (m := 6) (ext' := [.inl 4, .inr (1, 6), .inr (1, 6), .inl 3, .inr (0, 6), .inr (0, 6), .inr (0, 6), .inr (0, 6)]) rfl rfl (by decide) rfl (by decide) rfl hN2 rfl rfl hG (fun a134 b134 g134 ea134 eb134 e134 hG => ?_)
  refine ev_putRG f_X4_init (nx := 41) rfl ((t_sx hN2).trans rfl) rfl rfl rfl rfl (hG.putR (Or.inl (by omega)) ((t_sx hN2).trans rfl) (fun h8 h7 => absurd h8 (by decide))) (fun g135 e135 hG => ?_)
  refine ev_loc f_X4_init (nx := 42) rfl rfl rfl rfl ?_
  refine ev_bp f_X4_init (nx := 44) (v := 6) rfl (by decide) rfl ?_
  refine ev_arrG f_X4_init (nx := 46) (c := 8) (m := 6) (ext' := [.inl 4, .inr (1, 6), .inr (1, 6), .inl 3, .inr (0, 6), .inr (0, 6), .inr (0, 6), .inr (0, 6), .inr (3, 6)]) rfl rfl (by decide) rfl (by decide) rfl hN2 rfl rfl hG (fun a136 b136 g136 ea136 eb136 e136 hG => ?_)
  refine ev_putRG f_X4_init (nx := 49) rfl ((t_sx hN2).trans rfl) rfl rfl rfl rfl (hG.putR (Or.inl (by omega)) ((t_sx hN2).trans rfl) (fun h8 h7 => absurd h8 (by decide))) (fun g137 e137 hG => ?_)
  refine ev_retK0 f_X4_init rfl rfl rfl ?_
  refine ev_putRG f_X5_init (nx := 56) rfl ((t_sx hN2).trans rfl) rfl rfl rfl rfl (hG.putR (Or.inl (by omega)) ((t_sx hN2).trans rfl) (fun h8 h7 => absurd h8 (by decide))) (fun g138 e138 hG => ?_)
  refine ev_loc f_X5_init (nx := 57) rfl rfl rfl rfl ?_
  refine ev_bp f_X5_init (nx := 59) (v := 6) rfl (by decide) rfl ?_
  refine ev_arrG f_X5_init (nx := 61) (c := 9) (m := 6) (ext' := [.inl 4, .inr (1, 6), .inr (1, 6), .inl 3, .inr (0, 6), .inr (0, 6), .inr (0, 6), .inr (0, 6), .inr (3, 6), .inr (0, 6)]) rfl rfl (by decide) rfl (by decide) rfl hN2 rfl rfl hG (fun a139 b139 g139 ea139 eb139 e139 hG => ?_)
  refine ev_putRG f_X5_init (nx := 64) rfl ((t_sx hN2).trans rfl) rfl rfl rfl rfl (hG.putR (Or.inl (by omega)) ((t_sx hN2).trans rfl) (fun h8 h7 => absurd h8 (by decide))) (fun g140 e140 hG => ?_)
  refine ev_loc f_X5_init (nx := 65) rfl rfl rfl rfl ?_
  refine ev_newG f_X5_init (nx := 68) (c := 10) (ext' := [.inl 4, .inr (1, 6), .inr (1, 6), .inl 3, .inr (0, 6), .inr (0, 6), .inr (0, 6), .inr (0, 6), .inr (3, 6), .inr (0, 6), .inl 3]) rfl rfl rfl hN2 rfl rfl hG (fun a141 b141 g141 ea141 eb141 e141 hG => ?_)
  refine ev_alu f_X5_init (nx := 69) rfl rfl rfl rfl ?_
  refine ev_inV1 f_X5_init (nx := 72) (lo2 := [(0, .ref (N + 2 + 10))]) rfl rfl rfl rfl f_X4_init ((t_sx hN2).trans rfl) rfl rfl rfl rfl rfl ?_
  refine ev_loc f_X4_init (nx := 1) rfl rfl rfl rfl ?_
  refine ev_obj f_X4_init (nx := 4) rfl rfl (by omega) (by decide) rfl ?_
  refine ev_loc f_X4_init (nx := 5) rfl rfl rfl rfl ?_
  refine ev_ic f_X4_init (nx := 6) (v := 0) rfl (by decide) rfl ?_
  refine ev_putIG f_X4_init (nx := 9) rfl ((t_sx hN2).trans rfl) rfl rfl rfl (hG.putI (Or.inl (by omega)) ((t_sx hN2).trans rfl) (fun lo hi e => by have e : some ((0 : Int), (6 : Int)) = some (lo, hi) := e; cases e; exact ⟨by decide, by decide⟩) (fun _ => rfl)) (fun a142 ea142 hG => ?_)
  refine ev_loc f_X4_init (nx := 10) rfl rfl rfl rfl ?_
  refine ev_bp f_X4_init (nx := 12) (v := 6) rfl (by decide) rfl ?_
  refine ev_arrG f_X4_init (nx := 14) (c := 11) (m := 6) (ext' := [.inl 4, .inr (1, 6), .inr (1, 6), .inl 3, .inr (0, 6), .inr (0, 6), .inr (0, 6), .inr (0, 6), .inr (3, 6), .inr (0, 6), .inl 3, .inr (0, 6)]) rfl rfl (by decide) rfl (by decide) rfl hN2 rfl rfl hG (fun a143 b143 g143 ea143 eb143 e143 hG => ?_)
  refine ev_putRG f_X4_init (nx := 17) rfl ((t_sx hN2).trans rfl) rfl rfl rfl rfl (hG.putR (Or.inl (by omega)) ((t_sx hN2).trans rfl) (fun h8 h7 => absurd h8 (by decide))) (fun g144 e144 hG => ?_)
  refine ev_loc f_X4_init (nx := 18) rfl rfl rfl rfl ?_
  refine ev_bp f_X4_init (nx := 20) (v := 6) rfl (by decide) rfl ?_
  refine ev_arrG f_X4_init (nx := 22) (c := 12) (m := 6) (ext' := [.inl 4, .inr (1, 6), .inr (1, 6), .inl 3, .inr (0, 6), .inr (0, 6), .inr (0, 6), .inr (0, 6), .inr (3, 6), .inr (0, 6), .inl 3, .inr (0, 6), .inr (0, 6)]) rfl rfl (by decide) rfl (by decide) rfl hN2 rfl rfl hG (fun a145 b145 g145 ea145 eb145 e145 hG => ?_)
  refine ev_putRG f_X4_init (nx := 25) rfl ((t_sx hN2).trans rfl) rfl rfl rfl rfl (hG.putR (Or.inl (by omega)) ((t_sx hN2).trans rfl) (fun h8 h7 => absurd h8 (by decide))) (fun g146 e146 hG => ?_)
  refine ev_loc f_X4_init (nx := 26) rfl rfl rfl rfl ?_
  refine ev_bp f_X4_init (nx := 28) (v := 6) rfl (by decide) rfl ?_
  refine ev_arrG f_X4_init (nx := 30) (c := 13) (m := 6) (ext' := [.inl 4, .inr (1, 6), .inr (1, 6), .inl 3, .inr (0, 6), .inr (0, 6), .inr (0, 6), .inr (0, 6), .inr (3, 6), .inr (0, 6), .inl 3, .inr (0, 6), .inr (0, 6), .inr (0, 6)]) rfl rfl (by decide) rfl (by decide) rfl hN2 rfl rfl hG (fun a147 b147 g147 ea147 eb147 e147 hG => ?_)
  refine ev_putRG f_X4_init (nx := 33) rfl ((t_sx hN2).trans rfl) rfl rfl rfl rfl (hG.putR (Or.inl (by omega)) ((t_sx hN2).trans rfl) (fun h8 h7 => absurd h8 (by decide))) (fun g148 e148 hG => ?_)
  refine ev_loc f_X4_init (nx := 34) rfl rfl rfl rfl ?_
  refine ev_bp f_X4_init (nx := 36) (v := 6) rfl (by decide) rfl ?_
  refine ev_arrG f_X4_init (nx := 38) (c := 14) (m := 6) (ext' := [.inl 4, .inr (1, 6), .inr (1, 6), .inl 3, .inr (0, 6), .inr (0, 6), .inr (0, 6), .inr (0, 6), .inr (3, 6), .inr (0, 6), .inl 3, .inr (0, 6), .inr (0, 6), .inr (0, 6), .inr (0, 6)]) rfl rfl (by decide) rfl (by decide) rfl hN2 rfl rfl hG (fun a149 b149 g149 ea149 eb149 e149 hG => ?_)
  refine ev_putRG f_X4_init (nx := 41) rfl ((t_sx hN2).trans rfl) rfl rfl rfl rfl (hG.putR (Or.inl (by omega)) ((t_sx hN2).trans rfl) (fun h8 h7 => absurd h8 (by decide))) (fun g150 e150 hG => ?_)
  refine ev_loc f_X4_init (nx := 42) rfl rfl rfl rfl ?_
  refine ev_bp f_X4_init (nx := 44) (v := 6) rfl (by decide) rfl ?_
  refine ev_arrG f_X4_init (nx := 46) (c := 15) (m := 6) (ext' := [.inl 4, .inr (1, 6), .inr (1, 6), .inl 3, .inr (0, 6), .inr (0, 6), .inr (0, 6), .inr (0, 6), .inr (3, 6), .inr (0, 6), .inl 3, .inr (0, 6), .inr (0, 6), .inr (0, 6), .inr (0, 6), .inr (3, 6)]) rfl rfl (by decide) rfl (by decide) rfl hN2 rfl rfl hG (fun a151 b151 g151 ea151 eb151 e151 hG => ?_)
  refine ev_putRG f_X4_init (nx := 49) rfl ((t_sx hN2).trans rfl) rfl rfl rfl rfl (hG.putR (Or.inl (by omega)) ((t_sx hN2).trans rfl) (fun h8 h7 => absurd h8 (by decide))) (fun g152 e152 hG => ?_)
  refine ev_retK0 f_X4_init rfl rfl rfl ?_
  refine ev_putRG f_X5_init (nx := 75) rfl ((t_sx hN2).trans rfl) rfl rfl rfl rfl (hG.putR (Or.inl (by omega)) ((t_sx hN2).trans rfl) (fun h8 h7 => absurd h8 (by decide))) (fun g153 e153 hG => ?_)
  refine ev_retK0 f_X5_init rfl rfl rfl ?_
  refine ev_putRG f_X6_init (nx := 15) rfl (t_sl ((t_sx hN).trans rfl)) rfl rfl rfl rfl (hG.putR (Or.inr rfl) (t_sl ((t_sx hN).trans rfl)) (fun h8 h7 => absurd h8 (by decide))) (fun g154 e154 hG => ?_)
  refine ev_loc f_X6_init (nx := 16) rfl rfl rfl rfl ?_
  refine ev_bp f_X6_init (nx := 18) (v := 6) rfl (by decide) rfl ?_
  refine ev_arrG f_X6_init (nx := 20) (c := 16) (m := 6) (ext' := [.inl 4, .inr (1, 6), .inr (1, 6), .inl 3, .inr (0, 6), .inr (0, 6), .inr (0, 6), .inr (0, 6), .inr (3, 6), .inr (0, 6), .inl 3, .inr (0, 6), .inr (0, 6), .inr (0, 6), .inr (0, 6), .inr (3, 6), .inr (1, 6)]) rfl rfl (by decide) rfl (by decide) rfl hN2 rfl rfl hG (fun a155 b155 g155 ea155 eb155 e155 hG => ?_)
  refine ev_putRG f_X6_init (nx := 23) rfl (t_sl ((t_sx hN).trans rfl)) rfl rfl rfl rfl (hG.putR (Or.inr rfl) (t_sl ((t_sx hN).trans rfl)) (fun h8 h7 => absurd h8 (by decide))) (fun g156 e156 hG => ?_)
  refine ev_loc f_X6_init (nx := 24) rfl rfl rfl rfl ?_
  refine ev_bp f_X6_init (nx := 26) (v := 18) rfl (by decide) rfl ?_
  refine ev_arrG f_X6_init (nx := 28) (c := 17) (m := 18) (ext' := [.inl 4, .inr (1, 6), .inr (1, 6), .inl 3, .inr (0, 6), .inr (0, 6), .inr (0, 6), .inr (0, 6), .inr (3, 6), .inr (0, 6), .inl 3, .inr (0, 6), .inr (0, 6), .inr (0, 6), .inr (0, 6), .inr (3, 6), .inr (1, 6), .inr (1, 18)]) rfl rfl (by decide) rfl (by decide) rfl hN2 rfl rfl hG (fun a157 b157 g157 ea157 eb157 e157 hG => ?_)
  refine ev_putRG f_X6_init (nx := 31) rfl (t_sl ((t_sx hN).trans rfl)) rfl rfl rfl rfl (hG.putR (Or.inr rfl) (t_sl ((t_sx hN).trans rfl)) (fun h8 h7 => absurd h8 (by decide))) (fun g158 e158 hG => ?_)
  refine ev_loc f_X6_init (nx := 32) rfl rfl rfl rfl ?_
  refine ev_ic f_X6_init (nx := 33) (v := 0) rfl (by decide) rfl ?_
  refine ev_putIG f_X6_init (nx := 36) rfl (t_sl ((t_sx hN).trans rfl)) rfl rfl rfl (hG.putI (Or.inr rfl) (t_sl ((t_sx hN).trans rfl)) (fun lo hi e => by have e : some ((0 : Int), (18 : Int)) = some (lo, hi) := e; cases e; exact ⟨by decide, by decide⟩) (fun _ => rfl)) (fun a159 ea159 hG => ?_)
  refine ev_loc f_X6_init (nx := 37) rfl rfl rfl rfl ?_
  refine ev_ic f_X6_init (nx := 38) (v := 0) rfl (by decide) rfl ?_
  refine ev_putZG f_X6_init (nx := 41) rfl (t_sl ((t_sx hN).trans rfl)) rfl rfl (Or.inl rfl) rfl (hG.putI (Or.inr rfl) (t_sl ((t_sx hN).trans rfl)) (fun lo hi e => by have e : (none : Option (Int × Int)) = some (lo, hi) := e; cases e) (fun _ => rfl)) (fun a160 ea160 hG => ?_)
  refine ev_loc f_X6_init (nx := 42) rfl rfl rfl rfl ?_
  refine ev_ic f_X6_init (nx := 43) (v := 0) rfl (by decide) rfl ?_
  refine ev_putZG f_X6_init (nx := 46) rfl (t_sl ((t_sx hN).trans rfl)) rfl rfl (Or.inl rfl) rfl (hG.putI (Or.inr rfl) (t_sl ((t_sx hN).trans rfl)) (fun lo hi e => by have e : (none : Option (Int × Int)) = some (lo, hi) := e; cases e) (fun _ => rfl)) (fun a161 ea161 hG => ?_)
  refine ev_loc f_X6_init (nx := 47) rfl rfl rfl rfl ?_
  refine ev_ic f_X6_init (nx := 48) (v := 0) rfl (by decide) rfl ?_
  refine ev_putZG f_X6_init (nx := 51) rfl (t_sl ((t_sx hN).trans rfl)) rfl rfl (Or.inl rfl) rfl (hG.putI (Or.inr rfl) (t_sl ((t_sx hN).trans rfl)) (fun lo hi e => by have e : (none : Option (Int × Int)) = some (lo, hi) := e; cases e) (fun _ => rfl)) (fun a162 ea162 hG => ?_)
  refine ev_loc f_X6_init (nx := 52) rfl rfl rfl rfl ?_
  refine ev_loc f_X6_init (nx := 53) rfl rfl rfl rfl ?_
  refine ev_putRG f_X6_init (nx := 56) rfl (t_sl ((t_sx hN).trans rfl)) rfl rfl rfl rfl (hG.putR (Or.inr rfl) (t_sl ((t_sx hN).trans rfl)) (fun h8 h7 => absurd h8 (by decide))) (fun g163 e163 hG => ?_)
  refine ev_retK0 f_X6_init rfl rfl rfl ?_
  refine ev_loc f_X11_river (nx := 38) (lo' := [(2, .ref (N + 0)), (0, .ref 0), (1, .int ar1)]) rfl rfl rfl rfl ?_
  have hI3 := hG.I hN2 hI2 (t_H_ext hH (t_he rfl)) (by omega) (fun s hs => Or.inl (by rw [(t_sx hN).trans rfl] at hs; cases hs; rfl))
  have hR : t_RR ((sh ++ ([.inl 5, .inl 8] : List (Nat ⊕ (Nat × Nat)))) ++ [.inl 4, .inr (1, 6), .inr (1, 6), .inl 3, .inr (0, 6), .inr (0, 6), .inr (0, 6), .inr (0, 6), .inr (3, 6), .inr (0, 6), .inl 3, .inr (0, 6), .inr (0, 6), .inr (0, 6), .inr (0, 6), .inr (3, 6), .inr (1, 6), .inr (1, 18)]) g163 (N + 0) := ⟨t_sl ((t_sx hN).trans rfl), ⟨N + 1, (by rw [e163]; exact x_up2_at _ _ _ _), t_sl ((t_sx hN).trans rfl), (congrFun (hG.1 (N + 1) (by omega) (by omega)).2.2 0).trans hTk.2⟩, ⟨_, (by rw [e163, x_up2_off (Or.inr (by decide)), e158, x_up2_off (Or.inr (by decide)), e157, x_clr_ne (by omega), e156, x_up2_off (Or.inr (by decide)), e155, x_clr_ne (by omega), e154]; exact x_up2_at _ _ _ _), ⟨(t_sx hN2).trans rfl, ⟨_, (by rw [e163, x_up2_off (Or.inl (by omega)), e158, x_up2_off (Or.inl (by omega)), e157, x_clr_ne (by omega), e156, x_up2_off (Or.inl (by omega)), e155, x_clr_ne (by omega), e154, x_up2_off (Or.inl (by omega)), e153, x_up2_off (Or.inr (by decide)), e152, x_up2_off (Or.inl (by omega)), e151, x_clr_ne (by omega), e150, x_up2_off (Or.inl (by omega)), e149, x_clr_ne (by omega), e148, x_up2_off (Or.inl (by omega)), e147, x_clr_ne (by omega), e146, x_up2_off (Or.inl (by omega)), e145, x_clr_ne (by omega), e144, x_up2_off (Or.inl (by omega)), e143, x_clr_ne (by omega), e141, x_clr_ne (by omega), e140, x_up2_off (Or.inr (by decide)), e139, x_clr_ne (by omega), e138, x_up2_off (Or.inr (by decide)), e137, x_up2_off (Or.inl (by omega)), e136, x_clr_ne (by omega), e135, x_up2_off (Or.inl (by omega)), e134, x_clr_ne (by omega), e133, x_up2_off (Or.inl (by omega)), e132, x_clr_ne (by omega), e131, x_up2_off (Or.inl (by omega)), e130, x_clr_ne (by omega), e129, x_up2_off (Or.inl (by omega)), e128, x_clr_ne (by omega), e126, x_clr_ne (by omega), e121, x_up2_off (Or.inr (by decide)), e120, x_clr_ne (by omega), e119]; exact x_up2_at _ _ _ _), (t_sx hN2).trans rfl, Or.inr (by omega)⟩, ⟨_, (by rw [e163, x_up2_off (Or.inl (by omega)), e158, x_up2_off (Or.inl (by omega)), e157, x_clr_ne (by omega), e156, x_up2_off (Or.inl (by omega)), e155, x_clr_ne (by omega), e154, x_up2_off (Or.inl (by omega)), e153, x_up2_off (Or.inr (by decide)), e152, x_up2_off (Or.inl (by omega)), e151, x_clr_ne (by omega), e150, x_up2_off (Or.inl (by omega)), e149, x_clr_ne (by omega), e148, x_up2_off (Or.inl (by omega)), e147, x_clr_ne (by omega), e146, x_up2_off (Or.inl (by omega)), e145, x_clr_ne (by omega), e144, x_up2_off (Or.inl (by omega)), e143, x_clr_ne (by omega), e141, x_clr_ne (by omega), e140, x_up2_off (Or.inr (by decide)), e139, x_clr_ne (by omega), e138, x_up2_off (Or.inr (by decide)), e137, x_up2_off (Or.inl (by omega)), e136, x_clr_ne (by omega), e135, x_up2_off (Or.inl (by omega)), e134, x_clr_ne (by omega), e133, x_up2_off (Or.inl (by omega)), e132, x_clr_ne (by omega), e131, x_up2_off (Or.inl (by omega)), e130, x_clr_ne (by omega), e129, x_up2_off (Or.inl (by omega)), e128, x_clr_ne (by omega), e126, x_clr_ne (by omega), e121]; exact x_up2_at _ _ _ _), (t_sx hN2).trans rfl, Or.inr (by omega)⟩, ⟨_, (by rw [e163, x_up2_off (Or.inl (by omega)), e158, x_up2_off (Or.inl (by omega)), e157, x_clr_ne (by omega), e156, x_up2_off (Or.inl (by omega)), e155, x_clr_ne (by omega), e154, x_up2_off (Or.inl (by omega)), e153, x_up2_off (Or.inr (by decide)), e152, x_up2_off (Or.inl (by omega)), e151, x_clr_ne (by omega), e150, x_up2_off (Or.inl (by omega)), e149, x_clr_ne (by omega), e148, x_up2_off (Or.inl (by omega)), e147, x_clr_ne (by omega), e146, x_up2_off (Or.inl (by omega)), e145, x_clr_ne (by omega), e144, x_up2_off (Or.inl (by omega)), e143, x_clr_ne (by omega), e141, x_clr_ne (by omega), e140]; exact x_up2_at _ _ _ _), (t_sx hN2).trans rfl, Or.inr (by omega)⟩, ⟨_, (by rw [e163, x_up2_off (Or.inl (by omega)), e158, x_up2_off (Or.inl (by omega)), e157, x_clr_ne (by omega), e156, x_up2_off (Or.inl (by omega)), e155, x_clr_ne (by omega), e154, x_up2_off (Or.inl (by omega)), e153, x_up2_off (Or.inr (by decide)), e152, x_up2_off (Or.inl (by omega)), e151, x_clr_ne (by omega), e150, x_up2_off (Or.inl (by omega)), e149, x_clr_ne (by omega), e148, x_up2_off (Or.inl (by omega)), e147, x_clr_ne (by omega), e146, x_up2_off (Or.inl (by omega)), e145, x_clr_ne (by omega), e144, x_up2_off (Or.inl (by omega)), e143, x_clr_ne (by omega), e141, x_clr_ne (by omega), e140, x_up2_off (Or.inr (by decide)), e139, x_clr_ne (by omega), e138]; exact x_up2_at _ _ _ _), ⟨(t_sx hN2).trans rfl, ⟨_, (by rw [e163, x_up2_off (Or.inl (by omega)), e158, x_up2_off (Or.inl (by omega)), e157, x_clr_ne (by omega), e156, x_up2_off (Or.inl (by omega)), e155, x_clr_ne (by omega), e154, x_up2_off (Or.inl (by omega)), e153, x_up2_off (Or.inl (by omega)), e152, x_up2_off (Or.inl (by omega)), e151, x_clr_ne (by omega), e150, x_up2_off (Or.inl (by omega)), e149, x_clr_ne (by omega), e148, x_up2_off (Or.inl (by omega)), e147, x_clr_ne (by omega), e146, x_up2_off (Or.inl (by omega)), e145, x_clr_ne (by omega), e144, x_up2_off (Or.inl (by omega)), e143, x_clr_ne (by omega), e141, x_clr_ne (by omega), e140, x_up2_off (Or.inl (by omega)), e139, x_clr_ne (by omega), e138, x_up2_off (Or.inl (by omega)), e137, x_up2_off (Or.inr (by decide)), e136, x_clr_ne (by omega), e135, x_up2_off (Or.inr (by decide)), e134, x_clr_ne (by omega), e133, x_up2_off (Or.inr (by decide)), e132, x_clr_ne (by omega), e131, x_up2_off (Or.inr (by decide)), e130, x_clr_ne (by omega), e129]; exact x_up2_at _ _ _ _), (t_sx hN2).trans rfl, Or.inr (by omega)⟩, ⟨_, (by rw [e163, x_up2_off (Or.inl (by omega)), e158, x_up2_off (Or.inl (by omega)), e157, x_clr_ne (by omega), e156, x_up2_off (Or.inl (by omega)), e155, x_clr_ne (by omega), e154, x_up2_off (Or.inl (by omega)), e153, x_up2_off (Or.inl (by omega)), e152, x_up2_off (Or.inl (by omega)), e151, x_clr_ne (by omega), e150, x_up2_off (Or.inl (by omega)), e149, x_clr_ne (by omega), e148, x_up2_off (Or.inl (by omega)), e147, x_clr_ne (by omega), e146, x_up2_off (Or.inl (by omega)), e145, x_clr_ne (by omega), e144, x_up2_off (Or.inl (by omega)), e143, x_clr_ne (by omega), e141, x_clr_ne (by omega), e140, x_up2_off (Or.inl (by omega)), e139, x_clr_ne (by omega), e138, x_up2_off (Or.inl (by omega)), e137, x_up2_off (Or.inr (by decide)), e136, x_clr_ne (by omega), e135, x_up2_off (Or.inr (by decide)), e134, x_clr_ne (by omega), e133, x_up2_off (Or.inr (by decide)), e132, x_clr_ne (by omega), e131]; exact x_up2_at _ _ _ _), (t_sx hN2).trans rfl, Or.inr (by omega)⟩, ⟨_, (by rw [e163, x_up2_off (Or.inl (by omega)), e158, x_up2_off (Or.inl (by omega)), e157, x_clr_ne (by omega), e156, x_up2_off (Or.inl (by omega)), e155, x_clr_ne (by omega), e154, x_up2_off (Or.inl (by omega)), e153, x_up2_off (Or.inl (by omega)), e152, x_up2_off (Or.inl (by omega)), e151, x_clr_ne (by omega), e150, x_up2_off (Or.inl (by omega)), e149, x_clr_ne (by omega), e148, x_up2_off (Or.inl (by omega)), e147, x_clr_ne (by omega), e146, x_up2_off (Or.inl (by omega)), e145, x_clr_ne (by omega), e144, x_up2_off (Or.inl (by omega)), e143, x_clr_ne (by omega), e141, x_clr_ne (by omega), e140, x_up2_off (Or.inl (by omega)), e139, x_clr_ne (by omega), e138, x_up2_off (Or.inl (by omega)), e137, x_up2_off (Or.inr (by decide)), e136, x_clr_ne (by omega), e135, x_up2_off (Or.inr (by decide)), e134, x_clr_ne (by omega), e133]; exact x_up2_at _ _ _ _), (t_sx hN2).trans rfl, Or.inr (by omega)⟩, ⟨_, (by rw [e163, x_up2_off (Or.inl (by omega)), e158, x_up2_off (Or.inl (by omega)), e157, x_clr_ne (by omega), e156, x_up2_off (Or.inl (by omega)), e155, x_clr_ne (by omega), e154, x_up2_off (Or.inl (by omega)), e153, x_up2_off (Or.inl (by omega)), e152, x_up2_off (Or.inl (by omega)), e151, x_clr_ne (by omega), e150, x_up2_off (Or.inl (by omega)), e149, x_clr_ne (by omega), e148, x_up2_off (Or.inl (by omega)), e147, x_clr_ne (by omega), e146, x_up2_off (Or.inl (by omega)), e145, x_clr_ne (by omega), e144, x_up2_off (Or.inl (by omega)), e143, x_clr_ne (by omega), e141, x_clr_ne (by omega), e140, x_up2_off (Or.inl (by omega)), e139, x_clr_ne (by omega), e138, x_up2_off (Or.inl (by omega)), e137, x_up2_off (Or.inr (by decide)), e136, x_clr_ne (by omega), e135]; exact x_up2_at _ _ _ _), (t_sx hN2).trans rfl, Or.inr (by omega)⟩, ⟨_, (by rw [e163, x_up2_off (Or.inl (by omega)), e158, x_up2_off (Or.inl (by omega)), e157, x_clr_ne (by omega), e156, x_up2_off (Or.inl (by omega)), e155, x_clr_ne (by omega), e154, x_up2_off (Or.inl (by omega)), e153, x_up2_off (Or.inl (by omega)), e152, x_up2_off (Or.inl (by omega)), e151, x_clr_ne (by omega), e150, x_up2_off (Or.inl (by omega)), e149, x_clr_ne (by omega), e148, x_up2_off (Or.inl (by omega)), e147, x_clr_ne (by omega), e146, x_up2_off (Or.inl (by omega)), e145, x_clr_ne (by omega), e144, x_up2_off (Or.inl (by omega)), e143, x_clr_ne (by omega), e141, x_clr_ne (by omega), e140, x_up2_off (Or.inl (by omega)), e139, x_clr_ne (by omega), e138, x_up2_off (Or.inl (by omega)), e137]; exact x_up2_at _ _ _ _), (t_sx hN2).trans rfl, Or.inr (by omega)⟩⟩⟩, ⟨_, (by rw [e163, x_up2_off (Or.inl (by omega)), e158, x_up2_off (Or.inl (by omega)), e157, x_clr_ne (by omega), e156, x_up2_off (Or.inl (by omega)), e155, x_clr_ne (by omega), e154, x_up2_off (Or.inl (by omega)), e153]; exact x_up2_at _ _ _ _), ⟨(t_sx hN2).trans rfl, ⟨_, (by rw [e163, x_up2_off (Or.inl (by omega)), e158, x_up2_off (Or.inl (by omega)), e157, x_clr_ne (by omega), e156, x_up2_off (Or.inl (by omega)), e155, x_clr_ne (by omega), e154, x_up2_off (Or.inl (by omega)), e153, x_up2_off (Or.inl (by omega)), e152, x_up2_off (Or.inr (by decide)), e151, x_clr_ne (by omega), e150, x_up2_off (Or.inr (by decide)), e149, x_clr_ne (by omega), e148, x_up2_off (Or.inr (by decide)), e147, x_clr_ne (by omega), e146, x_up2_off (Or.inr (by decide)), e145, x_clr_ne (by omega), e144]; exact x_up2_at _ _ _ _), (t_sx hN2).trans rfl, Or.inr (by omega)⟩, ⟨_, (by rw [e163, x_up2_off (Or.inl (by omega)), e158, x_up2_off (Or.inl (by omega)), e157, x_clr_ne (by omega), e156, x_up2_off (Or.inl (by omega)), e155, x_clr_ne (by omega), e154, x_up2_off (Or.inl (by omega)), e153, x_up2_off (Or.inl (by omega)), e152, x_up2_off (Or.inr (by decide)), e151, x_clr_ne (by omega), e150, x_up2_off (Or.inr (by decide)), e149, x_clr_ne (by omega), e148, x_up2_off (Or.inr (by decide)), e147, x_clr_ne (by omega), e146]; exact x_up2_at _ _ _ _), (t_sx hN2).trans rfl, Or.inr (by omega)⟩, ⟨_, (by rw [e163, x_up2_off (Or.inl (by omega)), e158, x_up2_off (Or.inl (by omega)), e157, x_clr_ne (by omega), e156, x_up2_off (Or.inl (by omega)), e155, x_clr_ne (by omega), e154, x_up2_off (Or.inl (by omega)), e153, x_up2_off (Or.inl (by omega)), e152, x_up2_off (Or.inr (by decide)), e151, x_clr_ne (by omega), e150, x_up2_off (Or.inr (by decide)), e149, x_clr_ne (by omega), e148]; exact x_up2_at _ _ _ _), (t_sx hN2).trans rfl, Or.inr (by omega)⟩, ⟨_, (by rw [e163, x_up2_off (Or.inl (by omega)), e158, x_up2_off (Or.inl (by omega)), e157, x_clr_ne (by omega), e156, x_up2_off (Or.inl (by omega)), e155, x_clr_ne (by omega), e154, x_up2_off (Or.inl (by omega)), e153, x_up2_off (Or.inl (by omega)), e152, x_up2_off (Or.inr (by decide)), e151, x_clr_ne (by omega), e150]; exact x_up2_at _ _ _ _), (t_sx hN2).trans rfl, Or.inr (by omega)⟩, ⟨_, (by rw [e163, x_up2_off (Or.inl (by omega)), e158, x_up2_off (Or.inl (by omega)), e157, x_clr_ne (by omega), e156, x_up2_off (Or.inl (by omega)), e155, x_clr_ne (by omega), e154, x_up2_off (Or.inl (by omega)), e153, x_up2_off (Or.inl (by omega)), e152]; exact x_up2_at _ _ _ _), (t_sx hN2).trans rfl, Or.inr (by omega)⟩⟩⟩⟩⟩, ⟨_, (by rw [e163, x_up2_off (Or.inr (by decide)), e158, x_up2_off (Or.inr (by decide)), e157, x_clr_ne (by omega), e156]; exact x_up2_at _ _ _ _), (t_sx hN2).trans rfl, Or.inr (by omega)⟩, ⟨_, (by rw [e163, x_up2_off (Or.inr (by decide)), e158]; exact x_up2_at _ _ _ _), (t_sx hN2).trans rfl, Or.inr (by omega)⟩⟩
  refine ev_sub (lo := [(0, .ref 0), (1, .int ar1), (2, .ref (N + 0))]) rfl (t_sc rfl (t_sc rfl (t_sc rfl t_sn))) ?_
  have hsh : ((sh ++ ([.inl 5, .inl 8] : List (Nat ⊕ (Nat × Nat)))) ++ [.inl 4, .inr (1, 6), .inr (1, 6), .inl 3, .inr (0, 6), .inr (0, 6), .inr (0, 6), .inr (0, 6), .inr (3, 6), .inr (0, 6), .inl 3, .inr (0, 6), .inr (0, 6), .inr (0, 6), .inr (0, 6), .inr (3, 6), .inr (1, 6), .inr (1, 18)]) = sh ++ [.inl 5, .inl 8, .inl 4, .inr (1, 6), .inr (1, 6), .inl 3, .inr (0, 6), .inr (0, 6), .inr (0, 6), .inr (0, 6), .inr (3, 6), .inr (0, 6), .inl 3, .inr (0, 6), .inr (0, 6), .inr (0, 6), .inr (0, 6), .inr (3, 6), .inr (1, 6), .inr (1, 18)] := by rw [List.append_assoc]; rfl
  refine x_Ev.mono (x_Ev.up (c_t_river (d := d) hI3 ar1 (N + 0) hR) (by omega)) ?_
  rintro v G' ⟨g1, g2, g3, rfl, k1, k2, x, rfl, -, -, k3⟩
  refine ⟨[.inl 5, .inl 8, .inl 4, .inr (1, 6), .inr (1, 6), .inl 3, .inr (0, 6), .inr (0, 6), .inr (0, 6), .inr (0, 6), .inr (3, 6), .inr (0, 6), .inl 3, .inr (0, 6), .inr (0, 6), .inr (0, 6), .inr (0, 6), .inr (3, 6), .inr (1, 6), .inr (1, 18)], g1, g2, g3, by rw [hsh], by rw [← hsh]; exact k1, t_H_ext hH (t_he rfl), fun k j hk hn => ?_, Nat.le_of_ble_eq_true rfl, ?_, x, rfl, fun _ => k3, fun hh => absurd hin hh⟩
  · have f1 := k2.1 k j (by rw [t_cdlo hk]; exact (t_in_app hn).1)
    have f2 := hG.1 k (by omega) (by omega)
    have f3 := hX1.1 k j (by rw [t_cdlo hk]; exact t_inhi rfl hk)
    have f4 := hG1.1 k (by omega) (by omega)
    exact ⟨f1.1.trans ((congrFun f2.1 j).trans (f3.1.trans (congrFun f4.1 j))), f1.2.1.trans ((congrFun f2.2.1 j).trans (f3.2.1.trans (congrFun f4.2.1 j))), f1.2.2.trans ((congrFun f2.2.2 j).trans (f3.2.2.trans (congrFun f4.2.2 j)))⟩
  · decide
noncomputable def wl_h_rules : List (Nat × Nat) := wl_t_rules ++ wl_t_rulesN
set_option maxHeartbeats 4000000 in
theorem c_h_rules {X : x_Ext} {d : Nat} {sh : List (Nat ⊕ (Nat × Nat))} {gi : Nat → Nat → Int32} {gl : Nat → Nat → Int64} {gr : Nat → Nat → Value} (hI : t_I sh gi gr) (hH : t_H sh) (ar1 : Int32) : x_Me X (d + 70) n_X11_rules [.ref 0, .int ar1] (sh, gi, gl, gr) (t_PG wl_h_rules 30 2000 sh gi gl gr (fun (x : Int32) (g : Nat → Nat → Int32) => ((0 ≤ ar1.toInt ∧ ar1.toInt ≤ (gi 0 5).toInt ∧ ar1.toInt ≤ 300) → (g 0 5).toInt = 0) ∧ (¬ (0 ≤ ar1.toInt ∧ ar1.toInt ≤ (gi 0 5).toInt ∧ ar1.toInt ≤ 300) → g 0 5 = gi 0 5 ∧ x.toInt = -1))) := by
  have hb0 := hI.b (hI.wf.s (k := 0) rfl) (t_bdK rfl : t_bd 10 5 = some (0, 900))
  refine me_i f_X11_rules (hI.wf.s rfl) rfl rfl rfl ?_
  refine ev_loc f_X11_rules (nx := 1) rfl rfl rfl rfl ?_
  refine ev_if f_X11_rules (t1 := 19) (t2 := 4) rfl rfl rfl (fun h1 => ?_) (fun h1 => ?_)
  · have h1 := Int32.lt_iff_toInt_lt.mp h1; have kf0 : (0 : Int32).toInt = 0 := (by decide); refine x_Ev.mono (x_Ev.up (c_t_rulesN (d := d) hI ar1) (by omega)) (fun v G' h => t_PG_of hH h (fun k j hn => (t_in_app hn).2) (fun x g1 g2 g3 hq hf => ⟨fun hi => absurd hi (by omega), fun _ => ⟨hf 0 5 (by decide) (by decide +kernel), hq⟩⟩))
  have h1 := Int32.le_iff_toInt_le.mp (t_nlt h1); have kf0 : (0 : Int32).toInt = 0 := (by decide)
  refine ev_loc f_X11_rules (nx := 5) rfl rfl rfl rfl ?_
  refine ev_loc f_X11_rules (nx := 6) rfl rfl rfl rfl ?_
  refine ev_getI f_X11_rules (nx := 9) rfl (hI.wf.s rfl) rfl rfl rfl ?_
  refine ev_if f_X11_rules (t1 := 19) (t2 := 12) rfl rfl rfl (fun h2 => ?_) (fun h2 => ?_)
  · have h2 := Int32.lt_iff_toInt_lt.mp h2; refine x_Ev.mono (x_Ev.up (c_t_rulesN (d := d) hI ar1) (by omega)) (fun v G' h => t_PG_of hH h (fun k j hn => (t_in_app hn).2) (fun x g1 g2 g3 hq hf => ⟨fun hi => absurd hi (by omega), fun _ => ⟨hf 0 5 (by decide) (by decide +kernel), hq⟩⟩))
  have h2 := Int32.le_iff_toInt_le.mp (t_nlt h2)
  refine ev_loc f_X11_rules (nx := 13) rfl rfl rfl rfl ?_
  refine ev_sp f_X11_rules (nx := 16) (v := 300) rfl (by decide) rfl ?_
  refine ev_if f_X11_rules (t1 := 25) (t2 := 19) rfl rfl rfl (fun h3 => ?_) (fun h3 => ?_)
  rotate_left
  · have h3 := Int32.lt_iff_toInt_lt.mp (t_nle h3); have kf1 : (300 : Int32).toInt = 300 := (by decide); refine x_Ev.mono (x_Ev.up (c_t_rulesN (d := d) hI ar1) (by omega)) (fun v G' h => t_PG_of hH h (fun k j hn => (t_in_app hn).2) (fun x g1 g2 g3 hq hf => ⟨fun hi => absurd hi (by omega), fun _ => ⟨hf 0 5 (by decide) (by decide +kernel), hq⟩⟩))
  have h3 := Int32.le_iff_toInt_le.mp h3; have kf1 : (300 : Int32).toInt = 300 := (by decide)
  have hin : (0 ≤ ar1.toInt ∧ ar1.toInt ≤ (gi 0 5).toInt ∧ ar1.toInt ≤ 300) := by omega
  have lx : (0:Int) ≤ ar1.toInt := by omega
  have ux : ar1.toInt ≤ (900:Int) := by omega
  obtain ⟨N, hN⟩ : ∃ N, sh.length = N := ⟨_, rfl⟩
  have h102 := t_102 hI.wf
  rw [hN] at h102
  have hG := t_G.refl (N := N) (r := N) (gi0 := gi) (gl0 := gl) (gr0 := gr) hN (fun ci j lo hi hk ht => absurd (t_lt hk) (by omega))
  rw [show ((sh, gi, gl, gr) : x_G) = (sh ++ [], gi, gl, gr) by rw [List.append_nil]]
  refine ev_newG f_X11_rules (nx := 28) (c := 0) (ext' := [.inl 7]) rfl rfl rfl hN rfl rfl hG (fun a101 b101 g101 ea101 eb101 e101 hG => ?_)
  refine ev_alu f_X11_rules (nx := 29) rfl rfl rfl rfl ?_
  refine ev_newG f_X11_rules (nx := 32) (c := 1) (ext' := [.inl 7, .inl 8]) rfl rfl rfl hN rfl rfl hG (fun a102 b102 g102 ea102 eb102 e102 hG => ?_)
  refine ev_alu f_X11_rules (nx := 33) rfl rfl rfl rfl ?_
  refine ev_loc f_X11_rules (nx := 34) rfl rfl rfl rfl ?_
  refine ev_getR f_X11_rules (nx := 37) rfl (t_sl (hI.wf.s rfl)) rfl rfl ((congrFun (hG.1 0 (by omega) (by omega)).2.2 4).trans (hI.wf.r rfl)) rfl rfl ?_
  refine ev_loc f_X11_rules (nx := 38) rfl rfl rfl rfl ?_
  refine ev_inV3 f_X11_rules (nx := 41) (lo2 := [(0, .ref (N + 1)), (1, .ref 2), (2, .int ar1)]) rfl rfl rfl rfl f_X9_init ((t_sx hN).trans rfl) rfl rfl rfl rfl rfl ?_
  refine ev_loc f_X9_init (nx := 1) rfl rfl rfl rfl ?_
  refine ev_obj f_X9_init (nx := 4) rfl rfl (by omega) (by decide) rfl ?_
  refine ev_loc f_X9_init (nx := 5) rfl rfl rfl rfl ?_
  refine ev_ic f_X9_init (nx := 6) (v := 0) rfl (by decide) rfl ?_
  refine ev_putIG f_X9_init (nx := 9) rfl ((t_sx hN).trans rfl) rfl rfl rfl (hG.putI (Or.inl (by omega)) ((t_sx hN).trans rfl) (fun lo hi e => by have e : some ((0 : Int), (900 : Int)) = some (lo, hi) := e; cases e; exact ⟨by decide, by decide⟩) (fun _ => rfl)) (fun a103 ea103 hG => ?_)
  refine ev_loc f_X9_init (nx := 10) rfl rfl rfl rfl ?_
  refine ev_ic f_X9_init (nx := 11) (v := 3) rfl (by decide) rfl ?_
  refine ev_putIG f_X9_init (nx := 14) rfl ((t_sx hN).trans rfl) rfl rfl rfl (hG.putI (Or.inl (by omega)) ((t_sx hN).trans rfl) (fun lo hi e => by have e : (none : Option (Int × Int)) = some (lo, hi) := e; cases e) (fun h => absurd h (by decide))) (fun a104 ea104 hG => ?_)
  refine ev_loc f_X9_init (nx := 15) rfl rfl rfl rfl ?_
  refine ev_ic f_X9_init (nx := 16) (v := 0) rfl (by decide) rfl ?_
  refine ev_putIG f_X9_init (nx := 19) rfl ((t_sx hN).trans rfl) rfl rfl rfl (hG.putI (Or.inl (by omega)) ((t_sx hN).trans rfl) (fun lo hi e => by have e : some ((0 : Int), (900 : Int)) = some (lo, hi) := e; cases e; exact ⟨by decide, by decide⟩) (fun _ => rfl)) (fun a105 ea105 hG => ?_)
  refine ev_loc f_X9_init (nx := 20) rfl rfl rfl rfl ?_
  refine ev_ic f_X9_init (nx := 21) (v := 0) rfl (by decide) rfl ?_
  refine ev_putIG f_X9_init (nx := 24) rfl ((t_sx hN).trans rfl) rfl rfl rfl (hG.putI (Or.inl (by omega)) ((t_sx hN).trans rfl) (fun lo hi e => by have e : (none : Option (Int × Int)) = some (lo, hi) := e; cases e) (fun _ => rfl)) (fun a106 ea106 hG => ?_)
  refine ev_loc f_X9_init (nx := 25) rfl rfl rfl rfl ?_
  refine ev_lc f_X9_init (nx := 26) (v := 0) rfl (by decide) rfl ?_
  refine ev_putLG f_X9_init (nx := 29) rfl ((t_sx hN).trans rfl) rfl rfl rfl (hG.putL (Or.inl (by omega))) (fun b107 eb107 hG => ?_)
  refine ev_loc f_X9_init (nx := 30) rfl rfl rfl rfl ?_
  refine ev_alu f_X9_init (nx := 31) rfl rfl rfl rfl ?_
  refine ev_putRG f_X9_init (nx := 34) rfl ((t_sx hN).trans rfl) rfl rfl rfl rfl (hG.putR (Or.inl (by omega)) ((t_sx hN).trans rfl) (fun h8 h7 => Or.inl rfl)) (fun g108 e108 hG => ?_)
  refine ev_loc f_X9_init (nx := 35) rfl rfl rfl rfl ?_
  refine ev_ic f_X9_init (nx := 36) (v := 0) rfl (by decide) rfl ?_
  refine ev_putIG f_X9_init (nx := 39) rfl ((t_sx hN).trans rfl) rfl rfl rfl (hG.putI (Or.inl (by omega)) ((t_sx hN).trans rfl) (fun lo hi e => by have e : (none : Option (Int × Int)) = some (lo, hi) := e; cases e) (fun _ => rfl)) (fun a109 ea109 hG => ?_)
  refine ev_loc f_X9_init (nx := 40) rfl rfl rfl rfl ?_
  refine ev_ic f_X9_init (nx := 41) (v := 0) rfl (by decide) rfl ?_
  refine ev_putIG f_X9_init (nx := 44) rfl ((t_sx hN).trans rfl) rfl rfl rfl (hG.putI (Or.inl (by omega)) ((t_sx hN).trans rfl) (fun lo hi e => by have e : (none : Option (Int × Int)) = some (lo, hi) := e; cases e) (fun _ => rfl)) (fun a110 ea110 hG => ?_)
  refine ev_loc f_X9_init (nx := 45) rfl rfl rfl rfl ?_
  refine ev_ic f_X9_init (nx := 46) (v := 0) rfl (by decide) rfl ?_
  refine ev_putIG f_X9_init (nx := 49) rfl ((t_sx hN).trans rfl) rfl rfl rfl (hG.putI (Or.inl (by omega)) ((t_sx hN).trans rfl) (fun lo hi e => by have e : (none : Option (Int × Int)) = some (lo, hi) := e; cases e) (fun _ => rfl)) (fun a111 ea111 hG => ?_)
  refine ev_loc f_X9_init (nx := 50) rfl rfl rfl rfl ?_
  refine ev_ic f_X9_init (nx := 51) (v := -1) rfl (by decide) rfl ?_
  refine ev_putIG f_X9_init (nx := 54) rfl ((t_sx hN).trans rfl) rfl rfl rfl (hG.putI (Or.inl (by omega)) ((t_sx hN).trans rfl) (fun lo hi e => by have e : (none : Option (Int × Int)) = some (lo, hi) := e; cases e) (fun h => absurd h (by decide))) (fun a112 ea112 hG => ?_)
  refine ev_loc f_X9_init (nx := 55) rfl rfl rfl rfl ?_
  refine ev_loc f_X9_init (nx := 56) rfl rfl rfl rfl ?_
  refine ev_putRG f_X9_init (nx := 59) rfl ((t_sx hN).trans rfl) rfl rfl rfl rfl (hG.putR (Or.inl (by omega)) ((t_sx hN).trans rfl) (fun h8 h7 => absurd h7 (by decide))) (fun g113 e113 hG => ?_)
  refine ev_loc f_X9_init (nx := 60) rfl rfl rfl rfl ?_
  refine ev_loc f_X9_init (nx := 61) rfl rfl rfl rfl ?_
  refine ev_loc f_X9_init (nx := 62) rfl rfl rfl rfl ?_
  refine ev_alenv f_X9_init (nx := 63) (w := 900) rfl (t_sl (hI.wf.s rfl)) rfl (by decide) rfl ?_
  refine ev_mmR f_X9_init (nx := 66) (l := 0) (u := 900) rfl rfl rfl (by omega) rfl lx ux (by decide : (900:Int) ≤ (900:Int32).toInt) (by decide : (900:Int32).toInt ≤ (900:Int)) (by decide) (by decide) rfl (fun w114 l114 u114 => ?_)
  refine ev_putIG f_X9_init (nx := 69) rfl ((t_sx hN).trans rfl) rfl rfl rfl (hG.putI (Or.inl (by omega)) ((t_sx hN).trans rfl) (fun lo hi e => by have e : some ((0 : Int), (900 : Int)) = some (lo, hi) := e; cases e; exact ⟨l114, u114⟩) (fun h => absurd h (by decide))) (fun a115 ea115 hG => ?_)
  refine ev_loc f_X9_init (nx := 70) rfl rfl rfl rfl ?_
  have hI1 := hG.I hN hI hH (by omega) (fun s hs => absurd (t_lt hs) (by omega))
  have hTk : t_Tk (sh ++ ([.inl 7, .inl 8] : List (Nat ⊕ (Nat × Nat)))) g113 (N + 1) := ⟨(t_sx hN).trans rfl, (by rw [e113]; exact x_up2_at _ _ _ _)⟩
  have hG1 := hG
  have hX : t_X wl_step (sh ++ ([.inl 7, .inl 8] : List (Nat ⊕ (Nat × Nat)))) a115 b107 g113 a115 b107 g113 := t_X.rf
  refine ev_c0 f_X9_init (nx := 73) (r := []) rfl rfl rfl rfl rfl rfl rfl (x_Me.up (c_step (d := d) hI1 (N + 1) hTk) (by omega)) rfl hX rfl (fun gi1 gl1 gr1 hI2 hX1 _ => ?_)
  replace hTk := hTk.ext hX1.2
  have hN2 : (sh ++ ([.inl 7, .inl 8] : List (Nat ⊕ (Nat × Nat)))).length = N + 2 := by rw [List.length_append, hN]; rfl
  have hG := t_G.refl (N := N + 2) (r := N + 0) (gi0 := gi1) (gl0 := gl1) (gr0 := gr1) hN2 (fun ci j lo hi hk ht => hI2.b hk ht)
  rw [show (((sh ++ ([.inl 7, .inl 8] : List (Nat ⊕ (Nat × Nat)))), gi1, gl1, gr1) : x_G) = ((sh ++ ([.inl 7, .inl 8] : List (Nat ⊕ (Nat × Nat)))) ++ [], gi1, gl1, gr1) by rw [List.append_nil]]
  refine ev_retK0 f_X9_init rfl rfl rfl ?_
  refine ev_newG f_X11_rules (nx := 44) (c := 0) (ext' := [.inl 6]) rfl rfl rfl hN2 rfl rfl hG (fun a116 b116 g116 ea116 eb116 e116 hG => ?_)
  refine ev_alu f_X11_rules (nx := 45) rfl rfl rfl rfl ?_
  refine ev_loc f_X11_rules (nx := 46) rfl rfl rfl rfl ?_
  refine ev_inV2 f_X11_rules (nx := 49) (lo2 := [(0, .ref (N + 2 + 0)), (1, .int ar1)]) rfl rfl rfl rfl f_X7_init ((t_sx hN2).trans rfl) rfl rfl rfl rfl rfl ?_
  refine ev_loc f_X7_init (nx := 1) rfl rfl rfl rfl ?_
  refine ev_obj f_X7_init (nx := 4) rfl rfl (by omega) (by decide) rfl ?_
  refine ev_loc f_X7_init (nx := 5) rfl rfl rfl rfl ?_
  refine ev_ic f_X7_init (nx := 6) (v := 0) rfl (by decide) rfl ?_
  refine ev_putIG f_X7_init (nx := 9) rfl ((t_sx hN2).trans rfl) rfl rfl rfl (hG.putI (Or.inl (by omega)) ((t_sx hN2).trans rfl) (fun lo hi e => by have e : some ((0 : Int), (12 : Int)) = some (lo, hi) := e; cases e; exact ⟨by decide, by decide⟩) (fun _ => rfl)) (fun a117 ea117 hG => ?_)
  refine ev_loc f_X7_init (nx := 10) rfl rfl rfl rfl ?_
  refine ev_bp f_X7_init (nx := 12) (v := 12) rfl (by decide) rfl ?_
  refine ev_arrG f_X7_init (nx := 14) (c := 1) (m := 12) (ext' := [.inl 6, .inr (0, 12)]) rfl rfl (by decide) rfl (by decide) rfl hN2 rfl rfl hG (fun a118 b118 g118 ea118 eb118 e118 hG => ?_)
  refine ev_putRG f_X7_init (nx := 17) rfl ((t_sx hN2).trans rfl) rfl rfl rfl rfl (hG.putR (Or.inl (by omega)) ((t_sx hN2).trans rfl) (fun h8 h7 => absurd h8 (by decide))) (fun g119 e119 hG => ?_)
  refine ev_loc f_X7_init (nx := 18) rfl rfl rfl rfl ?_
  refine ev_bp f_X7_init (nx := 20) (v := 12) rfl (by decide) rfl ?_
  refine ev_arrG f_X7_init (nx := 22) (c := 2) (m := 12) (ext' := [.inl 6, .inr (0, 12), .inr (0, 12)]) rfl rfl (by decide) rfl (by decide) rfl hN2 rfl rfl hG (fun a120 b120 g120 ea120 eb120 e120 hG => ?_)
  refine ev_putRG f_X7_init (nx := 25) rfl ((t_sx hN2).trans rfl) rfl rfl rfl rfl (hG.putR (Or.inl (by omega)) ((t_sx hN2).trans rfl) (fun h8 h7 => absurd h8 (by decide))) (fun g121 e121 hG => ?_)
  refine ev_loc f_X7_init (nx := 26) rfl rfl rfl rfl ?_
  refine ev_ic f_X7_init (nx := 27) (v := 0) rfl (by decide) rfl ?_
  refine ev_putIG f_X7_init (nx := 30) rfl ((t_sx hN2).trans rfl) rfl rfl rfl (hG.putI (Or.inl (by omega)) ((t_sx hN2).trans rfl) (fun lo hi e => by have e : some ((0 : Int), (300 : Int)) = some (lo, hi) := e; cases e; exact ⟨by decide, by decide⟩) (fun _ => rfl)) (fun a122 ea122 hG => ?_)
  refine ev_loc f_X7_init (nx := 31) rfl rfl rfl rfl ?_
  refine ev_ic f_X7_init (nx := 32) (v := 0) rfl (by decide) rfl ?_
  refine ev_mm f_X7_init (nx := 35) rfl rfl rfl (by omega) (by decide) rfl ?_
  rw [t_mx lx]
  refine ev_loc f_X7_init (nx := 36) (lo' := [(2, .int ar1), (0, .ref (N + 2 + 0)), (1, .int ar1)]) rfl rfl rfl rfl ?_
  refine ev_loc f_X7_init (nx := 37) rfl rfl rfl rfl ?_
  refine ev_loc f_X7_init (nx := 38) rfl rfl rfl rfl ?_
  refine ev_arrG f_X7_init (nx := 40) (c := 3) (m := ar1.toNatClampNeg) (ext' := [.inl 6, .inr (0, 12), .inr (0, 12), .inr (0, ar1.toNatClampNeg)]) rfl rfl lx rfl (decide_eq_true (by have hc := t_clamp (i := ar1) lx; omega)) rfl hN2 rfl rfl hG (fun a124 b124 g124 ea124 eb124 e124 hG => ?_)
  refine ev_putRG f_X7_init (nx := 43) rfl ((t_sx hN2).trans rfl) rfl rfl rfl rfl (hG.putR (Or.inl (by omega)) ((t_sx hN2).trans rfl) (fun h8 h7 => absurd h8 (by decide))) (fun g125 e125 hG => ?_)
  refine ev_loc f_X7_init (nx := 44) rfl rfl rfl rfl ?_
  refine ev_loc f_X7_init (nx := 45) rfl rfl rfl rfl ?_
  refine ev_arrG f_X7_init (nx := 47) (c := 4) (m := ar1.toNatClampNeg) (ext' := [.inl 6, .inr (0, 12), .inr (0, 12), .inr (0, ar1.toNatClampNeg), .inr (0, ar1.toNatClampNeg)]) rfl rfl lx rfl (decide_eq_true (by have hc := t_clamp (i := ar1) lx; omega)) rfl hN2 rfl rfl hG (fun a126 b126 g126 ea126 eb126 e126 hG => ?_)
  refine ev_putRG f_X7_init (nx := 50) rfl ((t_sx hN2).trans rfl) rfl rfl rfl rfl (hG.putR (Or.inl (by omega)) ((t_sx hN2).trans rfl) (fun h8 h7 => absurd h8 (by decide))) (fun g127 e127 hG => ?_)
  refine ev_loc f_X7_init (nx := 51) rfl rfl rfl rfl ?_
  refine ev_loc f_X7_init (nx := 52) rfl rfl rfl rfl ?_
  refine ev_arrG f_X7_init (nx := 54) (c := 5) (m := ar1.toNatClampNeg) (ext' := [.inl 6, .inr (0, 12), .inr (0, 12), .inr (0, ar1.toNatClampNeg), .inr (0, ar1.toNatClampNeg), .inr (0, ar1.toNatClampNeg)]) rfl rfl lx rfl (decide_eq_true (by have hc := t_clamp (i := ar1) lx; omega)) rfl hN2 rfl rfl hG (fun a128 b128 g128 ea128 eb128 e128 hG => ?_)
  refine ev_putRG f_X7_init (nx := 57) rfl ((t_sx hN2).trans rfl) rfl rfl rfl rfl (hG.putR (Or.inl (by omega)) ((t_sx hN2).trans rfl) (fun h8 h7 => absurd h8 (by decide))) (fun g129 e129 hG => ?_)
  refine ev_retK0 f_X7_init rfl rfl rfl ?_
  refine ev_inV3 f_X11_rules (nx := 52) (lo2 := [(0, .ref (N + 0)), (1, .ref (N + 1)), (2, .ref (N + 2 + 0))]) rfl rfl rfl rfl f_X8_init (t_sl ((t_sx hN).trans rfl)) rfl rfl rfl rfl rfl ?_
  refine ev_loc f_X8_init (nx := 1) rfl rfl rfl rfl ?_
  refine ev_obj f_X8_init (nx := 4) rfl rfl (by omega) (by decide) rfl ?_
  refine ev_loc f_X8_init (nx := 5) rfl rfl rfl rfl ?_
  refine ev_ic f_X8_init (nx := 6) (v := 0) rfl (by decide) rfl ?_
  refine ev_putIG f_X8_init (nx := 9) rfl (t_sl ((t_sx hN).trans rfl)) rfl rfl rfl (hG.putI (Or.inr rfl) (t_sl ((t_sx hN).trans rfl)) (fun lo hi e => by have e : (none : Option (Int × Int)) = some (lo, hi) := e; cases e) (fun _ => rfl)) (fun a130 ea130 hG => ?_)
  refine ev_loc f_X8_init (nx := 10) rfl rfl rfl rfl ?_
  refine ev_loc f_X8_init (nx := 11) rfl rfl rfl rfl ?_
  refine ev_putRG f_X8_init (nx := 14) rfl (t_sl ((t_sx hN).trans rfl)) rfl rfl rfl rfl (hG.putR (Or.inr rfl) (t_sl ((t_sx hN).trans rfl)) (fun h8 h7 => absurd h8 (by decide))) (fun g131 e131 hG => ?_)
  refine ev_loc f_X8_init (nx := 15) rfl rfl rfl rfl ?_
  refine ev_loc f_X8_init (nx := 16) rfl rfl rfl rfl ?_
  refine ev_putRG f_X8_init (nx := 19) rfl (t_sl ((t_sx hN).trans rfl)) rfl rfl rfl rfl (hG.putR (Or.inr rfl) (t_sl ((t_sx hN).trans rfl)) (fun h8 h7 => absurd h8 (by decide))) (fun g132 e132 hG => ?_)
  refine ev_retK0 f_X8_init rfl rfl rfl ?_
  refine ev_loc f_X11_rules (nx := 53) (lo' := [(2, .ref (N + 0)), (0, .ref 0), (1, .int ar1)]) rfl rfl rfl rfl ?_
  have hI3 := hG.I hN2 hI2 (t_H_ext hH (t_he rfl)) (by omega) (fun s hs => Or.inr (by rw [(t_sx hN).trans rfl] at hs; cases hs; rfl))
  have hR : t_RL ((sh ++ ([.inl 7, .inl 8] : List (Nat ⊕ (Nat × Nat)))) ++ [.inl 6, .inr (0, 12), .inr (0, 12), .inr (0, ar1.toNatClampNeg), .inr (0, ar1.toNatClampNeg), .inr (0, ar1.toNatClampNeg)]) g132 (N + 0) := ⟨t_sl ((t_sx hN).trans rfl), ⟨N + 1, (by rw [e132, x_up2_off (Or.inr (by decide)), e131]; exact x_up2_at _ _ _ _), t_sl ((t_sx hN).trans rfl), (congrFun (hG.1 (N + 1) (by omega) (by omega)).2.2 0).trans hTk.2⟩, (N + 2 + 0), (by rw [e132]; exact x_up2_at _ _ _ _), ⟨(t_sx hN2).trans rfl, by omega, (by rw [e132, x_up2_off (Or.inl (by omega)), e131, x_up2_off (Or.inl (by omega)), e129, x_up2_off (Or.inr (by decide)), e128, x_clr_ne (by omega), e127, x_up2_off (Or.inr (by decide)), e126, x_clr_ne (by omega), e125, x_up2_off (Or.inr (by decide)), e124, x_clr_ne (by omega), e121, x_up2_off (Or.inr (by decide)), e120, x_clr_ne (by omega), e119]; exact x_up2_at _ _ _ _), (by rw [e132, x_up2_off (Or.inl (by omega)), e131, x_up2_off (Or.inl (by omega)), e129, x_up2_off (Or.inr (by decide)), e128, x_clr_ne (by omega), e127, x_up2_off (Or.inr (by decide)), e126, x_clr_ne (by omega), e125, x_up2_off (Or.inr (by decide)), e124, x_clr_ne (by omega), e121]; exact x_up2_at _ _ _ _), (t_sx hN2).trans rfl, (t_sx hN2).trans rfl, ar1.toNatClampNeg, by have hc := t_clamp (i := ar1) lx; omega, (by rw [e132, x_up2_off (Or.inl (by omega)), e131, x_up2_off (Or.inl (by omega)), e129, x_up2_off (Or.inr (by decide)), e128, x_clr_ne (by omega), e127, x_up2_off (Or.inr (by decide)), e126, x_clr_ne (by omega), e125]; exact x_up2_at _ _ _ _), (by rw [e132, x_up2_off (Or.inl (by omega)), e131, x_up2_off (Or.inl (by omega)), e129, x_up2_off (Or.inr (by decide)), e128, x_clr_ne (by omega), e127]; exact x_up2_at _ _ _ _), (by rw [e132, x_up2_off (Or.inl (by omega)), e131, x_up2_off (Or.inl (by omega)), e129]; exact x_up2_at _ _ _ _), (t_sx hN2).trans rfl, (t_sx hN2).trans rfl, (t_sx hN2).trans rfl⟩⟩
  refine ev_sub (lo := [(0, .ref 0), (1, .int ar1), (2, .ref (N + 0))]) rfl (t_sc rfl (t_sc rfl (t_sc rfl t_sn))) ?_
  have hsh : ((sh ++ ([.inl 7, .inl 8] : List (Nat ⊕ (Nat × Nat)))) ++ [.inl 6, .inr (0, 12), .inr (0, 12), .inr (0, ar1.toNatClampNeg), .inr (0, ar1.toNatClampNeg), .inr (0, ar1.toNatClampNeg)]) = sh ++ [.inl 7, .inl 8, .inl 6, .inr (0, 12), .inr (0, 12), .inr (0, ar1.toNatClampNeg), .inr (0, ar1.toNatClampNeg), .inr (0, ar1.toNatClampNeg)] := by rw [List.append_assoc]; rfl
  refine x_Ev.mono (x_Ev.up (c_t_rules (d := d) hI3 ar1 (N + 0) hR) (by omega)) ?_
  rintro v G' ⟨g1, g2, g3, rfl, k1, k2, x, rfl, -, -, k3⟩
  refine ⟨[.inl 7, .inl 8, .inl 6, .inr (0, 12), .inr (0, 12), .inr (0, ar1.toNatClampNeg), .inr (0, ar1.toNatClampNeg), .inr (0, ar1.toNatClampNeg)], g1, g2, g3, by rw [hsh], by rw [← hsh]; exact k1, t_H_ext hH (t_he rfl), fun k j hk hn => ?_, Nat.le_of_ble_eq_true rfl, ?_, x, rfl, fun _ => k3, fun hh => absurd hin hh⟩
  · have f1 := k2.1 k j (by rw [t_cdlo hk]; exact (t_in_app hn).1)
    have f2 := hG.1 k (by omega) (by omega)
    have f3 := hX1.1 k j (by rw [t_cdlo hk]; exact t_inhi rfl hk)
    have f4 := hG1.1 k (by omega) (by omega)
    exact ⟨f1.1.trans ((congrFun f2.1 j).trans (f3.1.trans (congrFun f4.1 j))), f1.2.1.trans ((congrFun f2.2.1 j).trans (f3.2.1.trans (congrFun f4.2.1 j))), f1.2.2.trans ((congrFun f2.2.2 j).trans (f3.2.2.trans (congrFun f4.2.2 j)))⟩
  · show 3 + (12 + (7 + (12 + (12 + (ar1.toNatClampNeg + (ar1.toNatClampNeg + (ar1.toNatClampNeg + (0)))))))) ≤ 2000
    have hc := t_clamp (i := ar1) lx; omega
