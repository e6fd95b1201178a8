/-! ===== printed by gen65.py: calls walked in place ===== -/
section XC
variable {X : x_Ext} {sh : List (Nat ⊕ (Nat × Nat))} {gi : Nat → Nat → Int32} {gl : Nat → Nat → Int64} {gr : Nat → Nat → Value}
set_option maxRecDepth 20000 in
theorem pc_6_2_3 (hR : x_R W1 (sh, gi, gl, gr)) (hX : X.1 = 6) (e1 : X.2 1 = 2) (e3 : X.2 3 = 3) : x_Ev X 1000 n_L_law 435 [(3, .int 0), (2, .ref 69), (1, .ref 0), (0, .retAddr 30)] [] (sh, gi, gl, gr) x_P1 := by
  have hW := W1_WF hR
  have hz := W1_hz hR
  refine ev_loc f_L_law (nx := 436) rfl rfl rfl rfl ?_
  refine ev_loc f_L_law (nx := 437) rfl rfl rfl rfl ?_
  refine ev_loc f_L_law (nx := 438) rfl rfl rfl rfl ?_
  refine ev_ic f_L_law (nx := 439) (v := 1) rfl (by decide) rfl ?_
  refine ev_aluvI f_L_law (nx := 440) (w := 1) rfl rfl rfl (by decide) rfl ?_
  refine ev_scrv f_L_law (nx := 441) (j := 1) (w := 2) rfl hX (by decide) (by decide) (by decide) e1 rfl ?_
  refine ev_loc f_L_law (nx := 442) rfl rfl rfl rfl ?_
  refine ev_loc f_L_law (nx := 443) rfl rfl rfl rfl ?_
  refine ev_ic f_L_law (nx := 444) (v := 2) rfl (by decide) rfl ?_
  refine ev_aluvI f_L_law (nx := 445) (w := 2) rfl rfl rfl (by decide) rfl ?_
  refine ev_scr f_L_law (nx := 446) (j := 2) rfl hX (by decide) (by decide) (by decide) rfl ?_
  refine ev_loc f_L_law (nx := 447) rfl rfl rfl rfl ?_
  refine ev_loc f_L_law (nx := 448) rfl rfl rfl rfl ?_
  refine ev_ic f_L_law (nx := 449) (v := 3) rfl (by decide) rfl ?_
  refine ev_aluvI f_L_law (nx := 450) (w := 3) rfl rfl rfl (by decide) rfl ?_
  refine ev_scrv f_L_law (nx := 451) (j := 3) (w := 3) rfl hX (by decide) (by decide) (by decide) e3 rfl ?_
  refine ev_loc f_L_law (nx := 452) rfl rfl rfl rfl ?_
  refine ev_loc f_L_law (nx := 453) rfl rfl rfl rfl ?_
  refine ev_ic f_L_law (nx := 454) (v := 4) rfl (by decide) rfl ?_
  refine ev_aluvI f_L_law (nx := 455) (w := 4) rfl rfl rfl (by decide) rfl ?_
  refine ev_scr f_L_law (nx := 456) (j := 4) rfl hX (by decide) (by decide) (by decide) rfl ?_
  refine ev_loc f_L_law (nx := 457) rfl rfl rfl rfl ?_
  refine ev_loc f_L_law (nx := 458) rfl rfl rfl rfl ?_
  refine ev_ic f_L_law (nx := 459) (v := 5) rfl (by decide) rfl ?_
  refine ev_aluvI f_L_law (nx := 460) (w := 5) rfl rfl rfl (by decide) rfl ?_
  refine ev_scr f_L_law (nx := 461) (j := 5) rfl hX (by decide) (by decide) (by decide) rfl ?_
  refine ev_inV6 f_L_law (nx := 464) (lo2 := [(0, .ref 0), (1, .int 2), (2, .int ((X.2 2))), (3, .int 3), (4, .int ((X.2 4))), (5, .int ((X.2 5)))]) rfl rfl rfl rfl f_X11_pour (hW.s rfl) rfl rfl rfl rfl rfl ?_
  refine ev_loc f_X11_pour (nx := 1) rfl rfl rfl rfl ?_
  refine ev_loc f_X11_pour (nx := 2) rfl rfl rfl rfl ?_
  refine ev_inV2 f_X11_pour (nx := 5) (lo2 := [(0, .ref 0), (1, .int 2)]) rfl rfl rfl rfl f_X11_isTray (hW.s rfl) rfl rfl rfl rfl rfl ?_
  refine ev_loc f_X11_isTray (nx := 1) rfl rfl rfl rfl ?_
  refine ev_f f_X11_isTray (t1 := 26) (t2 := 4) rfl rfl rfl (by decide) ?_
  refine ev_loc f_X11_isTray (nx := 5) rfl rfl rfl rfl ?_
  refine ev_loc f_X11_isTray (nx := 6) rfl rfl rfl rfl ?_
  refine ev_getR f_X11_isTray (nx := 9) rfl (hW.s rfl) rfl rfl (hW.r rfl) rfl rfl ?_
  refine ev_alenv f_X11_isTray (nx := 10) (w := 4) rfl (hW.s rfl) rfl (by decide) rfl ?_
  refine ev_f f_X11_isTray (t1 := 26) (t2 := 13) rfl rfl rfl (by decide) ?_
  refine ev_loc f_X11_isTray (nx := 14) rfl rfl rfl rfl ?_
  refine ev_getR f_X11_isTray (nx := 17) rfl (hW.s rfl) rfl rfl (hW.r rfl) rfl rfl ?_
  refine ev_loc f_X11_isTray (nx := 18) rfl rfl rfl rfl ?_
  refine ev_aaldv f_X11_isTray (nx := 19) (j := 2) rfl (hW.s rfl) rfl (by decide) (by decide) (by decide) (hW.r rfl) rfl rfl ?_
  refine ev_jmp f_X11_isTray (nx := 22) rfl rfl rfl ?_
  refine ev_ic f_X11_isTray (nx := 23) (v := 1) rfl (by decide) rfl ?_
  refine ev_jmp f_X11_isTray (nx := 27) rfl rfl rfl ?_
  refine ev_retK1 f_X11_isTray rfl rfl rfl ?_
  refine ev_f f_X11_pour (t1 := 30) (t2 := 8) rfl rfl rfl (by decide) ?_
  refine ev_loc f_X11_pour (nx := 9) rfl rfl rfl rfl ?_
  refine ev_loc f_X11_pour (nx := 10) rfl rfl rfl rfl ?_
  refine ev_inV2 f_X11_pour (nx := 13) (lo2 := [(0, .ref 0), (1, .int 3)]) rfl rfl rfl rfl f_X11_isTray (hW.s rfl) rfl rfl rfl rfl rfl ?_
  refine ev_loc f_X11_isTray (nx := 1) rfl rfl rfl rfl ?_
  refine ev_f f_X11_isTray (t1 := 26) (t2 := 4) rfl rfl rfl (by decide) ?_
  refine ev_loc f_X11_isTray (nx := 5) rfl rfl rfl rfl ?_
  refine ev_loc f_X11_isTray (nx := 6) rfl rfl rfl rfl ?_
  refine ev_getR f_X11_isTray (nx := 9) rfl (hW.s rfl) rfl rfl (hW.r rfl) rfl rfl ?_
  refine ev_alenv f_X11_isTray (nx := 10) (w := 4) rfl (hW.s rfl) rfl (by decide) rfl ?_
  refine ev_f f_X11_isTray (t1 := 26) (t2 := 13) rfl rfl rfl (by decide) ?_
  refine ev_loc f_X11_isTray (nx := 14) rfl rfl rfl rfl ?_
  refine ev_getR f_X11_isTray (nx := 17) rfl (hW.s rfl) rfl rfl (hW.r rfl) rfl rfl ?_
  refine ev_loc f_X11_isTray (nx := 18) rfl rfl rfl rfl ?_
  refine ev_aaldv f_X11_isTray (nx := 19) (j := 3) rfl (hW.s rfl) rfl (by decide) (by decide) (by decide) (hW.r rfl) rfl rfl ?_
  refine ev_jmp f_X11_isTray (nx := 22) rfl rfl rfl ?_
  refine ev_ic f_X11_isTray (nx := 23) (v := 1) rfl (by decide) rfl ?_
  refine ev_jmp f_X11_isTray (nx := 27) rfl rfl rfl ?_
  refine ev_retK1 f_X11_isTray rfl rfl rfl ?_
  refine ev_f f_X11_pour (t1 := 30) (t2 := 16) rfl rfl rfl (by decide) ?_
  refine ev_loc f_X11_pour (nx := 17) rfl rfl rfl rfl ?_
  refine ev_if f_X11_pour (t1 := 30) (t2 := 20) rfl rfl rfl (fun h67 => ?_) (fun h67 => ?_)
  · have q67 := h67; rw [Int32.lt_iff_toInt_lt, (by decide : (0 : Int32).toInt = 0)] at q67
    refine ev_loc f_X11_pour (nx := 31) rfl rfl rfl rfl ?_
    refine ev_ic f_X11_pour (nx := 32) (v := 1) rfl (by decide) rfl ?_
    refine ev_inV2 f_X11_pour (nx := 35) (lo2 := [(0, .ref 0), (1, .int 1)]) rfl rfl rfl rfl f_X11_deny (hW.s rfl) rfl rfl rfl rfl rfl ?_
    refine ev_loc f_X11_deny (nx := 1) rfl rfl rfl rfl ?_
    refine ev_loc f_X11_deny (nx := 2) rfl rfl rfl rfl ?_
    refine ev_putI f_X11_deny (nx := 5) rfl (hW.s rfl) rfl rfl rfl ?_
    refine ev_ic f_X11_deny (nx := 6) (v := 0) rfl (by decide) rfl ?_
    refine ev_retK1 f_X11_deny rfl rfl rfl ?_
    refine ev_retK1 f_X11_pour rfl rfl rfl ?_
    refine ev_loc f_L_law (nx := 465) rfl rfl rfl rfl ?_
    refine ev_loc f_L_law (nx := 466) rfl rfl rfl rfl ?_
    refine ev_loc f_L_law (nx := 467) rfl rfl rfl rfl ?_
    refine ev_ic f_L_law (nx := 468) (v := 1) rfl (by decide) rfl ?_
    refine ev_aluvI f_L_law (nx := 469) (w := 1) rfl rfl rfl (by decide) rfl ?_
    refine ev_scrv f_L_law (nx := 470) (j := 1) (w := 2) rfl hX (by decide) (by decide) (by decide) e1 rfl ?_
    refine ev_loc f_L_law (nx := 471) rfl rfl rfl rfl ?_
    refine ev_loc f_L_law (nx := 472) rfl rfl rfl rfl ?_
    refine ev_ic f_L_law (nx := 473) (v := 2) rfl (by decide) rfl ?_
    refine ev_aluvI f_L_law (nx := 474) (w := 2) rfl rfl rfl (by decide) rfl ?_
    refine ev_scr f_L_law (nx := 475) (j := 2) rfl hX (by decide) (by decide) (by decide) rfl ?_
    refine ev_loc f_L_law (nx := 476) rfl rfl rfl rfl ?_
    refine ev_loc f_L_law (nx := 477) rfl rfl rfl rfl ?_
    refine ev_ic f_L_law (nx := 478) (v := 3) rfl (by decide) rfl ?_
    refine ev_aluvI f_L_law (nx := 479) (w := 3) rfl rfl rfl (by decide) rfl ?_
    refine ev_scrv f_L_law (nx := 480) (j := 3) (w := 3) rfl hX (by decide) (by decide) (by decide) e3 rfl ?_
    refine ev_loc f_L_law (nx := 481) rfl rfl rfl rfl ?_
    refine ev_loc f_L_law (nx := 482) rfl rfl rfl rfl ?_
    refine ev_ic f_L_law (nx := 483) (v := 4) rfl (by decide) rfl ?_
    refine ev_aluvI f_L_law (nx := 484) (w := 4) rfl rfl rfl (by decide) rfl ?_
    refine ev_scr f_L_law (nx := 485) (j := 4) rfl hX (by decide) (by decide) (by decide) rfl ?_
    refine ev_loc f_L_law (nx := 486) rfl rfl rfl rfl ?_
    refine ev_loc f_L_law (nx := 487) rfl rfl rfl rfl ?_
    refine ev_ic f_L_law (nx := 488) (v := 5) rfl (by decide) rfl ?_
    refine ev_aluvI f_L_law (nx := 489) (w := 5) rfl rfl rfl (by decide) rfl ?_
    refine ev_scr f_L_law (nx := 490) (j := 5) rfl hX (by decide) (by decide) (by decide) rfl ?_
    refine ev_inV6 f_L_law (nx := 493) (lo2 := [(0, .ref 69), (1, .int 2), (2, .int ((X.2 2))), (3, .int 3), (4, .int ((X.2 4))), (5, .int ((X.2 5)))]) rfl rfl rfl rfl f_X12_pour (hW.s rfl) rfl rfl rfl rfl rfl ?_
    refine ev_loc f_X12_pour (nx := 1) rfl rfl rfl rfl ?_
    refine ev_inS1 f_X12_pour (nx := 4) (lo2 := [(0, .int 2)]) rfl rfl rfl rfl f_X12_isTray rfl rfl rfl rfl ?_
    refine ev_loc f_X12_isTray (nx := 1) rfl rfl rfl rfl ?_
    refine ev_f f_X12_isTray (t1 := 13) (t2 := 4) rfl rfl rfl (by decide) ?_
    refine ev_loc f_X12_isTray (nx := 5) rfl rfl rfl rfl ?_
    refine ev_ic f_X12_isTray (nx := 6) (v := 4) rfl (by decide) rfl ?_
    refine ev_f f_X12_isTray (t1 := 13) (t2 := 9) rfl rfl rfl (by decide) ?_
    refine ev_ic f_X12_isTray (nx := 10) (v := 1) rfl (by decide) rfl ?_
    refine ev_jmp f_X12_isTray (nx := 14) rfl rfl rfl ?_
    refine ev_retK1 f_X12_isTray rfl rfl rfl ?_
    refine ev_f f_X12_pour (t1 := 28) (t2 := 7) rfl rfl rfl (by decide) ?_
    refine ev_loc f_X12_pour (nx := 8) rfl rfl rfl rfl ?_
    refine ev_inS1 f_X12_pour (nx := 11) (lo2 := [(0, .int 3)]) rfl rfl rfl rfl f_X12_isTray rfl rfl rfl rfl ?_
    refine ev_loc f_X12_isTray (nx := 1) rfl rfl rfl rfl ?_
    refine ev_f f_X12_isTray (t1 := 13) (t2 := 4) rfl rfl rfl (by decide) ?_
    refine ev_loc f_X12_isTray (nx := 5) rfl rfl rfl rfl ?_
    refine ev_ic f_X12_isTray (nx := 6) (v := 4) rfl (by decide) rfl ?_
    refine ev_f f_X12_isTray (t1 := 13) (t2 := 9) rfl rfl rfl (by decide) ?_
    refine ev_ic f_X12_isTray (nx := 10) (v := 1) rfl (by decide) rfl ?_
    refine ev_jmp f_X12_isTray (nx := 14) rfl rfl rfl ?_
    refine ev_retK1 f_X12_isTray rfl rfl rfl ?_
    refine ev_f f_X12_pour (t1 := 28) (t2 := 14) rfl rfl rfl (by decide) ?_
    refine ev_loc f_X12_pour (nx := 15) rfl rfl rfl rfl ?_
    refine ev_t f_X12_pour (t1 := 28) (t2 := 18) rfl rfl rfl (by rw [Int32.lt_iff_toInt_lt, (by decide : (0 : Int32).toInt = 0)]; omega) ?_
    refine ev_loc f_X12_pour (nx := 29) rfl rfl rfl rfl ?_
    refine ev_ic f_X12_pour (nx := 30) (v := 1) rfl (by decide) rfl ?_
    refine ev_inV2 f_X12_pour (nx := 33) (lo2 := [(0, .ref 69), (1, .int 1)]) rfl rfl rfl rfl f_X12_is (hW.s rfl) rfl rfl rfl rfl rfl ?_
    refine ev_loc f_X12_is (nx := 1) rfl rfl rfl rfl ?_
    refine ev_loc f_X12_is (nx := 2) rfl rfl rfl rfl ?_
    refine ev_putI f_X12_is (nx := 5) rfl (hW.s rfl) rfl rfl rfl ?_
    refine ev_loc f_X12_is (nx := 6) rfl rfl rfl rfl ?_
    refine ev_f f_X12_is (t1 := 9) (t2 := 13) rfl rfl rfl (by decide) ?_
    refine ev_ic f_X12_is (nx := 14) (v := 0) rfl (by decide) rfl ?_
    refine ev_retK1 f_X12_is rfl rfl rfl ?_
    refine ev_retK1 f_X12_pour rfl rfl rfl ?_
    refine ev_t f_L_law (t1 := 1628) (t2 := 496) rfl rfl rfl (by decide) ?_
    refine ev_incv f_L_law (nx := 1631) (c := 6) (w := 6) (lo' := [(3, .int 6), (2, .ref 69), (1, .ref 0), (0, .retAddr 30)]) rfl rfl (by decide) (by decide) rfl rfl rfl ?_
    refine ev_jmp f_L_law (nx := 18) rfl rfl rfl ?_
    refine ev_loc f_L_law (nx := 19) rfl rfl rfl rfl ?_
    refine ev_loc f_L_law (nx := 20) rfl rfl rfl rfl ?_
    refine ev_alenX f_L_law (nx := 21) rfl hX rfl ?_
    refine ev_bp f_L_law (nx := 23) (v := 6) rfl (by decide) rfl ?_
    refine ev_aluvI f_L_law (nx := 24) (w := 0) rfl rfl rfl (by decide) rfl ?_
    refine ev_t f_L_law (t1 := 1634) (t2 := 27) rfl rfl rfl (by decide) ?_
    refine ev_ic f_L_law (nx := 1635) (v := 1) rfl (by decide) rfl ?_
    refine ev_ret f_L_law rfl rfl rfl ?_
    exact ⟨rfl, hz⟩
  · have q67 := h67; rw [Int32.lt_iff_toInt_lt, (by decide : (0 : Int32).toInt = 0)] at q67
    refine ev_loc f_X11_pour (nx := 22) rfl rfl rfl rfl ?_
    refine ev_if f_X11_pour (t1 := 30) (t2 := 25) rfl rfl rfl (fun h151 => ?_) (fun h151 => ?_)
    · have q151 := h151; rw [Int32.lt_iff_toInt_lt, (by decide : (0 : Int32).toInt = 0)] at q151
      refine ev_loc f_X11_pour (nx := 31) rfl rfl rfl rfl ?_
      refine ev_ic f_X11_pour (nx := 32) (v := 1) rfl (by decide) rfl ?_
      refine ev_inV2 f_X11_pour (nx := 35) (lo2 := [(0, .ref 0), (1, .int 1)]) rfl rfl rfl rfl f_X11_deny (hW.s rfl) rfl rfl rfl rfl rfl ?_
      refine ev_loc f_X11_deny (nx := 1) rfl rfl rfl rfl ?_
      refine ev_loc f_X11_deny (nx := 2) rfl rfl rfl rfl ?_
      refine ev_putI f_X11_deny (nx := 5) rfl (hW.s rfl) rfl rfl rfl ?_
      refine ev_ic f_X11_deny (nx := 6) (v := 0) rfl (by decide) rfl ?_
      refine ev_retK1 f_X11_deny rfl rfl rfl ?_
      refine ev_retK1 f_X11_pour rfl rfl rfl ?_
      refine ev_loc f_L_law (nx := 465) rfl rfl rfl rfl ?_
      refine ev_loc f_L_law (nx := 466) rfl rfl rfl rfl ?_
      refine ev_loc f_L_law (nx := 467) rfl rfl rfl rfl ?_
      refine ev_ic f_L_law (nx := 468) (v := 1) rfl (by decide) rfl ?_
      refine ev_aluvI f_L_law (nx := 469) (w := 1) rfl rfl rfl (by decide) rfl ?_
      refine ev_scrv f_L_law (nx := 470) (j := 1) (w := 2) rfl hX (by decide) (by decide) (by decide) e1 rfl ?_
      refine ev_loc f_L_law (nx := 471) rfl rfl rfl rfl ?_
      refine ev_loc f_L_law (nx := 472) rfl rfl rfl rfl ?_
      refine ev_ic f_L_law (nx := 473) (v := 2) rfl (by decide) rfl ?_
      refine ev_aluvI f_L_law (nx := 474) (w := 2) rfl rfl rfl (by decide) rfl ?_
      refine ev_scr f_L_law (nx := 475) (j := 2) rfl hX (by decide) (by decide) (by decide) rfl ?_
      refine ev_loc f_L_law (nx := 476) rfl rfl rfl rfl ?_
      refine ev_loc f_L_law (nx := 477) rfl rfl rfl rfl ?_
      refine ev_ic f_L_law (nx := 478) (v := 3) rfl (by decide) rfl ?_
      refine ev_aluvI f_L_law (nx := 479) (w := 3) rfl rfl rfl (by decide) rfl ?_
      refine ev_scrv f_L_law (nx := 480) (j := 3) (w := 3) rfl hX (by decide) (by decide) (by decide) e3 rfl ?_
      refine ev_loc f_L_law (nx := 481) rfl rfl rfl rfl ?_
      refine ev_loc f_L_law (nx := 482) rfl rfl rfl rfl ?_
      refine ev_ic f_L_law (nx := 483) (v := 4) rfl (by decide) rfl ?_
      refine ev_aluvI f_L_law (nx := 484) (w := 4) rfl rfl rfl (by decide) rfl ?_
      refine ev_scr f_L_law (nx := 485) (j := 4) rfl hX (by decide) (by decide) (by decide) rfl ?_
      refine ev_loc f_L_law (nx := 486) rfl rfl rfl rfl ?_
      refine ev_loc f_L_law (nx := 487) rfl rfl rfl rfl ?_
      refine ev_ic f_L_law (nx := 488) (v := 5) rfl (by decide) rfl ?_
      refine ev_aluvI f_L_law (nx := 489) (w := 5) rfl rfl rfl (by decide) rfl ?_
      refine ev_scr f_L_law (nx := 490) (j := 5) rfl hX (by decide) (by decide) (by decide) rfl ?_
      refine ev_inV6 f_L_law (nx := 493) (lo2 := [(0, .ref 69), (1, .int 2), (2, .int ((X.2 2))), (3, .int 3), (4, .int ((X.2 4))), (5, .int ((X.2 5)))]) rfl rfl rfl rfl f_X12_pour (hW.s rfl) rfl rfl rfl rfl rfl ?_
      refine ev_loc f_X12_pour (nx := 1) rfl rfl rfl rfl ?_
      refine ev_inS1 f_X12_pour (nx := 4) (lo2 := [(0, .int 2)]) rfl rfl rfl rfl f_X12_isTray rfl rfl rfl rfl ?_
      refine ev_loc f_X12_isTray (nx := 1) rfl rfl rfl rfl ?_
      refine ev_f f_X12_isTray (t1 := 13) (t2 := 4) rfl rfl rfl (by decide) ?_
      refine ev_loc f_X12_isTray (nx := 5) rfl rfl rfl rfl ?_
      refine ev_ic f_X12_isTray (nx := 6) (v := 4) rfl (by decide) rfl ?_
      refine ev_f f_X12_isTray (t1 := 13) (t2 := 9) rfl rfl rfl (by decide) ?_
      refine ev_ic f_X12_isTray (nx := 10) (v := 1) rfl (by decide) rfl ?_
      refine ev_jmp f_X12_isTray (nx := 14) rfl rfl rfl ?_
      refine ev_retK1 f_X12_isTray rfl rfl rfl ?_
      refine ev_f f_X12_pour (t1 := 28) (t2 := 7) rfl rfl rfl (by decide) ?_
      refine ev_loc f_X12_pour (nx := 8) rfl rfl rfl rfl ?_
      refine ev_inS1 f_X12_pour (nx := 11) (lo2 := [(0, .int 3)]) rfl rfl rfl rfl f_X12_isTray rfl rfl rfl rfl ?_
      refine ev_loc f_X12_isTray (nx := 1) rfl rfl rfl rfl ?_
      refine ev_f f_X12_isTray (t1 := 13) (t2 := 4) rfl rfl rfl (by decide) ?_
      refine ev_loc f_X12_isTray (nx := 5) rfl rfl rfl rfl ?_
      refine ev_ic f_X12_isTray (nx := 6) (v := 4) rfl (by decide) rfl ?_
      refine ev_f f_X12_isTray (t1 := 13) (t2 := 9) rfl rfl rfl (by decide) ?_
      refine ev_ic f_X12_isTray (nx := 10) (v := 1) rfl (by decide) rfl ?_
      refine ev_jmp f_X12_isTray (nx := 14) rfl rfl rfl ?_
      refine ev_retK1 f_X12_isTray rfl rfl rfl ?_
      refine ev_f f_X12_pour (t1 := 28) (t2 := 14) rfl rfl rfl (by decide) ?_
      refine ev_loc f_X12_pour (nx := 15) rfl rfl rfl rfl ?_
      refine ev_f f_X12_pour (t1 := 28) (t2 := 18) rfl rfl rfl (by rw [Int32.lt_iff_toInt_lt, (by decide : (0 : Int32).toInt = 0)]; omega) ?_
      refine ev_loc f_X12_pour (nx := 20) rfl rfl rfl rfl ?_
      refine ev_t f_X12_pour (t1 := 28) (t2 := 23) rfl rfl rfl (by rw [Int32.lt_iff_toInt_lt, (by decide : (0 : Int32).toInt = 0)]; omega) ?_
      refine ev_loc f_X12_pour (nx := 29) rfl rfl rfl rfl ?_
      refine ev_ic f_X12_pour (nx := 30) (v := 1) rfl (by decide) rfl ?_
      refine ev_inV2 f_X12_pour (nx := 33) (lo2 := [(0, .ref 69), (1, .int 1)]) rfl rfl rfl rfl f_X12_is (hW.s rfl) rfl rfl rfl rfl rfl ?_
      refine ev_loc f_X12_is (nx := 1) rfl rfl rfl rfl ?_
      refine ev_loc f_X12_is (nx := 2) rfl rfl rfl rfl ?_
      refine ev_putI f_X12_is (nx := 5) rfl (hW.s rfl) rfl rfl rfl ?_
      refine ev_loc f_X12_is (nx := 6) rfl rfl rfl rfl ?_
      refine ev_f f_X12_is (t1 := 9) (t2 := 13) rfl rfl rfl (by decide) ?_
      refine ev_ic f_X12_is (nx := 14) (v := 0) rfl (by decide) rfl ?_
      refine ev_retK1 f_X12_is rfl rfl rfl ?_
      refine ev_retK1 f_X12_pour rfl rfl rfl ?_
      refine ev_t f_L_law (t1 := 1628) (t2 := 496) rfl rfl rfl (by decide) ?_
      refine ev_incv f_L_law (nx := 1631) (c := 6) (w := 6) (lo' := [(3, .int 6), (2, .ref 69), (1, .ref 0), (0, .retAddr 30)]) rfl rfl (by decide) (by decide) rfl rfl rfl ?_
      refine ev_jmp f_L_law (nx := 18) rfl rfl rfl ?_
      refine ev_loc f_L_law (nx := 19) rfl rfl rfl rfl ?_
      refine ev_loc f_L_law (nx := 20) rfl rfl rfl rfl ?_
      refine ev_alenX f_L_law (nx := 21) rfl hX rfl ?_
      refine ev_bp f_L_law (nx := 23) (v := 6) rfl (by decide) rfl ?_
      refine ev_aluvI f_L_law (nx := 24) (w := 0) rfl rfl rfl (by decide) rfl ?_
      refine ev_t f_L_law (t1 := 1634) (t2 := 27) rfl rfl rfl (by decide) ?_
      refine ev_ic f_L_law (nx := 1635) (v := 1) rfl (by decide) rfl ?_
      refine ev_ret f_L_law rfl rfl rfl ?_
      exact ⟨rfl, hz⟩
    · have q151 := h151; rw [Int32.lt_iff_toInt_lt, (by decide : (0 : Int32).toInt = 0)] at q151
      refine ev_loc f_X11_pour (nx := 27) rfl rfl rfl rfl ?_
      refine ev_if f_X11_pour (t1 := 36) (t2 := 30) rfl rfl rfl (fun h237 => ?_) (fun h237 => ?_)
      · have q237 := h237; rw [Int32.le_iff_toInt_le, (by decide : (0 : Int32).toInt = 0)] at q237
        refine ev_loc f_X11_pour (nx := 37) rfl rfl rfl rfl ?_
        refine ev_getR f_X11_pour (nx := 40) rfl (hW.s rfl) rfl rfl (hW.r rfl) rfl rfl ?_
        refine ev_loc f_X11_pour (nx := 41) rfl rfl rfl rfl ?_
        refine ev_aaldv f_X11_pour (nx := 42) (j := 2) rfl (hW.s rfl) rfl (by decide) (by decide) (by decide) (hW.r rfl) rfl rfl ?_
        refine ev_loc f_X11_pour (nx := 44) (lo' := [(6, .ref 65), (0, .ref 0), (1, .int 2), (2, .int ((X.2 2))), (3, .int 3), (4, .int ((X.2 4))), (5, .int ((X.2 5)))]) rfl rfl rfl rfl ?_
        refine ev_loc f_X11_pour (nx := 45) rfl rfl rfl rfl ?_
        refine ev_getR f_X11_pour (nx := 48) rfl (hW.s rfl) rfl rfl (hW.r rfl) rfl rfl ?_
        refine ev_loc f_X11_pour (nx := 49) rfl rfl rfl rfl ?_
        refine ev_aaldv f_X11_pour (nx := 50) (j := 3) rfl (hW.s rfl) rfl (by decide) (by decide) (by decide) (hW.r rfl) rfl rfl ?_
        refine ev_loc f_X11_pour (nx := 52) (lo' := [(7, .ref 67), (6, .ref 65), (0, .ref 0), (1, .int 2), (2, .int ((X.2 2))), (3, .int 3), (4, .int ((X.2 4))), (5, .int ((X.2 5)))]) rfl rfl rfl rfl ?_
        refine ev_loc f_X11_pour (nx := 54) rfl rfl rfl rfl ?_
        refine ev_inV1 f_X11_pour (nx := 57) (lo2 := [(0, .ref 65)]) rfl rfl rfl rfl f_X10_isMissing (hW.s rfl) rfl rfl rfl rfl rfl ?_
        refine ev_loc f_X10_isMissing (nx := 1) rfl rfl rfl rfl ?_
        refine ev_gvI f_X10_isMissing (nx := 4) (w := -1) rfl (hW.s rfl) rfl rfl (wi_65_2 (gi := gi) hR) rfl ?_
        refine ev_ic f_X10_isMissing (nx := 5) (v := -1) rfl (by decide) rfl ?_
        refine ev_t f_X10_isMissing (t1 := 8) (t2 := 12) rfl rfl rfl (by decide) ?_
        refine ev_ic f_X10_isMissing (nx := 9) (v := 1) rfl (by decide) rfl ?_
        refine ev_jmp f_X10_isMissing (nx := 13) rfl rfl rfl ?_
        refine ev_retK1 f_X10_isMissing rfl rfl rfl ?_
        refine ev_f f_X11_pour (t1 := 60) (t2 := 68) rfl rfl rfl (by decide) ?_
        refine ev_loc f_X11_pour (nx := 69) rfl rfl rfl rfl ?_
        refine ev_ic f_X11_pour (nx := 70) (v := 2) rfl (by decide) rfl ?_
        refine ev_inV2 f_X11_pour (nx := 73) (lo2 := [(0, .ref 0), (1, .int 2)]) rfl rfl rfl rfl f_X11_deny (hW.s rfl) rfl rfl rfl rfl rfl ?_
        refine ev_loc f_X11_deny (nx := 1) rfl rfl rfl rfl ?_
        refine ev_loc f_X11_deny (nx := 2) rfl rfl rfl rfl ?_
        refine ev_putI f_X11_deny (nx := 5) rfl (hW.s rfl) rfl rfl rfl ?_
        refine ev_ic f_X11_deny (nx := 6) (v := 0) rfl (by decide) rfl ?_
        refine ev_retK1 f_X11_deny rfl rfl rfl ?_
        refine ev_retK1 f_X11_pour rfl rfl rfl ?_
        refine ev_loc f_L_law (nx := 465) rfl rfl rfl rfl ?_
        refine ev_loc f_L_law (nx := 466) rfl rfl rfl rfl ?_
        refine ev_loc f_L_law (nx := 467) rfl rfl rfl rfl ?_
        refine ev_ic f_L_law (nx := 468) (v := 1) rfl (by decide) rfl ?_
        refine ev_aluvI f_L_law (nx := 469) (w := 1) rfl rfl rfl (by decide) rfl ?_
        refine ev_scrv f_L_law (nx := 470) (j := 1) (w := 2) rfl hX (by decide) (by decide) (by decide) e1 rfl ?_
        refine ev_loc f_L_law (nx := 471) rfl rfl rfl rfl ?_
        refine ev_loc f_L_law (nx := 472) rfl rfl rfl rfl ?_
        refine ev_ic f_L_law (nx := 473) (v := 2) rfl (by decide) rfl ?_
        refine ev_aluvI f_L_law (nx := 474) (w := 2) rfl rfl rfl (by decide) rfl ?_
        refine ev_scr f_L_law (nx := 475) (j := 2) rfl hX (by decide) (by decide) (by decide) rfl ?_
        refine ev_loc f_L_law (nx := 476) rfl rfl rfl rfl ?_
        refine ev_loc f_L_law (nx := 477) rfl rfl rfl rfl ?_
        refine ev_ic f_L_law (nx := 478) (v := 3) rfl (by decide) rfl ?_
        refine ev_aluvI f_L_law (nx := 479) (w := 3) rfl rfl rfl (by decide) rfl ?_
        refine ev_scrv f_L_law (nx := 480) (j := 3) (w := 3) rfl hX (by decide) (by decide) (by decide) e3 rfl ?_
        refine ev_loc f_L_law (nx := 481) rfl rfl rfl rfl ?_
        refine ev_loc f_L_law (nx := 482) rfl rfl rfl rfl ?_
        refine ev_ic f_L_law (nx := 483) (v := 4) rfl (by decide) rfl ?_
        refine ev_aluvI f_L_law (nx := 484) (w := 4) rfl rfl rfl (by decide) rfl ?_
        refine ev_scr f_L_law (nx := 485) (j := 4) rfl hX (by decide) (by decide) (by decide) rfl ?_
        refine ev_loc f_L_law (nx := 486) rfl rfl rfl rfl ?_
        refine ev_loc f_L_law (nx := 487) rfl rfl rfl rfl ?_
        refine ev_ic f_L_law (nx := 488) (v := 5) rfl (by decide) rfl ?_
        refine ev_aluvI f_L_law (nx := 489) (w := 5) rfl rfl rfl (by decide) rfl ?_
        refine ev_scr f_L_law (nx := 490) (j := 5) rfl hX (by decide) (by decide) (by decide) rfl ?_
        refine ev_inV6 f_L_law (nx := 493) (lo2 := [(0, .ref 69), (1, .int 2), (2, .int ((X.2 2))), (3, .int 3), (4, .int ((X.2 4))), (5, .int ((X.2 5)))]) rfl rfl rfl rfl f_X12_pour (hW.s rfl) rfl rfl rfl rfl rfl ?_
        refine ev_loc f_X12_pour (nx := 1) rfl rfl rfl rfl ?_
        refine ev_inS1 f_X12_pour (nx := 4) (lo2 := [(0, .int 2)]) rfl rfl rfl rfl f_X12_isTray rfl rfl rfl rfl ?_
        refine ev_loc f_X12_isTray (nx := 1) rfl rfl rfl rfl ?_
        refine ev_f f_X12_isTray (t1 := 13) (t2 := 4) rfl rfl rfl (by decide) ?_
        refine ev_loc f_X12_isTray (nx := 5) rfl rfl rfl rfl ?_
        refine ev_ic f_X12_isTray (nx := 6) (v := 4) rfl (by decide) rfl ?_
        refine ev_f f_X12_isTray (t1 := 13) (t2 := 9) rfl rfl rfl (by decide) ?_
        refine ev_ic f_X12_isTray (nx := 10) (v := 1) rfl (by decide) rfl ?_
        refine ev_jmp f_X12_isTray (nx := 14) rfl rfl rfl ?_
        refine ev_retK1 f_X12_isTray rfl rfl rfl ?_
        refine ev_f f_X12_pour (t1 := 28) (t2 := 7) rfl rfl rfl (by decide) ?_
        refine ev_loc f_X12_pour (nx := 8) rfl rfl rfl rfl ?_
        refine ev_inS1 f_X12_pour (nx := 11) (lo2 := [(0, .int 3)]) rfl rfl rfl rfl f_X12_isTray rfl rfl rfl rfl ?_
        refine ev_loc f_X12_isTray (nx := 1) rfl rfl rfl rfl ?_
        refine ev_f f_X12_isTray (t1 := 13) (t2 := 4) rfl rfl rfl (by decide) ?_
        refine ev_loc f_X12_isTray (nx := 5) rfl rfl rfl rfl ?_
        refine ev_ic f_X12_isTray (nx := 6) (v := 4) rfl (by decide) rfl ?_
        refine ev_f f_X12_isTray (t1 := 13) (t2 := 9) rfl rfl rfl (by decide) ?_
        refine ev_ic f_X12_isTray (nx := 10) (v := 1) rfl (by decide) rfl ?_
        refine ev_jmp f_X12_isTray (nx := 14) rfl rfl rfl ?_
        refine ev_retK1 f_X12_isTray rfl rfl rfl ?_
        refine ev_f f_X12_pour (t1 := 28) (t2 := 14) rfl rfl rfl (by decide) ?_
        refine ev_loc f_X12_pour (nx := 15) rfl rfl rfl rfl ?_
        refine ev_f f_X12_pour (t1 := 28) (t2 := 18) rfl rfl rfl (by rw [Int32.lt_iff_toInt_lt, (by decide : (0 : Int32).toInt = 0)]; omega) ?_
        refine ev_loc f_X12_pour (nx := 20) rfl rfl rfl rfl ?_
        refine ev_f f_X12_pour (t1 := 28) (t2 := 23) rfl rfl rfl (by rw [Int32.lt_iff_toInt_lt, (by decide : (0 : Int32).toInt = 0)]; omega) ?_
        refine ev_loc f_X12_pour (nx := 25) rfl rfl rfl rfl ?_
        refine ev_t f_X12_pour (t1 := 34) (t2 := 28) rfl rfl rfl (by rw [Int32.le_iff_toInt_le, (by decide : (0 : Int32).toInt = 0)]; omega) ?_
        refine ev_loc f_X12_pour (nx := 35) rfl rfl rfl rfl ?_
        refine ev_getR f_X12_pour (nx := 38) rfl (hW.s rfl) rfl rfl (hW.r rfl) rfl rfl ?_
        refine ev_loc f_X12_pour (nx := 39) rfl rfl rfl rfl ?_
        refine ev_ialdv f_X12_pour (nx := 40) (j := 2) (w := -1) rfl (hW.s rfl) (by decide) (by decide) (by decide) (wi_73_2 (gi := gi) hR) rfl ?_
        refine ev_ic f_X12_pour (nx := 41) (v := -1) rfl (by decide) rfl ?_
        refine ev_t f_X12_pour (t1 := 54) (t2 := 44) rfl rfl rfl (by decide) ?_
        refine ev_loc f_X12_pour (nx := 55) rfl rfl rfl rfl ?_
        refine ev_ic f_X12_pour (nx := 56) (v := 2) rfl (by decide) rfl ?_
        refine ev_inV2 f_X12_pour (nx := 59) (lo2 := [(0, .ref 69), (1, .int 2)]) rfl rfl rfl rfl f_X12_is (hW.s rfl) rfl rfl rfl rfl rfl ?_
        refine ev_loc f_X12_is (nx := 1) rfl rfl rfl rfl ?_
        refine ev_loc f_X12_is (nx := 2) rfl rfl rfl rfl ?_
        refine ev_putI f_X12_is (nx := 5) rfl (hW.s rfl) rfl rfl rfl ?_
        refine ev_loc f_X12_is (nx := 6) rfl rfl rfl rfl ?_
        refine ev_f f_X12_is (t1 := 9) (t2 := 13) rfl rfl rfl (by decide) ?_
        refine ev_ic f_X12_is (nx := 14) (v := 0) rfl (by decide) rfl ?_
        refine ev_retK1 f_X12_is rfl rfl rfl ?_
        refine ev_retK1 f_X12_pour rfl rfl rfl ?_
        refine ev_t f_L_law (t1 := 1628) (t2 := 496) rfl rfl rfl (by decide) ?_
        refine ev_incv f_L_law (nx := 1631) (c := 6) (w := 6) (lo' := [(3, .int 6), (2, .ref 69), (1, .ref 0), (0, .retAddr 30)]) rfl rfl (by decide) (by decide) rfl rfl rfl ?_
        refine ev_jmp f_L_law (nx := 18) rfl rfl rfl ?_
        refine ev_loc f_L_law (nx := 19) rfl rfl rfl rfl ?_
        refine ev_loc f_L_law (nx := 20) rfl rfl rfl rfl ?_
        refine ev_alenX f_L_law (nx := 21) rfl hX rfl ?_
        refine ev_bp f_L_law (nx := 23) (v := 6) rfl (by decide) rfl ?_
        refine ev_aluvI f_L_law (nx := 24) (w := 0) rfl rfl rfl (by decide) rfl ?_
        refine ev_t f_L_law (t1 := 1634) (t2 := 27) rfl rfl rfl (by decide) ?_
        refine ev_ic f_L_law (nx := 1635) (v := 1) rfl (by decide) rfl ?_
        refine ev_ret f_L_law rfl rfl rfl ?_
        exact ⟨rfl, hz⟩
      · have q237 := h237; rw [Int32.le_iff_toInt_le, (by decide : (0 : Int32).toInt = 0)] at q237
        refine ev_loc f_X11_pour (nx := 31) rfl rfl rfl rfl ?_
        refine ev_ic f_X11_pour (nx := 32) (v := 1) rfl (by decide) rfl ?_
        refine ev_inV2 f_X11_pour (nx := 35) (lo2 := [(0, .ref 0), (1, .int 1)]) rfl rfl rfl rfl f_X11_deny (hW.s rfl) rfl rfl rfl rfl rfl ?_
        refine ev_loc f_X11_deny (nx := 1) rfl rfl rfl rfl ?_
        refine ev_loc f_X11_deny (nx := 2) rfl rfl rfl rfl ?_
        refine ev_putI f_X11_deny (nx := 5) rfl (hW.s rfl) rfl rfl rfl ?_
        refine ev_ic f_X11_deny (nx := 6) (v := 0) rfl (by decide) rfl ?_
        refine ev_retK1 f_X11_deny rfl rfl rfl ?_
        refine ev_retK1 f_X11_pour rfl rfl rfl ?_
        refine ev_loc f_L_law (nx := 465) rfl rfl rfl rfl ?_
        refine ev_loc f_L_law (nx := 466) rfl rfl rfl rfl ?_
        refine ev_loc f_L_law (nx := 467) rfl rfl rfl rfl ?_
        refine ev_ic f_L_law (nx := 468) (v := 1) rfl (by decide) rfl ?_
        refine ev_aluvI f_L_law (nx := 469) (w := 1) rfl rfl rfl (by decide) rfl ?_
        refine ev_scrv f_L_law (nx := 470) (j := 1) (w := 2) rfl hX (by decide) (by decide) (by decide) e1 rfl ?_
        refine ev_loc f_L_law (nx := 471) rfl rfl rfl rfl ?_
        refine ev_loc f_L_law (nx := 472) rfl rfl rfl rfl ?_
        refine ev_ic f_L_law (nx := 473) (v := 2) rfl (by decide) rfl ?_
        refine ev_aluvI f_L_law (nx := 474) (w := 2) rfl rfl rfl (by decide) rfl ?_
        refine ev_scr f_L_law (nx := 475) (j := 2) rfl hX (by decide) (by decide) (by decide) rfl ?_
        refine ev_loc f_L_law (nx := 476) rfl rfl rfl rfl ?_
        refine ev_loc f_L_law (nx := 477) rfl rfl rfl rfl ?_
        refine ev_ic f_L_law (nx := 478) (v := 3) rfl (by decide) rfl ?_
        refine ev_aluvI f_L_law (nx := 479) (w := 3) rfl rfl rfl (by decide) rfl ?_
        refine ev_scrv f_L_law (nx := 480) (j := 3) (w := 3) rfl hX (by decide) (by decide) (by decide) e3 rfl ?_
        refine ev_loc f_L_law (nx := 481) rfl rfl rfl rfl ?_
        refine ev_loc f_L_law (nx := 482) rfl rfl rfl rfl ?_
        refine ev_ic f_L_law (nx := 483) (v := 4) rfl (by decide) rfl ?_
        refine ev_aluvI f_L_law (nx := 484) (w := 4) rfl rfl rfl (by decide) rfl ?_
        refine ev_scr f_L_law (nx := 485) (j := 4) rfl hX (by decide) (by decide) (by decide) rfl ?_
        refine ev_loc f_L_law (nx := 486) rfl rfl rfl rfl ?_
        refine ev_loc f_L_law (nx := 487) rfl rfl rfl rfl ?_
        refine ev_ic f_L_law (nx := 488) (v := 5) rfl (by decide) rfl ?_
        refine ev_aluvI f_L_law (nx := 489) (w := 5) rfl rfl rfl (by decide) rfl ?_
        refine ev_scr f_L_law (nx := 490) (j := 5) rfl hX (by decide) (by decide) (by decide) rfl ?_
        refine ev_inV6 f_L_law (nx := 493) (lo2 := [(0, .ref 69), (1, .int 2), (2, .int ((X.2 2))), (3, .int 3), (4, .int ((X.2 4))), (5, .int ((X.2 5)))]) rfl rfl rfl rfl f_X12_pour (hW.s rfl) rfl rfl rfl rfl rfl ?_
        refine ev_loc f_X12_pour (nx := 1) rfl rfl rfl rfl ?_
        refine ev_inS1 f_X12_pour (nx := 4) (lo2 := [(0, .int 2)]) rfl rfl rfl rfl f_X12_isTray rfl rfl rfl rfl ?_
        refine ev_loc f_X12_isTray (nx := 1) rfl rfl rfl rfl ?_
        refine ev_f f_X12_isTray (t1 := 13) (t2 := 4) rfl rfl rfl (by decide) ?_
        refine ev_loc f_X12_isTray (nx := 5) rfl rfl rfl rfl ?_
        refine ev_ic f_X12_isTray (nx := 6) (v := 4) rfl (by decide) rfl ?_
        refine ev_f f_X12_isTray (t1 := 13) (t2 := 9) rfl rfl rfl (by decide) ?_
        refine ev_ic f_X12_isTray (nx := 10) (v := 1) rfl (by decide) rfl ?_
        refine ev_jmp f_X12_isTray (nx := 14) rfl rfl rfl ?_
        refine ev_retK1 f_X12_isTray rfl rfl rfl ?_
        refine ev_f f_X12_pour (t1 := 28) (t2 := 7) rfl rfl rfl (by decide) ?_
        refine ev_loc f_X12_pour (nx := 8) rfl rfl rfl rfl ?_
        refine ev_inS1 f_X12_pour (nx := 11) (lo2 := [(0, .int 3)]) rfl rfl rfl rfl f_X12_isTray rfl rfl rfl rfl ?_
        refine ev_loc f_X12_isTray (nx := 1) rfl rfl rfl rfl ?_
        refine ev_f f_X12_isTray (t1 := 13) (t2 := 4) rfl rfl rfl (by decide) ?_
        refine ev_loc f_X12_isTray (nx := 5) rfl rfl rfl rfl ?_
        refine ev_ic f_X12_isTray (nx := 6) (v := 4) rfl (by decide) rfl ?_
        refine ev_f f_X12_isTray (t1 := 13) (t2 := 9) rfl rfl rfl (by decide) ?_
        refine ev_ic f_X12_isTray (nx := 10) (v := 1) rfl (by decide) rfl ?_
        refine ev_jmp f_X12_isTray (nx := 14) rfl rfl rfl ?_
        refine ev_retK1 f_X12_isTray rfl rfl rfl ?_
        refine ev_f f_X12_pour (t1 := 28) (t2 := 14) rfl rfl rfl (by decide) ?_
        refine ev_loc f_X12_pour (nx := 15) rfl rfl rfl rfl ?_
        refine ev_f f_X12_pour (t1 := 28) (t2 := 18) rfl rfl rfl (by rw [Int32.lt_iff_toInt_lt, (by decide : (0 : Int32).toInt = 0)]; omega) ?_
        refine ev_loc f_X12_pour (nx := 20) rfl rfl rfl rfl ?_
        refine ev_f f_X12_pour (t1 := 28) (t2 := 23) rfl rfl rfl (by rw [Int32.lt_iff_toInt_lt, (by decide : (0 : Int32).toInt = 0)]; omega) ?_
        refine ev_loc f_X12_pour (nx := 25) rfl rfl rfl rfl ?_
        refine ev_f f_X12_pour (t1 := 34) (t2 := 28) rfl rfl rfl (by rw [Int32.le_iff_toInt_le, (by decide : (0 : Int32).toInt = 0)]; omega) ?_
        refine ev_loc f_X12_pour (nx := 29) rfl rfl rfl rfl ?_
        refine ev_ic f_X12_pour (nx := 30) (v := 1) rfl (by decide) rfl ?_
        refine ev_inV2 f_X12_pour (nx := 33) (lo2 := [(0, .ref 69), (1, .int 1)]) rfl rfl rfl rfl f_X12_is (hW.s rfl) rfl rfl rfl rfl rfl ?_
        refine ev_loc f_X12_is (nx := 1) rfl rfl rfl rfl ?_
        refine ev_loc f_X12_is (nx := 2) rfl rfl rfl rfl ?_
        refine ev_putI f_X12_is (nx := 5) rfl (hW.s rfl) rfl rfl rfl ?_
        refine ev_loc f_X12_is (nx := 6) rfl rfl rfl rfl ?_
        refine ev_f f_X12_is (t1 := 9) (t2 := 13) rfl rfl rfl (by decide) ?_
        refine ev_ic f_X12_is (nx := 14) (v := 0) rfl (by decide) rfl ?_
        refine ev_retK1 f_X12_is rfl rfl rfl ?_
        refine ev_retK1 f_X12_pour rfl rfl rfl ?_
        refine ev_t f_L_law (t1 := 1628) (t2 := 496) rfl rfl rfl (by decide) ?_
        refine ev_incv f_L_law (nx := 1631) (c := 6) (w := 6) (lo' := [(3, .int 6), (2, .ref 69), (1, .ref 0), (0, .retAddr 30)]) rfl rfl (by decide) (by decide) rfl rfl rfl ?_
        refine ev_jmp f_L_law (nx := 18) rfl rfl rfl ?_
        refine ev_loc f_L_law (nx := 19) rfl rfl rfl rfl ?_
        refine ev_loc f_L_law (nx := 20) rfl rfl rfl rfl ?_
        refine ev_alenX f_L_law (nx := 21) rfl hX rfl ?_
        refine ev_bp f_L_law (nx := 23) (v := 6) rfl (by decide) rfl ?_
        refine ev_aluvI f_L_law (nx := 24) (w := 0) rfl rfl rfl (by decide) rfl ?_
        refine ev_t f_L_law (t1 := 1634) (t2 := 27) rfl rfl rfl (by decide) ?_
        refine ev_ic f_L_law (nx := 1635) (v := 1) rfl (by decide) rfl ?_
        refine ev_ret f_L_law rfl rfl rfl ?_
        exact ⟨rfl, hz⟩
set_option maxRecDepth 20000 in
theorem pc_3_3 (hR : x_R W1 (sh, gi, gl, gr)) (hX : X.1 = 6) (e1 : X.2 1 = 3) : x_Ev X 1000 n_L_law 285 [(3, .int 0), (2, .ref 69), (1, .ref 0), (0, .retAddr 30)] [] (sh, gi, gl, gr) x_P1 := by
  have hW := W1_WF hR
  have hz := W1_hz hR
  refine ev_loc f_L_law (nx := 286) rfl rfl rfl rfl ?_
  refine ev_loc f_L_law (nx := 287) rfl rfl rfl rfl ?_
  refine ev_loc f_L_law (nx := 288) rfl rfl rfl rfl ?_
  refine ev_ic f_L_law (nx := 289) (v := 1) rfl (by decide) rfl ?_
  refine ev_aluvI f_L_law (nx := 290) (w := 1) rfl rfl rfl (by decide) rfl ?_
  refine ev_scrv f_L_law (nx := 291) (j := 1) (w := 3) rfl hX (by decide) (by decide) (by decide) e1 rfl ?_
  refine ev_loc f_L_law (nx := 292) rfl rfl rfl rfl ?_
  refine ev_loc f_L_law (nx := 293) rfl rfl rfl rfl ?_
  refine ev_ic f_L_law (nx := 294) (v := 2) rfl (by decide) rfl ?_
  refine ev_aluvI f_L_law (nx := 295) (w := 2) rfl rfl rfl (by decide) rfl ?_
  refine ev_scr f_L_law (nx := 296) (j := 2) rfl hX (by decide) (by decide) (by decide) rfl ?_
  refine ev_loc f_L_law (nx := 297) rfl rfl rfl rfl ?_
  refine ev_loc f_L_law (nx := 298) rfl rfl rfl rfl ?_
  refine ev_ic f_L_law (nx := 299) (v := 3) rfl (by decide) rfl ?_
  refine ev_aluvI f_L_law (nx := 300) (w := 3) rfl rfl rfl (by decide) rfl ?_
  refine ev_scr f_L_law (nx := 301) (j := 3) rfl hX (by decide) (by decide) (by decide) rfl ?_
  refine ev_inV4 f_L_law (nx := 304) (lo2 := [(0, .ref 0), (1, .int 3), (2, .int ((X.2 2))), (3, .int ((X.2 3)))]) rfl rfl rfl rfl f_X11_tray (hW.s rfl) rfl rfl rfl rfl rfl ?_
  refine ev_loc f_X11_tray (nx := 1) rfl rfl rfl rfl ?_
  refine ev_loc f_X11_tray (nx := 2) rfl rfl rfl rfl ?_
  refine ev_inV2 f_X11_tray (nx := 5) (lo2 := [(0, .ref 0), (1, .int 3)]) rfl rfl rfl rfl f_X11_isTray (hW.s rfl) rfl rfl rfl rfl rfl ?_
  refine ev_loc f_X11_isTray (nx := 1) rfl rfl rfl rfl ?_
  refine ev_f f_X11_isTray (t1 := 26) (t2 := 4) rfl rfl rfl (by decide) ?_
  refine ev_loc f_X11_isTray (nx := 5) rfl rfl rfl rfl ?_
  refine ev_loc f_X11_isTray (nx := 6) rfl rfl rfl rfl ?_
  refine ev_getR f_X11_isTray (nx := 9) rfl (hW.s rfl) rfl rfl (hW.r rfl) rfl rfl ?_
  refine ev_alenv f_X11_isTray (nx := 10) (w := 4) rfl (hW.s rfl) rfl (by decide) rfl ?_
  refine ev_f f_X11_isTray (t1 := 26) (t2 := 13) rfl rfl rfl (by decide) ?_
  refine ev_loc f_X11_isTray (nx := 14) rfl rfl rfl rfl ?_
  refine ev_getR f_X11_isTray (nx := 17) rfl (hW.s rfl) rfl rfl (hW.r rfl) rfl rfl ?_
  refine ev_loc f_X11_isTray (nx := 18) rfl rfl rfl rfl ?_
  refine ev_aaldv f_X11_isTray (nx := 19) (j := 3) rfl (hW.s rfl) rfl (by decide) (by decide) (by decide) (hW.r rfl) rfl rfl ?_
  refine ev_jmp f_X11_isTray (nx := 22) rfl rfl rfl ?_
  refine ev_ic f_X11_isTray (nx := 23) (v := 1) rfl (by decide) rfl ?_
  refine ev_jmp f_X11_isTray (nx := 27) rfl rfl rfl ?_
  refine ev_retK1 f_X11_isTray rfl rfl rfl ?_
  refine ev_f f_X11_tray (t1 := 27) (t2 := 8) rfl rfl rfl (by decide) ?_
  refine ev_loc f_X11_tray (nx := 9) rfl rfl rfl rfl ?_
  refine ev_if f_X11_tray (t1 := 27) (t2 := 12) rfl rfl rfl (fun h38 => ?_) (fun h38 => ?_)
  · have q38 := h38; rw [Int32.lt_iff_toInt_lt, (by decide : (0 : Int32).toInt = 0)] at q38
    refine ev_loc f_X11_tray (nx := 28) rfl rfl rfl rfl ?_
    refine ev_ic f_X11_tray (nx := 29) (v := 1) rfl (by decide) rfl ?_
    refine ev_inV2 f_X11_tray (nx := 32) (lo2 := [(0, .ref 0), (1, .int 1)]) rfl rfl rfl rfl f_X11_deny (hW.s rfl) rfl rfl rfl rfl rfl ?_
    refine ev_loc f_X11_deny (nx := 1) rfl rfl rfl rfl ?_
    refine ev_loc f_X11_deny (nx := 2) rfl rfl rfl rfl ?_
    refine ev_putI f_X11_deny (nx := 5) rfl (hW.s rfl) rfl rfl rfl ?_
    refine ev_ic f_X11_deny (nx := 6) (v := 0) rfl (by decide) rfl ?_
    refine ev_retK1 f_X11_deny rfl rfl rfl ?_
    refine ev_retK1 f_X11_tray rfl rfl rfl ?_
    refine ev_loc f_L_law (nx := 305) rfl rfl rfl rfl ?_
    refine ev_loc f_L_law (nx := 306) rfl rfl rfl rfl ?_
    refine ev_loc f_L_law (nx := 307) rfl rfl rfl rfl ?_
    refine ev_ic f_L_law (nx := 308) (v := 1) rfl (by decide) rfl ?_
    refine ev_aluvI f_L_law (nx := 309) (w := 1) rfl rfl rfl (by decide) rfl ?_
    refine ev_scrv f_L_law (nx := 310) (j := 1) (w := 3) rfl hX (by decide) (by decide) (by decide) e1 rfl ?_
    refine ev_loc f_L_law (nx := 311) rfl rfl rfl rfl ?_
    refine ev_loc f_L_law (nx := 312) rfl rfl rfl rfl ?_
    refine ev_ic f_L_law (nx := 313) (v := 2) rfl (by decide) rfl ?_
    refine ev_aluvI f_L_law (nx := 314) (w := 2) rfl rfl rfl (by decide) rfl ?_
    refine ev_scr f_L_law (nx := 315) (j := 2) rfl hX (by decide) (by decide) (by decide) rfl ?_
    refine ev_loc f_L_law (nx := 316) rfl rfl rfl rfl ?_
    refine ev_loc f_L_law (nx := 317) rfl rfl rfl rfl ?_
    refine ev_ic f_L_law (nx := 318) (v := 3) rfl (by decide) rfl ?_
    refine ev_aluvI f_L_law (nx := 319) (w := 3) rfl rfl rfl (by decide) rfl ?_
    refine ev_scr f_L_law (nx := 320) (j := 3) rfl hX (by decide) (by decide) (by decide) rfl ?_
    refine ev_inV4 f_L_law (nx := 323) (lo2 := [(0, .ref 69), (1, .int 3), (2, .int ((X.2 2))), (3, .int ((X.2 3)))]) rfl rfl rfl rfl f_X12_tray (hW.s rfl) rfl rfl rfl rfl rfl ?_
    refine ev_loc f_X12_tray (nx := 1) rfl rfl rfl rfl ?_
    refine ev_inS1 f_X12_tray (nx := 4) (lo2 := [(0, .int 3)]) rfl rfl rfl rfl f_X12_isTray rfl rfl rfl rfl ?_
    refine ev_loc f_X12_isTray (nx := 1) rfl rfl rfl rfl ?_
    refine ev_f f_X12_isTray (t1 := 13) (t2 := 4) rfl rfl rfl (by decide) ?_
    refine ev_loc f_X12_isTray (nx := 5) rfl rfl rfl rfl ?_
    refine ev_ic f_X12_isTray (nx := 6) (v := 4) rfl (by decide) rfl ?_
    refine ev_f f_X12_isTray (t1 := 13) (t2 := 9) rfl rfl rfl (by decide) ?_
    refine ev_ic f_X12_isTray (nx := 10) (v := 1) rfl (by decide) rfl ?_
    refine ev_jmp f_X12_isTray (nx := 14) rfl rfl rfl ?_
    refine ev_retK1 f_X12_isTray rfl rfl rfl ?_
    refine ev_f f_X12_tray (t1 := 26) (t2 := 7) rfl rfl rfl (by decide) ?_
    refine ev_loc f_X12_tray (nx := 8) rfl rfl rfl rfl ?_
    refine ev_t f_X12_tray (t1 := 26) (t2 := 11) rfl rfl rfl (by rw [Int32.lt_iff_toInt_lt, (by decide : (0 : Int32).toInt = 0)]; omega) ?_
    refine ev_loc f_X12_tray (nx := 27) rfl rfl rfl rfl ?_
    refine ev_ic f_X12_tray (nx := 28) (v := 1) rfl (by decide) rfl ?_
    refine ev_inV2 f_X12_tray (nx := 31) (lo2 := [(0, .ref 69), (1, .int 1)]) rfl rfl rfl rfl f_X12_is (hW.s rfl) rfl rfl rfl rfl rfl ?_
    refine ev_loc f_X12_is (nx := 1) rfl rfl rfl rfl ?_
    refine ev_loc f_X12_is (nx := 2) rfl rfl rfl rfl ?_
    refine ev_putI f_X12_is (nx := 5) rfl (hW.s rfl) rfl rfl rfl ?_
    refine ev_loc f_X12_is (nx := 6) rfl rfl rfl rfl ?_
    refine ev_f f_X12_is (t1 := 9) (t2 := 13) rfl rfl rfl (by decide) ?_
    refine ev_ic f_X12_is (nx := 14) (v := 0) rfl (by decide) rfl ?_
    refine ev_retK1 f_X12_is rfl rfl rfl ?_
    refine ev_retK1 f_X12_tray rfl rfl rfl ?_
    refine ev_t f_L_law (t1 := 1628) (t2 := 326) rfl rfl rfl (by decide) ?_
    refine ev_incv f_L_law (nx := 1631) (c := 6) (w := 6) (lo' := [(3, .int 6), (2, .ref 69), (1, .ref 0), (0, .retAddr 30)]) rfl rfl (by decide) (by decide) rfl rfl rfl ?_
    refine ev_jmp f_L_law (nx := 18) rfl rfl rfl ?_
    refine ev_loc f_L_law (nx := 19) rfl rfl rfl rfl ?_
    refine ev_loc f_L_law (nx := 20) rfl rfl rfl rfl ?_
    refine ev_alenX f_L_law (nx := 21) rfl hX rfl ?_
    refine ev_bp f_L_law (nx := 23) (v := 6) rfl (by decide) rfl ?_
    refine ev_aluvI f_L_law (nx := 24) (w := 0) rfl rfl rfl (by decide) rfl ?_
    refine ev_t f_L_law (t1 := 1634) (t2 := 27) rfl rfl rfl (by decide) ?_
    refine ev_ic f_L_law (nx := 1635) (v := 1) rfl (by decide) rfl ?_
    refine ev_ret f_L_law rfl rfl rfl ?_
    exact ⟨rfl, hz⟩
  · have q38 := h38; rw [Int32.lt_iff_toInt_lt, (by decide : (0 : Int32).toInt = 0)] at q38
    refine ev_loc f_X11_tray (nx := 13) rfl rfl rfl rfl ?_
    refine ev_ic f_X11_tray (nx := 14) (v := 3) rfl (by decide) rfl ?_
    refine ev_if f_X11_tray (t1 := 27) (t2 := 17) rfl rfl rfl (fun h102 => ?_) (fun h102 => ?_)
    · have q102 := h102; rw [Int32.lt_iff_toInt_lt, (by decide : (3 : Int32).toInt = 3)] at q102
      refine ev_loc f_X11_tray (nx := 28) rfl rfl rfl rfl ?_
      refine ev_ic f_X11_tray (nx := 29) (v := 1) rfl (by decide) rfl ?_
      refine ev_inV2 f_X11_tray (nx := 32) (lo2 := [(0, .ref 0), (1, .int 1)]) rfl rfl rfl rfl f_X11_deny (hW.s rfl) rfl rfl rfl rfl rfl ?_
      refine ev_loc f_X11_deny (nx := 1) rfl rfl rfl rfl ?_
      refine ev_loc f_X11_deny (nx := 2) rfl rfl rfl rfl ?_
      refine ev_putI f_X11_deny (nx := 5) rfl (hW.s rfl) rfl rfl rfl ?_
      refine ev_ic f_X11_deny (nx := 6) (v := 0) rfl (by decide) rfl ?_
      refine ev_retK1 f_X11_deny rfl rfl rfl ?_
      refine ev_retK1 f_X11_tray rfl rfl rfl ?_
      refine ev_loc f_L_law (nx := 305) rfl rfl rfl rfl ?_
      refine ev_loc f_L_law (nx := 306) rfl rfl rfl rfl ?_
      refine ev_loc f_L_law (nx := 307) rfl rfl rfl rfl ?_
      refine ev_ic f_L_law (nx := 308) (v := 1) rfl (by decide) rfl ?_
      refine ev_aluvI f_L_law (nx := 309) (w := 1) rfl rfl rfl (by decide) rfl ?_
      refine ev_scrv f_L_law (nx := 310) (j := 1) (w := 3) rfl hX (by decide) (by decide) (by decide) e1 rfl ?_
      refine ev_loc f_L_law (nx := 311) rfl rfl rfl rfl ?_
      refine ev_loc f_L_law (nx := 312) rfl rfl rfl rfl ?_
      refine ev_ic f_L_law (nx := 313) (v := 2) rfl (by decide) rfl ?_
      refine ev_aluvI f_L_law (nx := 314) (w := 2) rfl rfl rfl (by decide) rfl ?_
      refine ev_scr f_L_law (nx := 315) (j := 2) rfl hX (by decide) (by decide) (by decide) rfl ?_
      refine ev_loc f_L_law (nx := 316) rfl rfl rfl rfl ?_
      refine ev_loc f_L_law (nx := 317) rfl rfl rfl rfl ?_
      refine ev_ic f_L_law (nx := 318) (v := 3) rfl (by decide) rfl ?_
      refine ev_aluvI f_L_law (nx := 319) (w := 3) rfl rfl rfl (by decide) rfl ?_
      refine ev_scr f_L_law (nx := 320) (j := 3) rfl hX (by decide) (by decide) (by decide) rfl ?_
      refine ev_inV4 f_L_law (nx := 323) (lo2 := [(0, .ref 69), (1, .int 3), (2, .int ((X.2 2))), (3, .int ((X.2 3)))]) rfl rfl rfl rfl f_X12_tray (hW.s rfl) rfl rfl rfl rfl rfl ?_
      refine ev_loc f_X12_tray (nx := 1) rfl rfl rfl rfl ?_
      refine ev_inS1 f_X12_tray (nx := 4) (lo2 := [(0, .int 3)]) rfl rfl rfl rfl f_X12_isTray rfl rfl rfl rfl ?_
      refine ev_loc f_X12_isTray (nx := 1) rfl rfl rfl rfl ?_
      refine ev_f f_X12_isTray (t1 := 13) (t2 := 4) rfl rfl rfl (by decide) ?_
      refine ev_loc f_X12_isTray (nx := 5) rfl rfl rfl rfl ?_
      refine ev_ic f_X12_isTray (nx := 6) (v := 4) rfl (by decide) rfl ?_
      refine ev_f f_X12_isTray (t1 := 13) (t2 := 9) rfl rfl rfl (by decide) ?_
      refine ev_ic f_X12_isTray (nx := 10) (v := 1) rfl (by decide) rfl ?_
      refine ev_jmp f_X12_isTray (nx := 14) rfl rfl rfl ?_
      refine ev_retK1 f_X12_isTray rfl rfl rfl ?_
      refine ev_f f_X12_tray (t1 := 26) (t2 := 7) rfl rfl rfl (by decide) ?_
      refine ev_loc f_X12_tray (nx := 8) rfl rfl rfl rfl ?_
      refine ev_f f_X12_tray (t1 := 26) (t2 := 11) rfl rfl rfl (by rw [Int32.lt_iff_toInt_lt, (by decide : (0 : Int32).toInt = 0)]; omega) ?_
      refine ev_loc f_X12_tray (nx := 12) rfl rfl rfl rfl ?_
      refine ev_ic f_X12_tray (nx := 13) (v := 3) rfl (by decide) rfl ?_
      refine ev_t f_X12_tray (t1 := 26) (t2 := 16) rfl rfl rfl (by rw [Int32.lt_iff_toInt_lt, (by decide : (3 : Int32).toInt = 3)]; omega) ?_
      refine ev_loc f_X12_tray (nx := 27) rfl rfl rfl rfl ?_
      refine ev_ic f_X12_tray (nx := 28) (v := 1) rfl (by decide) rfl ?_
      refine ev_inV2 f_X12_tray (nx := 31) (lo2 := [(0, .ref 69), (1, .int 1)]) rfl rfl rfl rfl f_X12_is (hW.s rfl) rfl rfl rfl rfl rfl ?_
      refine ev_loc f_X12_is (nx := 1) rfl rfl rfl rfl ?_
      refine ev_loc f_X12_is (nx := 2) rfl rfl rfl rfl ?_
      refine ev_putI f_X12_is (nx := 5) rfl (hW.s rfl) rfl rfl rfl ?_
      refine ev_loc f_X12_is (nx := 6) rfl rfl rfl rfl ?_
      refine ev_f f_X12_is (t1 := 9) (t2 := 13) rfl rfl rfl (by decide) ?_
      refine ev_ic f_X12_is (nx := 14) (v := 0) rfl (by decide) rfl ?_
      refine ev_retK1 f_X12_is rfl rfl rfl ?_
      refine ev_retK1 f_X12_tray rfl rfl rfl ?_
      refine ev_t f_L_law (t1 := 1628) (t2 := 326) rfl rfl rfl (by decide) ?_
      refine ev_incv f_L_law (nx := 1631) (c := 6) (w := 6) (lo' := [(3, .int 6), (2, .ref 69), (1, .ref 0), (0, .retAddr 30)]) rfl rfl (by decide) (by decide) rfl rfl rfl ?_
      refine ev_jmp f_L_law (nx := 18) rfl rfl rfl ?_
      refine ev_loc f_L_law (nx := 19) rfl rfl rfl rfl ?_
      refine ev_loc f_L_law (nx := 20) rfl rfl rfl rfl ?_
      refine ev_alenX f_L_law (nx := 21) rfl hX rfl ?_
      refine ev_bp f_L_law (nx := 23) (v := 6) rfl (by decide) rfl ?_
      refine ev_aluvI f_L_law (nx := 24) (w := 0) rfl rfl rfl (by decide) rfl ?_
      refine ev_t f_L_law (t1 := 1634) (t2 := 27) rfl rfl rfl (by decide) ?_
      refine ev_ic f_L_law (nx := 1635) (v := 1) rfl (by decide) rfl ?_
      refine ev_ret f_L_law rfl rfl rfl ?_
      exact ⟨rfl, hz⟩
    · have q102 := h102; rw [Int32.lt_iff_toInt_lt, (by decide : (3 : Int32).toInt = 3)] at q102
      refine ev_loc f_X11_tray (nx := 18) rfl rfl rfl rfl ?_
      refine ev_if f_X11_tray (t1 := 27) (t2 := 21) rfl rfl rfl (fun h168 => ?_) (fun h168 => ?_)
      · have q168 := h168; rw [Int32.lt_iff_toInt_lt, (by decide : (0 : Int32).toInt = 0)] at q168
        refine ev_loc f_X11_tray (nx := 28) rfl rfl rfl rfl ?_
        refine ev_ic f_X11_tray (nx := 29) (v := 1) rfl (by decide) rfl ?_
        refine ev_inV2 f_X11_tray (nx := 32) (lo2 := [(0, .ref 0), (1, .int 1)]) rfl rfl rfl rfl f_X11_deny (hW.s rfl) rfl rfl rfl rfl rfl ?_
        refine ev_loc f_X11_deny (nx := 1) rfl rfl rfl rfl ?_
        refine ev_loc f_X11_deny (nx := 2) rfl rfl rfl rfl ?_
        refine ev_putI f_X11_deny (nx := 5) rfl (hW.s rfl) rfl rfl rfl ?_
        refine ev_ic f_X11_deny (nx := 6) (v := 0) rfl (by decide) rfl ?_
        refine ev_retK1 f_X11_deny rfl rfl rfl ?_
        refine ev_retK1 f_X11_tray rfl rfl rfl ?_
        refine ev_loc f_L_law (nx := 305) rfl rfl rfl rfl ?_
        refine ev_loc f_L_law (nx := 306) rfl rfl rfl rfl ?_
        refine ev_loc f_L_law (nx := 307) rfl rfl rfl rfl ?_
        refine ev_ic f_L_law (nx := 308) (v := 1) rfl (by decide) rfl ?_
        refine ev_aluvI f_L_law (nx := 309) (w := 1) rfl rfl rfl (by decide) rfl ?_
        refine ev_scrv f_L_law (nx := 310) (j := 1) (w := 3) rfl hX (by decide) (by decide) (by decide) e1 rfl ?_
        refine ev_loc f_L_law (nx := 311) rfl rfl rfl rfl ?_
        refine ev_loc f_L_law (nx := 312) rfl rfl rfl rfl ?_
        refine ev_ic f_L_law (nx := 313) (v := 2) rfl (by decide) rfl ?_
        refine ev_aluvI f_L_law (nx := 314) (w := 2) rfl rfl rfl (by decide) rfl ?_
        refine ev_scr f_L_law (nx := 315) (j := 2) rfl hX (by decide) (by decide) (by decide) rfl ?_
        refine ev_loc f_L_law (nx := 316) rfl rfl rfl rfl ?_
        refine ev_loc f_L_law (nx := 317) rfl rfl rfl rfl ?_
        refine ev_ic f_L_law (nx := 318) (v := 3) rfl (by decide) rfl ?_
        refine ev_aluvI f_L_law (nx := 319) (w := 3) rfl rfl rfl (by decide) rfl ?_
        refine ev_scr f_L_law (nx := 320) (j := 3) rfl hX (by decide) (by decide) (by decide) rfl ?_
        refine ev_inV4 f_L_law (nx := 323) (lo2 := [(0, .ref 69), (1, .int 3), (2, .int ((X.2 2))), (3, .int ((X.2 3)))]) rfl rfl rfl rfl f_X12_tray (hW.s rfl) rfl rfl rfl rfl rfl ?_
        refine ev_loc f_X12_tray (nx := 1) rfl rfl rfl rfl ?_
        refine ev_inS1 f_X12_tray (nx := 4) (lo2 := [(0, .int 3)]) rfl rfl rfl rfl f_X12_isTray rfl rfl rfl rfl ?_
        refine ev_loc f_X12_isTray (nx := 1) rfl rfl rfl rfl ?_
        refine ev_f f_X12_isTray (t1 := 13) (t2 := 4) rfl rfl rfl (by decide) ?_
        refine ev_loc f_X12_isTray (nx := 5) rfl rfl rfl rfl ?_
        refine ev_ic f_X12_isTray (nx := 6) (v := 4) rfl (by decide) rfl ?_
        refine ev_f f_X12_isTray (t1 := 13) (t2 := 9) rfl rfl rfl (by decide) ?_
        refine ev_ic f_X12_isTray (nx := 10) (v := 1) rfl (by decide) rfl ?_
        refine ev_jmp f_X12_isTray (nx := 14) rfl rfl rfl ?_
        refine ev_retK1 f_X12_isTray rfl rfl rfl ?_
        refine ev_f f_X12_tray (t1 := 26) (t2 := 7) rfl rfl rfl (by decide) ?_
        refine ev_loc f_X12_tray (nx := 8) rfl rfl rfl rfl ?_
        refine ev_f f_X12_tray (t1 := 26) (t2 := 11) rfl rfl rfl (by rw [Int32.lt_iff_toInt_lt, (by decide : (0 : Int32).toInt = 0)]; omega) ?_
        refine ev_loc f_X12_tray (nx := 12) rfl rfl rfl rfl ?_
        refine ev_ic f_X12_tray (nx := 13) (v := 3) rfl (by decide) rfl ?_
        refine ev_f f_X12_tray (t1 := 26) (t2 := 16) rfl rfl rfl (by rw [Int32.lt_iff_toInt_lt, (by decide : (3 : Int32).toInt = 3)]; omega) ?_
        refine ev_loc f_X12_tray (nx := 17) rfl rfl rfl rfl ?_
        refine ev_t f_X12_tray (t1 := 26) (t2 := 20) rfl rfl rfl (by rw [Int32.lt_iff_toInt_lt, (by decide : (0 : Int32).toInt = 0)]; omega) ?_
        refine ev_loc f_X12_tray (nx := 27) rfl rfl rfl rfl ?_
        refine ev_ic f_X12_tray (nx := 28) (v := 1) rfl (by decide) rfl ?_
        refine ev_inV2 f_X12_tray (nx := 31) (lo2 := [(0, .ref 69), (1, .int 1)]) rfl rfl rfl rfl f_X12_is (hW.s rfl) rfl rfl rfl rfl rfl ?_
        refine ev_loc f_X12_is (nx := 1) rfl rfl rfl rfl ?_
        refine ev_loc f_X12_is (nx := 2) rfl rfl rfl rfl ?_
        refine ev_putI f_X12_is (nx := 5) rfl (hW.s rfl) rfl rfl rfl ?_
        refine ev_loc f_X12_is (nx := 6) rfl rfl rfl rfl ?_
        refine ev_f f_X12_is (t1 := 9) (t2 := 13) rfl rfl rfl (by decide) ?_
        refine ev_ic f_X12_is (nx := 14) (v := 0) rfl (by decide) rfl ?_
        refine ev_retK1 f_X12_is rfl rfl rfl ?_
        refine ev_retK1 f_X12_tray rfl rfl rfl ?_
        refine ev_t f_L_law (t1 := 1628) (t2 := 326) rfl rfl rfl (by decide) ?_
        refine ev_incv f_L_law (nx := 1631) (c := 6) (w := 6) (lo' := [(3, .int 6), (2, .ref 69), (1, .ref 0), (0, .retAddr 30)]) rfl rfl (by decide) (by decide) rfl rfl rfl ?_
        refine ev_jmp f_L_law (nx := 18) rfl rfl rfl ?_
        refine ev_loc f_L_law (nx := 19) rfl rfl rfl rfl ?_
        refine ev_loc f_L_law (nx := 20) rfl rfl rfl rfl ?_
        refine ev_alenX f_L_law (nx := 21) rfl hX rfl ?_
        refine ev_bp f_L_law (nx := 23) (v := 6) rfl (by decide) rfl ?_
        refine ev_aluvI f_L_law (nx := 24) (w := 0) rfl rfl rfl (by decide) rfl ?_
        refine ev_t f_L_law (t1 := 1634) (t2 := 27) rfl rfl rfl (by decide) ?_
        refine ev_ic f_L_law (nx := 1635) (v := 1) rfl (by decide) rfl ?_
        refine ev_ret f_L_law rfl rfl rfl ?_
        exact ⟨rfl, hz⟩
      · have q168 := h168; rw [Int32.lt_iff_toInt_lt, (by decide : (0 : Int32).toInt = 0)] at q168
        refine ev_loc f_X11_tray (nx := 22) rfl rfl rfl rfl ?_
        refine ev_bp f_X11_tray (nx := 24) (v := 60) rfl (by decide) rfl ?_
        refine ev_if f_X11_tray (t1 := 33) (t2 := 27) rfl rfl rfl (fun h237 => ?_) (fun h237 => ?_)
        · have q237 := h237; rw [Int32.le_iff_toInt_le, (by decide : (60 : Int32).toInt = 60)] at q237
          refine ev_loc f_X11_tray (nx := 34) rfl rfl rfl rfl ?_
          refine ev_getR f_X11_tray (nx := 37) rfl (hW.s rfl) rfl rfl (hW.r rfl) rfl rfl ?_
          refine ev_loc f_X11_tray (nx := 38) rfl rfl rfl rfl ?_
          refine ev_aaldv f_X11_tray (nx := 39) (j := 3) rfl (hW.s rfl) rfl (by decide) (by decide) (by decide) (hW.r rfl) rfl rfl ?_
          refine ev_loc f_X11_tray (nx := 40) rfl rfl rfl rfl ?_
          refine ev_loc f_X11_tray (nx := 41) rfl rfl rfl rfl ?_
          refine ev_cM f_X11_tray (nx := 44) (st2 := []) rfl rfl rfl rfl rfl rfl (s_lay (hW.s rfl) (hW.r rfl) (hW.s rfl) _ _) rfl rfl ?_
          refine ev_loc f_X11_tray (nx := 45) rfl rfl rfl rfl ?_
          refine ev_inV1 f_X11_tray (nx := 48) (lo2 := [(0, .ref 0)]) rfl rfl rfl rfl f_X11_grant (hW.s rfl) rfl rfl rfl rfl rfl ?_
          refine ev_loc f_X11_grant (nx := 1) rfl rfl rfl rfl ?_
          refine ev_ic f_X11_grant (nx := 2) (v := 0) rfl (by decide) rfl ?_
          refine ev_putI f_X11_grant (nx := 5) rfl (hW.s rfl) rfl rfl rfl ?_
          refine ev_ic f_X11_grant (nx := 6) (v := 1) rfl (by decide) rfl ?_
          refine ev_retK1 f_X11_grant rfl rfl rfl ?_
          refine ev_retK1 f_X11_tray rfl rfl rfl ?_
          refine ev_loc f_L_law (nx := 305) rfl rfl rfl rfl ?_
          refine ev_loc f_L_law (nx := 306) rfl rfl rfl rfl ?_
          refine ev_loc f_L_law (nx := 307) rfl rfl rfl rfl ?_
          refine ev_ic f_L_law (nx := 308) (v := 1) rfl (by decide) rfl ?_
          refine ev_aluvI f_L_law (nx := 309) (w := 1) rfl rfl rfl (by decide) rfl ?_
          refine ev_scrv f_L_law (nx := 310) (j := 1) (w := 3) rfl hX (by decide) (by decide) (by decide) e1 rfl ?_
          refine ev_loc f_L_law (nx := 311) rfl rfl rfl rfl ?_
          refine ev_loc f_L_law (nx := 312) rfl rfl rfl rfl ?_
          refine ev_ic f_L_law (nx := 313) (v := 2) rfl (by decide) rfl ?_
          refine ev_aluvI f_L_law (nx := 314) (w := 2) rfl rfl rfl (by decide) rfl ?_
          refine ev_scr f_L_law (nx := 315) (j := 2) rfl hX (by decide) (by decide) (by decide) rfl ?_
          refine ev_loc f_L_law (nx := 316) rfl rfl rfl rfl ?_
          refine ev_loc f_L_law (nx := 317) rfl rfl rfl rfl ?_
          refine ev_ic f_L_law (nx := 318) (v := 3) rfl (by decide) rfl ?_
          refine ev_aluvI f_L_law (nx := 319) (w := 3) rfl rfl rfl (by decide) rfl ?_
          refine ev_scr f_L_law (nx := 320) (j := 3) rfl hX (by decide) (by decide) (by decide) rfl ?_
          refine ev_inV4 f_L_law (nx := 323) (lo2 := [(0, .ref 69), (1, .int 3), (2, .int ((X.2 2))), (3, .int ((X.2 3)))]) rfl rfl rfl rfl f_X12_tray (hW.s rfl) rfl rfl rfl rfl rfl ?_
          refine ev_loc f_X12_tray (nx := 1) rfl rfl rfl rfl ?_
          refine ev_inS1 f_X12_tray (nx := 4) (lo2 := [(0, .int 3)]) rfl rfl rfl rfl f_X12_isTray rfl rfl rfl rfl ?_
          refine ev_loc f_X12_isTray (nx := 1) rfl rfl rfl rfl ?_
          refine ev_f f_X12_isTray (t1 := 13) (t2 := 4) rfl rfl rfl (by decide) ?_
          refine ev_loc f_X12_isTray (nx := 5) rfl rfl rfl rfl ?_
          refine ev_ic f_X12_isTray (nx := 6) (v := 4) rfl (by decide) rfl ?_
          refine ev_f f_X12_isTray (t1 := 13) (t2 := 9) rfl rfl rfl (by decide) ?_
          refine ev_ic f_X12_isTray (nx := 10) (v := 1) rfl (by decide) rfl ?_
          refine ev_jmp f_X12_isTray (nx := 14) rfl rfl rfl ?_
          refine ev_retK1 f_X12_isTray rfl rfl rfl ?_
          refine ev_f f_X12_tray (t1 := 26) (t2 := 7) rfl rfl rfl (by decide) ?_
          refine ev_loc f_X12_tray (nx := 8) rfl rfl rfl rfl ?_
          refine ev_f f_X12_tray (t1 := 26) (t2 := 11) rfl rfl rfl (by rw [Int32.lt_iff_toInt_lt, (by decide : (0 : Int32).toInt = 0)]; omega) ?_
          refine ev_loc f_X12_tray (nx := 12) rfl rfl rfl rfl ?_
          refine ev_ic f_X12_tray (nx := 13) (v := 3) rfl (by decide) rfl ?_
          refine ev_f f_X12_tray (t1 := 26) (t2 := 16) rfl rfl rfl (by rw [Int32.lt_iff_toInt_lt, (by decide : (3 : Int32).toInt = 3)]; omega) ?_
          refine ev_loc f_X12_tray (nx := 17) rfl rfl rfl rfl ?_
          refine ev_f f_X12_tray (t1 := 26) (t2 := 20) rfl rfl rfl (by rw [Int32.lt_iff_toInt_lt, (by decide : (0 : Int32).toInt = 0)]; omega) ?_
          refine ev_loc f_X12_tray (nx := 21) rfl rfl rfl rfl ?_
          refine ev_bp f_X12_tray (nx := 23) (v := 60) rfl (by decide) rfl ?_
          refine ev_t f_X12_tray (t1 := 32) (t2 := 26) rfl rfl rfl (by rw [Int32.le_iff_toInt_le, (by decide : (60 : Int32).toInt = 60)]; omega) ?_
          refine ev_loc f_X12_tray (nx := 33) rfl rfl rfl rfl ?_
          refine ev_getR f_X12_tray (nx := 36) rfl (hW.s rfl) rfl rfl (hW.r rfl) rfl rfl ?_
          refine ev_loc f_X12_tray (nx := 37) rfl rfl rfl rfl ?_
          refine ev_loc f_X12_tray (nx := 38) rfl rfl rfl rfl ?_
          refine ev_iastv f_X12_tray (nx := 39) (j := 3) rfl (hW.s rfl) (by decide) (by decide) (by decide) rfl ?_
          refine ev_loc f_X12_tray (nx := 40) rfl rfl rfl rfl ?_
          refine ev_getR f_X12_tray (nx := 43) rfl (hW.s rfl) rfl rfl (hW.r rfl) rfl rfl ?_
          refine ev_loc f_X12_tray (nx := 44) rfl rfl rfl rfl ?_
          refine ev_loc f_X12_tray (nx := 45) rfl rfl rfl rfl ?_
          refine ev_iastv f_X12_tray (nx := 46) (j := 3) rfl (hW.s rfl) (by decide) (by decide) (by decide) rfl ?_
          refine ev_ic f_X12_tray (nx := 47) (v := 0) rfl (by decide) rfl ?_
          refine ev_loc f_X12_tray (nx := 49) (lo' := [(4, .int 0), (0, .ref 69), (1, .int 3), (2, .int ((X.2 2))), (3, .int ((X.2 3)))]) rfl rfl rfl rfl ?_
          refine l_mtray (gl := x_zl gl 68 60) hW (tc := 3) (s := (X.2 2)) (m := (X.2 3)) (by decide) (by omega) (by omega) (wz_74 (gl := gl) hR) (fun v => ?_) (((X.2 3)).toInt.toNat) 0 (by omega)
          refine ev_loc f_X12_tray (nx := 75) rfl rfl rfl rfl ?_
          refine ev_ic f_X12_tray (nx := 76) (v := 0) rfl (by decide) rfl ?_
          refine ev_inV2 f_X12_tray (nx := 79) (lo2 := [(0, .ref 69), (1, .int 0)]) rfl rfl rfl rfl f_X12_is (hW.s rfl) rfl rfl rfl rfl rfl ?_
          refine ev_loc f_X12_is (nx := 1) rfl rfl rfl rfl ?_
          refine ev_loc f_X12_is (nx := 2) rfl rfl rfl rfl ?_
          refine ev_putI f_X12_is (nx := 5) rfl (hW.s rfl) rfl rfl rfl ?_
          refine ev_loc f_X12_is (nx := 6) rfl rfl rfl rfl ?_
          refine ev_t f_X12_is (t1 := 9) (t2 := 13) rfl rfl rfl (by decide) ?_
          refine ev_ic f_X12_is (nx := 10) (v := 1) rfl (by decide) rfl ?_
          refine ev_jmp f_X12_is (nx := 14) rfl rfl rfl ?_
          refine ev_retK1 f_X12_is rfl rfl rfl ?_
          refine ev_retK1 f_X12_tray rfl rfl rfl ?_
          refine ev_t f_L_law (t1 := 1628) (t2 := 326) rfl rfl rfl (by decide) ?_
          refine ev_incv f_L_law (nx := 1631) (c := 6) (w := 6) (lo' := [(3, .int 6), (2, .ref 69), (1, .ref 0), (0, .retAddr 30)]) rfl rfl (by decide) (by decide) rfl rfl rfl ?_
          refine ev_jmp f_L_law (nx := 18) rfl rfl rfl ?_
          refine ev_loc f_L_law (nx := 19) rfl rfl rfl rfl ?_
          refine ev_loc f_L_law (nx := 20) rfl rfl rfl rfl ?_
          refine ev_alenX f_L_law (nx := 21) rfl hX rfl ?_
          refine ev_bp f_L_law (nx := 23) (v := 6) rfl (by decide) rfl ?_
          refine ev_aluvI f_L_law (nx := 24) (w := 0) rfl rfl rfl (by decide) rfl ?_
          refine ev_t f_L_law (t1 := 1634) (t2 := 27) rfl rfl rfl (by decide) ?_
          refine ev_ic f_L_law (nx := 1635) (v := 1) rfl (by decide) rfl ?_
          refine ev_ret f_L_law rfl rfl rfl ?_
          exact ⟨rfl, hz⟩
        · have q237 := h237; rw [Int32.le_iff_toInt_le, (by decide : (60 : Int32).toInt = 60)] at q237
          refine ev_loc f_X11_tray (nx := 28) rfl rfl rfl rfl ?_
          refine ev_ic f_X11_tray (nx := 29) (v := 1) rfl (by decide) rfl ?_
          refine ev_inV2 f_X11_tray (nx := 32) (lo2 := [(0, .ref 0), (1, .int 1)]) rfl rfl rfl rfl f_X11_deny (hW.s rfl) rfl rfl rfl rfl rfl ?_
          refine ev_loc f_X11_deny (nx := 1) rfl rfl rfl rfl ?_
          refine ev_loc f_X11_deny (nx := 2) rfl rfl rfl rfl ?_
          refine ev_putI f_X11_deny (nx := 5) rfl (hW.s rfl) rfl rfl rfl ?_
          refine ev_ic f_X11_deny (nx := 6) (v := 0) rfl (by decide) rfl ?_
          refine ev_retK1 f_X11_deny rfl rfl rfl ?_
          refine ev_retK1 f_X11_tray rfl rfl rfl ?_
          refine ev_loc f_L_law (nx := 305) rfl rfl rfl rfl ?_
          refine ev_loc f_L_law (nx := 306) rfl rfl rfl rfl ?_
          refine ev_loc f_L_law (nx := 307) rfl rfl rfl rfl ?_
          refine ev_ic f_L_law (nx := 308) (v := 1) rfl (by decide) rfl ?_
          refine ev_aluvI f_L_law (nx := 309) (w := 1) rfl rfl rfl (by decide) rfl ?_
          refine ev_scrv f_L_law (nx := 310) (j := 1) (w := 3) rfl hX (by decide) (by decide) (by decide) e1 rfl ?_
          refine ev_loc f_L_law (nx := 311) rfl rfl rfl rfl ?_
          refine ev_loc f_L_law (nx := 312) rfl rfl rfl rfl ?_
          refine ev_ic f_L_law (nx := 313) (v := 2) rfl (by decide) rfl ?_
          refine ev_aluvI f_L_law (nx := 314) (w := 2) rfl rfl rfl (by decide) rfl ?_
          refine ev_scr f_L_law (nx := 315) (j := 2) rfl hX (by decide) (by decide) (by decide) rfl ?_
          refine ev_loc f_L_law (nx := 316) rfl rfl rfl rfl ?_
          refine ev_loc f_L_law (nx := 317) rfl rfl rfl rfl ?_
          refine ev_ic f_L_law (nx := 318) (v := 3) rfl (by decide) rfl ?_
          refine ev_aluvI f_L_law (nx := 319) (w := 3) rfl rfl rfl (by decide) rfl ?_
          refine ev_scr f_L_law (nx := 320) (j := 3) rfl hX (by decide) (by decide) (by decide) rfl ?_
          refine ev_inV4 f_L_law (nx := 323) (lo2 := [(0, .ref 69), (1, .int 3), (2, .int ((X.2 2))), (3, .int ((X.2 3)))]) rfl rfl rfl rfl f_X12_tray (hW.s rfl) rfl rfl rfl rfl rfl ?_
          refine ev_loc f_X12_tray (nx := 1) rfl rfl rfl rfl ?_
          refine ev_inS1 f_X12_tray (nx := 4) (lo2 := [(0, .int 3)]) rfl rfl rfl rfl f_X12_isTray rfl rfl rfl rfl ?_
          refine ev_loc f_X12_isTray (nx := 1) rfl rfl rfl rfl ?_
          refine ev_f f_X12_isTray (t1 := 13) (t2 := 4) rfl rfl rfl (by decide) ?_
          refine ev_loc f_X12_isTray (nx := 5) rfl rfl rfl rfl ?_
          refine ev_ic f_X12_isTray (nx := 6) (v := 4) rfl (by decide) rfl ?_
          refine ev_f f_X12_isTray (t1 := 13) (t2 := 9) rfl rfl rfl (by decide) ?_
          refine ev_ic f_X12_isTray (nx := 10) (v := 1) rfl (by decide) rfl ?_
          refine ev_jmp f_X12_isTray (nx := 14) rfl rfl rfl ?_
          refine ev_retK1 f_X12_isTray rfl rfl rfl ?_
          refine ev_f f_X12_tray (t1 := 26) (t2 := 7) rfl rfl rfl (by decide) ?_
          refine ev_loc f_X12_tray (nx := 8) rfl rfl rfl rfl ?_
          refine ev_f f_X12_tray (t1 := 26) (t2 := 11) rfl rfl rfl (by rw [Int32.lt_iff_toInt_lt, (by decide : (0 : Int32).toInt = 0)]; omega) ?_
          refine ev_loc f_X12_tray (nx := 12) rfl rfl rfl rfl ?_
          refine ev_ic f_X12_tray (nx := 13) (v := 3) rfl (by decide) rfl ?_
          refine ev_f f_X12_tray (t1 := 26) (t2 := 16) rfl rfl rfl (by rw [Int32.lt_iff_toInt_lt, (by decide : (3 : Int32).toInt = 3)]; omega) ?_
          refine ev_loc f_X12_tray (nx := 17) rfl rfl rfl rfl ?_
          refine ev_f f_X12_tray (t1 := 26) (t2 := 20) rfl rfl rfl (by rw [Int32.lt_iff_toInt_lt, (by decide : (0 : Int32).toInt = 0)]; omega) ?_
          refine ev_loc f_X12_tray (nx := 21) rfl rfl rfl rfl ?_
          refine ev_bp f_X12_tray (nx := 23) (v := 60) rfl (by decide) rfl ?_
          refine ev_f f_X12_tray (t1 := 32) (t2 := 26) rfl rfl rfl (by rw [Int32.le_iff_toInt_le, (by decide : (60 : Int32).toInt = 60)]; omega) ?_
          refine ev_loc f_X12_tray (nx := 27) rfl rfl rfl rfl ?_
          refine ev_ic f_X12_tray (nx := 28) (v := 1) rfl (by decide) rfl ?_
          refine ev_inV2 f_X12_tray (nx := 31) (lo2 := [(0, .ref 69), (1, .int 1)]) rfl rfl rfl rfl f_X12_is (hW.s rfl) rfl rfl rfl rfl rfl ?_
          refine ev_loc f_X12_is (nx := 1) rfl rfl rfl rfl ?_
          refine ev_loc f_X12_is (nx := 2) rfl rfl rfl rfl ?_
          refine ev_putI f_X12_is (nx := 5) rfl (hW.s rfl) rfl rfl rfl ?_
          refine ev_loc f_X12_is (nx := 6) rfl rfl rfl rfl ?_
          refine ev_f f_X12_is (t1 := 9) (t2 := 13) rfl rfl rfl (by decide) ?_
          refine ev_ic f_X12_is (nx := 14) (v := 0) rfl (by decide) rfl ?_
          refine ev_retK1 f_X12_is rfl rfl rfl ?_
          refine ev_retK1 f_X12_tray rfl rfl rfl ?_
          refine ev_t f_L_law (t1 := 1628) (t2 := 326) rfl rfl rfl (by decide) ?_
          refine ev_incv f_L_law (nx := 1631) (c := 6) (w := 6) (lo' := [(3, .int 6), (2, .ref 69), (1, .ref 0), (0, .retAddr 30)]) rfl rfl (by decide) (by decide) rfl rfl rfl ?_
          refine ev_jmp f_L_law (nx := 18) rfl rfl rfl ?_
          refine ev_loc f_L_law (nx := 19) rfl rfl rfl rfl ?_
          refine ev_loc f_L_law (nx := 20) rfl rfl rfl rfl ?_
          refine ev_alenX f_L_law (nx := 21) rfl hX rfl ?_
          refine ev_bp f_L_law (nx := 23) (v := 6) rfl (by decide) rfl ?_
          refine ev_aluvI f_L_law (nx := 24) (w := 0) rfl rfl rfl (by decide) rfl ?_
          refine ev_t f_L_law (t1 := 1634) (t2 := 27) rfl rfl rfl (by decide) ?_
          refine ev_ic f_L_law (nx := 1635) (v := 1) rfl (by decide) rfl ?_
          refine ev_ret f_L_law rfl rfl rfl ?_
          exact ⟨rfl, hz⟩
set_option maxRecDepth 20000 in
theorem pc_4_3 (hR : x_R W1 (sh, gi, gl, gr)) (hX : X.1 = 6) (e1 : X.2 1 = 3) : x_Ev X 1000 n_L_law 328 [(3, .int 0), (2, .ref 69), (1, .ref 0), (0, .retAddr 30)] [] (sh, gi, gl, gr) x_P1 := by
  have hW := W1_WF hR
  have hz := W1_hz hR
  refine ev_loc f_L_law (nx := 329) rfl rfl rfl rfl ?_
  refine ev_loc f_L_law (nx := 330) rfl rfl rfl rfl ?_
  refine ev_loc f_L_law (nx := 331) rfl rfl rfl rfl ?_
  refine ev_ic f_L_law (nx := 332) (v := 1) rfl (by decide) rfl ?_
  refine ev_aluvI f_L_law (nx := 333) (w := 1) rfl rfl rfl (by decide) rfl ?_
  refine ev_scrv f_L_law (nx := 334) (j := 1) (w := 3) rfl hX (by decide) (by decide) (by decide) e1 rfl ?_
  refine ev_loc f_L_law (nx := 335) rfl rfl rfl rfl ?_
  refine ev_loc f_L_law (nx := 336) rfl rfl rfl rfl ?_
  refine ev_ic f_L_law (nx := 337) (v := 2) rfl (by decide) rfl ?_
  refine ev_aluvI f_L_law (nx := 338) (w := 2) rfl rfl rfl (by decide) rfl ?_
  refine ev_scr f_L_law (nx := 339) (j := 2) rfl hX (by decide) (by decide) (by decide) rfl ?_
  refine ev_loc f_L_law (nx := 340) rfl rfl rfl rfl ?_
  refine ev_loc f_L_law (nx := 341) rfl rfl rfl rfl ?_
  refine ev_ic f_L_law (nx := 342) (v := 3) rfl (by decide) rfl ?_
  refine ev_aluvI f_L_law (nx := 343) (w := 3) rfl rfl rfl (by decide) rfl ?_
  refine ev_scr f_L_law (nx := 344) (j := 3) rfl hX (by decide) (by decide) (by decide) rfl ?_
  refine ev_alu f_L_law (nx := 345) rfl rfl rfl rfl ?_
  refine ev_bp f_L_law (nx := 347) (v := 32) rfl (by decide) rfl ?_
  refine ev_alu f_L_law (nx := 348) rfl rfl rfl rfl ?_
  refine ev_loc f_L_law (nx := 349) rfl rfl rfl rfl ?_
  refine ev_loc f_L_law (nx := 350) rfl rfl rfl rfl ?_
  refine ev_ic f_L_law (nx := 351) (v := 4) rfl (by decide) rfl ?_
  refine ev_aluvI f_L_law (nx := 352) (w := 4) rfl rfl rfl (by decide) rfl ?_
  refine ev_scr f_L_law (nx := 353) (j := 4) rfl hX (by decide) (by decide) (by decide) rfl ?_
  refine ev_alu f_L_law (nx := 354) rfl rfl rfl rfl ?_
  refine ev_ldL f_L_law (nx := 357) (v := 4294967295) rfl (by decide) rfl ?_
  refine ev_alu f_L_law (nx := 358) rfl rfl rfl rfl ?_
  refine ev_alu f_L_law (nx := 359) rfl rfl rfl rfl ?_
  refine ev_inV4 f_L_law (nx := 362) (lo2 := [(0, .ref 0), (1, .int 3), (2, .int ((X.2 2))), (3, .long (((((X.2 3) : Int32).toInt64 <<< ((32 : Int32).toInt64 &&& 63)) ||| (((X.2 4) : Int32).toInt64 &&& 4294967295))))]) rfl rfl rfl rfl f_X11_write (hW.s rfl) rfl rfl rfl rfl rfl ?_
  refine ev_loc f_X11_write (nx := 1) rfl rfl rfl rfl ?_
  refine ev_loc f_X11_write (nx := 2) rfl rfl rfl rfl ?_
  refine ev_loc f_X11_write (nx := 3) rfl rfl rfl rfl ?_
  refine ev_inV3 f_X11_write (nx := 6) (lo2 := [(0, .ref 0), (1, .int 3), (2, .int ((X.2 2)))]) rfl rfl rfl rfl f_X11_wrongPlace (hW.s rfl) rfl rfl rfl rfl rfl ?_
  refine ev_loc f_X11_wrongPlace (nx := 1) rfl rfl rfl rfl ?_
  refine ev_loc f_X11_wrongPlace (nx := 2) rfl rfl rfl rfl ?_
  refine ev_inV2 f_X11_wrongPlace (nx := 5) (lo2 := [(0, .ref 0), (1, .int 3)]) rfl rfl rfl rfl f_X11_isTray (hW.s rfl) rfl rfl rfl rfl rfl ?_
  refine ev_loc f_X11_isTray (nx := 1) rfl rfl rfl rfl ?_
  refine ev_f f_X11_isTray (t1 := 26) (t2 := 4) rfl rfl rfl (by decide) ?_
  refine ev_loc f_X11_isTray (nx := 5) rfl rfl rfl rfl ?_
  refine ev_loc f_X11_isTray (nx := 6) rfl rfl rfl rfl ?_
  refine ev_getR f_X11_isTray (nx := 9) rfl (hW.s rfl) rfl rfl (hW.r rfl) rfl rfl ?_
  refine ev_alenv f_X11_isTray (nx := 10) (w := 4) rfl (hW.s rfl) rfl (by decide) rfl ?_
  refine ev_f f_X11_isTray (t1 := 26) (t2 := 13) rfl rfl rfl (by decide) ?_
  refine ev_loc f_X11_isTray (nx := 14) rfl rfl rfl rfl ?_
  refine ev_getR f_X11_isTray (nx := 17) rfl (hW.s rfl) rfl rfl (hW.r rfl) rfl rfl ?_
  refine ev_loc f_X11_isTray (nx := 18) rfl rfl rfl rfl ?_
  refine ev_aaldv f_X11_isTray (nx := 19) (j := 3) rfl (hW.s rfl) rfl (by decide) (by decide) (by decide) (hW.r rfl) rfl rfl ?_
  refine ev_jmp f_X11_isTray (nx := 22) rfl rfl rfl ?_
  refine ev_ic f_X11_isTray (nx := 23) (v := 1) rfl (by decide) rfl ?_
  refine ev_jmp f_X11_isTray (nx := 27) rfl rfl rfl ?_
  refine ev_retK1 f_X11_isTray rfl rfl rfl ?_
  refine ev_f f_X11_wrongPlace (t1 := 8) (t2 := 10) rfl rfl rfl (by decide) ?_
  refine ev_loc f_X11_wrongPlace (nx := 11) rfl rfl rfl rfl ?_
  refine ev_getR f_X11_wrongPlace (nx := 14) rfl (hW.s rfl) rfl rfl (hW.r rfl) rfl rfl ?_
  refine ev_loc f_X11_wrongPlace (nx := 15) rfl rfl rfl rfl ?_
  refine ev_aaldv f_X11_wrongPlace (nx := 16) (j := 3) rfl (hW.s rfl) rfl (by decide) (by decide) (by decide) (hW.r rfl) rfl rfl ?_
  refine ev_inV1 f_X11_wrongPlace (nx := 19) (lo2 := [(0, .ref 67)]) rfl rfl rfl rfl f_X10_isMissing (hW.s rfl) rfl rfl rfl rfl rfl ?_
  refine ev_loc f_X10_isMissing (nx := 1) rfl rfl rfl rfl ?_
  refine ev_gvI f_X10_isMissing (nx := 4) (w := -1) rfl (hW.s rfl) rfl rfl (wi_67_2 (gi := gi) hR) rfl ?_
  refine ev_ic f_X10_isMissing (nx := 5) (v := -1) rfl (by decide) rfl ?_
  refine ev_t f_X10_isMissing (t1 := 8) (t2 := 12) rfl rfl rfl (by decide) ?_
  refine ev_ic f_X10_isMissing (nx := 9) (v := 1) rfl (by decide) rfl ?_
  refine ev_jmp f_X10_isMissing (nx := 13) rfl rfl rfl ?_
  refine ev_retK1 f_X10_isMissing rfl rfl rfl ?_
  refine ev_f f_X11_wrongPlace (t1 := 24) (t2 := 22) rfl rfl rfl (by decide) ?_
  refine ev_ic f_X11_wrongPlace (nx := 23) (v := 2) rfl (by decide) rfl ?_
  refine ev_retK1 f_X11_wrongPlace rfl rfl rfl ?_
  refine ev_loc f_X11_write (nx := 8) (lo' := [(5, .int 2), (0, .ref 0), (1, .int 3), (2, .int ((X.2 2))), (3, .long (((((X.2 3) : Int32).toInt64 <<< ((32 : Int32).toInt64 &&& 63)) ||| (((X.2 4) : Int32).toInt64 &&& 4294967295))))]) rfl rfl rfl rfl ?_
  refine ev_loc f_X11_write (nx := 10) rfl rfl rfl rfl ?_
  refine ev_f f_X11_write (t1 := 20) (t2 := 13) rfl rfl rfl (by decide) ?_
  refine ev_loc f_X11_write (nx := 14) rfl rfl rfl rfl ?_
  refine ev_loc f_X11_write (nx := 16) rfl rfl rfl rfl ?_
  refine ev_inV2 f_X11_write (nx := 19) (lo2 := [(0, .ref 0), (1, .int 2)]) rfl rfl rfl rfl f_X11_deny (hW.s rfl) rfl rfl rfl rfl rfl ?_
  refine ev_loc f_X11_deny (nx := 1) rfl rfl rfl rfl ?_
  refine ev_loc f_X11_deny (nx := 2) rfl rfl rfl rfl ?_
  refine ev_putI f_X11_deny (nx := 5) rfl (hW.s rfl) rfl rfl rfl ?_
  refine ev_ic f_X11_deny (nx := 6) (v := 0) rfl (by decide) rfl ?_
  refine ev_retK1 f_X11_deny rfl rfl rfl ?_
  refine ev_retK1 f_X11_write rfl rfl rfl ?_
  refine ev_loc f_L_law (nx := 363) rfl rfl rfl rfl ?_
  refine ev_loc f_L_law (nx := 364) rfl rfl rfl rfl ?_
  refine ev_loc f_L_law (nx := 365) rfl rfl rfl rfl ?_
  refine ev_ic f_L_law (nx := 366) (v := 1) rfl (by decide) rfl ?_
  refine ev_aluvI f_L_law (nx := 367) (w := 1) rfl rfl rfl (by decide) rfl ?_
  refine ev_scrv f_L_law (nx := 368) (j := 1) (w := 3) rfl hX (by decide) (by decide) (by decide) e1 rfl ?_
  refine ev_loc f_L_law (nx := 369) rfl rfl rfl rfl ?_
  refine ev_loc f_L_law (nx := 370) rfl rfl rfl rfl ?_
  refine ev_ic f_L_law (nx := 371) (v := 2) rfl (by decide) rfl ?_
  refine ev_aluvI f_L_law (nx := 372) (w := 2) rfl rfl rfl (by decide) rfl ?_
  refine ev_scr f_L_law (nx := 373) (j := 2) rfl hX (by decide) (by decide) (by decide) rfl ?_
  refine ev_loc f_L_law (nx := 374) rfl rfl rfl rfl ?_
  refine ev_loc f_L_law (nx := 375) rfl rfl rfl rfl ?_
  refine ev_ic f_L_law (nx := 376) (v := 3) rfl (by decide) rfl ?_
  refine ev_aluvI f_L_law (nx := 377) (w := 3) rfl rfl rfl (by decide) rfl ?_
  refine ev_scr f_L_law (nx := 378) (j := 3) rfl hX (by decide) (by decide) (by decide) rfl ?_
  refine ev_alu f_L_law (nx := 379) rfl rfl rfl rfl ?_
  refine ev_bp f_L_law (nx := 381) (v := 32) rfl (by decide) rfl ?_
  refine ev_alu f_L_law (nx := 382) rfl rfl rfl rfl ?_
  refine ev_loc f_L_law (nx := 383) rfl rfl rfl rfl ?_
  refine ev_loc f_L_law (nx := 384) rfl rfl rfl rfl ?_
  refine ev_ic f_L_law (nx := 385) (v := 4) rfl (by decide) rfl ?_
  refine ev_aluvI f_L_law (nx := 386) (w := 4) rfl rfl rfl (by decide) rfl ?_
  refine ev_scr f_L_law (nx := 387) (j := 4) rfl hX (by decide) (by decide) (by decide) rfl ?_
  refine ev_alu f_L_law (nx := 388) rfl rfl rfl rfl ?_
  refine ev_ldL f_L_law (nx := 391) (v := 4294967295) rfl (by decide) rfl ?_
  refine ev_alu f_L_law (nx := 392) rfl rfl rfl rfl ?_
  refine ev_alu f_L_law (nx := 393) rfl rfl rfl rfl ?_
  refine ev_inV4 f_L_law (nx := 396) (lo2 := [(0, .ref 69), (1, .int 3), (2, .int ((X.2 2))), (3, .long (((((X.2 3) : Int32).toInt64 <<< ((32 : Int32).toInt64 &&& 63)) ||| (((X.2 4) : Int32).toInt64 &&& 4294967295))))]) rfl rfl rfl rfl f_X12_write (hW.s rfl) rfl rfl rfl rfl rfl ?_
  refine ev_loc f_X12_write (nx := 1) rfl rfl rfl rfl ?_
  refine ev_loc f_X12_write (nx := 2) rfl rfl rfl rfl ?_
  refine ev_loc f_X12_write (nx := 3) rfl rfl rfl rfl ?_
  refine ev_inV3 f_X12_write (nx := 6) (lo2 := [(0, .ref 69), (1, .int 3), (2, .int ((X.2 2)))]) rfl rfl rfl rfl f_X12_wrongPlace (hW.s rfl) rfl rfl rfl rfl rfl ?_
  refine ev_loc f_X12_wrongPlace (nx := 1) rfl rfl rfl rfl ?_
  refine ev_inS1 f_X12_wrongPlace (nx := 4) (lo2 := [(0, .int 3)]) rfl rfl rfl rfl f_X12_isTray rfl rfl rfl rfl ?_
  refine ev_loc f_X12_isTray (nx := 1) rfl rfl rfl rfl ?_
  refine ev_f f_X12_isTray (t1 := 13) (t2 := 4) rfl rfl rfl (by decide) ?_
  refine ev_loc f_X12_isTray (nx := 5) rfl rfl rfl rfl ?_
  refine ev_ic f_X12_isTray (nx := 6) (v := 4) rfl (by decide) rfl ?_
  refine ev_f f_X12_isTray (t1 := 13) (t2 := 9) rfl rfl rfl (by decide) ?_
  refine ev_ic f_X12_isTray (nx := 10) (v := 1) rfl (by decide) rfl ?_
  refine ev_jmp f_X12_isTray (nx := 14) rfl rfl rfl ?_
  refine ev_retK1 f_X12_isTray rfl rfl rfl ?_
  refine ev_f f_X12_wrongPlace (t1 := 7) (t2 := 11) rfl rfl rfl (by decide) ?_
  refine ev_loc f_X12_wrongPlace (nx := 12) rfl rfl rfl rfl ?_
  refine ev_getR f_X12_wrongPlace (nx := 15) rfl (hW.s rfl) rfl rfl (hW.r rfl) rfl rfl ?_
  refine ev_loc f_X12_wrongPlace (nx := 16) rfl rfl rfl rfl ?_
  refine ev_ialdv f_X12_wrongPlace (nx := 17) (j := 3) (w := -1) rfl (hW.s rfl) (by decide) (by decide) (by decide) (wi_73_3 (gi := gi) hR) rfl ?_
  refine ev_ic f_X12_wrongPlace (nx := 18) (v := -1) rfl (by decide) rfl ?_
  refine ev_t f_X12_wrongPlace (t1 := 21) (t2 := 25) rfl rfl rfl (by decide) ?_
  refine ev_ic f_X12_wrongPlace (nx := 22) (v := 2) rfl (by decide) rfl ?_
  refine ev_jmp f_X12_wrongPlace (nx := 44) rfl rfl rfl ?_
  refine ev_retK1 f_X12_wrongPlace rfl rfl rfl ?_
  refine ev_loc f_X12_write (nx := 8) (lo' := [(5, .int 2), (0, .ref 69), (1, .int 3), (2, .int ((X.2 2))), (3, .long (((((X.2 3) : Int32).toInt64 <<< ((32 : Int32).toInt64 &&& 63)) ||| (((X.2 4) : Int32).toInt64 &&& 4294967295))))]) rfl rfl rfl rfl ?_
  refine ev_loc f_X12_write (nx := 10) rfl rfl rfl rfl ?_
  refine ev_f f_X12_write (t1 := 13) (t2 := 34) rfl rfl rfl (by decide) ?_
  refine ev_loc f_X12_write (nx := 35) rfl rfl rfl rfl ?_
  refine ev_loc f_X12_write (nx := 37) rfl rfl rfl rfl ?_
  refine ev_inV2 f_X12_write (nx := 40) (lo2 := [(0, .ref 69), (1, .int 2)]) rfl rfl rfl rfl f_X12_is (hW.s rfl) rfl rfl rfl rfl rfl ?_
  refine ev_loc f_X12_is (nx := 1) rfl rfl rfl rfl ?_
  refine ev_loc f_X12_is (nx := 2) rfl rfl rfl rfl ?_
  refine ev_putI f_X12_is (nx := 5) rfl (hW.s rfl) rfl rfl rfl ?_
  refine ev_loc f_X12_is (nx := 6) rfl rfl rfl rfl ?_
  refine ev_f f_X12_is (t1 := 9) (t2 := 13) rfl rfl rfl (by decide) ?_
  refine ev_ic f_X12_is (nx := 14) (v := 0) rfl (by decide) rfl ?_
  refine ev_retK1 f_X12_is rfl rfl rfl ?_
  refine ev_retK1 f_X12_write rfl rfl rfl ?_
  refine ev_t f_L_law (t1 := 1628) (t2 := 399) rfl rfl rfl (by decide) ?_
  refine ev_incv f_L_law (nx := 1631) (c := 6) (w := 6) (lo' := [(3, .int 6), (2, .ref 69), (1, .ref 0), (0, .retAddr 30)]) rfl rfl (by decide) (by decide) rfl rfl rfl ?_
  refine ev_jmp f_L_law (nx := 18) rfl rfl rfl ?_
  refine ev_loc f_L_law (nx := 19) rfl rfl rfl rfl ?_
  refine ev_loc f_L_law (nx := 20) rfl rfl rfl rfl ?_
  refine ev_alenX f_L_law (nx := 21) rfl hX rfl ?_
  refine ev_bp f_L_law (nx := 23) (v := 6) rfl (by decide) rfl ?_
  refine ev_aluvI f_L_law (nx := 24) (w := 0) rfl rfl rfl (by decide) rfl ?_
  refine ev_t f_L_law (t1 := 1634) (t2 := 27) rfl rfl rfl (by decide) ?_
  refine ev_ic f_L_law (nx := 1635) (v := 1) rfl (by decide) rfl ?_
  refine ev_ret f_L_law rfl rfl rfl ?_
  exact ⟨rfl, hz⟩
set_option maxRecDepth 20000 in
theorem pc_5_3 (hR : x_R W1 (sh, gi, gl, gr)) (hX : X.1 = 6) (e1 : X.2 1 = 3) : x_Ev X 1000 n_L_law 401 [(3, .int 0), (2, .ref 69), (1, .ref 0), (0, .retAddr 30)] [] (sh, gi, gl, gr) x_P1 := by
  have hW := W1_WF hR
  have hz := W1_hz hR
  refine ev_loc f_L_law (nx := 402) rfl rfl rfl rfl ?_
  refine ev_loc f_L_law (nx := 403) rfl rfl rfl rfl ?_
  refine ev_loc f_L_law (nx := 404) rfl rfl rfl rfl ?_
  refine ev_ic f_L_law (nx := 405) (v := 1) rfl (by decide) rfl ?_
  refine ev_aluvI f_L_law (nx := 406) (w := 1) rfl rfl rfl (by decide) rfl ?_
  refine ev_scrv f_L_law (nx := 407) (j := 1) (w := 3) rfl hX (by decide) (by decide) (by decide) e1 rfl ?_
  refine ev_loc f_L_law (nx := 408) rfl rfl rfl rfl ?_
  refine ev_loc f_L_law (nx := 409) rfl rfl rfl rfl ?_
  refine ev_ic f_L_law (nx := 410) (v := 2) rfl (by decide) rfl ?_
  refine ev_aluvI f_L_law (nx := 411) (w := 2) rfl rfl rfl (by decide) rfl ?_
  refine ev_scr f_L_law (nx := 412) (j := 2) rfl hX (by decide) (by decide) (by decide) rfl ?_
  refine ev_inV3 f_L_law (nx := 415) (lo2 := [(0, .ref 0), (1, .int 3), (2, .int ((X.2 2)))]) rfl rfl rfl rfl f_X11_read (hW.s rfl) rfl rfl rfl rfl rfl ?_
  refine ev_loc f_X11_read (nx := 1) rfl rfl rfl rfl ?_
  refine ev_loc f_X11_read (nx := 2) rfl rfl rfl rfl ?_
  refine ev_loc f_X11_read (nx := 3) rfl rfl rfl rfl ?_
  refine ev_inV3 f_X11_read (nx := 6) (lo2 := [(0, .ref 0), (1, .int 3), (2, .int ((X.2 2)))]) rfl rfl rfl rfl f_X11_wrongPlace (hW.s rfl) rfl rfl rfl rfl rfl ?_
  refine ev_loc f_X11_wrongPlace (nx := 1) rfl rfl rfl rfl ?_
  refine ev_loc f_X11_wrongPlace (nx := 2) rfl rfl rfl rfl ?_
  refine ev_inV2 f_X11_wrongPlace (nx := 5) (lo2 := [(0, .ref 0), (1, .int 3)]) rfl rfl rfl rfl f_X11_isTray (hW.s rfl) rfl rfl rfl rfl rfl ?_
  refine ev_loc f_X11_isTray (nx := 1) rfl rfl rfl rfl ?_
  refine ev_f f_X11_isTray (t1 := 26) (t2 := 4) rfl rfl rfl (by decide) ?_
  refine ev_loc f_X11_isTray (nx := 5) rfl rfl rfl rfl ?_
  refine ev_loc f_X11_isTray (nx := 6) rfl rfl rfl rfl ?_
  refine ev_getR f_X11_isTray (nx := 9) rfl (hW.s rfl) rfl rfl (hW.r rfl) rfl rfl ?_
  refine ev_alenv f_X11_isTray (nx := 10) (w := 4) rfl (hW.s rfl) rfl (by decide) rfl ?_
  refine ev_f f_X11_isTray (t1 := 26) (t2 := 13) rfl rfl rfl (by decide) ?_
  refine ev_loc f_X11_isTray (nx := 14) rfl rfl rfl rfl ?_
  refine ev_getR f_X11_isTray (nx := 17) rfl (hW.s rfl) rfl rfl (hW.r rfl) rfl rfl ?_
  refine ev_loc f_X11_isTray (nx := 18) rfl rfl rfl rfl ?_
  refine ev_aaldv f_X11_isTray (nx := 19) (j := 3) rfl (hW.s rfl) rfl (by decide) (by decide) (by decide) (hW.r rfl) rfl rfl ?_
  refine ev_jmp f_X11_isTray (nx := 22) rfl rfl rfl ?_
  refine ev_ic f_X11_isTray (nx := 23) (v := 1) rfl (by decide) rfl ?_
  refine ev_jmp f_X11_isTray (nx := 27) rfl rfl rfl ?_
  refine ev_retK1 f_X11_isTray rfl rfl rfl ?_
  refine ev_f f_X11_wrongPlace (t1 := 8) (t2 := 10) rfl rfl rfl (by decide) ?_
  refine ev_loc f_X11_wrongPlace (nx := 11) rfl rfl rfl rfl ?_
  refine ev_getR f_X11_wrongPlace (nx := 14) rfl (hW.s rfl) rfl rfl (hW.r rfl) rfl rfl ?_
  refine ev_loc f_X11_wrongPlace (nx := 15) rfl rfl rfl rfl ?_
  refine ev_aaldv f_X11_wrongPlace (nx := 16) (j := 3) rfl (hW.s rfl) rfl (by decide) (by decide) (by decide) (hW.r rfl) rfl rfl ?_
  refine ev_inV1 f_X11_wrongPlace (nx := 19) (lo2 := [(0, .ref 67)]) rfl rfl rfl rfl f_X10_isMissing (hW.s rfl) rfl rfl rfl rfl rfl ?_
  refine ev_loc f_X10_isMissing (nx := 1) rfl rfl rfl rfl ?_
  refine ev_gvI f_X10_isMissing (nx := 4) (w := -1) rfl (hW.s rfl) rfl rfl (wi_67_2 (gi := gi) hR) rfl ?_
  refine ev_ic f_X10_isMissing (nx := 5) (v := -1) rfl (by decide) rfl ?_
  refine ev_t f_X10_isMissing (t1 := 8) (t2 := 12) rfl rfl rfl (by decide) ?_
  refine ev_ic f_X10_isMissing (nx := 9) (v := 1) rfl (by decide) rfl ?_
  refine ev_jmp f_X10_isMissing (nx := 13) rfl rfl rfl ?_
  refine ev_retK1 f_X10_isMissing rfl rfl rfl ?_
  refine ev_f f_X11_wrongPlace (t1 := 24) (t2 := 22) rfl rfl rfl (by decide) ?_
  refine ev_ic f_X11_wrongPlace (nx := 23) (v := 2) rfl (by decide) rfl ?_
  refine ev_retK1 f_X11_wrongPlace rfl rfl rfl ?_
  refine ev_loc f_X11_read (nx := 7) (lo' := [(3, .int 2), (0, .ref 0), (1, .int 3), (2, .int ((X.2 2)))]) rfl rfl rfl rfl ?_
  refine ev_loc f_X11_read (nx := 8) rfl rfl rfl rfl ?_
  refine ev_f f_X11_read (t1 := 18) (t2 := 11) rfl rfl rfl (by decide) ?_
  refine ev_loc f_X11_read (nx := 12) rfl rfl rfl rfl ?_
  refine ev_loc f_X11_read (nx := 13) rfl rfl rfl rfl ?_
  refine ev_inV2 f_X11_read (nx := 16) (lo2 := [(0, .ref 0), (1, .int 2)]) rfl rfl rfl rfl f_X11_refuse (hW.s rfl) rfl rfl rfl rfl rfl ?_
  refine ev_loc f_X11_refuse (nx := 1) rfl rfl rfl rfl ?_
  refine ev_loc f_X11_refuse (nx := 2) rfl rfl rfl rfl ?_
  refine ev_putI f_X11_refuse (nx := 5) rfl (hW.s rfl) rfl rfl rfl ?_
  refine ev_ic f_X11_refuse (nx := 6) (v := -1) rfl (by decide) rfl ?_
  refine ev_retK1 f_X11_refuse rfl rfl rfl ?_
  refine ev_aluvL f_X11_read (nx := 17) (w := -1) rfl rfl rfl (by decide) rfl ?_
  refine ev_retK1 f_X11_read rfl rfl rfl ?_
  refine ev_loc f_L_law (nx := 416) rfl rfl rfl rfl ?_
  refine ev_loc f_L_law (nx := 417) rfl rfl rfl rfl ?_
  refine ev_loc f_L_law (nx := 418) rfl rfl rfl rfl ?_
  refine ev_ic f_L_law (nx := 419) (v := 1) rfl (by decide) rfl ?_
  refine ev_aluvI f_L_law (nx := 420) (w := 1) rfl rfl rfl (by decide) rfl ?_
  refine ev_scrv f_L_law (nx := 421) (j := 1) (w := 3) rfl hX (by decide) (by decide) (by decide) e1 rfl ?_
  refine ev_loc f_L_law (nx := 422) rfl rfl rfl rfl ?_
  refine ev_loc f_L_law (nx := 423) rfl rfl rfl rfl ?_
  refine ev_ic f_L_law (nx := 424) (v := 2) rfl (by decide) rfl ?_
  refine ev_aluvI f_L_law (nx := 425) (w := 2) rfl rfl rfl (by decide) rfl ?_
  refine ev_scr f_L_law (nx := 426) (j := 2) rfl hX (by decide) (by decide) (by decide) rfl ?_
  refine ev_inV3 f_L_law (nx := 429) (lo2 := [(0, .ref 69), (1, .int 3), (2, .int ((X.2 2)))]) rfl rfl rfl rfl f_X12_read (hW.s rfl) rfl rfl rfl rfl rfl ?_
  refine ev_loc f_X12_read (nx := 1) rfl rfl rfl rfl ?_
  refine ev_loc f_X12_read (nx := 2) rfl rfl rfl rfl ?_
  refine ev_loc f_X12_read (nx := 3) rfl rfl rfl rfl ?_
  refine ev_loc f_X12_read (nx := 4) rfl rfl rfl rfl ?_
  refine ev_inV3 f_X12_read (nx := 7) (lo2 := [(0, .ref 69), (1, .int 3), (2, .int ((X.2 2)))]) rfl rfl rfl rfl f_X12_wrongPlace (hW.s rfl) rfl rfl rfl rfl rfl ?_
  refine ev_loc f_X12_wrongPlace (nx := 1) rfl rfl rfl rfl ?_
  refine ev_inS1 f_X12_wrongPlace (nx := 4) (lo2 := [(0, .int 3)]) rfl rfl rfl rfl f_X12_isTray rfl rfl rfl rfl ?_
  refine ev_loc f_X12_isTray (nx := 1) rfl rfl rfl rfl ?_
  refine ev_f f_X12_isTray (t1 := 13) (t2 := 4) rfl rfl rfl (by decide) ?_
  refine ev_loc f_X12_isTray (nx := 5) rfl rfl rfl rfl ?_
  refine ev_ic f_X12_isTray (nx := 6) (v := 4) rfl (by decide) rfl ?_
  refine ev_f f_X12_isTray (t1 := 13) (t2 := 9) rfl rfl rfl (by decide) ?_
  refine ev_ic f_X12_isTray (nx := 10) (v := 1) rfl (by decide) rfl ?_
  refine ev_jmp f_X12_isTray (nx := 14) rfl rfl rfl ?_
  refine ev_retK1 f_X12_isTray rfl rfl rfl ?_
  refine ev_f f_X12_wrongPlace (t1 := 7) (t2 := 11) rfl rfl rfl (by decide) ?_
  refine ev_loc f_X12_wrongPlace (nx := 12) rfl rfl rfl rfl ?_
  refine ev_getR f_X12_wrongPlace (nx := 15) rfl (hW.s rfl) rfl rfl (hW.r rfl) rfl rfl ?_
  refine ev_loc f_X12_wrongPlace (nx := 16) rfl rfl rfl rfl ?_
  refine ev_ialdv f_X12_wrongPlace (nx := 17) (j := 3) (w := -1) rfl (hW.s rfl) (by decide) (by decide) (by decide) (wi_73_3 (gi := gi) hR) rfl ?_
  refine ev_ic f_X12_wrongPlace (nx := 18) (v := -1) rfl (by decide) rfl ?_
  refine ev_t f_X12_wrongPlace (t1 := 21) (t2 := 25) rfl rfl rfl (by decide) ?_
  refine ev_ic f_X12_wrongPlace (nx := 22) (v := 2) rfl (by decide) rfl ?_
  refine ev_jmp f_X12_wrongPlace (nx := 44) rfl rfl rfl ?_
  refine ev_retK1 f_X12_wrongPlace rfl rfl rfl ?_
  refine ev_putI f_X12_read (nx := 10) rfl (hW.s rfl) rfl rfl rfl ?_
  refine ev_loc f_X12_read (nx := 11) rfl rfl rfl rfl ?_
  refine ev_gvI f_X12_read (nx := 14) (w := 2) rfl (hW.s rfl) rfl rfl rfl rfl ?_
  refine ev_f f_X12_read (t1 := 23) (t2 := 17) rfl rfl rfl (by decide) ?_
  refine ev_ldL f_X12_read (nx := 20) (v := -1) rfl (by decide) rfl ?_
  refine ev_jmp f_X12_read (nx := 34) rfl rfl rfl ?_
  refine ev_retK1 f_X12_read rfl rfl rfl ?_
  refine ev_aluvI f_L_law (nx := 430) (w := 0) rfl rfl rfl (by decide) rfl ?_
  refine ev_t f_L_law (t1 := 1628) (t2 := 433) rfl rfl rfl (by decide) ?_
  refine ev_incv f_L_law (nx := 1631) (c := 6) (w := 6) (lo' := [(3, .int 6), (2, .ref 69), (1, .ref 0), (0, .retAddr 30)]) rfl rfl (by decide) (by decide) rfl rfl rfl ?_
  refine ev_jmp f_L_law (nx := 18) rfl rfl rfl ?_
  refine ev_loc f_L_law (nx := 19) rfl rfl rfl rfl ?_
  refine ev_loc f_L_law (nx := 20) rfl rfl rfl rfl ?_
  refine ev_alenX f_L_law (nx := 21) rfl hX rfl ?_
  refine ev_bp f_L_law (nx := 23) (v := 6) rfl (by decide) rfl ?_
  refine ev_aluvI f_L_law (nx := 24) (w := 0) rfl rfl rfl (by decide) rfl ?_
  refine ev_t f_L_law (t1 := 1634) (t2 := 27) rfl rfl rfl (by decide) ?_
  refine ev_ic f_L_law (nx := 1635) (v := 1) rfl (by decide) rfl ?_
  refine ev_ret f_L_law rfl rfl rfl ?_
  exact ⟨rfl, hz⟩
set_option maxRecDepth 20000 in
theorem pc_6_3_l (hR : x_R W1 (sh, gi, gl, gr)) (hX : X.1 = 6) (e1 : X.2 1 = 3) (l3 : -2147483648 ≤ (X.2 3).toInt) (u3 : (X.2 3).toInt ≤ -1) : x_Ev X 1000 n_L_law 435 [(3, .int 0), (2, .ref 69), (1, .ref 0), (0, .retAddr 30)] [] (sh, gi, gl, gr) x_P1 := by
  have hW := W1_WF hR
  have hz := W1_hz hR
  refine ev_loc f_L_law (nx := 436) rfl rfl rfl rfl ?_
  refine ev_loc f_L_law (nx := 437) rfl rfl rfl rfl ?_
  refine ev_loc f_L_law (nx := 438) rfl rfl rfl rfl ?_
  refine ev_ic f_L_law (nx := 439) (v := 1) rfl (by decide) rfl ?_
  refine ev_aluvI f_L_law (nx := 440) (w := 1) rfl rfl rfl (by decide) rfl ?_
  refine ev_scrv f_L_law (nx := 441) (j := 1) (w := 3) rfl hX (by decide) (by decide) (by decide) e1 rfl ?_
  refine ev_loc f_L_law (nx := 442) rfl rfl rfl rfl ?_
  refine ev_loc f_L_law (nx := 443) rfl rfl rfl rfl ?_
  refine ev_ic f_L_law (nx := 444) (v := 2) rfl (by decide) rfl ?_
  refine ev_aluvI f_L_law (nx := 445) (w := 2) rfl rfl rfl (by decide) rfl ?_
  refine ev_scr f_L_law (nx := 446) (j := 2) rfl hX (by decide) (by decide) (by decide) rfl ?_
  refine ev_loc f_L_law (nx := 447) rfl rfl rfl rfl ?_
  refine ev_loc f_L_law (nx := 448) rfl rfl rfl rfl ?_
  refine ev_ic f_L_law (nx := 449) (v := 3) rfl (by decide) rfl ?_
  refine ev_aluvI f_L_law (nx := 450) (w := 3) rfl rfl rfl (by decide) rfl ?_
  refine ev_scr f_L_law (nx := 451) (j := 3) rfl hX (by decide) (by decide) (by decide) rfl ?_
  refine ev_loc f_L_law (nx := 452) rfl rfl rfl rfl ?_
  refine ev_loc f_L_law (nx := 453) rfl rfl rfl rfl ?_
  refine ev_ic f_L_law (nx := 454) (v := 4) rfl (by decide) rfl ?_
  refine ev_aluvI f_L_law (nx := 455) (w := 4) rfl rfl rfl (by decide) rfl ?_
  refine ev_scr f_L_law (nx := 456) (j := 4) rfl hX (by decide) (by decide) (by decide) rfl ?_
  refine ev_loc f_L_law (nx := 457) rfl rfl rfl rfl ?_
  refine ev_loc f_L_law (nx := 458) rfl rfl rfl rfl ?_
  refine ev_ic f_L_law (nx := 459) (v := 5) rfl (by decide) rfl ?_
  refine ev_aluvI f_L_law (nx := 460) (w := 5) rfl rfl rfl (by decide) rfl ?_
  refine ev_scr f_L_law (nx := 461) (j := 5) rfl hX (by decide) (by decide) (by decide) rfl ?_
  refine ev_inV6 f_L_law (nx := 464) (lo2 := [(0, .ref 0), (1, .int 3), (2, .int ((X.2 2))), (3, .int ((X.2 3))), (4, .int ((X.2 4))), (5, .int ((X.2 5)))]) rfl rfl rfl rfl f_X11_pour (hW.s rfl) rfl rfl rfl rfl rfl ?_
  refine ev_loc f_X11_pour (nx := 1) rfl rfl rfl rfl ?_
  refine ev_loc f_X11_pour (nx := 2) rfl rfl rfl rfl ?_
  refine ev_inV2 f_X11_pour (nx := 5) (lo2 := [(0, .ref 0), (1, .int 3)]) rfl rfl rfl rfl f_X11_isTray (hW.s rfl) rfl rfl rfl rfl rfl ?_
  refine ev_loc f_X11_isTray (nx := 1) rfl rfl rfl rfl ?_
  refine ev_f f_X11_isTray (t1 := 26) (t2 := 4) rfl rfl rfl (by decide) ?_
  refine ev_loc f_X11_isTray (nx := 5) rfl rfl rfl rfl ?_
  refine ev_loc f_X11_isTray (nx := 6) rfl rfl rfl rfl ?_
  refine ev_getR f_X11_isTray (nx := 9) rfl (hW.s rfl) rfl rfl (hW.r rfl) rfl rfl ?_
  refine ev_alenv f_X11_isTray (nx := 10) (w := 4) rfl (hW.s rfl) rfl (by decide) rfl ?_
  refine ev_f f_X11_isTray (t1 := 26) (t2 := 13) rfl rfl rfl (by decide) ?_
  refine ev_loc f_X11_isTray (nx := 14) rfl rfl rfl rfl ?_
  refine ev_getR f_X11_isTray (nx := 17) rfl (hW.s rfl) rfl rfl (hW.r rfl) rfl rfl ?_
  refine ev_loc f_X11_isTray (nx := 18) rfl rfl rfl rfl ?_
  refine ev_aaldv f_X11_isTray (nx := 19) (j := 3) rfl (hW.s rfl) rfl (by decide) (by decide) (by decide) (hW.r rfl) rfl rfl ?_
  refine ev_jmp f_X11_isTray (nx := 22) rfl rfl rfl ?_
  refine ev_ic f_X11_isTray (nx := 23) (v := 1) rfl (by decide) rfl ?_
  refine ev_jmp f_X11_isTray (nx := 27) rfl rfl rfl ?_
  refine ev_retK1 f_X11_isTray rfl rfl rfl ?_
  refine ev_f f_X11_pour (t1 := 30) (t2 := 8) rfl rfl rfl (by decide) ?_
  refine ev_loc f_X11_pour (nx := 9) rfl rfl rfl rfl ?_
  refine ev_loc f_X11_pour (nx := 10) rfl rfl rfl rfl ?_
  refine ev_inV2 f_X11_pour (nx := 13) (lo2 := [(0, .ref 0), (1, .int ((X.2 3)))]) rfl rfl rfl rfl f_X11_isTray (hW.s rfl) rfl rfl rfl rfl rfl ?_
  refine ev_loc f_X11_isTray (nx := 1) rfl rfl rfl rfl ?_
  refine ev_t f_X11_isTray (t1 := 26) (t2 := 4) rfl rfl rfl (by rw [Int32.lt_iff_toInt_lt, (by decide : (0 : Int32).toInt = 0)]; omega) ?_
  refine ev_ic f_X11_isTray (nx := 27) (v := 0) rfl (by decide) rfl ?_
  refine ev_retK1 f_X11_isTray rfl rfl rfl ?_
  refine ev_t f_X11_pour (t1 := 30) (t2 := 16) rfl rfl rfl (by decide) ?_
  refine ev_loc f_X11_pour (nx := 31) rfl rfl rfl rfl ?_
  refine ev_ic f_X11_pour (nx := 32) (v := 1) rfl (by decide) rfl ?_
  refine ev_inV2 f_X11_pour (nx := 35) (lo2 := [(0, .ref 0), (1, .int 1)]) rfl rfl rfl rfl f_X11_deny (hW.s rfl) rfl rfl rfl rfl rfl ?_
  refine ev_loc f_X11_deny (nx := 1) rfl rfl rfl rfl ?_
  refine ev_loc f_X11_deny (nx := 2) rfl rfl rfl rfl ?_
  refine ev_putI f_X11_deny (nx := 5) rfl (hW.s rfl) rfl rfl rfl ?_
  refine ev_ic f_X11_deny (nx := 6) (v := 0) rfl (by decide) rfl ?_
  refine ev_retK1 f_X11_deny rfl rfl rfl ?_
  refine ev_retK1 f_X11_pour rfl rfl rfl ?_
  refine ev_loc f_L_law (nx := 465) rfl rfl rfl rfl ?_
  refine ev_loc f_L_law (nx := 466) rfl rfl rfl rfl ?_
  refine ev_loc f_L_law (nx := 467) rfl rfl rfl rfl ?_
  refine ev_ic f_L_law (nx := 468) (v := 1) rfl (by decide) rfl ?_
  refine ev_aluvI f_L_law (nx := 469) (w := 1) rfl rfl rfl (by decide) rfl ?_
  refine ev_scrv f_L_law (nx := 470) (j := 1) (w := 3) rfl hX (by decide) (by decide) (by decide) e1 rfl ?_
  refine ev_loc f_L_law (nx := 471) rfl rfl rfl rfl ?_
  refine ev_loc f_L_law (nx := 472) rfl rfl rfl rfl ?_
  refine ev_ic f_L_law (nx := 473) (v := 2) rfl (by decide) rfl ?_
  refine ev_aluvI f_L_law (nx := 474) (w := 2) rfl rfl rfl (by decide) rfl ?_
  refine ev_scr f_L_law (nx := 475) (j := 2) rfl hX (by decide) (by decide) (by decide) rfl ?_
  refine ev_loc f_L_law (nx := 476) rfl rfl rfl rfl ?_
  refine ev_loc f_L_law (nx := 477) rfl rfl rfl rfl ?_
  refine ev_ic f_L_law (nx := 478) (v := 3) rfl (by decide) rfl ?_
  refine ev_aluvI f_L_law (nx := 479) (w := 3) rfl rfl rfl (by decide) rfl ?_
  refine ev_scr f_L_law (nx := 480) (j := 3) rfl hX (by decide) (by decide) (by decide) rfl ?_
  refine ev_loc f_L_law (nx := 481) rfl rfl rfl rfl ?_
  refine ev_loc f_L_law (nx := 482) rfl rfl rfl rfl ?_
  refine ev_ic f_L_law (nx := 483) (v := 4) rfl (by decide) rfl ?_
  refine ev_aluvI f_L_law (nx := 484) (w := 4) rfl rfl rfl (by decide) rfl ?_
  refine ev_scr f_L_law (nx := 485) (j := 4) rfl hX (by decide) (by decide) (by decide) rfl ?_
  refine ev_loc f_L_law (nx := 486) rfl rfl rfl rfl ?_
  refine ev_loc f_L_law (nx := 487) rfl rfl rfl rfl ?_
  refine ev_ic f_L_law (nx := 488) (v := 5) rfl (by decide) rfl ?_
  refine ev_aluvI f_L_law (nx := 489) (w := 5) rfl rfl rfl (by decide) rfl ?_
  refine ev_scr f_L_law (nx := 490) (j := 5) rfl hX (by decide) (by decide) (by decide) rfl ?_
  refine ev_inV6 f_L_law (nx := 493) (lo2 := [(0, .ref 69), (1, .int 3), (2, .int ((X.2 2))), (3, .int ((X.2 3))), (4, .int ((X.2 4))), (5, .int ((X.2 5)))]) rfl rfl rfl rfl f_X12_pour (hW.s rfl) rfl rfl rfl rfl rfl ?_
  refine ev_loc f_X12_pour (nx := 1) rfl rfl rfl rfl ?_
  refine ev_inS1 f_X12_pour (nx := 4) (lo2 := [(0, .int 3)]) rfl rfl rfl rfl f_X12_isTray rfl rfl rfl rfl ?_
  refine ev_loc f_X12_isTray (nx := 1) rfl rfl rfl rfl ?_
  refine ev_f f_X12_isTray (t1 := 13) (t2 := 4) rfl rfl rfl (by decide) ?_
  refine ev_loc f_X12_isTray (nx := 5) rfl rfl rfl rfl ?_
  refine ev_ic f_X12_isTray (nx := 6) (v := 4) rfl (by decide) rfl ?_
  refine ev_f f_X12_isTray (t1 := 13) (t2 := 9) rfl rfl rfl (by decide) ?_
  refine ev_ic f_X12_isTray (nx := 10) (v := 1) rfl (by decide) rfl ?_
  refine ev_jmp f_X12_isTray (nx := 14) rfl rfl rfl ?_
  refine ev_retK1 f_X12_isTray rfl rfl rfl ?_
  refine ev_f f_X12_pour (t1 := 28) (t2 := 7) rfl rfl rfl (by decide) ?_
  refine ev_loc f_X12_pour (nx := 8) rfl rfl rfl rfl ?_
  refine ev_inS1 f_X12_pour (nx := 11) (lo2 := [(0, .int ((X.2 3)))]) rfl rfl rfl rfl f_X12_isTray rfl rfl rfl rfl ?_
  refine ev_loc f_X12_isTray (nx := 1) rfl rfl rfl rfl ?_
  refine ev_t f_X12_isTray (t1 := 13) (t2 := 4) rfl rfl rfl (by rw [Int32.lt_iff_toInt_lt, (by decide : (0 : Int32).toInt = 0)]; omega) ?_
  refine ev_ic f_X12_isTray (nx := 14) (v := 0) rfl (by decide) rfl ?_
  refine ev_retK1 f_X12_isTray rfl rfl rfl ?_
  refine ev_t f_X12_pour (t1 := 28) (t2 := 14) rfl rfl rfl (by decide) ?_
  refine ev_loc f_X12_pour (nx := 29) rfl rfl rfl rfl ?_
  refine ev_ic f_X12_pour (nx := 30) (v := 1) rfl (by decide) rfl ?_
  refine ev_inV2 f_X12_pour (nx := 33) (lo2 := [(0, .ref 69), (1, .int 1)]) rfl rfl rfl rfl f_X12_is (hW.s rfl) rfl rfl rfl rfl rfl ?_
  refine ev_loc f_X12_is (nx := 1) rfl rfl rfl rfl ?_
  refine ev_loc f_X12_is (nx := 2) rfl rfl rfl rfl ?_
  refine ev_putI f_X12_is (nx := 5) rfl (hW.s rfl) rfl rfl rfl ?_
  refine ev_loc f_X12_is (nx := 6) rfl rfl rfl rfl ?_
  refine ev_f f_X12_is (t1 := 9) (t2 := 13) rfl rfl rfl (by decide) ?_
  refine ev_ic f_X12_is (nx := 14) (v := 0) rfl (by decide) rfl ?_
  refine ev_retK1 f_X12_is rfl rfl rfl ?_
  refine ev_retK1 f_X12_pour rfl rfl rfl ?_
  refine ev_t f_L_law (t1 := 1628) (t2 := 496) rfl rfl rfl (by decide) ?_
  refine ev_incv f_L_law (nx := 1631) (c := 6) (w := 6) (lo' := [(3, .int 6), (2, .ref 69), (1, .ref 0), (0, .retAddr 30)]) rfl rfl (by decide) (by decide) rfl rfl rfl ?_
  refine ev_jmp f_L_law (nx := 18) rfl rfl rfl ?_
  refine ev_loc f_L_law (nx := 19) rfl rfl rfl rfl ?_
  refine ev_loc f_L_law (nx := 20) rfl rfl rfl rfl ?_
  refine ev_alenX f_L_law (nx := 21) rfl hX rfl ?_
  refine ev_bp f_L_law (nx := 23) (v := 6) rfl (by decide) rfl ?_
  refine ev_aluvI f_L_law (nx := 24) (w := 0) rfl rfl rfl (by decide) rfl ?_
  refine ev_t f_L_law (t1 := 1634) (t2 := 27) rfl rfl rfl (by decide) ?_
  refine ev_ic f_L_law (nx := 1635) (v := 1) rfl (by decide) rfl ?_
  refine ev_ret f_L_law rfl rfl rfl ?_
  exact ⟨rfl, hz⟩
set_option maxRecDepth 20000 in
theorem pc_6_3_h (hR : x_R W1 (sh, gi, gl, gr)) (hX : X.1 = 6) (e1 : X.2 1 = 3) (l3 : 4 ≤ (X.2 3).toInt) (u3 : (X.2 3).toInt ≤ 2147483647) : x_Ev X 1000 n_L_law 435 [(3, .int 0), (2, .ref 69), (1, .ref 0), (0, .retAddr 30)] [] (sh, gi, gl, gr) x_P1 := by
  have hW := W1_WF hR
  have hz := W1_hz hR
  refine ev_loc f_L_law (nx := 436) rfl rfl rfl rfl ?_
  refine ev_loc f_L_law (nx := 437) rfl rfl rfl rfl ?_
  refine ev_loc f_L_law (nx := 438) rfl rfl rfl rfl ?_
  refine ev_ic f_L_law (nx := 439) (v := 1) rfl (by decide) rfl ?_
  refine ev_aluvI f_L_law (nx := 440) (w := 1) rfl rfl rfl (by decide) rfl ?_
  refine ev_scrv f_L_law (nx := 441) (j := 1) (w := 3) rfl hX (by decide) (by decide) (by decide) e1 rfl ?_
  refine ev_loc f_L_law (nx := 442) rfl rfl rfl rfl ?_
  refine ev_loc f_L_law (nx := 443) rfl rfl rfl rfl ?_
  refine ev_ic f_L_law (nx := 444) (v := 2) rfl (by decide) rfl ?_
  refine ev_aluvI f_L_law (nx := 445) (w := 2) rfl rfl rfl (by decide) rfl ?_
  refine ev_scr f_L_law (nx := 446) (j := 2) rfl hX (by decide) (by decide) (by decide) rfl ?_
  refine ev_loc f_L_law (nx := 447) rfl rfl rfl rfl ?_
  refine ev_loc f_L_law (nx := 448) rfl rfl rfl rfl ?_
  refine ev_ic f_L_law (nx := 449) (v := 3) rfl (by decide) rfl ?_
  refine ev_aluvI f_L_law (nx := 450) (w := 3) rfl rfl rfl (by decide) rfl ?_
  refine ev_scr f_L_law (nx := 451) (j := 3) rfl hX (by decide) (by decide) (by decide) rfl ?_
  refine ev_loc f_L_law (nx := 452) rfl rfl rfl rfl ?_
  refine ev_loc f_L_law (nx := 453) rfl rfl rfl rfl ?_
  refine ev_ic f_L_law (nx := 454) (v := 4) rfl (by decide) rfl ?_
  refine ev_aluvI f_L_law (nx := 455) (w := 4) rfl rfl rfl (by decide) rfl ?_
  refine ev_scr f_L_law (nx := 456) (j := 4) rfl hX (by decide) (by decide) (by decide) rfl ?_
  refine ev_loc f_L_law (nx := 457) rfl rfl rfl rfl ?_
  refine ev_loc f_L_law (nx := 458) rfl rfl rfl rfl ?_
  refine ev_ic f_L_law (nx := 459) (v := 5) rfl (by decide) rfl ?_
  refine ev_aluvI f_L_law (nx := 460) (w := 5) rfl rfl rfl (by decide) rfl ?_
  refine ev_scr f_L_law (nx := 461) (j := 5) rfl hX (by decide) (by decide) (by decide) rfl ?_
  refine ev_inV6 f_L_law (nx := 464) (lo2 := [(0, .ref 0), (1, .int 3), (2, .int ((X.2 2))), (3, .int ((X.2 3))), (4, .int ((X.2 4))), (5, .int ((X.2 5)))]) rfl rfl rfl rfl f_X11_pour (hW.s rfl) rfl rfl rfl rfl rfl ?_
  refine ev_loc f_X11_pour (nx := 1) rfl rfl rfl rfl ?_
  refine ev_loc f_X11_pour (nx := 2) rfl rfl rfl rfl ?_
  refine ev_inV2 f_X11_pour (nx := 5) (lo2 := [(0, .ref 0), (1, .int 3)]) rfl rfl rfl rfl f_X11_isTray (hW.s rfl) rfl rfl rfl rfl rfl ?_
  refine ev_loc f_X11_isTray (nx := 1) rfl rfl rfl rfl ?_
  refine ev_f f_X11_isTray (t1 := 26) (t2 := 4) rfl rfl rfl (by decide) ?_
  refine ev_loc f_X11_isTray (nx := 5) rfl rfl rfl rfl ?_
  refine ev_loc f_X11_isTray (nx := 6) rfl rfl rfl rfl ?_
  refine ev_getR f_X11_isTray (nx := 9) rfl (hW.s rfl) rfl rfl (hW.r rfl) rfl rfl ?_
  refine ev_alenv f_X11_isTray (nx := 10) (w := 4) rfl (hW.s rfl) rfl (by decide) rfl ?_
  refine ev_f f_X11_isTray (t1 := 26) (t2 := 13) rfl rfl rfl (by decide) ?_
  refine ev_loc f_X11_isTray (nx := 14) rfl rfl rfl rfl ?_
  refine ev_getR f_X11_isTray (nx := 17) rfl (hW.s rfl) rfl rfl (hW.r rfl) rfl rfl ?_
  refine ev_loc f_X11_isTray (nx := 18) rfl rfl rfl rfl ?_
  refine ev_aaldv f_X11_isTray (nx := 19) (j := 3) rfl (hW.s rfl) rfl (by decide) (by decide) (by decide) (hW.r rfl) rfl rfl ?_
  refine ev_jmp f_X11_isTray (nx := 22) rfl rfl rfl ?_
  refine ev_ic f_X11_isTray (nx := 23) (v := 1) rfl (by decide) rfl ?_
  refine ev_jmp f_X11_isTray (nx := 27) rfl rfl rfl ?_
  refine ev_retK1 f_X11_isTray rfl rfl rfl ?_
  refine ev_f f_X11_pour (t1 := 30) (t2 := 8) rfl rfl rfl (by decide) ?_
  refine ev_loc f_X11_pour (nx := 9) rfl rfl rfl rfl ?_
  refine ev_loc f_X11_pour (nx := 10) rfl rfl rfl rfl ?_
  refine ev_inV2 f_X11_pour (nx := 13) (lo2 := [(0, .ref 0), (1, .int ((X.2 3)))]) rfl rfl rfl rfl f_X11_isTray (hW.s rfl) rfl rfl rfl rfl rfl ?_
  refine ev_loc f_X11_isTray (nx := 1) rfl rfl rfl rfl ?_
  refine ev_f f_X11_isTray (t1 := 26) (t2 := 4) rfl rfl rfl (by rw [Int32.lt_iff_toInt_lt, (by decide : (0 : Int32).toInt = 0)]; omega) ?_
  refine ev_loc f_X11_isTray (nx := 5) rfl rfl rfl rfl ?_
  refine ev_loc f_X11_isTray (nx := 6) rfl rfl rfl rfl ?_
  refine ev_getR f_X11_isTray (nx := 9) rfl (hW.s rfl) rfl rfl (hW.r rfl) rfl rfl ?_
  refine ev_alenv f_X11_isTray (nx := 10) (w := 4) rfl (hW.s rfl) rfl (by decide) rfl ?_
  refine ev_t f_X11_isTray (t1 := 26) (t2 := 13) rfl rfl rfl (by rw [Int32.le_iff_toInt_le, (by decide : (4 : Int32).toInt = 4)]; omega) ?_
  refine ev_ic f_X11_isTray (nx := 27) (v := 0) rfl (by decide) rfl ?_
  refine ev_retK1 f_X11_isTray rfl rfl rfl ?_
  refine ev_t f_X11_pour (t1 := 30) (t2 := 16) rfl rfl rfl (by decide) ?_
  refine ev_loc f_X11_pour (nx := 31) rfl rfl rfl rfl ?_
  refine ev_ic f_X11_pour (nx := 32) (v := 1) rfl (by decide) rfl ?_
  refine ev_inV2 f_X11_pour (nx := 35) (lo2 := [(0, .ref 0), (1, .int 1)]) rfl rfl rfl rfl f_X11_deny (hW.s rfl) rfl rfl rfl rfl rfl ?_
  refine ev_loc f_X11_deny (nx := 1) rfl rfl rfl rfl ?_
  refine ev_loc f_X11_deny (nx := 2) rfl rfl rfl rfl ?_
  refine ev_putI f_X11_deny (nx := 5) rfl (hW.s rfl) rfl rfl rfl ?_
  refine ev_ic f_X11_deny (nx := 6) (v := 0) rfl (by decide) rfl ?_
  refine ev_retK1 f_X11_deny rfl rfl rfl ?_
  refine ev_retK1 f_X11_pour rfl rfl rfl ?_
  refine ev_loc f_L_law (nx := 465) rfl rfl rfl rfl ?_
  refine ev_loc f_L_law (nx := 466) rfl rfl rfl rfl ?_
  refine ev_loc f_L_law (nx := 467) rfl rfl rfl rfl ?_
  refine ev_ic f_L_law (nx := 468) (v := 1) rfl (by decide) rfl ?_
  refine ev_aluvI f_L_law (nx := 469) (w := 1) rfl rfl rfl (by decide) rfl ?_
  refine ev_scrv f_L_law (nx := 470) (j := 1) (w := 3) rfl hX (by decide) (by decide) (by decide) e1 rfl ?_
  refine ev_loc f_L_law (nx := 471) rfl rfl rfl rfl ?_
  refine ev_loc f_L_law (nx := 472) rfl rfl rfl rfl ?_
  refine ev_ic f_L_law (nx := 473) (v := 2) rfl (by decide) rfl ?_
  refine ev_aluvI f_L_law (nx := 474) (w := 2) rfl rfl rfl (by decide) rfl ?_
  refine ev_scr f_L_law (nx := 475) (j := 2) rfl hX (by decide) (by decide) (by decide) rfl ?_
  refine ev_loc f_L_law (nx := 476) rfl rfl rfl rfl ?_
  refine ev_loc f_L_law (nx := 477) rfl rfl rfl rfl ?_
  refine ev_ic f_L_law (nx := 478) (v := 3) rfl (by decide) rfl ?_
  refine ev_aluvI f_L_law (nx := 479) (w := 3) rfl rfl rfl (by decide) rfl ?_
  refine ev_scr f_L_law (nx := 480) (j := 3) rfl hX (by decide) (by decide) (by decide) rfl ?_
  refine ev_loc f_L_law (nx := 481) rfl rfl rfl rfl ?_
  refine ev_loc f_L_law (nx := 482) rfl rfl rfl rfl ?_
  refine ev_ic f_L_law (nx := 483) (v := 4) rfl (by decide) rfl ?_
  refine ev_aluvI f_L_law (nx := 484) (w := 4) rfl rfl rfl (by decide) rfl ?_
  refine ev_scr f_L_law (nx := 485) (j := 4) rfl hX (by decide) (by decide) (by decide) rfl ?_
  refine ev_loc f_L_law (nx := 486) rfl rfl rfl rfl ?_
  refine ev_loc f_L_law (nx := 487) rfl rfl rfl rfl ?_
  refine ev_ic f_L_law (nx := 488) (v := 5) rfl (by decide) rfl ?_
  refine ev_aluvI f_L_law (nx := 489) (w := 5) rfl rfl rfl (by decide) rfl ?_
  refine ev_scr f_L_law (nx := 490) (j := 5) rfl hX (by decide) (by decide) (by decide) rfl ?_
  refine ev_inV6 f_L_law (nx := 493) (lo2 := [(0, .ref 69), (1, .int 3), (2, .int ((X.2 2))), (3, .int ((X.2 3))), (4, .int ((X.2 4))), (5, .int ((X.2 5)))]) rfl rfl rfl rfl f_X12_pour (hW.s rfl) rfl rfl rfl rfl rfl ?_
  refine ev_loc f_X12_pour (nx := 1) rfl rfl rfl rfl ?_
  refine ev_inS1 f_X12_pour (nx := 4) (lo2 := [(0, .int 3)]) rfl rfl rfl rfl f_X12_isTray rfl rfl rfl rfl ?_
  refine ev_loc f_X12_isTray (nx := 1) rfl rfl rfl rfl ?_
  refine ev_f f_X12_isTray (t1 := 13) (t2 := 4) rfl rfl rfl (by decide) ?_
  refine ev_loc f_X12_isTray (nx := 5) rfl rfl rfl rfl ?_
  refine ev_ic f_X12_isTray (nx := 6) (v := 4) rfl (by decide) rfl ?_
  refine ev_f f_X12_isTray (t1 := 13) (t2 := 9) rfl rfl rfl (by decide) ?_
  refine ev_ic f_X12_isTray (nx := 10) (v := 1) rfl (by decide) rfl ?_
  refine ev_jmp f_X12_isTray (nx := 14) rfl rfl rfl ?_
  refine ev_retK1 f_X12_isTray rfl rfl rfl ?_
  refine ev_f f_X12_pour (t1 := 28) (t2 := 7) rfl rfl rfl (by decide) ?_
  refine ev_loc f_X12_pour (nx := 8) rfl rfl rfl rfl ?_
  refine ev_inS1 f_X12_pour (nx := 11) (lo2 := [(0, .int ((X.2 3)))]) rfl rfl rfl rfl f_X12_isTray rfl rfl rfl rfl ?_
  refine ev_loc f_X12_isTray (nx := 1) rfl rfl rfl rfl ?_
  refine ev_f f_X12_isTray (t1 := 13) (t2 := 4) rfl rfl rfl (by rw [Int32.lt_iff_toInt_lt, (by decide : (0 : Int32).toInt = 0)]; omega) ?_
  refine ev_loc f_X12_isTray (nx := 5) rfl rfl rfl rfl ?_
  refine ev_ic f_X12_isTray (nx := 6) (v := 4) rfl (by decide) rfl ?_
  refine ev_t f_X12_isTray (t1 := 13) (t2 := 9) rfl rfl rfl (by rw [Int32.le_iff_toInt_le, (by decide : (4 : Int32).toInt = 4)]; omega) ?_
  refine ev_ic f_X12_isTray (nx := 14) (v := 0) rfl (by decide) rfl ?_
  refine ev_retK1 f_X12_isTray rfl rfl rfl ?_
  refine ev_t f_X12_pour (t1 := 28) (t2 := 14) rfl rfl rfl (by decide) ?_
  refine ev_loc f_X12_pour (nx := 29) rfl rfl rfl rfl ?_
  refine ev_ic f_X12_pour (nx := 30) (v := 1) rfl (by decide) rfl ?_
  refine ev_inV2 f_X12_pour (nx := 33) (lo2 := [(0, .ref 69), (1, .int 1)]) rfl rfl rfl rfl f_X12_is (hW.s rfl) rfl rfl rfl rfl rfl ?_
  refine ev_loc f_X12_is (nx := 1) rfl rfl rfl rfl ?_
  refine ev_loc f_X12_is (nx := 2) rfl rfl rfl rfl ?_
  refine ev_putI f_X12_is (nx := 5) rfl (hW.s rfl) rfl rfl rfl ?_
  refine ev_loc f_X12_is (nx := 6) rfl rfl rfl rfl ?_
  refine ev_f f_X12_is (t1 := 9) (t2 := 13) rfl rfl rfl (by decide) ?_
  refine ev_ic f_X12_is (nx := 14) (v := 0) rfl (by decide) rfl ?_
  refine ev_retK1 f_X12_is rfl rfl rfl ?_
  refine ev_retK1 f_X12_pour rfl rfl rfl ?_
  refine ev_t f_L_law (t1 := 1628) (t2 := 496) rfl rfl rfl (by decide) ?_
  refine ev_incv f_L_law (nx := 1631) (c := 6) (w := 6) (lo' := [(3, .int 6), (2, .ref 69), (1, .ref 0), (0, .retAddr 30)]) rfl rfl (by decide) (by decide) rfl rfl rfl ?_
  refine ev_jmp f_L_law (nx := 18) rfl rfl rfl ?_
  refine ev_loc f_L_law (nx := 19) rfl rfl rfl rfl ?_
  refine ev_loc f_L_law (nx := 20) rfl rfl rfl rfl ?_
  refine ev_alenX f_L_law (nx := 21) rfl hX rfl ?_
  refine ev_bp f_L_law (nx := 23) (v := 6) rfl (by decide) rfl ?_
  refine ev_aluvI f_L_law (nx := 24) (w := 0) rfl rfl rfl (by decide) rfl ?_
  refine ev_t f_L_law (t1 := 1634) (t2 := 27) rfl rfl rfl (by decide) ?_
  refine ev_ic f_L_law (nx := 1635) (v := 1) rfl (by decide) rfl ?_
  refine ev_ret f_L_law rfl rfl rfl ?_
  exact ⟨rfl, hz⟩
set_option maxRecDepth 20000 in
theorem pc_6_3_0 (hR : x_R W1 (sh, gi, gl, gr)) (hX : X.1 = 6) (e1 : X.2 1 = 3) (e3 : X.2 3 = 0) : x_Ev X 1000 n_L_law 435 [(3, .int 0), (2, .ref 69), (1, .ref 0), (0, .retAddr 30)] [] (sh, gi, gl, gr) x_P1 := by
  have hW := W1_WF hR
  have hz := W1_hz hR
  refine ev_loc f_L_law (nx := 436) rfl rfl rfl rfl ?_
  refine ev_loc f_L_law (nx := 437) rfl rfl rfl rfl ?_
  refine ev_loc f_L_law (nx := 438) rfl rfl rfl rfl ?_
  refine ev_ic f_L_law (nx := 439) (v := 1) rfl (by decide) rfl ?_
  refine ev_aluvI f_L_law (nx := 440) (w := 1) rfl rfl rfl (by decide) rfl ?_
  refine ev_scrv f_L_law (nx := 441) (j := 1) (w := 3) rfl hX (by decide) (by decide) (by decide) e1 rfl ?_
  refine ev_loc f_L_law (nx := 442) rfl rfl rfl rfl ?_
  refine ev_loc f_L_law (nx := 443) rfl rfl rfl rfl ?_
  refine ev_ic f_L_law (nx := 444) (v := 2) rfl (by decide) rfl ?_
  refine ev_aluvI f_L_law (nx := 445) (w := 2) rfl rfl rfl (by decide) rfl ?_
  refine ev_scr f_L_law (nx := 446) (j := 2) rfl hX (by decide) (by decide) (by decide) rfl ?_
  refine ev_loc f_L_law (nx := 447) rfl rfl rfl rfl ?_
  refine ev_loc f_L_law (nx := 448) rfl rfl rfl rfl ?_
  refine ev_ic f_L_law (nx := 449) (v := 3) rfl (by decide) rfl ?_
  refine ev_aluvI f_L_law (nx := 450) (w := 3) rfl rfl rfl (by decide) rfl ?_
  refine ev_scrv f_L_law (nx := 451) (j := 3) (w := 0) rfl hX (by decide) (by decide) (by decide) e3 rfl ?_
  refine ev_loc f_L_law (nx := 452) rfl rfl rfl rfl ?_
  refine ev_loc f_L_law (nx := 453) rfl rfl rfl rfl ?_
  refine ev_ic f_L_law (nx := 454) (v := 4) rfl (by decide) rfl ?_
  refine ev_aluvI f_L_law (nx := 455) (w := 4) rfl rfl rfl (by decide) rfl ?_
  refine ev_scr f_L_law (nx := 456) (j := 4) rfl hX (by decide) (by decide) (by decide) rfl ?_
  refine ev_loc f_L_law (nx := 457) rfl rfl rfl rfl ?_
  refine ev_loc f_L_law (nx := 458) rfl rfl rfl rfl ?_
  refine ev_ic f_L_law (nx := 459) (v := 5) rfl (by decide) rfl ?_
  refine ev_aluvI f_L_law (nx := 460) (w := 5) rfl rfl rfl (by decide) rfl ?_
  refine ev_scr f_L_law (nx := 461) (j := 5) rfl hX (by decide) (by decide) (by decide) rfl ?_
  refine ev_inV6 f_L_law (nx := 464) (lo2 := [(0, .ref 0), (1, .int 3), (2, .int ((X.2 2))), (3, .int 0), (4, .int ((X.2 4))), (5, .int ((X.2 5)))]) rfl rfl rfl rfl f_X11_pour (hW.s rfl) rfl rfl rfl rfl rfl ?_
  refine ev_loc f_X11_pour (nx := 1) rfl rfl rfl rfl ?_
  refine ev_loc f_X11_pour (nx := 2) rfl rfl rfl rfl ?_
  refine ev_inV2 f_X11_pour (nx := 5) (lo2 := [(0, .ref 0), (1, .int 3)]) rfl rfl rfl rfl f_X11_isTray (hW.s rfl) rfl rfl rfl rfl rfl ?_
  refine ev_loc f_X11_isTray (nx := 1) rfl rfl rfl rfl ?_
  refine ev_f f_X11_isTray (t1 := 26) (t2 := 4) rfl rfl rfl (by decide) ?_
  refine ev_loc f_X11_isTray (nx := 5) rfl rfl rfl rfl ?_
  refine ev_loc f_X11_isTray (nx := 6) rfl rfl rfl rfl ?_
  refine ev_getR f_X11_isTray (nx := 9) rfl (hW.s rfl) rfl rfl (hW.r rfl) rfl rfl ?_
  refine ev_alenv f_X11_isTray (nx := 10) (w := 4) rfl (hW.s rfl) rfl (by decide) rfl ?_
  refine ev_f f_X11_isTray (t1 := 26) (t2 := 13) rfl rfl rfl (by decide) ?_
  refine ev_loc f_X11_isTray (nx := 14) rfl rfl rfl rfl ?_
  refine ev_getR f_X11_isTray (nx := 17) rfl (hW.s rfl) rfl rfl (hW.r rfl) rfl rfl ?_
  refine ev_loc f_X11_isTray (nx := 18) rfl rfl rfl rfl ?_
  refine ev_aaldv f_X11_isTray (nx := 19) (j := 3) rfl (hW.s rfl) rfl (by decide) (by decide) (by decide) (hW.r rfl) rfl rfl ?_
  refine ev_jmp f_X11_isTray (nx := 22) rfl rfl rfl ?_
  refine ev_ic f_X11_isTray (nx := 23) (v := 1) rfl (by decide) rfl ?_
  refine ev_jmp f_X11_isTray (nx := 27) rfl rfl rfl ?_
  refine ev_retK1 f_X11_isTray rfl rfl rfl ?_
  refine ev_f f_X11_pour (t1 := 30) (t2 := 8) rfl rfl rfl (by decide) ?_
  refine ev_loc f_X11_pour (nx := 9) rfl rfl rfl rfl ?_
  refine ev_loc f_X11_pour (nx := 10) rfl rfl rfl rfl ?_
  refine ev_inV2 f_X11_pour (nx := 13) (lo2 := [(0, .ref 0), (1, .int 0)]) rfl rfl rfl rfl f_X11_isTray (hW.s rfl) rfl rfl rfl rfl rfl ?_
  refine ev_loc f_X11_isTray (nx := 1) rfl rfl rfl rfl ?_
  refine ev_f f_X11_isTray (t1 := 26) (t2 := 4) rfl rfl rfl (by decide) ?_
  refine ev_loc f_X11_isTray (nx := 5) rfl rfl rfl rfl ?_
  refine ev_loc f_X11_isTray (nx := 6) rfl rfl rfl rfl ?_
  refine ev_getR f_X11_isTray (nx := 9) rfl (hW.s rfl) rfl rfl (hW.r rfl) rfl rfl ?_
  refine ev_alenv f_X11_isTray (nx := 10) (w := 4) rfl (hW.s rfl) rfl (by decide) rfl ?_
  refine ev_f f_X11_isTray (t1 := 26) (t2 := 13) rfl rfl rfl (by decide) ?_
  refine ev_loc f_X11_isTray (nx := 14) rfl rfl rfl rfl ?_
  refine ev_getR f_X11_isTray (nx := 17) rfl (hW.s rfl) rfl rfl (hW.r rfl) rfl rfl ?_
  refine ev_loc f_X11_isTray (nx := 18) rfl rfl rfl rfl ?_
  refine ev_aaldv f_X11_isTray (nx := 19) (j := 0) rfl (hW.s rfl) rfl (by decide) (by decide) (by decide) (hW.r rfl) rfl rfl ?_
  refine ev_jmp f_X11_isTray (nx := 22) rfl rfl rfl ?_
  refine ev_ic f_X11_isTray (nx := 23) (v := 1) rfl (by decide) rfl ?_
  refine ev_jmp f_X11_isTray (nx := 27) rfl rfl rfl ?_
  refine ev_retK1 f_X11_isTray rfl rfl rfl ?_
  refine ev_f f_X11_pour (t1 := 30) (t2 := 16) rfl rfl rfl (by decide) ?_
  refine ev_loc f_X11_pour (nx := 17) rfl rfl rfl rfl ?_
  refine ev_if f_X11_pour (t1 := 30) (t2 := 20) rfl rfl rfl (fun h67 => ?_) (fun h67 => ?_)
  · have q67 := h67; rw [Int32.lt_iff_toInt_lt, (by decide : (0 : Int32).toInt = 0)] at q67
    refine ev_loc f_X11_pour (nx := 31) rfl rfl rfl rfl ?_
    refine ev_ic f_X11_pour (nx := 32) (v := 1) rfl (by decide) rfl ?_
    refine ev_inV2 f_X11_pour (nx := 35) (lo2 := [(0, .ref 0), (1, .int 1)]) rfl rfl rfl rfl f_X11_deny (hW.s rfl) rfl rfl rfl rfl rfl ?_
    refine ev_loc f_X11_deny (nx := 1) rfl rfl rfl rfl ?_
    refine ev_loc f_X11_deny (nx := 2) rfl rfl rfl rfl ?_
    refine ev_putI f_X11_deny (nx := 5) rfl (hW.s rfl) rfl rfl rfl ?_
    refine ev_ic f_X11_deny (nx := 6) (v := 0) rfl (by decide) rfl ?_
    refine ev_retK1 f_X11_deny rfl rfl rfl ?_
    refine ev_retK1 f_X11_pour rfl rfl rfl ?_
    refine ev_loc f_L_law (nx := 465) rfl rfl rfl rfl ?_
    refine ev_loc f_L_law (nx := 466) rfl rfl rfl rfl ?_
    refine ev_loc f_L_law (nx := 467) rfl rfl rfl rfl ?_
    refine ev_ic f_L_law (nx := 468) (v := 1) rfl (by decide) rfl ?_
    refine ev_aluvI f_L_law (nx := 469) (w := 1) rfl rfl rfl (by decide) rfl ?_
    refine ev_scrv f_L_law (nx := 470) (j := 1) (w := 3) rfl hX (by decide) (by decide) (by decide) e1 rfl ?_
    refine ev_loc f_L_law (nx := 471) rfl rfl rfl rfl ?_
    refine ev_loc f_L_law (nx := 472) rfl rfl rfl rfl ?_
    refine ev_ic f_L_law (nx := 473) (v := 2) rfl (by decide) rfl ?_
    refine ev_aluvI f_L_law (nx := 474) (w := 2) rfl rfl rfl (by decide) rfl ?_
    refine ev_scr f_L_law (nx := 475) (j := 2) rfl hX (by decide) (by decide) (by decide) rfl ?_
    refine ev_loc f_L_law (nx := 476) rfl rfl rfl rfl ?_
    refine ev_loc f_L_law (nx := 477) rfl rfl rfl rfl ?_
    refine ev_ic f_L_law (nx := 478) (v := 3) rfl (by decide) rfl ?_
    refine ev_aluvI f_L_law (nx := 479) (w := 3) rfl rfl rfl (by decide) rfl ?_
    refine ev_scrv f_L_law (nx := 480) (j := 3) (w := 0) rfl hX (by decide) (by decide) (by decide) e3 rfl ?_
    refine ev_loc f_L_law (nx := 481) rfl rfl rfl rfl ?_
    refine ev_loc f_L_law (nx := 482) rfl rfl rfl rfl ?_
    refine ev_ic f_L_law (nx := 483) (v := 4) rfl (by decide) rfl ?_
    refine ev_aluvI f_L_law (nx := 484) (w := 4) rfl rfl rfl (by decide) rfl ?_
    refine ev_scr f_L_law (nx := 485) (j := 4) rfl hX (by decide) (by decide) (by decide) rfl ?_
    refine ev_loc f_L_law (nx := 486) rfl rfl rfl rfl ?_
    refine ev_loc f_L_law (nx := 487) rfl rfl rfl rfl ?_
    refine ev_ic f_L_law (nx := 488) (v := 5) rfl (by decide) rfl ?_
    refine ev_aluvI f_L_law (nx := 489) (w := 5) rfl rfl rfl (by decide) rfl ?_
    refine ev_scr f_L_law (nx := 490) (j := 5) rfl hX (by decide) (by decide) (by decide) rfl ?_
    refine ev_inV6 f_L_law (nx := 493) (lo2 := [(0, .ref 69), (1, .int 3), (2, .int ((X.2 2))), (3, .int 0), (4, .int ((X.2 4))), (5, .int ((X.2 5)))]) rfl rfl rfl rfl f_X12_pour (hW.s rfl) rfl rfl rfl rfl rfl ?_
    refine ev_loc f_X12_pour (nx := 1) rfl rfl rfl rfl ?_
    refine ev_inS1 f_X12_pour (nx := 4) (lo2 := [(0, .int 3)]) rfl rfl rfl rfl f_X12_isTray rfl rfl rfl rfl ?_
    refine ev_loc f_X12_isTray (nx := 1) rfl rfl rfl rfl ?_
    refine ev_f f_X12_isTray (t1 := 13) (t2 := 4) rfl rfl rfl (by decide) ?_
    refine ev_loc f_X12_isTray (nx := 5) rfl rfl rfl rfl ?_
    refine ev_ic f_X12_isTray (nx := 6) (v := 4) rfl (by decide) rfl ?_
    refine ev_f f_X12_isTray (t1 := 13) (t2 := 9) rfl rfl rfl (by decide) ?_
    refine ev_ic f_X12_isTray (nx := 10) (v := 1) rfl (by decide) rfl ?_
    refine ev_jmp f_X12_isTray (nx := 14) rfl rfl rfl ?_
    refine ev_retK1 f_X12_isTray rfl rfl rfl ?_
    refine ev_f f_X12_pour (t1 := 28) (t2 := 7) rfl rfl rfl (by decide) ?_
    refine ev_loc f_X12_pour (nx := 8) rfl rfl rfl rfl ?_
    refine ev_inS1 f_X12_pour (nx := 11) (lo2 := [(0, .int 0)]) rfl rfl rfl rfl f_X12_isTray rfl rfl rfl rfl ?_
    refine ev_loc f_X12_isTray (nx := 1) rfl rfl rfl rfl ?_
    refine ev_f f_X12_isTray (t1 := 13) (t2 := 4) rfl rfl rfl (by decide) ?_
    refine ev_loc f_X12_isTray (nx := 5) rfl rfl rfl rfl ?_
    refine ev_ic f_X12_isTray (nx := 6) (v := 4) rfl (by decide) rfl ?_
    refine ev_f f_X12_isTray (t1 := 13) (t2 := 9) rfl rfl rfl (by decide) ?_
    refine ev_ic f_X12_isTray (nx := 10) (v := 1) rfl (by decide) rfl ?_
    refine ev_jmp f_X12_isTray (nx := 14) rfl rfl rfl ?_
    refine ev_retK1 f_X12_isTray rfl rfl rfl ?_
    refine ev_f f_X12_pour (t1 := 28) (t2 := 14) rfl rfl rfl (by decide) ?_
    refine ev_loc f_X12_pour (nx := 15) rfl rfl rfl rfl ?_
    refine ev_t f_X12_pour (t1 := 28) (t2 := 18) rfl rfl rfl (by rw [Int32.lt_iff_toInt_lt, (by decide : (0 : Int32).toInt = 0)]; omega) ?_
    refine ev_loc f_X12_pour (nx := 29) rfl rfl rfl rfl ?_
    refine ev_ic f_X12_pour (nx := 30) (v := 1) rfl (by decide) rfl ?_
    refine ev_inV2 f_X12_pour (nx := 33) (lo2 := [(0, .ref 69), (1, .int 1)]) rfl rfl rfl rfl f_X12_is (hW.s rfl) rfl rfl rfl rfl rfl ?_
    refine ev_loc f_X12_is (nx := 1) rfl rfl rfl rfl ?_
    refine ev_loc f_X12_is (nx := 2) rfl rfl rfl rfl ?_
    refine ev_putI f_X12_is (nx := 5) rfl (hW.s rfl) rfl rfl rfl ?_
    refine ev_loc f_X12_is (nx := 6) rfl rfl rfl rfl ?_
    refine ev_f f_X12_is (t1 := 9) (t2 := 13) rfl rfl rfl (by decide) ?_
    refine ev_ic f_X12_is (nx := 14) (v := 0) rfl (by decide) rfl ?_
    refine ev_retK1 f_X12_is rfl rfl rfl ?_
    refine ev_retK1 f_X12_pour rfl rfl rfl ?_
    refine ev_t f_L_law (t1 := 1628) (t2 := 496) rfl rfl rfl (by decide) ?_
    refine ev_incv f_L_law (nx := 1631) (c := 6) (w := 6) (lo' := [(3, .int 6), (2, .ref 69), (1, .ref 0), (0, .retAddr 30)]) rfl rfl (by decide) (by decide) rfl rfl rfl ?_
    refine ev_jmp f_L_law (nx := 18) rfl rfl rfl ?_
    refine ev_loc f_L_law (nx := 19) rfl rfl rfl rfl ?_
    refine ev_loc f_L_law (nx := 20) rfl rfl rfl rfl ?_
    refine ev_alenX f_L_law (nx := 21) rfl hX rfl ?_
    refine ev_bp f_L_law (nx := 23) (v := 6) rfl (by decide) rfl ?_
    refine ev_aluvI f_L_law (nx := 24) (w := 0) rfl rfl rfl (by decide) rfl ?_
    refine ev_t f_L_law (t1 := 1634) (t2 := 27) rfl rfl rfl (by decide) ?_
    refine ev_ic f_L_law (nx := 1635) (v := 1) rfl (by decide) rfl ?_
    refine ev_ret f_L_law rfl rfl rfl ?_
    exact ⟨rfl, hz⟩
  · have q67 := h67; rw [Int32.lt_iff_toInt_lt, (by decide : (0 : Int32).toInt = 0)] at q67
    refine ev_loc f_X11_pour (nx := 22) rfl rfl rfl rfl ?_
    refine ev_if f_X11_pour (t1 := 30) (t2 := 25) rfl rfl rfl (fun h151 => ?_) (fun h151 => ?_)
    · have q151 := h151; rw [Int32.lt_iff_toInt_lt, (by decide : (0 : Int32).toInt = 0)] at q151
      refine ev_loc f_X11_pour (nx := 31) rfl rfl rfl rfl ?_
      refine ev_ic f_X11_pour (nx := 32) (v := 1) rfl (by decide) rfl ?_
      refine ev_inV2 f_X11_pour (nx := 35) (lo2 := [(0, .ref 0), (1, .int 1)]) rfl rfl rfl rfl f_X11_deny (hW.s rfl) rfl rfl rfl rfl rfl ?_
      refine ev_loc f_X11_deny (nx := 1) rfl rfl rfl rfl ?_
      refine ev_loc f_X11_deny (nx := 2) rfl rfl rfl rfl ?_
      refine ev_putI f_X11_deny (nx := 5) rfl (hW.s rfl) rfl rfl rfl ?_
      refine ev_ic f_X11_deny (nx := 6) (v := 0) rfl (by decide) rfl ?_
      refine ev_retK1 f_X11_deny rfl rfl rfl ?_
      refine ev_retK1 f_X11_pour rfl rfl rfl ?_
      refine ev_loc f_L_law (nx := 465) rfl rfl rfl rfl ?_
      refine ev_loc f_L_law (nx := 466) rfl rfl rfl rfl ?_
      refine ev_loc f_L_law (nx := 467) rfl rfl rfl rfl ?_
      refine ev_ic f_L_law (nx := 468) (v := 1) rfl (by decide) rfl ?_
      refine ev_aluvI f_L_law (nx := 469) (w := 1) rfl rfl rfl (by decide) rfl ?_
      refine ev_scrv f_L_law (nx := 470) (j := 1) (w := 3) rfl hX (by decide) (by decide) (by decide) e1 rfl ?_
      refine ev_loc f_L_law (nx := 471) rfl rfl rfl rfl ?_
      refine ev_loc f_L_law (nx := 472) rfl rfl rfl rfl ?_
      refine ev_ic f_L_law (nx := 473) (v := 2) rfl (by decide) rfl ?_
      refine ev_aluvI f_L_law (nx := 474) (w := 2) rfl rfl rfl (by decide) rfl ?_
      refine ev_scr f_L_law (nx := 475) (j := 2) rfl hX (by decide) (by decide) (by decide) rfl ?_
      refine ev_loc f_L_law (nx := 476) rfl rfl rfl rfl ?_
      refine ev_loc f_L_law (nx := 477) rfl rfl rfl rfl ?_
      refine ev_ic f_L_law (nx := 478) (v := 3) rfl (by decide) rfl ?_
      refine ev_aluvI f_L_law (nx := 479) (w := 3) rfl rfl rfl (by decide) rfl ?_
      refine ev_scrv f_L_law (nx := 480) (j := 3) (w := 0) rfl hX (by decide) (by decide) (by decide) e3 rfl ?_
      refine ev_loc f_L_law (nx := 481) rfl rfl rfl rfl ?_
      refine ev_loc f_L_law (nx := 482) rfl rfl rfl rfl ?_
      refine ev_ic f_L_law (nx := 483) (v := 4) rfl (by decide) rfl ?_
      refine ev_aluvI f_L_law (nx := 484) (w := 4) rfl rfl rfl (by decide) rfl ?_
      refine ev_scr f_L_law (nx := 485) (j := 4) rfl hX (by decide) (by decide) (by decide) rfl ?_
      refine ev_loc f_L_law (nx := 486) rfl rfl rfl rfl ?_
      refine ev_loc f_L_law (nx := 487) rfl rfl rfl rfl ?_
      refine ev_ic f_L_law (nx := 488) (v := 5) rfl (by decide) rfl ?_
      refine ev_aluvI f_L_law (nx := 489) (w := 5) rfl rfl rfl (by decide) rfl ?_
      refine ev_scr f_L_law (nx := 490) (j := 5) rfl hX (by decide) (by decide) (by decide) rfl ?_
      refine ev_inV6 f_L_law (nx := 493) (lo2 := [(0, .ref 69), (1, .int 3), (2, .int ((X.2 2))), (3, .int 0), (4, .int ((X.2 4))), (5, .int ((X.2 5)))]) rfl rfl rfl rfl f_X12_pour (hW.s rfl) rfl rfl rfl rfl rfl ?_
      refine ev_loc f_X12_pour (nx := 1) rfl rfl rfl rfl ?_
      refine ev_inS1 f_X12_pour (nx := 4) (lo2 := [(0, .int 3)]) rfl rfl rfl rfl f_X12_isTray rfl rfl rfl rfl ?_
      refine ev_loc f_X12_isTray (nx := 1) rfl rfl rfl rfl ?_
      refine ev_f f_X12_isTray (t1 := 13) (t2 := 4) rfl rfl rfl (by decide) ?_
      refine ev_loc f_X12_isTray (nx := 5) rfl rfl rfl rfl ?_
      refine ev_ic f_X12_isTray (nx := 6) (v := 4) rfl (by decide) rfl ?_
      refine ev_f f_X12_isTray (t1 := 13) (t2 := 9) rfl rfl rfl (by decide) ?_
      refine ev_ic f_X12_isTray (nx := 10) (v := 1) rfl (by decide) rfl ?_
      refine ev_jmp f_X12_isTray (nx := 14) rfl rfl rfl ?_
      refine ev_retK1 f_X12_isTray rfl rfl rfl ?_
      refine ev_f f_X12_pour (t1 := 28) (t2 := 7) rfl rfl rfl (by decide) ?_
      refine ev_loc f_X12_pour (nx := 8) rfl rfl rfl rfl ?_
      refine ev_inS1 f_X12_pour (nx := 11) (lo2 := [(0, .int 0)]) rfl rfl rfl rfl f_X12_isTray rfl rfl rfl rfl ?_
      refine ev_loc f_X12_isTray (nx := 1) rfl rfl rfl rfl ?_
      refine ev_f f_X12_isTray (t1 := 13) (t2 := 4) rfl rfl rfl (by decide) ?_
      refine ev_loc f_X12_isTray (nx := 5) rfl rfl rfl rfl ?_
      refine ev_ic f_X12_isTray (nx := 6) (v := 4) rfl (by decide) rfl ?_
      refine ev_f f_X12_isTray (t1 := 13) (t2 := 9) rfl rfl rfl (by decide) ?_
      refine ev_ic f_X12_isTray (nx := 10) (v := 1) rfl (by decide) rfl ?_
      refine ev_jmp f_X12_isTray (nx := 14) rfl rfl rfl ?_
      refine ev_retK1 f_X12_isTray rfl rfl rfl ?_
      refine ev_f f_X12_pour (t1 := 28) (t2 := 14) rfl rfl rfl (by decide) ?_
      refine ev_loc f_X12_pour (nx := 15) rfl rfl rfl rfl ?_
      refine ev_f f_X12_pour (t1 := 28) (t2 := 18) rfl rfl rfl (by rw [Int32.lt_iff_toInt_lt, (by decide : (0 : Int32).toInt = 0)]; omega) ?_
      refine ev_loc f_X12_pour (nx := 20) rfl rfl rfl rfl ?_
      refine ev_t f_X12_pour (t1 := 28) (t2 := 23) rfl rfl rfl (by rw [Int32.lt_iff_toInt_lt, (by decide : (0 : Int32).toInt = 0)]; omega) ?_
      refine ev_loc f_X12_pour (nx := 29) rfl rfl rfl rfl ?_
      refine ev_ic f_X12_pour (nx := 30) (v := 1) rfl (by decide) rfl ?_
      refine ev_inV2 f_X12_pour (nx := 33) (lo2 := [(0, .ref 69), (1, .int 1)]) rfl rfl rfl rfl f_X12_is (hW.s rfl) rfl rfl rfl rfl rfl ?_
      refine ev_loc f_X12_is (nx := 1) rfl rfl rfl rfl ?_
      refine ev_loc f_X12_is (nx := 2) rfl rfl rfl rfl ?_
      refine ev_putI f_X12_is (nx := 5) rfl (hW.s rfl) rfl rfl rfl ?_
      refine ev_loc f_X12_is (nx := 6) rfl rfl rfl rfl ?_
      refine ev_f f_X12_is (t1 := 9) (t2 := 13) rfl rfl rfl (by decide) ?_
      refine ev_ic f_X12_is (nx := 14) (v := 0) rfl (by decide) rfl ?_
      refine ev_retK1 f_X12_is rfl rfl rfl ?_
      refine ev_retK1 f_X12_pour rfl rfl rfl ?_
      refine ev_t f_L_law (t1 := 1628) (t2 := 496) rfl rfl rfl (by decide) ?_
      refine ev_incv f_L_law (nx := 1631) (c := 6) (w := 6) (lo' := [(3, .int 6), (2, .ref 69), (1, .ref 0), (0, .retAddr 30)]) rfl rfl (by decide) (by decide) rfl rfl rfl ?_
      refine ev_jmp f_L_law (nx := 18) rfl rfl rfl ?_
      refine ev_loc f_L_law (nx := 19) rfl rfl rfl rfl ?_
      refine ev_loc f_L_law (nx := 20) rfl rfl rfl rfl ?_
      refine ev_alenX f_L_law (nx := 21) rfl hX rfl ?_
      refine ev_bp f_L_law (nx := 23) (v := 6) rfl (by decide) rfl ?_
      refine ev_aluvI f_L_law (nx := 24) (w := 0) rfl rfl rfl (by decide) rfl ?_
      refine ev_t f_L_law (t1 := 1634) (t2 := 27) rfl rfl rfl (by decide) ?_
      refine ev_ic f_L_law (nx := 1635) (v := 1) rfl (by decide) rfl ?_
      refine ev_ret f_L_law rfl rfl rfl ?_
      exact ⟨rfl, hz⟩
    · have q151 := h151; rw [Int32.lt_iff_toInt_lt, (by decide : (0 : Int32).toInt = 0)] at q151
      refine ev_loc f_X11_pour (nx := 27) rfl rfl rfl rfl ?_
      refine ev_if f_X11_pour (t1 := 36) (t2 := 30) rfl rfl rfl (fun h237 => ?_) (fun h237 => ?_)
      · have q237 := h237; rw [Int32.le_iff_toInt_le, (by decide : (0 : Int32).toInt = 0)] at q237
        refine ev_loc f_X11_pour (nx := 37) rfl rfl rfl rfl ?_
        refine ev_getR f_X11_pour (nx := 40) rfl (hW.s rfl) rfl rfl (hW.r rfl) rfl rfl ?_
        refine ev_loc f_X11_pour (nx := 41) rfl rfl rfl rfl ?_
        refine ev_aaldv f_X11_pour (nx := 42) (j := 3) rfl (hW.s rfl) rfl (by decide) (by decide) (by decide) (hW.r rfl) rfl rfl ?_
        refine ev_loc f_X11_pour (nx := 44) (lo' := [(6, .ref 67), (0, .ref 0), (1, .int 3), (2, .int ((X.2 2))), (3, .int 0), (4, .int ((X.2 4))), (5, .int ((X.2 5)))]) rfl rfl rfl rfl ?_
        refine ev_loc f_X11_pour (nx := 45) rfl rfl rfl rfl ?_
        refine ev_getR f_X11_pour (nx := 48) rfl (hW.s rfl) rfl rfl (hW.r rfl) rfl rfl ?_
        refine ev_loc f_X11_pour (nx := 49) rfl rfl rfl rfl ?_
        refine ev_aaldv f_X11_pour (nx := 50) (j := 0) rfl (hW.s rfl) rfl (by decide) (by decide) (by decide) (hW.r rfl) rfl rfl ?_
        refine ev_loc f_X11_pour (nx := 52) (lo' := [(7, .ref 61), (6, .ref 67), (0, .ref 0), (1, .int 3), (2, .int ((X.2 2))), (3, .int 0), (4, .int ((X.2 4))), (5, .int ((X.2 5)))]) rfl rfl rfl rfl ?_
        refine ev_loc f_X11_pour (nx := 54) rfl rfl rfl rfl ?_
        refine ev_inV1 f_X11_pour (nx := 57) (lo2 := [(0, .ref 67)]) rfl rfl rfl rfl f_X10_isMissing (hW.s rfl) rfl rfl rfl rfl rfl ?_
        refine ev_loc f_X10_isMissing (nx := 1) rfl rfl rfl rfl ?_
        refine ev_gvI f_X10_isMissing (nx := 4) (w := -1) rfl (hW.s rfl) rfl rfl (wi_67_2 (gi := gi) hR) rfl ?_
        refine ev_ic f_X10_isMissing (nx := 5) (v := -1) rfl (by decide) rfl ?_
        refine ev_t f_X10_isMissing (t1 := 8) (t2 := 12) rfl rfl rfl (by decide) ?_
        refine ev_ic f_X10_isMissing (nx := 9) (v := 1) rfl (by decide) rfl ?_
        refine ev_jmp f_X10_isMissing (nx := 13) rfl rfl rfl ?_
        refine ev_retK1 f_X10_isMissing rfl rfl rfl ?_
        refine ev_f f_X11_pour (t1 := 60) (t2 := 68) rfl rfl rfl (by decide) ?_
        refine ev_loc f_X11_pour (nx := 69) rfl rfl rfl rfl ?_
        refine ev_ic f_X11_pour (nx := 70) (v := 2) rfl (by decide) rfl ?_
        refine ev_inV2 f_X11_pour (nx := 73) (lo2 := [(0, .ref 0), (1, .int 2)]) rfl rfl rfl rfl f_X11_deny (hW.s rfl) rfl rfl rfl rfl rfl ?_
        refine ev_loc f_X11_deny (nx := 1) rfl rfl rfl rfl ?_
        refine ev_loc f_X11_deny (nx := 2) rfl rfl rfl rfl ?_
        refine ev_putI f_X11_deny (nx := 5) rfl (hW.s rfl) rfl rfl rfl ?_
        refine ev_ic f_X11_deny (nx := 6) (v := 0) rfl (by decide) rfl ?_
        refine ev_retK1 f_X11_deny rfl rfl rfl ?_
        refine ev_retK1 f_X11_pour rfl rfl rfl ?_
        refine ev_loc f_L_law (nx := 465) rfl rfl rfl rfl ?_
        refine ev_loc f_L_law (nx := 466) rfl rfl rfl rfl ?_
        refine ev_loc f_L_law (nx := 467) rfl rfl rfl rfl ?_
        refine ev_ic f_L_law (nx := 468) (v := 1) rfl (by decide) rfl ?_
        refine ev_aluvI f_L_law (nx := 469) (w := 1) rfl rfl rfl (by decide) rfl ?_
        refine ev_scrv f_L_law (nx := 470) (j := 1) (w := 3) rfl hX (by decide) (by decide) (by decide) e1 rfl ?_
        refine ev_loc f_L_law (nx := 471) rfl rfl rfl rfl ?_
        refine ev_loc f_L_law (nx := 472) rfl rfl rfl rfl ?_
        refine ev_ic f_L_law (nx := 473) (v := 2) rfl (by decide) rfl ?_
        refine ev_aluvI f_L_law (nx := 474) (w := 2) rfl rfl rfl (by decide) rfl ?_
        refine ev_scr f_L_law (nx := 475) (j := 2) rfl hX (by decide) (by decide) (by decide) rfl ?_
        refine ev_loc f_L_law (nx := 476) rfl rfl rfl rfl ?_
        refine ev_loc f_L_law (nx := 477) rfl rfl rfl rfl ?_
        refine ev_ic f_L_law (nx := 478) (v := 3) rfl (by decide) rfl ?_
        refine ev_aluvI f_L_law (nx := 479) (w := 3) rfl rfl rfl (by decide) rfl ?_
        refine ev_scrv f_L_law (nx := 480) (j := 3) (w := 0) rfl hX (by decide) (by decide) (by decide) e3 rfl ?_
        refine ev_loc f_L_law (nx := 481) rfl rfl rfl rfl ?_
        refine ev_loc f_L_law (nx := 482) rfl rfl rfl rfl ?_
        refine ev_ic f_L_law (nx := 483) (v := 4) rfl (by decide) rfl ?_
        refine ev_aluvI f_L_law (nx := 484) (w := 4) rfl rfl rfl (by decide) rfl ?_
        refine ev_scr f_L_law (nx := 485) (j := 4) rfl hX (by decide) (by decide) (by decide) rfl ?_
        refine ev_loc f_L_law (nx := 486) rfl rfl rfl rfl ?_
        refine ev_loc f_L_law (nx := 487) rfl rfl rfl rfl ?_
        refine ev_ic f_L_law (nx := 488) (v := 5) rfl (by decide) rfl ?_
        refine ev_aluvI f_L_law (nx := 489) (w := 5) rfl rfl rfl (by decide) rfl ?_
        refine ev_scr f_L_law (nx := 490) (j := 5) rfl hX (by decide) (by decide) (by decide) rfl ?_
        refine ev_inV6 f_L_law (nx := 493) (lo2 := [(0, .ref 69), (1, .int 3), (2, .int ((X.2 2))), (3, .int 0), (4, .int ((X.2 4))), (5, .int ((X.2 5)))]) rfl rfl rfl rfl f_X12_pour (hW.s rfl) rfl rfl rfl rfl rfl ?_
        refine ev_loc f_X12_pour (nx := 1) rfl rfl rfl rfl ?_
        refine ev_inS1 f_X12_pour (nx := 4) (lo2 := [(0, .int 3)]) rfl rfl rfl rfl f_X12_isTray rfl rfl rfl rfl ?_
        refine ev_loc f_X12_isTray (nx := 1) rfl rfl rfl rfl ?_
        refine ev_f f_X12_isTray (t1 := 13) (t2 := 4) rfl rfl rfl (by decide) ?_
        refine ev_loc f_X12_isTray (nx := 5) rfl rfl rfl rfl ?_
        refine ev_ic f_X12_isTray (nx := 6) (v := 4) rfl (by decide) rfl ?_
        refine ev_f f_X12_isTray (t1 := 13) (t2 := 9) rfl rfl rfl (by decide) ?_
        refine ev_ic f_X12_isTray (nx := 10) (v := 1) rfl (by decide) rfl ?_
        refine ev_jmp f_X12_isTray (nx := 14) rfl rfl rfl ?_
        refine ev_retK1 f_X12_isTray rfl rfl rfl ?_
        refine ev_f f_X12_pour (t1 := 28) (t2 := 7) rfl rfl rfl (by decide) ?_
        refine ev_loc f_X12_pour (nx := 8) rfl rfl rfl rfl ?_
        refine ev_inS1 f_X12_pour (nx := 11) (lo2 := [(0, .int 0)]) rfl rfl rfl rfl f_X12_isTray rfl rfl rfl rfl ?_
        refine ev_loc f_X12_isTray (nx := 1) rfl rfl rfl rfl ?_
        refine ev_f f_X12_isTray (t1 := 13) (t2 := 4) rfl rfl rfl (by decide) ?_
        refine ev_loc f_X12_isTray (nx := 5) rfl rfl rfl rfl ?_
        refine ev_ic f_X12_isTray (nx := 6) (v := 4) rfl (by decide) rfl ?_
        refine ev_f f_X12_isTray (t1 := 13) (t2 := 9) rfl rfl rfl (by decide) ?_
        refine ev_ic f_X12_isTray (nx := 10) (v := 1) rfl (by decide) rfl ?_
        refine ev_jmp f_X12_isTray (nx := 14) rfl rfl rfl ?_
        refine ev_retK1 f_X12_isTray rfl rfl rfl ?_
        refine ev_f f_X12_pour (t1 := 28) (t2 := 14) rfl rfl rfl (by decide) ?_
        refine ev_loc f_X12_pour (nx := 15) rfl rfl rfl rfl ?_
        refine ev_f f_X12_pour (t1 := 28) (t2 := 18) rfl rfl rfl (by rw [Int32.lt_iff_toInt_lt, (by decide : (0 : Int32).toInt = 0)]; omega) ?_
        refine ev_loc f_X12_pour (nx := 20) rfl rfl rfl rfl ?_
        refine ev_f f_X12_pour (t1 := 28) (t2 := 23) rfl rfl rfl (by rw [Int32.lt_iff_toInt_lt, (by decide : (0 : Int32).toInt = 0)]; omega) ?_
        refine ev_loc f_X12_pour (nx := 25) rfl rfl rfl rfl ?_
        refine ev_t f_X12_pour (t1 := 34) (t2 := 28) rfl rfl rfl (by rw [Int32.le_iff_toInt_le, (by decide : (0 : Int32).toInt = 0)]; omega) ?_
        refine ev_loc f_X12_pour (nx := 35) rfl rfl rfl rfl ?_
        refine ev_getR f_X12_pour (nx := 38) rfl (hW.s rfl) rfl rfl (hW.r rfl) rfl rfl ?_
        refine ev_loc f_X12_pour (nx := 39) rfl rfl rfl rfl ?_
        refine ev_ialdv f_X12_pour (nx := 40) (j := 3) (w := -1) rfl (hW.s rfl) (by decide) (by decide) (by decide) (wi_73_3 (gi := gi) hR) rfl ?_
        refine ev_ic f_X12_pour (nx := 41) (v := -1) rfl (by decide) rfl ?_
        refine ev_t f_X12_pour (t1 := 54) (t2 := 44) rfl rfl rfl (by decide) ?_
        refine ev_loc f_X12_pour (nx := 55) rfl rfl rfl rfl ?_
        refine ev_ic f_X12_pour (nx := 56) (v := 2) rfl (by decide) rfl ?_
        refine ev_inV2 f_X12_pour (nx := 59) (lo2 := [(0, .ref 69), (1, .int 2)]) rfl rfl rfl rfl f_X12_is (hW.s rfl) rfl rfl rfl rfl rfl ?_
        refine ev_loc f_X12_is (nx := 1) rfl rfl rfl rfl ?_
        refine ev_loc f_X12_is (nx := 2) rfl rfl rfl rfl ?_
        refine ev_putI f_X12_is (nx := 5) rfl (hW.s rfl) rfl rfl rfl ?_
        refine ev_loc f_X12_is (nx := 6) rfl rfl rfl rfl ?_
        refine ev_f f_X12_is (t1 := 9) (t2 := 13) rfl rfl rfl (by decide) ?_
        refine ev_ic f_X12_is (nx := 14) (v := 0) rfl (by decide) rfl ?_
        refine ev_retK1 f_X12_is rfl rfl rfl ?_
        refine ev_retK1 f_X12_pour rfl rfl rfl ?_
        refine ev_t f_L_law (t1 := 1628) (t2 := 496) rfl rfl rfl (by decide) ?_
        refine ev_incv f_L_law (nx := 1631) (c := 6) (w := 6) (lo' := [(3, .int 6), (2, .ref 69), (1, .ref 0), (0, .retAddr 30)]) rfl rfl (by decide) (by decide) rfl rfl rfl ?_
        refine ev_jmp f_L_law (nx := 18) rfl rfl rfl ?_
        refine ev_loc f_L_law (nx := 19) rfl rfl rfl rfl ?_
        refine ev_loc f_L_law (nx := 20) rfl rfl rfl rfl ?_
        refine ev_alenX f_L_law (nx := 21) rfl hX rfl ?_
        refine ev_bp f_L_law (nx := 23) (v := 6) rfl (by decide) rfl ?_
        refine ev_aluvI f_L_law (nx := 24) (w := 0) rfl rfl rfl (by decide) rfl ?_
        refine ev_t f_L_law (t1 := 1634) (t2 := 27) rfl rfl rfl (by decide) ?_
        refine ev_ic f_L_law (nx := 1635) (v := 1) rfl (by decide) rfl ?_
        refine ev_ret f_L_law rfl rfl rfl ?_
        exact ⟨rfl, hz⟩
      · have q237 := h237; rw [Int32.le_iff_toInt_le, (by decide : (0 : Int32).toInt = 0)] at q237
        refine ev_loc f_X11_pour (nx := 31) rfl rfl rfl rfl ?_
        refine ev_ic f_X11_pour (nx := 32) (v := 1) rfl (by decide) rfl ?_
        refine ev_inV2 f_X11_pour (nx := 35) (lo2 := [(0, .ref 0), (1, .int 1)]) rfl rfl rfl rfl f_X11_deny (hW.s rfl) rfl rfl rfl rfl rfl ?_
        refine ev_loc f_X11_deny (nx := 1) rfl rfl rfl rfl ?_
        refine ev_loc f_X11_deny (nx := 2) rfl rfl rfl rfl ?_
        refine ev_putI f_X11_deny (nx := 5) rfl (hW.s rfl) rfl rfl rfl ?_
        refine ev_ic f_X11_deny (nx := 6) (v := 0) rfl (by decide) rfl ?_
        refine ev_retK1 f_X11_deny rfl rfl rfl ?_
        refine ev_retK1 f_X11_pour rfl rfl rfl ?_
        refine ev_loc f_L_law (nx := 465) rfl rfl rfl rfl ?_
        refine ev_loc f_L_law (nx := 466) rfl rfl rfl rfl ?_
        refine ev_loc f_L_law (nx := 467) rfl rfl rfl rfl ?_
        refine ev_ic f_L_law (nx := 468) (v := 1) rfl (by decide) rfl ?_
        refine ev_aluvI f_L_law (nx := 469) (w := 1) rfl rfl rfl (by decide) rfl ?_
        refine ev_scrv f_L_law (nx := 470) (j := 1) (w := 3) rfl hX (by decide) (by decide) (by decide) e1 rfl ?_
        refine ev_loc f_L_law (nx := 471) rfl rfl rfl rfl ?_
        refine ev_loc f_L_law (nx := 472) rfl rfl rfl rfl ?_
        refine ev_ic f_L_law (nx := 473) (v := 2) rfl (by decide) rfl ?_
        refine ev_aluvI f_L_law (nx := 474) (w := 2) rfl rfl rfl (by decide) rfl ?_
        refine ev_scr f_L_law (nx := 475) (j := 2) rfl hX (by decide) (by decide) (by decide) rfl ?_
        refine ev_loc f_L_law (nx := 476) rfl rfl rfl rfl ?_
        refine ev_loc f_L_law (nx := 477) rfl rfl rfl rfl ?_
        refine ev_ic f_L_law (nx := 478) (v := 3) rfl (by decide) rfl ?_
        refine ev_aluvI f_L_law (nx := 479) (w := 3) rfl rfl rfl (by decide) rfl ?_
        refine ev_scrv f_L_law (nx := 480) (j := 3) (w := 0) rfl hX (by decide) (by decide) (by decide) e3 rfl ?_
        refine ev_loc f_L_law (nx := 481) rfl rfl rfl rfl ?_
        refine ev_loc f_L_law (nx := 482) rfl rfl rfl rfl ?_
        refine ev_ic f_L_law (nx := 483) (v := 4) rfl (by decide) rfl ?_
        refine ev_aluvI f_L_law (nx := 484) (w := 4) rfl rfl rfl (by decide) rfl ?_
        refine ev_scr f_L_law (nx := 485) (j := 4) rfl hX (by decide) (by decide) (by decide) rfl ?_
        refine ev_loc f_L_law (nx := 486) rfl rfl rfl rfl ?_
        refine ev_loc f_L_law (nx := 487) rfl rfl rfl rfl ?_
        refine ev_ic f_L_law (nx := 488) (v := 5) rfl (by decide) rfl ?_
        refine ev_aluvI f_L_law (nx := 489) (w := 5) rfl rfl rfl (by decide) rfl ?_
        refine ev_scr f_L_law (nx := 490) (j := 5) rfl hX (by decide) (by decide) (by decide) rfl ?_
        refine ev_inV6 f_L_law (nx := 493) (lo2 := [(0, .ref 69), (1, .int 3), (2, .int ((X.2 2))), (3, .int 0), (4, .int ((X.2 4))), (5, .int ((X.2 5)))]) rfl rfl rfl rfl f_X12_pour (hW.s rfl) rfl rfl rfl rfl rfl ?_
        refine ev_loc f_X12_pour (nx := 1) rfl rfl rfl rfl ?_
        refine ev_inS1 f_X12_pour (nx := 4) (lo2 := [(0, .int 3)]) rfl rfl rfl rfl f_X12_isTray rfl rfl rfl rfl ?_
        refine ev_loc f_X12_isTray (nx := 1) rfl rfl rfl rfl ?_
        refine ev_f f_X12_isTray (t1 := 13) (t2 := 4) rfl rfl rfl (by decide) ?_
        refine ev_loc f_X12_isTray (nx := 5) rfl rfl rfl rfl ?_
        refine ev_ic f_X12_isTray (nx := 6) (v := 4) rfl (by decide) rfl ?_
        refine ev_f f_X12_isTray (t1 := 13) (t2 := 9) rfl rfl rfl (by decide) ?_
        refine ev_ic f_X12_isTray (nx := 10) (v := 1) rfl (by decide) rfl ?_
        refine ev_jmp f_X12_isTray (nx := 14) rfl rfl rfl ?_
        refine ev_retK1 f_X12_isTray rfl rfl rfl ?_
        refine ev_f f_X12_pour (t1 := 28) (t2 := 7) rfl rfl rfl (by decide) ?_
        refine ev_loc f_X12_pour (nx := 8) rfl rfl rfl rfl ?_
        refine ev_inS1 f_X12_pour (nx := 11) (lo2 := [(0, .int 0)]) rfl rfl rfl rfl f_X12_isTray rfl rfl rfl rfl ?_
        refine ev_loc f_X12_isTray (nx := 1) rfl rfl rfl rfl ?_
        refine ev_f f_X12_isTray (t1 := 13) (t2 := 4) rfl rfl rfl (by decide) ?_
        refine ev_loc f_X12_isTray (nx := 5) rfl rfl rfl rfl ?_
        refine ev_ic f_X12_isTray (nx := 6) (v := 4) rfl (by decide) rfl ?_
        refine ev_f f_X12_isTray (t1 := 13) (t2 := 9) rfl rfl rfl (by decide) ?_
        refine ev_ic f_X12_isTray (nx := 10) (v := 1) rfl (by decide) rfl ?_
        refine ev_jmp f_X12_isTray (nx := 14) rfl rfl rfl ?_
        refine ev_retK1 f_X12_isTray rfl rfl rfl ?_
        refine ev_f f_X12_pour (t1 := 28) (t2 := 14) rfl rfl rfl (by decide) ?_
        refine ev_loc f_X12_pour (nx := 15) rfl rfl rfl rfl ?_
        refine ev_f f_X12_pour (t1 := 28) (t2 := 18) rfl rfl rfl (by rw [Int32.lt_iff_toInt_lt, (by decide : (0 : Int32).toInt = 0)]; omega) ?_
        refine ev_loc f_X12_pour (nx := 20) rfl rfl rfl rfl ?_
        refine ev_f f_X12_pour (t1 := 28) (t2 := 23) rfl rfl rfl (by rw [Int32.lt_iff_toInt_lt, (by decide : (0 : Int32).toInt = 0)]; omega) ?_
        refine ev_loc f_X12_pour (nx := 25) rfl rfl rfl rfl ?_
        refine ev_f f_X12_pour (t1 := 34) (t2 := 28) rfl rfl rfl (by rw [Int32.le_iff_toInt_le, (by decide : (0 : Int32).toInt = 0)]; omega) ?_
        refine ev_loc f_X12_pour (nx := 29) rfl rfl rfl rfl ?_
        refine ev_ic f_X12_pour (nx := 30) (v := 1) rfl (by decide) rfl ?_
        refine ev_inV2 f_X12_pour (nx := 33) (lo2 := [(0, .ref 69), (1, .int 1)]) rfl rfl rfl rfl f_X12_is (hW.s rfl) rfl rfl rfl rfl rfl ?_
        refine ev_loc f_X12_is (nx := 1) rfl rfl rfl rfl ?_
        refine ev_loc f_X12_is (nx := 2) rfl rfl rfl rfl ?_
        refine ev_putI f_X12_is (nx := 5) rfl (hW.s rfl) rfl rfl rfl ?_
        refine ev_loc f_X12_is (nx := 6) rfl rfl rfl rfl ?_
        refine ev_f f_X12_is (t1 := 9) (t2 := 13) rfl rfl rfl (by decide) ?_
        refine ev_ic f_X12_is (nx := 14) (v := 0) rfl (by decide) rfl ?_
        refine ev_retK1 f_X12_is rfl rfl rfl ?_
        refine ev_retK1 f_X12_pour rfl rfl rfl ?_
        refine ev_t f_L_law (t1 := 1628) (t2 := 496) rfl rfl rfl (by decide) ?_
        refine ev_incv f_L_law (nx := 1631) (c := 6) (w := 6) (lo' := [(3, .int 6), (2, .ref 69), (1, .ref 0), (0, .retAddr 30)]) rfl rfl (by decide) (by decide) rfl rfl rfl ?_
        refine ev_jmp f_L_law (nx := 18) rfl rfl rfl ?_
        refine ev_loc f_L_law (nx := 19) rfl rfl rfl rfl ?_
        refine ev_loc f_L_law (nx := 20) rfl rfl rfl rfl ?_
        refine ev_alenX f_L_law (nx := 21) rfl hX rfl ?_
        refine ev_bp f_L_law (nx := 23) (v := 6) rfl (by decide) rfl ?_
        refine ev_aluvI f_L_law (nx := 24) (w := 0) rfl rfl rfl (by decide) rfl ?_
        refine ev_t f_L_law (t1 := 1634) (t2 := 27) rfl rfl rfl (by decide) ?_
        refine ev_ic f_L_law (nx := 1635) (v := 1) rfl (by decide) rfl ?_
        refine ev_ret f_L_law rfl rfl rfl ?_
        exact ⟨rfl, hz⟩
end XC
