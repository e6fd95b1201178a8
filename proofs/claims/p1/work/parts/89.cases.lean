/-! ===== printed by gen65.py: calls walked in place ===== -/
section XC
variable {X : x_Ext} {sh : List (Nat ⊕ (Nat × Nat))} {gi : Nat → Nat → Int32} {gl : Nat → Nat → Int64} {gr : Nat → Nat → Value}
set_option maxRecDepth 20000 in
theorem pc_6_3_1 (hR : x_R W1 (sh, gi, gl, gr)) (hX : X.1 = 6) (e1 : X.2 1 = 3) (e3 : X.2 3 = 1) : x_Ev X 1000 n_L_law 435 [(3, .int 0), (2, .ref 69), (1, .ref 0), (0, .retAddr 30)] [] (sh, gi, gl, gr) x_P1 := by
  have hW := W1_WF hR
  have hz := W1_hz hR
  refine ev_loc f_L_law (nx := 436) rfl rfl rfl rfl ?_
  refine ev_loc f_L_law (nx := 437) rfl rfl rfl rfl ?_
  refine ev_loc f_L_law (nx := 438) rfl rfl rfl rfl ?_
  refine ev_ic f_L_law (nx := 439) (v := 1) rfl (by decide) rfl ?_
  refine ev_aluvI f_L_law (nx := 440) (w := 1) rfl rfl rfl (by decide) rfl ?_
  refine ev_scrv f_L_law (nx := 441) (j := 1) (w := 3) rfl hX (by decide) (by decide) (by decide) e1 rfl ?_
  refine ev_loc f_L_law (nx := 442) rfl rfl rfl rfl ?_
  refine ev_loc f_L_law (nx := 443) rfl rfl rfl rfl ?_
  refine ev_ic f_L_law (nx := 444) (v := 2) rfl (by decide) rfl ?_
  refine ev_aluvI f_L_law (nx := 445) (w := 2) rfl rfl rfl (by decide) rfl ?_
  refine ev_scr f_L_law (nx := 446) (j := 2) rfl hX (by decide) (by decide) (by decide) rfl ?_
  refine ev_loc f_L_law (nx := 447) rfl rfl rfl rfl ?_
  refine ev_loc f_L_law (nx := 448) rfl rfl rfl rfl ?_
  refine ev_ic f_L_law (nx := 449) (v := 3) rfl (by decide) rfl ?_
  refine ev_aluvI f_L_law (nx := 450) (w := 3) rfl rfl rfl (by decide) rfl ?_
  refine ev_scrv f_L_law (nx := 451) (j := 3) (w := 1) rfl hX (by decide) (by decide) (by decide) e3 rfl ?_
  refine ev_loc f_L_law (nx := 452) rfl rfl rfl rfl ?_
  refine ev_loc f_L_law (nx := 453) rfl rfl rfl rfl ?_
  refine ev_ic f_L_law (nx := 454) (v := 4) rfl (by decide) rfl ?_
  refine ev_aluvI f_L_law (nx := 455) (w := 4) rfl rfl rfl (by decide) rfl ?_
  refine ev_scr f_L_law (nx := 456) (j := 4) rfl hX (by decide) (by decide) (by decide) rfl ?_
  refine ev_loc f_L_law (nx := 457) rfl rfl rfl rfl ?_
  refine ev_loc f_L_law (nx := 458) rfl rfl rfl rfl ?_
  refine ev_ic f_L_law (nx := 459) (v := 5) rfl (by decide) rfl ?_
  refine ev_aluvI f_L_law (nx := 460) (w := 5) rfl rfl rfl (by decide) rfl ?_
  refine ev_scr f_L_law (nx := 461) (j := 5) rfl hX (by decide) (by decide) (by decide) rfl ?_
  refine ev_inV6 f_L_law (nx := 464) (lo2 := [(0, .ref 0), (1, .int 3), (2, .int ((X.2 2))), (3, .int 1), (4, .int ((X.2 4))), (5, .int ((X.2 5)))]) rfl rfl rfl rfl f_X11_pour (hW.s rfl) rfl rfl rfl rfl rfl ?_
  refine ev_loc f_X11_pour (nx := 1) rfl rfl rfl rfl ?_
  refine ev_loc f_X11_pour (nx := 2) rfl rfl rfl rfl ?_
  refine ev_inV2 f_X11_pour (nx := 5) (lo2 := [(0, .ref 0), (1, .int 3)]) rfl rfl rfl rfl f_X11_isTray (hW.s rfl) rfl rfl rfl rfl rfl ?_
  refine ev_loc f_X11_isTray (nx := 1) rfl rfl rfl rfl ?_
  refine ev_f f_X11_isTray (t1 := 26) (t2 := 4) rfl rfl rfl (by decide) ?_
  refine ev_loc f_X11_isTray (nx := 5) rfl rfl rfl rfl ?_
  refine ev_loc f_X11_isTray (nx := 6) rfl rfl rfl rfl ?_
  refine ev_getR f_X11_isTray (nx := 9) rfl (hW.s rfl) rfl rfl (hW.r rfl) rfl rfl ?_
  refine ev_alenv f_X11_isTray (nx := 10) (w := 4) rfl (hW.s rfl) rfl (by decide) rfl ?_
  refine ev_f f_X11_isTray (t1 := 26) (t2 := 13) rfl rfl rfl (by decide) ?_
  refine ev_loc f_X11_isTray (nx := 14) rfl rfl rfl rfl ?_
  refine ev_getR f_X11_isTray (nx := 17) rfl (hW.s rfl) rfl rfl (hW.r rfl) rfl rfl ?_
  refine ev_loc f_X11_isTray (nx := 18) rfl rfl rfl rfl ?_
  refine ev_aaldv f_X11_isTray (nx := 19) (j := 3) rfl (hW.s rfl) rfl (by decide) (by decide) (by decide) (hW.r rfl) rfl rfl ?_
  refine ev_jmp f_X11_isTray (nx := 22) rfl rfl rfl ?_
  refine ev_ic f_X11_isTray (nx := 23) (v := 1) rfl (by decide) rfl ?_
  refine ev_jmp f_X11_isTray (nx := 27) rfl rfl rfl ?_
  refine ev_retK1 f_X11_isTray rfl rfl rfl ?_
  refine ev_f f_X11_pour (t1 := 30) (t2 := 8) rfl rfl rfl (by decide) ?_
  refine ev_loc f_X11_pour (nx := 9) rfl rfl rfl rfl ?_
  refine ev_loc f_X11_pour (nx := 10) rfl rfl rfl rfl ?_
  refine ev_inV2 f_X11_pour (nx := 13) (lo2 := [(0, .ref 0), (1, .int 1)]) rfl rfl rfl rfl f_X11_isTray (hW.s rfl) rfl rfl rfl rfl rfl ?_
  refine ev_loc f_X11_isTray (nx := 1) rfl rfl rfl rfl ?_
  refine ev_f f_X11_isTray (t1 := 26) (t2 := 4) rfl rfl rfl (by decide) ?_
  refine ev_loc f_X11_isTray (nx := 5) rfl rfl rfl rfl ?_
  refine ev_loc f_X11_isTray (nx := 6) rfl rfl rfl rfl ?_
  refine ev_getR f_X11_isTray (nx := 9) rfl (hW.s rfl) rfl rfl (hW.r rfl) rfl rfl ?_
  refine ev_alenv f_X11_isTray (nx := 10) (w := 4) rfl (hW.s rfl) rfl (by decide) rfl ?_
  refine ev_f f_X11_isTray (t1 := 26) (t2 := 13) rfl rfl rfl (by decide) ?_
  refine ev_loc f_X11_isTray (nx := 14) rfl rfl rfl rfl ?_
  refine ev_getR f_X11_isTray (nx := 17) rfl (hW.s rfl) rfl rfl (hW.r rfl) rfl rfl ?_
  refine ev_loc f_X11_isTray (nx := 18) rfl rfl rfl rfl ?_
  refine ev_aaldv f_X11_isTray (nx := 19) (j := 1) rfl (hW.s rfl) rfl (by decide) (by decide) (by decide) (hW.r rfl) rfl rfl ?_
  refine ev_jmp f_X11_isTray (nx := 22) rfl rfl rfl ?_
  refine ev_ic f_X11_isTray (nx := 23) (v := 1) rfl (by decide) rfl ?_
  refine ev_jmp f_X11_isTray (nx := 27) rfl rfl rfl ?_
  refine ev_retK1 f_X11_isTray rfl rfl rfl ?_
  refine ev_f f_X11_pour (t1 := 30) (t2 := 16) rfl rfl rfl (by decide) ?_
  refine ev_loc f_X11_pour (nx := 17) rfl rfl rfl rfl ?_
  refine ev_if f_X11_pour (t1 := 30) (t2 := 20) rfl rfl rfl (fun h67 => ?_) (fun h67 => ?_)
  · have q67 := h67; rw [Int32.lt_iff_toInt_lt, (by decide : (0 : Int32).toInt = 0)] at q67
    refine ev_loc f_X11_pour (nx := 31) rfl rfl rfl rfl ?_
    refine ev_ic f_X11_pour (nx := 32) (v := 1) rfl (by decide) rfl ?_
    refine ev_inV2 f_X11_pour (nx := 35) (lo2 := [(0, .ref 0), (1, .int 1)]) rfl rfl rfl rfl f_X11_deny (hW.s rfl) rfl rfl rfl rfl rfl ?_
    refine ev_loc f_X11_deny (nx := 1) rfl rfl rfl rfl ?_
    refine ev_loc f_X11_deny (nx := 2) rfl rfl rfl rfl ?_
    refine ev_putI f_X11_deny (nx := 5) rfl (hW.s rfl) rfl rfl rfl ?_
    refine ev_ic f_X11_deny (nx := 6) (v := 0) rfl (by decide) rfl ?_
    refine ev_retK1 f_X11_deny rfl rfl rfl ?_
    refine ev_retK1 f_X11_pour rfl rfl rfl ?_
    refine ev_loc f_L_law (nx := 465) rfl rfl rfl rfl ?_
    refine ev_loc f_L_law (nx := 466) rfl rfl rfl rfl ?_
    refine ev_loc f_L_law (nx := 467) rfl rfl rfl rfl ?_
    refine ev_ic f_L_law (nx := 468) (v := 1) rfl (by decide) rfl ?_
    refine ev_aluvI f_L_law (nx := 469) (w := 1) rfl rfl rfl (by decide) rfl ?_
    refine ev_scrv f_L_law (nx := 470) (j := 1) (w := 3) rfl hX (by decide) (by decide) (by decide) e1 rfl ?_
    refine ev_loc f_L_law (nx := 471) rfl rfl rfl rfl ?_
    refine ev_loc f_L_law (nx := 472) rfl rfl rfl rfl ?_
    refine ev_ic f_L_law (nx := 473) (v := 2) rfl (by decide) rfl ?_
    refine ev_aluvI f_L_law (nx := 474) (w := 2) rfl rfl rfl (by decide) rfl ?_
    refine ev_scr f_L_law (nx := 475) (j := 2) rfl hX (by decide) (by decide) (by decide) rfl ?_
    refine ev_loc f_L_law (nx := 476) rfl rfl rfl rfl ?_
    refine ev_loc f_L_law (nx := 477) rfl rfl rfl rfl ?_
    refine ev_ic f_L_law (nx := 478) (v := 3) rfl (by decide) rfl ?_
    refine ev_aluvI f_L_law (nx := 479) (w := 3) rfl rfl rfl (by decide) rfl ?_
    refine ev_scrv f_L_law (nx := 480) (j := 3) (w := 1) rfl hX (by decide) (by decide) (by decide) e3 rfl ?_
    refine ev_loc f_L_law (nx := 481) rfl rfl rfl rfl ?_
    refine ev_loc f_L_law (nx := 482) rfl rfl rfl rfl ?_
    refine ev_ic f_L_law (nx := 483) (v := 4) rfl (by decide) rfl ?_
    refine ev_aluvI f_L_law (nx := 484) (w := 4) rfl rfl rfl (by decide) rfl ?_
    refine ev_scr f_L_law (nx := 485) (j := 4) rfl hX (by decide) (by decide) (by decide) rfl ?_
    refine ev_loc f_L_law (nx := 486) rfl rfl rfl rfl ?_
    refine ev_loc f_L_law (nx := 487) rfl rfl rfl rfl ?_
    refine ev_ic f_L_law (nx := 488) (v := 5) rfl (by decide) rfl ?_
    refine ev_aluvI f_L_law (nx := 489) (w := 5) rfl rfl rfl (by decide) rfl ?_
    refine ev_scr f_L_law (nx := 490) (j := 5) rfl hX (by decide) (by decide) (by decide) rfl ?_
    refine ev_inV6 f_L_law (nx := 493) (lo2 := [(0, .ref 69), (1, .int 3), (2, .int ((X.2 2))), (3, .int 1), (4, .int ((X.2 4))), (5, .int ((X.2 5)))]) rfl rfl rfl rfl f_X12_pour (hW.s rfl) rfl rfl rfl rfl rfl ?_
    refine ev_loc f_X12_pour (nx := 1) rfl rfl rfl rfl ?_
    refine ev_inS1 f_X12_pour (nx := 4) (lo2 := [(0, .int 3)]) rfl rfl rfl rfl f_X12_isTray rfl rfl rfl rfl ?_
    refine ev_loc f_X12_isTray (nx := 1) rfl rfl rfl rfl ?_
    refine ev_f f_X12_isTray (t1 := 13) (t2 := 4) rfl rfl rfl (by decide) ?_
    refine ev_loc f_X12_isTray (nx := 5) rfl rfl rfl rfl ?_
    refine ev_ic f_X12_isTray (nx := 6) (v := 4) rfl (by decide) rfl ?_
    refine ev_f f_X12_isTray (t1 := 13) (t2 := 9) rfl rfl rfl (by decide) ?_
    refine ev_ic f_X12_isTray (nx := 10) (v := 1) rfl (by decide) rfl ?_
    refine ev_jmp f_X12_isTray (nx := 14) rfl rfl rfl ?_
    refine ev_retK1 f_X12_isTray rfl rfl rfl ?_
    refine ev_f f_X12_pour (t1 := 28) (t2 := 7) rfl rfl rfl (by decide) ?_
    refine ev_loc f_X12_pour (nx := 8) rfl rfl rfl rfl ?_
    refine ev_inS1 f_X12_pour (nx := 11) (lo2 := [(0, .int 1)]) rfl rfl rfl rfl f_X12_isTray rfl rfl rfl rfl ?_
    refine ev_loc f_X12_isTray (nx := 1) rfl rfl rfl rfl ?_
    refine ev_f f_X12_isTray (t1 := 13) (t2 := 4) rfl rfl rfl (by decide) ?_
    refine ev_loc f_X12_isTray (nx := 5) rfl rfl rfl rfl ?_
    refine ev_ic f_X12_isTray (nx := 6) (v := 4) rfl (by decide) rfl ?_
    refine ev_f f_X12_isTray (t1 := 13) (t2 := 9) rfl rfl rfl (by decide) ?_
    refine ev_ic f_X12_isTray (nx := 10) (v := 1) rfl (by decide) rfl ?_
    refine ev_jmp f_X12_isTray (nx := 14) rfl rfl rfl ?_
    refine ev_retK1 f_X12_isTray rfl rfl rfl ?_
    refine ev_f f_X12_pour (t1 := 28) (t2 := 14) rfl rfl rfl (by decide) ?_
    refine ev_loc f_X12_pour (nx := 15) rfl rfl rfl rfl ?_
    refine ev_t f_X12_pour (t1 := 28) (t2 := 18) rfl rfl rfl (by rw [Int32.lt_iff_toInt_lt, (by decide : (0 : Int32).toInt = 0)]; omega) ?_
    refine ev_loc f_X12_pour (nx := 29) rfl rfl rfl rfl ?_
    refine ev_ic f_X12_pour (nx := 30) (v := 1) rfl (by decide) rfl ?_
    refine ev_inV2 f_X12_pour (nx := 33) (lo2 := [(0, .ref 69), (1, .int 1)]) rfl rfl rfl rfl f_X12_is (hW.s rfl) rfl rfl rfl rfl rfl ?_
    refine ev_loc f_X12_is (nx := 1) rfl rfl rfl rfl ?_
    refine ev_loc f_X12_is (nx := 2) rfl rfl rfl rfl ?_
    refine ev_putI f_X12_is (nx := 5) rfl (hW.s rfl) rfl rfl rfl ?_
    refine ev_loc f_X12_is (nx := 6) rfl rfl rfl rfl ?_
    refine ev_f f_X12_is (t1 := 9) (t2 := 13) rfl rfl rfl (by decide) ?_
    refine ev_ic f_X12_is (nx := 14) (v := 0) rfl (by decide) rfl ?_
    refine ev_retK1 f_X12_is rfl rfl rfl ?_
    refine ev_retK1 f_X12_pour rfl rfl rfl ?_
    refine ev_t f_L_law (t1 := 1628) (t2 := 496) rfl rfl rfl (by decide) ?_
    refine ev_incv f_L_law (nx := 1631) (c := 6) (w := 6) (lo' := [(3, .int 6), (2, .ref 69), (1, .ref 0), (0, .retAddr 30)]) rfl rfl (by decide) (by decide) rfl rfl rfl ?_
    refine ev_jmp f_L_law (nx := 18) rfl rfl rfl ?_
    refine ev_loc f_L_law (nx := 19) rfl rfl rfl rfl ?_
    refine ev_loc f_L_law (nx := 20) rfl rfl rfl rfl ?_
    refine ev_alenX f_L_law (nx := 21) rfl hX rfl ?_
    refine ev_bp f_L_law (nx := 23) (v := 6) rfl (by decide) rfl ?_
    refine ev_aluvI f_L_law (nx := 24) (w := 0) rfl rfl rfl (by decide) rfl ?_
    refine ev_t f_L_law (t1 := 1634) (t2 := 27) rfl rfl rfl (by decide) ?_
    refine ev_ic f_L_law (nx := 1635) (v := 1) rfl (by decide) rfl ?_
    refine ev_ret f_L_law rfl rfl rfl ?_
    exact ⟨rfl, hz⟩
  · have q67 := h67; rw [Int32.lt_iff_toInt_lt, (by decide : (0 : Int32).toInt = 0)] at q67
    refine ev_loc f_X11_pour (nx := 22) rfl rfl rfl rfl ?_
    refine ev_if f_X11_pour (t1 := 30) (t2 := 25) rfl rfl rfl (fun h151 => ?_) (fun h151 => ?_)
    · have q151 := h151; rw [Int32.lt_iff_toInt_lt, (by decide : (0 : Int32).toInt = 0)] at q151
      refine ev_loc f_X11_pour (nx := 31) rfl rfl rfl rfl ?_
      refine ev_ic f_X11_pour (nx := 32) (v := 1) rfl (by decide) rfl ?_
      refine ev_inV2 f_X11_pour (nx := 35) (lo2 := [(0, .ref 0), (1, .int 1)]) rfl rfl rfl rfl f_X11_deny (hW.s rfl) rfl rfl rfl rfl rfl ?_
      refine ev_loc f_X11_deny (nx := 1) rfl rfl rfl rfl ?_
      refine ev_loc f_X11_deny (nx := 2) rfl rfl rfl rfl ?_
      refine ev_putI f_X11_deny (nx := 5) rfl (hW.s rfl) rfl rfl rfl ?_
      refine ev_ic f_X11_deny (nx := 6) (v := 0) rfl (by decide) rfl ?_
      refine ev_retK1 f_X11_deny rfl rfl rfl ?_
      refine ev_retK1 f_X11_pour rfl rfl rfl ?_
      refine ev_loc f_L_law (nx := 465) rfl rfl rfl rfl ?_
      refine ev_loc f_L_law (nx := 466) rfl rfl rfl rfl ?_
      refine ev_loc f_L_law (nx := 467) rfl rfl rfl rfl ?_
      refine ev_ic f_L_law (nx := 468) (v := 1) rfl (by decide) rfl ?_
      refine ev_aluvI f_L_law (nx := 469) (w := 1) rfl rfl rfl (by decide) rfl ?_
      refine ev_scrv f_L_law (nx := 470) (j := 1) (w := 3) rfl hX (by decide) (by decide) (by decide) e1 rfl ?_
      refine ev_loc f_L_law (nx := 471) rfl rfl rfl rfl ?_
      refine ev_loc f_L_law (nx := 472) rfl rfl rfl rfl ?_
      refine ev_ic f_L_law (nx := 473) (v := 2) rfl (by decide) rfl ?_
      refine ev_aluvI f_L_law (nx := 474) (w := 2) rfl rfl rfl (by decide) rfl ?_
      refine ev_scr f_L_law (nx := 475) (j := 2) rfl hX (by decide) (by decide) (by decide) rfl ?_
      refine ev_loc f_L_law (nx := 476) rfl rfl rfl rfl ?_
      refine ev_loc f_L_law (nx := 477) rfl rfl rfl rfl ?_
      refine ev_ic f_L_law (nx := 478) (v := 3) rfl (by decide) rfl ?_
      refine ev_aluvI f_L_law (nx := 479) (w := 3) rfl rfl rfl (by decide) rfl ?_
      refine ev_scrv f_L_law (nx := 480) (j := 3) (w := 1) rfl hX (by decide) (by decide) (by decide) e3 rfl ?_
      refine ev_loc f_L_law (nx := 481) rfl rfl rfl rfl ?_
      refine ev_loc f_L_law (nx := 482) rfl rfl rfl rfl ?_
      refine ev_ic f_L_law (nx := 483) (v := 4) rfl (by decide) rfl ?_
      refine ev_aluvI f_L_law (nx := 484) (w := 4) rfl rfl rfl (by decide) rfl ?_
      refine ev_scr f_L_law (nx := 485) (j := 4) rfl hX (by decide) (by decide) (by decide) rfl ?_
      refine ev_loc f_L_law (nx := 486) rfl rfl rfl rfl ?_
      refine ev_loc f_L_law (nx := 487) rfl rfl rfl rfl ?_
      refine ev_ic f_L_law (nx := 488) (v := 5) rfl (by decide) rfl ?_
      refine ev_aluvI f_L_law (nx := 489) (w := 5) rfl rfl rfl (by decide) rfl ?_
      refine ev_scr f_L_law (nx := 490) (j := 5) rfl hX (by decide) (by decide) (by decide) rfl ?_
      refine ev_inV6 f_L_law (nx := 493) (lo2 := [(0, .ref 69), (1, .int 3), (2, .int ((X.2 2))), (3, .int 1), (4, .int ((X.2 4))), (5, .int ((X.2 5)))]) rfl rfl rfl rfl f_X12_pour (hW.s rfl) rfl rfl rfl rfl rfl ?_
      refine ev_loc f_X12_pour (nx := 1) rfl rfl rfl rfl ?_
      refine ev_inS1 f_X12_pour (nx := 4) (lo2 := [(0, .int 3)]) rfl rfl rfl rfl f_X12_isTray rfl rfl rfl rfl ?_
      refine ev_loc f_X12_isTray (nx := 1) rfl rfl rfl rfl ?_
      refine ev_f f_X12_isTray (t1 := 13) (t2 := 4) rfl rfl rfl (by decide) ?_
      refine ev_loc f_X12_isTray (nx := 5) rfl rfl rfl rfl ?_
      refine ev_ic f_X12_isTray (nx := 6) (v := 4) rfl (by decide) rfl ?_
      refine ev_f f_X12_isTray (t1 := 13) (t2 := 9) rfl rfl rfl (by decide) ?_
      refine ev_ic f_X12_isTray (nx := 10) (v := 1) rfl (by decide) rfl ?_
      refine ev_jmp f_X12_isTray (nx := 14) rfl rfl rfl ?_
      refine ev_retK1 f_X12_isTray rfl rfl rfl ?_
      refine ev_f f_X12_pour (t1 := 28) (t2 := 7) rfl rfl rfl (by decide) ?_
      refine ev_loc f_X12_pour (nx := 8) rfl rfl rfl rfl ?_
      refine ev_inS1 f_X12_pour (nx := 11) (lo2 := [(0, .int 1)]) rfl rfl rfl rfl f_X12_isTray rfl rfl rfl rfl ?_
      refine ev_loc f_X12_isTray (nx := 1) rfl rfl rfl rfl ?_
      refine ev_f f_X12_isTray (t1 := 13) (t2 := 4) rfl rfl rfl (by decide) ?_
      refine ev_loc f_X12_isTray (nx := 5) rfl rfl rfl rfl ?_
      refine ev_ic f_X12_isTray (nx := 6) (v := 4) rfl (by decide) rfl ?_
      refine ev_f f_X12_isTray (t1 := 13) (t2 := 9) rfl rfl rfl (by decide) ?_
      refine ev_ic f_X12_isTray (nx := 10) (v := 1) rfl (by decide) rfl ?_
      refine ev_jmp f_X12_isTray (nx := 14) rfl rfl rfl ?_
      refine ev_retK1 f_X12_isTray rfl rfl rfl ?_
      refine ev_f f_X12_pour (t1 := 28) (t2 := 14) rfl rfl rfl (by decide) ?_
      refine ev_loc f_X12_pour (nx := 15) rfl rfl rfl rfl ?_
      refine ev_f f_X12_pour (t1 := 28) (t2 := 18) rfl rfl rfl (by rw [Int32.lt_iff_toInt_lt, (by decide : (0 : Int32).toInt = 0)]; omega) ?_
      refine ev_loc f_X12_pour (nx := 20) rfl rfl rfl rfl ?_
      refine ev_t f_X12_pour (t1 := 28) (t2 := 23) rfl rfl rfl (by rw [Int32.lt_iff_toInt_lt, (by decide : (0 : Int32).toInt = 0)]; omega) ?_
      refine ev_loc f_X12_pour (nx := 29) rfl rfl rfl rfl ?_
      refine ev_ic f_X12_pour (nx := 30) (v := 1) rfl (by decide) rfl ?_
      refine ev_inV2 f_X12_pour (nx := 33) (lo2 := [(0, .ref 69), (1, .int 1)]) rfl rfl rfl rfl f_X12_is (hW.s rfl) rfl rfl rfl rfl rfl ?_
      refine ev_loc f_X12_is (nx := 1) rfl rfl rfl rfl ?_
      refine ev_loc f_X12_is (nx := 2) rfl rfl rfl rfl ?_
      refine ev_putI f_X12_is (nx := 5) rfl (hW.s rfl) rfl rfl rfl ?_
      refine ev_loc f_X12_is (nx := 6) rfl rfl rfl rfl ?_
      refine ev_f f_X12_is (t1 := 9) (t2 := 13) rfl rfl rfl (by decide) ?_
      refine ev_ic f_X12_is (nx := 14) (v := 0) rfl (by decide) rfl ?_
      refine ev_retK1 f_X12_is rfl rfl rfl ?_
      refine ev_retK1 f_X12_pour rfl rfl rfl ?_
      refine ev_t f_L_law (t1 := 1628) (t2 := 496) rfl rfl rfl (by decide) ?_
      refine ev_incv f_L_law (nx := 1631) (c := 6) (w := 6) (lo' := [(3, .int 6), (2, .ref 69), (1, .ref 0), (0, .retAddr 30)]) rfl rfl (by decide) (by decide) rfl rfl rfl ?_
      refine ev_jmp f_L_law (nx := 18) rfl rfl rfl ?_
      refine ev_loc f_L_law (nx := 19) rfl rfl rfl rfl ?_
      refine ev_loc f_L_law (nx := 20) rfl rfl rfl rfl ?_
      refine ev_alenX f_L_law (nx := 21) rfl hX rfl ?_
      refine ev_bp f_L_law (nx := 23) (v := 6) rfl (by decide) rfl ?_
      refine ev_aluvI f_L_law (nx := 24) (w := 0) rfl rfl rfl (by decide) rfl ?_
      refine ev_t f_L_law (t1 := 1634) (t2 := 27) rfl rfl rfl (by decide) ?_
      refine ev_ic f_L_law (nx := 1635) (v := 1) rfl (by decide) rfl ?_
      refine ev_ret f_L_law rfl rfl rfl ?_
      exact ⟨rfl, hz⟩
    · have q151 := h151; rw [Int32.lt_iff_toInt_lt, (by decide : (0 : Int32).toInt = 0)] at q151
      refine ev_loc f_X11_pour (nx := 27) rfl rfl rfl rfl ?_
      refine ev_if f_X11_pour (t1 := 36) (t2 := 30) rfl rfl rfl (fun h237 => ?_) (fun h237 => ?_)
      · have q237 := h237; rw [Int32.le_iff_toInt_le, (by decide : (0 : Int32).toInt = 0)] at q237
        refine ev_loc f_X11_pour (nx := 37) rfl rfl rfl rfl ?_
        refine ev_getR f_X11_pour (nx := 40) rfl (hW.s rfl) rfl rfl (hW.r rfl) rfl rfl ?_
        refine ev_loc f_X11_pour (nx := 41) rfl rfl rfl rfl ?_
        refine ev_aaldv f_X11_pour (nx := 42) (j := 3) rfl (hW.s rfl) rfl (by decide) (by decide) (by decide) (hW.r rfl) rfl rfl ?_
        refine ev_loc f_X11_pour (nx := 44) (lo' := [(6, .ref 67), (0, .ref 0), (1, .int 3), (2, .int ((X.2 2))), (3, .int 1), (4, .int ((X.2 4))), (5, .int ((X.2 5)))]) rfl rfl rfl rfl ?_
        refine ev_loc f_X11_pour (nx := 45) rfl rfl rfl rfl ?_
        refine ev_getR f_X11_pour (nx := 48) rfl (hW.s rfl) rfl rfl (hW.r rfl) rfl rfl ?_
        refine ev_loc f_X11_pour (nx := 49) rfl rfl rfl rfl ?_
        refine ev_aaldv f_X11_pour (nx := 50) (j := 1) rfl (hW.s rfl) rfl (by decide) (by decide) (by decide) (hW.r rfl) rfl rfl ?_
        refine ev_loc f_X11_pour (nx := 52) (lo' := [(7, .ref 63), (6, .ref 67), (0, .ref 0), (1, .int 3), (2, .int ((X.2 2))), (3, .int 1), (4, .int ((X.2 4))), (5, .int ((X.2 5)))]) rfl rfl rfl rfl ?_
        refine ev_loc f_X11_pour (nx := 54) rfl rfl rfl rfl ?_
        refine ev_inV1 f_X11_pour (nx := 57) (lo2 := [(0, .ref 67)]) rfl rfl rfl rfl f_X10_isMissing (hW.s rfl) rfl rfl rfl rfl rfl ?_
        refine ev_loc f_X10_isMissing (nx := 1) rfl rfl rfl rfl ?_
        refine ev_gvI f_X10_isMissing (nx := 4) (w := -1) rfl (hW.s rfl) rfl rfl (wi_67_2 (gi := gi) hR) rfl ?_
        refine ev_ic f_X10_isMissing (nx := 5) (v := -1) rfl (by decide) rfl ?_
        refine ev_t f_X10_isMissing (t1 := 8) (t2 := 12) rfl rfl rfl (by decide) ?_
        refine ev_ic f_X10_isMissing (nx := 9) (v := 1) rfl (by decide) rfl ?_
        refine ev_jmp f_X10_isMissing (nx := 13) rfl rfl rfl ?_
        refine ev_retK1 f_X10_isMissing rfl rfl rfl ?_
        refine ev_f f_X11_pour (t1 := 60) (t2 := 68) rfl rfl rfl (by decide) ?_
        refine ev_loc f_X11_pour (nx := 69) rfl rfl rfl rfl ?_
        refine ev_ic f_X11_pour (nx := 70) (v := 2) rfl (by decide) rfl ?_
        refine ev_inV2 f_X11_pour (nx := 73) (lo2 := [(0, .ref 0), (1, .int 2)]) rfl rfl rfl rfl f_X11_deny (hW.s rfl) rfl rfl rfl rfl rfl ?_
        refine ev_loc f_X11_deny (nx := 1) rfl rfl rfl rfl ?_
        refine ev_loc f_X11_deny (nx := 2) rfl rfl rfl rfl ?_
        refine ev_putI f_X11_deny (nx := 5) rfl (hW.s rfl) rfl rfl rfl ?_
        refine ev_ic f_X11_deny (nx := 6) (v := 0) rfl (by decide) rfl ?_
        refine ev_retK1 f_X11_deny rfl rfl rfl ?_
        refine ev_retK1 f_X11_pour rfl rfl rfl ?_
        refine ev_loc f_L_law (nx := 465) rfl rfl rfl rfl ?_
        refine ev_loc f_L_law (nx := 466) rfl rfl rfl rfl ?_
        refine ev_loc f_L_law (nx := 467) rfl rfl rfl rfl ?_
        refine ev_ic f_L_law (nx := 468) (v := 1) rfl (by decide) rfl ?_
        refine ev_aluvI f_L_law (nx := 469) (w := 1) rfl rfl rfl (by decide) rfl ?_
        refine ev_scrv f_L_law (nx := 470) (j := 1) (w := 3) rfl hX (by decide) (by decide) (by decide) e1 rfl ?_
        refine ev_loc f_L_law (nx := 471) rfl rfl rfl rfl ?_
        refine ev_loc f_L_law (nx := 472) rfl rfl rfl rfl ?_
        refine ev_ic f_L_law (nx := 473) (v := 2) rfl (by decide) rfl ?_
        refine ev_aluvI f_L_law (nx := 474) (w := 2) rfl rfl rfl (by decide) rfl ?_
        refine ev_scr f_L_law (nx := 475) (j := 2) rfl hX (by decide) (by decide) (by decide) rfl ?_
        refine ev_loc f_L_law (nx := 476) rfl rfl rfl rfl ?_
        refine ev_loc f_L_law (nx := 477) rfl rfl rfl rfl ?_
        refine ev_ic f_L_law (nx := 478) (v := 3) rfl (by decide) rfl ?_
        refine ev_aluvI f_L_law (nx := 479) (w := 3) rfl rfl rfl (by decide) rfl ?_
        refine ev_scrv f_L_law (nx := 480) (j := 3) (w := 1) rfl hX (by decide) (by decide) (by decide) e3 rfl ?_
        refine ev_loc f_L_law (nx := 481) rfl rfl rfl rfl ?_
        refine ev_loc f_L_law (nx := 482) rfl rfl rfl rfl ?_
        refine ev_ic f_L_law (nx := 483) (v := 4) rfl (by decide) rfl ?_
        refine ev_aluvI f_L_law (nx := 484) (w := 4) rfl rfl rfl (by decide) rfl ?_
        refine ev_scr f_L_law (nx := 485) (j := 4) rfl hX (by decide) (by decide) (by decide) rfl ?_
        refine ev_loc f_L_law (nx := 486) rfl rfl rfl rfl ?_
        refine ev_loc f_L_law (nx := 487) rfl rfl rfl rfl ?_
        refine ev_ic f_L_law (nx := 488) (v := 5) rfl (by decide) rfl ?_
        refine ev_aluvI f_L_law (nx := 489) (w := 5) rfl rfl rfl (by decide) rfl ?_
        refine ev_scr f_L_law (nx := 490) (j := 5) rfl hX (by decide) (by decide) (by decide) rfl ?_
        refine ev_inV6 f_L_law (nx := 493) (lo2 := [(0, .ref 69), (1, .int 3), (2, .int ((X.2 2))), (3, .int 1), (4, .int ((X.2 4))), (5, .int ((X.2 5)))]) rfl rfl rfl rfl f_X12_pour (hW.s rfl) rfl rfl rfl rfl rfl ?_
        refine ev_loc f_X12_pour (nx := 1) rfl rfl rfl rfl ?_
        refine ev_inS1 f_X12_pour (nx := 4) (lo2 := [(0, .int 3)]) rfl rfl rfl rfl f_X12_isTray rfl rfl rfl rfl ?_
        refine ev_loc f_X12_isTray (nx := 1) rfl rfl rfl rfl ?_
        refine ev_f f_X12_isTray (t1 := 13) (t2 := 4) rfl rfl rfl (by decide) ?_
        refine ev_loc f_X12_isTray (nx := 5) rfl rfl rfl rfl ?_
        refine ev_ic f_X12_isTray (nx := 6) (v := 4) rfl (by decide) rfl ?_
        refine ev_f f_X12_isTray (t1 := 13) (t2 := 9) rfl rfl rfl (by decide) ?_
        refine ev_ic f_X12_isTray (nx := 10) (v := 1) rfl (by decide) rfl ?_
        refine ev_jmp f_X12_isTray (nx := 14) rfl rfl rfl ?_
        refine ev_retK1 f_X12_isTray rfl rfl rfl ?_
        refine ev_f f_X12_pour (t1 := 28) (t2 := 7) rfl rfl rfl (by decide) ?_
        refine ev_loc f_X12_pour (nx := 8) rfl rfl rfl rfl ?_
        refine ev_inS1 f_X12_pour (nx := 11) (lo2 := [(0, .int 1)]) rfl rfl rfl rfl f_X12_isTray rfl rfl rfl rfl ?_
        refine ev_loc f_X12_isTray (nx := 1) rfl rfl rfl rfl ?_
        refine ev_f f_X12_isTray (t1 := 13) (t2 := 4) rfl rfl rfl (by decide) ?_
        refine ev_loc f_X12_isTray (nx := 5) rfl rfl rfl rfl ?_
        refine ev_ic f_X12_isTray (nx := 6) (v := 4) rfl (by decide) rfl ?_
        refine ev_f f_X12_isTray (t1 := 13) (t2 := 9) rfl rfl rfl (by decide) ?_
        refine ev_ic f_X12_isTray (nx := 10) (v := 1) rfl (by decide) rfl ?_
        refine ev_jmp f_X12_isTray (nx := 14) rfl rfl rfl ?_
        refine ev_retK1 f_X12_isTray rfl rfl rfl ?_
        refine ev_f f_X12_pour (t1 := 28) (t2 := 14) rfl rfl rfl (by decide) ?_
        refine ev_loc f_X12_pour (nx := 15) rfl rfl rfl rfl ?_
        refine ev_f f_X12_pour (t1 := 28) (t2 := 18) rfl rfl rfl (by rw [Int32.lt_iff_toInt_lt, (by decide : (0 : Int32).toInt = 0)]; omega) ?_
        refine ev_loc f_X12_pour (nx := 20) rfl rfl rfl rfl ?_
        refine ev_f f_X12_pour (t1 := 28) (t2 := 23) rfl rfl rfl (by rw [Int32.lt_iff_toInt_lt, (by decide : (0 : Int32).toInt = 0)]; omega) ?_
        refine ev_loc f_X12_pour (nx := 25) rfl rfl rfl rfl ?_
        refine ev_t f_X12_pour (t1 := 34) (t2 := 28) rfl rfl rfl (by rw [Int32.le_iff_toInt_le, (by decide : (0 : Int32).toInt = 0)]; omega) ?_
        refine ev_loc f_X12_pour (nx := 35) rfl rfl rfl rfl ?_
        refine ev_getR f_X12_pour (nx := 38) rfl (hW.s rfl) rfl rfl (hW.r rfl) rfl rfl ?_
        refine ev_loc f_X12_pour (nx := 39) rfl rfl rfl rfl ?_
        refine ev_ialdv f_X12_pour (nx := 40) (j := 3) (w := -1) rfl (hW.s rfl) (by decide) (by decide) (by decide) (wi_73_3 (gi := gi) hR) rfl ?_
        refine ev_ic f_X12_pour (nx := 41) (v := -1) rfl (by decide) rfl ?_
        refine ev_t f_X12_pour (t1 := 54) (t2 := 44) rfl rfl rfl (by decide) ?_
        refine ev_loc f_X12_pour (nx := 55) rfl rfl rfl rfl ?_
        refine ev_ic f_X12_pour (nx := 56) (v := 2) rfl (by decide) rfl ?_
        refine ev_inV2 f_X12_pour (nx := 59) (lo2 := [(0, .ref 69), (1, .int 2)]) rfl rfl rfl rfl f_X12_is (hW.s rfl) rfl rfl rfl rfl rfl ?_
        refine ev_loc f_X12_is (nx := 1) rfl rfl rfl rfl ?_
        refine ev_loc f_X12_is (nx := 2) rfl rfl rfl rfl ?_
        refine ev_putI f_X12_is (nx := 5) rfl (hW.s rfl) rfl rfl rfl ?_
        refine ev_loc f_X12_is (nx := 6) rfl rfl rfl rfl ?_
        refine ev_f f_X12_is (t1 := 9) (t2 := 13) rfl rfl rfl (by decide) ?_
        refine ev_ic f_X12_is (nx := 14) (v := 0) rfl (by decide) rfl ?_
        refine ev_retK1 f_X12_is rfl rfl rfl ?_
        refine ev_retK1 f_X12_pour rfl rfl rfl ?_
        refine ev_t f_L_law (t1 := 1628) (t2 := 496) rfl rfl rfl (by decide) ?_
        refine ev_incv f_L_law (nx := 1631) (c := 6) (w := 6) (lo' := [(3, .int 6), (2, .ref 69), (1, .ref 0), (0, .retAddr 30)]) rfl rfl (by decide) (by decide) rfl rfl rfl ?_
        refine ev_jmp f_L_law (nx := 18) rfl rfl rfl ?_
        refine ev_loc f_L_law (nx := 19) rfl rfl rfl rfl ?_
        refine ev_loc f_L_law (nx := 20) rfl rfl rfl rfl ?_
        refine ev_alenX f_L_law (nx := 21) rfl hX rfl ?_
        refine ev_bp f_L_law (nx := 23) (v := 6) rfl (by decide) rfl ?_
        refine ev_aluvI f_L_law (nx := 24) (w := 0) rfl rfl rfl (by decide) rfl ?_
        refine ev_t f_L_law (t1 := 1634) (t2 := 27) rfl rfl rfl (by decide) ?_
        refine ev_ic f_L_law (nx := 1635) (v := 1) rfl (by decide) rfl ?_
        refine ev_ret f_L_law rfl rfl rfl ?_
        exact ⟨rfl, hz⟩
      · have q237 := h237; rw [Int32.le_iff_toInt_le, (by decide : (0 : Int32).toInt = 0)] at q237
        refine ev_loc f_X11_pour (nx := 31) rfl rfl rfl rfl ?_
        refine ev_ic f_X11_pour (nx := 32) (v := 1) rfl (by decide) rfl ?_
        refine ev_inV2 f_X11_pour (nx := 35) (lo2 := [(0, .ref 0), (1, .int 1)]) rfl rfl rfl rfl f_X11_deny (hW.s rfl) rfl rfl rfl rfl rfl ?_
        refine ev_loc f_X11_deny (nx := 1) rfl rfl rfl rfl ?_
        refine ev_loc f_X11_deny (nx := 2) rfl rfl rfl rfl ?_
        refine ev_putI f_X11_deny (nx := 5) rfl (hW.s rfl) rfl rfl rfl ?_
        refine ev_ic f_X11_deny (nx := 6) (v := 0) rfl (by decide) rfl ?_
        refine ev_retK1 f_X11_deny rfl rfl rfl ?_
        refine ev_retK1 f_X11_pour rfl rfl rfl ?_
        refine ev_loc f_L_law (nx := 465) rfl rfl rfl rfl ?_
        refine ev_loc f_L_law (nx := 466) rfl rfl rfl rfl ?_
        refine ev_loc f_L_law (nx := 467) rfl rfl rfl rfl ?_
        refine ev_ic f_L_law (nx := 468) (v := 1) rfl (by decide) rfl ?_
        refine ev_aluvI f_L_law (nx := 469) (w := 1) rfl rfl rfl (by decide) rfl ?_
        refine ev_scrv f_L_law (nx := 470) (j := 1) (w := 3) rfl hX (by decide) (by decide) (by decide) e1 rfl ?_
        refine ev_loc f_L_law (nx := 471) rfl rfl rfl rfl ?_
        refine ev_loc f_L_law (nx := 472) rfl rfl rfl rfl ?_
        refine ev_ic f_L_law (nx := 473) (v := 2) rfl (by decide) rfl ?_
        refine ev_aluvI f_L_law (nx := 474) (w := 2) rfl rfl rfl (by decide) rfl ?_
        refine ev_scr f_L_law (nx := 475) (j := 2) rfl hX (by decide) (by decide) (by decide) rfl ?_
        refine ev_loc f_L_law (nx := 476) rfl rfl rfl rfl ?_
        refine ev_loc f_L_law (nx := 477) rfl rfl rfl rfl ?_
        refine ev_ic f_L_law (nx := 478) (v := 3) rfl (by decide) rfl ?_
        refine ev_aluvI f_L_law (nx := 479) (w := 3) rfl rfl rfl (by decide) rfl ?_
        refine ev_scrv f_L_law (nx := 480) (j := 3) (w := 1) rfl hX (by decide) (by decide) (by decide) e3 rfl ?_
        refine ev_loc f_L_law (nx := 481) rfl rfl rfl rfl ?_
        refine ev_loc f_L_law (nx := 482) rfl rfl rfl rfl ?_
        refine ev_ic f_L_law (nx := 483) (v := 4) rfl (by decide) rfl ?_
        refine ev_aluvI f_L_law (nx := 484) (w := 4) rfl rfl rfl (by decide) rfl ?_
        refine ev_scr f_L_law (nx := 485) (j := 4) rfl hX (by decide) (by decide) (by decide) rfl ?_
        refine ev_loc f_L_law (nx := 486) rfl rfl rfl rfl ?_
        refine ev_loc f_L_law (nx := 487) rfl rfl rfl rfl ?_
        refine ev_ic f_L_law (nx := 488) (v := 5) rfl (by decide) rfl ?_
        refine ev_aluvI f_L_law (nx := 489) (w := 5) rfl rfl rfl (by decide) rfl ?_
        refine ev_scr f_L_law (nx := 490) (j := 5) rfl hX (by decide) (by decide) (by decide) rfl ?_
        refine ev_inV6 f_L_law (nx := 493) (lo2 := [(0, .ref 69), (1, .int 3), (2, .int ((X.2 2))), (3, .int 1), (4, .int ((X.2 4))), (5, .int ((X.2 5)))]) rfl rfl rfl rfl f_X12_pour (hW.s rfl) rfl rfl rfl rfl rfl ?_
        refine ev_loc f_X12_pour (nx := 1) rfl rfl rfl rfl ?_
        refine ev_inS1 f_X12_pour (nx := 4) (lo2 := [(0, .int 3)]) rfl rfl rfl rfl f_X12_isTray rfl rfl rfl rfl ?_
        refine ev_loc f_X12_isTray (nx := 1) rfl rfl rfl rfl ?_
        refine ev_f f_X12_isTray (t1 := 13) (t2 := 4) rfl rfl rfl (by decide) ?_
        refine ev_loc f_X12_isTray (nx := 5) rfl rfl rfl rfl ?_
        refine ev_ic f_X12_isTray (nx := 6) (v := 4) rfl (by decide) rfl ?_
        refine ev_f f_X12_isTray (t1 := 13) (t2 := 9) rfl rfl rfl (by decide) ?_
        refine ev_ic f_X12_isTray (nx := 10) (v := 1) rfl (by decide) rfl ?_
        refine ev_jmp f_X12_isTray (nx := 14) rfl rfl rfl ?_
        refine ev_retK1 f_X12_isTray rfl rfl rfl ?_
        refine ev_f f_X12_pour (t1 := 28) (t2 := 7) rfl rfl rfl (by decide) ?_
        refine ev_loc f_X12_pour (nx := 8) rfl rfl rfl rfl ?_
        refine ev_inS1 f_X12_pour (nx := 11) (lo2 := [(0, .int 1)]) rfl rfl rfl rfl f_X12_isTray rfl rfl rfl rfl ?_
        refine ev_loc f_X12_isTray (nx := 1) rfl rfl rfl rfl ?_
        refine ev_f f_X12_isTray (t1 := 13) (t2 := 4) rfl rfl rfl (by decide) ?_
        refine ev_loc f_X12_isTray (nx := 5) rfl rfl rfl rfl ?_
        refine ev_ic f_X12_isTray (nx := 6) (v := 4) rfl (by decide) rfl ?_
        refine ev_f f_X12_isTray (t1 := 13) (t2 := 9) rfl rfl rfl (by decide) ?_
        refine ev_ic f_X12_isTray (nx := 10) (v := 1) rfl (by decide) rfl ?_
        refine ev_jmp f_X12_isTray (nx := 14) rfl rfl rfl ?_
        refine ev_retK1 f_X12_isTray rfl rfl rfl ?_
        refine ev_f f_X12_pour (t1 := 28) (t2 := 14) rfl rfl rfl (by decide) ?_
        refine ev_loc f_X12_pour (nx := 15) rfl rfl rfl rfl ?_
        refine ev_f f_X12_pour (t1 := 28) (t2 := 18) rfl rfl rfl (by rw [Int32.lt_iff_toInt_lt, (by decide : (0 : Int32).toInt = 0)]; omega) ?_
        refine ev_loc f_X12_pour (nx := 20) rfl rfl rfl rfl ?_
        refine ev_f f_X12_pour (t1 := 28) (t2 := 23) rfl rfl rfl (by rw [Int32.lt_iff_toInt_lt, (by decide : (0 : Int32).toInt = 0)]; omega) ?_
        refine ev_loc f_X12_pour (nx := 25) rfl rfl rfl rfl ?_
        refine ev_f f_X12_pour (t1 := 34) (t2 := 28) rfl rfl rfl (by rw [Int32.le_iff_toInt_le, (by decide : (0 : Int32).toInt = 0)]; omega) ?_
        refine ev_loc f_X12_pour (nx := 29) rfl rfl rfl rfl ?_
        refine ev_ic f_X12_pour (nx := 30) (v := 1) rfl (by decide) rfl ?_
        refine ev_inV2 f_X12_pour (nx := 33) (lo2 := [(0, .ref 69), (1, .int 1)]) rfl rfl rfl rfl f_X12_is (hW.s rfl) rfl rfl rfl rfl rfl ?_
        refine ev_loc f_X12_is (nx := 1) rfl rfl rfl rfl ?_
        refine ev_loc f_X12_is (nx := 2) rfl rfl rfl rfl ?_
        refine ev_putI f_X12_is (nx := 5) rfl (hW.s rfl) rfl rfl rfl ?_
        refine ev_loc f_X12_is (nx := 6) rfl rfl rfl rfl ?_
        refine ev_f f_X12_is (t1 := 9) (t2 := 13) rfl rfl rfl (by decide) ?_
        refine ev_ic f_X12_is (nx := 14) (v := 0) rfl (by decide) rfl ?_
        refine ev_retK1 f_X12_is rfl rfl rfl ?_
        refine ev_retK1 f_X12_pour rfl rfl rfl ?_
        refine ev_t f_L_law (t1 := 1628) (t2 := 496) rfl rfl rfl (by decide) ?_
        refine ev_incv f_L_law (nx := 1631) (c := 6) (w := 6) (lo' := [(3, .int 6), (2, .ref 69), (1, .ref 0), (0, .retAddr 30)]) rfl rfl (by decide) (by decide) rfl rfl rfl ?_
        refine ev_jmp f_L_law (nx := 18) rfl rfl rfl ?_
        refine ev_loc f_L_law (nx := 19) rfl rfl rfl rfl ?_
        refine ev_loc f_L_law (nx := 20) rfl rfl rfl rfl ?_
        refine ev_alenX f_L_law (nx := 21) rfl hX rfl ?_
        refine ev_bp f_L_law (nx := 23) (v := 6) rfl (by decide) rfl ?_
        refine ev_aluvI f_L_law (nx := 24) (w := 0) rfl rfl rfl (by decide) rfl ?_
        refine ev_t f_L_law (t1 := 1634) (t2 := 27) rfl rfl rfl (by decide) ?_
        refine ev_ic f_L_law (nx := 1635) (v := 1) rfl (by decide) rfl ?_
        refine ev_ret f_L_law rfl rfl rfl ?_
        exact ⟨rfl, hz⟩
set_option maxRecDepth 20000 in
theorem pc_6_3_2 (hR : x_R W1 (sh, gi, gl, gr)) (hX : X.1 = 6) (e1 : X.2 1 = 3) (e3 : X.2 3 = 2) : x_Ev X 1000 n_L_law 435 [(3, .int 0), (2, .ref 69), (1, .ref 0), (0, .retAddr 30)] [] (sh, gi, gl, gr) x_P1 := by
  have hW := W1_WF hR
  have hz := W1_hz hR
  refine ev_loc f_L_law (nx := 436) rfl rfl rfl rfl ?_
  refine ev_loc f_L_law (nx := 437) rfl rfl rfl rfl ?_
  refine ev_loc f_L_law (nx := 438) rfl rfl rfl rfl ?_
  refine ev_ic f_L_law (nx := 439) (v := 1) rfl (by decide) rfl ?_
  refine ev_aluvI f_L_law (nx := 440) (w := 1) rfl rfl rfl (by decide) rfl ?_
  refine ev_scrv f_L_law (nx := 441) (j := 1) (w := 3) rfl hX (by decide) (by decide) (by decide) e1 rfl ?_
  refine ev_loc f_L_law (nx := 442) rfl rfl rfl rfl ?_
  refine ev_loc f_L_law (nx := 443) rfl rfl rfl rfl ?_
  refine ev_ic f_L_law (nx := 444) (v := 2) rfl (by decide) rfl ?_
  refine ev_aluvI f_L_law (nx := 445) (w := 2) rfl rfl rfl (by decide) rfl ?_
  refine ev_scr f_L_law (nx := 446) (j := 2) rfl hX (by decide) (by decide) (by decide) rfl ?_
  refine ev_loc f_L_law (nx := 447) rfl rfl rfl rfl ?_
  refine ev_loc f_L_law (nx := 448) rfl rfl rfl rfl ?_
  refine ev_ic f_L_law (nx := 449) (v := 3) rfl (by decide) rfl ?_
  refine ev_aluvI f_L_law (nx := 450) (w := 3) rfl rfl rfl (by decide) rfl ?_
  refine ev_scrv f_L_law (nx := 451) (j := 3) (w := 2) rfl hX (by decide) (by decide) (by decide) e3 rfl ?_
  refine ev_loc f_L_law (nx := 452) rfl rfl rfl rfl ?_
  refine ev_loc f_L_law (nx := 453) rfl rfl rfl rfl ?_
  refine ev_ic f_L_law (nx := 454) (v := 4) rfl (by decide) rfl ?_
  refine ev_aluvI f_L_law (nx := 455) (w := 4) rfl rfl rfl (by decide) rfl ?_
  refine ev_scr f_L_law (nx := 456) (j := 4) rfl hX (by decide) (by decide) (by decide) rfl ?_
  refine ev_loc f_L_law (nx := 457) rfl rfl rfl rfl ?_
  refine ev_loc f_L_law (nx := 458) rfl rfl rfl rfl ?_
  refine ev_ic f_L_law (nx := 459) (v := 5) rfl (by decide) rfl ?_
  refine ev_aluvI f_L_law (nx := 460) (w := 5) rfl rfl rfl (by decide) rfl ?_
  refine ev_scr f_L_law (nx := 461) (j := 5) rfl hX (by decide) (by decide) (by decide) rfl ?_
  refine ev_inV6 f_L_law (nx := 464) (lo2 := [(0, .ref 0), (1, .int 3), (2, .int ((X.2 2))), (3, .int 2), (4, .int ((X.2 4))), (5, .int ((X.2 5)))]) rfl rfl rfl rfl f_X11_pour (hW.s rfl) rfl rfl rfl rfl rfl ?_
  refine ev_loc f_X11_pour (nx := 1) rfl rfl rfl rfl ?_
  refine ev_loc f_X11_pour (nx := 2) rfl rfl rfl rfl ?_
  refine ev_inV2 f_X11_pour (nx := 5) (lo2 := [(0, .ref 0), (1, .int 3)]) rfl rfl rfl rfl f_X11_isTray (hW.s rfl) rfl rfl rfl rfl rfl ?_
  refine ev_loc f_X11_isTray (nx := 1) rfl rfl rfl rfl ?_
  refine ev_f f_X11_isTray (t1 := 26) (t2 := 4) rfl rfl rfl (by decide) ?_
  refine ev_loc f_X11_isTray (nx := 5) rfl rfl rfl rfl ?_
  refine ev_loc f_X11_isTray (nx := 6) rfl rfl rfl rfl ?_
  refine ev_getR f_X11_isTray (nx := 9) rfl (hW.s rfl) rfl rfl (hW.r rfl) rfl rfl ?_
  refine ev_alenv f_X11_isTray (nx := 10) (w := 4) rfl (hW.s rfl) rfl (by decide) rfl ?_
  refine ev_f f_X11_isTray (t1 := 26) (t2 := 13) rfl rfl rfl (by decide) ?_
  refine ev_loc f_X11_isTray (nx := 14) rfl rfl rfl rfl ?_
  refine ev_getR f_X11_isTray (nx := 17) rfl (hW.s rfl) rfl rfl (hW.r rfl) rfl rfl ?_
  refine ev_loc f_X11_isTray (nx := 18) rfl rfl rfl rfl ?_
  refine ev_aaldv f_X11_isTray (nx := 19) (j := 3) rfl (hW.s rfl) rfl (by decide) (by decide) (by decide) (hW.r rfl) rfl rfl ?_
  refine ev_jmp f_X11_isTray (nx := 22) rfl rfl rfl ?_
  refine ev_ic f_X11_isTray (nx := 23) (v := 1) rfl (by decide) rfl ?_
  refine ev_jmp f_X11_isTray (nx := 27) rfl rfl rfl ?_
  refine ev_retK1 f_X11_isTray rfl rfl rfl ?_
  refine ev_f f_X11_pour (t1 := 30) (t2 := 8) rfl rfl rfl (by decide) ?_
  refine ev_loc f_X11_pour (nx := 9) rfl rfl rfl rfl ?_
  refine ev_loc f_X11_pour (nx := 10) rfl rfl rfl rfl ?_
  refine ev_inV2 f_X11_pour (nx := 13) (lo2 := [(0, .ref 0), (1, .int 2)]) rfl rfl rfl rfl f_X11_isTray (hW.s rfl) rfl rfl rfl rfl rfl ?_
  refine ev_loc f_X11_isTray (nx := 1) rfl rfl rfl rfl ?_
  refine ev_f f_X11_isTray (t1 := 26) (t2 := 4) rfl rfl rfl (by decide) ?_
  refine ev_loc f_X11_isTray (nx := 5) rfl rfl rfl rfl ?_
  refine ev_loc f_X11_isTray (nx := 6) rfl rfl rfl rfl ?_
  refine ev_getR f_X11_isTray (nx := 9) rfl (hW.s rfl) rfl rfl (hW.r rfl) rfl rfl ?_
  refine ev_alenv f_X11_isTray (nx := 10) (w := 4) rfl (hW.s rfl) rfl (by decide) rfl ?_
  refine ev_f f_X11_isTray (t1 := 26) (t2 := 13) rfl rfl rfl (by decide) ?_
  refine ev_loc f_X11_isTray (nx := 14) rfl rfl rfl rfl ?_
  refine ev_getR f_X11_isTray (nx := 17) rfl (hW.s rfl) rfl rfl (hW.r rfl) rfl rfl ?_
  refine ev_loc f_X11_isTray (nx := 18) rfl rfl rfl rfl ?_
  refine ev_aaldv f_X11_isTray (nx := 19) (j := 2) rfl (hW.s rfl) rfl (by decide) (by decide) (by decide) (hW.r rfl) rfl rfl ?_
  refine ev_jmp f_X11_isTray (nx := 22) rfl rfl rfl ?_
  refine ev_ic f_X11_isTray (nx := 23) (v := 1) rfl (by decide) rfl ?_
  refine ev_jmp f_X11_isTray (nx := 27) rfl rfl rfl ?_
  refine ev_retK1 f_X11_isTray rfl rfl rfl ?_
  refine ev_f f_X11_pour (t1 := 30) (t2 := 16) rfl rfl rfl (by decide) ?_
  refine ev_loc f_X11_pour (nx := 17) rfl rfl rfl rfl ?_
  refine ev_if f_X11_pour (t1 := 30) (t2 := 20) rfl rfl rfl (fun h67 => ?_) (fun h67 => ?_)
  · have q67 := h67; rw [Int32.lt_iff_toInt_lt, (by decide : (0 : Int32).toInt = 0)] at q67
    refine ev_loc f_X11_pour (nx := 31) rfl rfl rfl rfl ?_
    refine ev_ic f_X11_pour (nx := 32) (v := 1) rfl (by decide) rfl ?_
    refine ev_inV2 f_X11_pour (nx := 35) (lo2 := [(0, .ref 0), (1, .int 1)]) rfl rfl rfl rfl f_X11_deny (hW.s rfl) rfl rfl rfl rfl rfl ?_
    refine ev_loc f_X11_deny (nx := 1) rfl rfl rfl rfl ?_
    refine ev_loc f_X11_deny (nx := 2) rfl rfl rfl rfl ?_
    refine ev_putI f_X11_deny (nx := 5) rfl (hW.s rfl) rfl rfl rfl ?_
    refine ev_ic f_X11_deny (nx := 6) (v := 0) rfl (by decide) rfl ?_
    refine ev_retK1 f_X11_deny rfl rfl rfl ?_
    refine ev_retK1 f_X11_pour rfl rfl rfl ?_
    refine ev_loc f_L_law (nx := 465) rfl rfl rfl rfl ?_
    refine ev_loc f_L_law (nx := 466) rfl rfl rfl rfl ?_
    refine ev_loc f_L_law (nx := 467) rfl rfl rfl rfl ?_
    refine ev_ic f_L_law (nx := 468) (v := 1) rfl (by decide) rfl ?_
    refine ev_aluvI f_L_law (nx := 469) (w := 1) rfl rfl rfl (by decide) rfl ?_
    refine ev_scrv f_L_law (nx := 470) (j := 1) (w := 3) rfl hX (by decide) (by decide) (by decide) e1 rfl ?_
    refine ev_loc f_L_law (nx := 471) rfl rfl rfl rfl ?_
    refine ev_loc f_L_law (nx := 472) rfl rfl rfl rfl ?_
    refine ev_ic f_L_law (nx := 473) (v := 2) rfl (by decide) rfl ?_
    refine ev_aluvI f_L_law (nx := 474) (w := 2) rfl rfl rfl (by decide) rfl ?_
    refine ev_scr f_L_law (nx := 475) (j := 2) rfl hX (by decide) (by decide) (by decide) rfl ?_
    refine ev_loc f_L_law (nx := 476) rfl rfl rfl rfl ?_
    refine ev_loc f_L_law (nx := 477) rfl rfl rfl rfl ?_
    refine ev_ic f_L_law (nx := 478) (v := 3) rfl (by decide) rfl ?_
    refine ev_aluvI f_L_law (nx := 479) (w := 3) rfl rfl rfl (by decide) rfl ?_
    refine ev_scrv f_L_law (nx := 480) (j := 3) (w := 2) rfl hX (by decide) (by decide) (by decide) e3 rfl ?_
    refine ev_loc f_L_law (nx := 481) rfl rfl rfl rfl ?_
    refine ev_loc f_L_law (nx := 482) rfl rfl rfl rfl ?_
    refine ev_ic f_L_law (nx := 483) (v := 4) rfl (by decide) rfl ?_
    refine ev_aluvI f_L_law (nx := 484) (w := 4) rfl rfl rfl (by decide) rfl ?_
    refine ev_scr f_L_law (nx := 485) (j := 4) rfl hX (by decide) (by decide) (by decide) rfl ?_
    refine ev_loc f_L_law (nx := 486) rfl rfl rfl rfl ?_
    refine ev_loc f_L_law (nx := 487) rfl rfl rfl rfl ?_
    refine ev_ic f_L_law (nx := 488) (v := 5) rfl (by decide) rfl ?_
    refine ev_aluvI f_L_law (nx := 489) (w := 5) rfl rfl rfl (by decide) rfl ?_
    refine ev_scr f_L_law (nx := 490) (j := 5) rfl hX (by decide) (by decide) (by decide) rfl ?_
    refine ev_inV6 f_L_law (nx := 493) (lo2 := [(0, .ref 69), (1, .int 3), (2, .int ((X.2 2))), (3, .int 2), (4, .int ((X.2 4))), (5, .int ((X.2 5)))]) rfl rfl rfl rfl f_X12_pour (hW.s rfl) rfl rfl rfl rfl rfl ?_
    refine ev_loc f_X12_pour (nx := 1) rfl rfl rfl rfl ?_
    refine ev_inS1 f_X12_pour (nx := 4) (lo2 := [(0, .int 3)]) rfl rfl rfl rfl f_X12_isTray rfl rfl rfl rfl ?_
    refine ev_loc f_X12_isTray (nx := 1) rfl rfl rfl rfl ?_
    refine ev_f f_X12_isTray (t1 := 13) (t2 := 4) rfl rfl rfl (by decide) ?_
    refine ev_loc f_X12_isTray (nx := 5) rfl rfl rfl rfl ?_
    refine ev_ic f_X12_isTray (nx := 6) (v := 4) rfl (by decide) rfl ?_
    refine ev_f f_X12_isTray (t1 := 13) (t2 := 9) rfl rfl rfl (by decide) ?_
    refine ev_ic f_X12_isTray (nx := 10) (v := 1) rfl (by decide) rfl ?_
    refine ev_jmp f_X12_isTray (nx := 14) rfl rfl rfl ?_
    refine ev_retK1 f_X12_isTray rfl rfl rfl ?_
    refine ev_f f_X12_pour (t1 := 28) (t2 := 7) rfl rfl rfl (by decide) ?_
    refine ev_loc f_X12_pour (nx := 8) rfl rfl rfl rfl ?_
    refine ev_inS1 f_X12_pour (nx := 11) (lo2 := [(0, .int 2)]) rfl rfl rfl rfl f_X12_isTray rfl rfl rfl rfl ?_
    refine ev_loc f_X12_isTray (nx := 1) rfl rfl rfl rfl ?_
    refine ev_f f_X12_isTray (t1 := 13) (t2 := 4) rfl rfl rfl (by decide) ?_
    refine ev_loc f_X12_isTray (nx := 5) rfl rfl rfl rfl ?_
    refine ev_ic f_X12_isTray (nx := 6) (v := 4) rfl (by decide) rfl ?_
    refine ev_f f_X12_isTray (t1 := 13) (t2 := 9) rfl rfl rfl (by decide) ?_
    refine ev_ic f_X12_isTray (nx := 10) (v := 1) rfl (by decide) rfl ?_
    refine ev_jmp f_X12_isTray (nx := 14) rfl rfl rfl ?_
    refine ev_retK1 f_X12_isTray rfl rfl rfl ?_
    refine ev_f f_X12_pour (t1 := 28) (t2 := 14) rfl rfl rfl (by decide) ?_
    refine ev_loc f_X12_pour (nx := 15) rfl rfl rfl rfl ?_
    refine ev_t f_X12_pour (t1 := 28) (t2 := 18) rfl rfl rfl (by rw [Int32.lt_iff_toInt_lt, (by decide : (0 : Int32).toInt = 0)]; omega) ?_
    refine ev_loc f_X12_pour (nx := 29) rfl rfl rfl rfl ?_
    refine ev_ic f_X12_pour (nx := 30) (v := 1) rfl (by decide) rfl ?_
    refine ev_inV2 f_X12_pour (nx := 33) (lo2 := [(0, .ref 69), (1, .int 1)]) rfl rfl rfl rfl f_X12_is (hW.s rfl) rfl rfl rfl rfl rfl ?_
    refine ev_loc f_X12_is (nx := 1) rfl rfl rfl rfl ?_
    refine ev_loc f_X12_is (nx := 2) rfl rfl rfl rfl ?_
    refine ev_putI f_X12_is (nx := 5) rfl (hW.s rfl) rfl rfl rfl ?_
    refine ev_loc f_X12_is (nx := 6) rfl rfl rfl rfl ?_
    refine ev_f f_X12_is (t1 := 9) (t2 := 13) rfl rfl rfl (by decide) ?_
    refine ev_ic f_X12_is (nx := 14) (v := 0) rfl (by decide) rfl ?_
    refine ev_retK1 f_X12_is rfl rfl rfl ?_
    refine ev_retK1 f_X12_pour rfl rfl rfl ?_
    refine ev_t f_L_law (t1 := 1628) (t2 := 496) rfl rfl rfl (by decide) ?_
    refine ev_incv f_L_law (nx := 1631) (c := 6) (w := 6) (lo' := [(3, .int 6), (2, .ref 69), (1, .ref 0), (0, .retAddr 30)]) rfl rfl (by decide) (by decide) rfl rfl rfl ?_
    refine ev_jmp f_L_law (nx := 18) rfl rfl rfl ?_
    refine ev_loc f_L_law (nx := 19) rfl rfl rfl rfl ?_
    refine ev_loc f_L_law (nx := 20) rfl rfl rfl rfl ?_
    refine ev_alenX f_L_law (nx := 21) rfl hX rfl ?_
    refine ev_bp f_L_law (nx := 23) (v := 6) rfl (by decide) rfl ?_
    refine ev_aluvI f_L_law (nx := 24) (w := 0) rfl rfl rfl (by decide) rfl ?_
    refine ev_t f_L_law (t1 := 1634) (t2 := 27) rfl rfl rfl (by decide) ?_
    refine ev_ic f_L_law (nx := 1635) (v := 1) rfl (by decide) rfl ?_
    refine ev_ret f_L_law rfl rfl rfl ?_
    exact ⟨rfl, hz⟩
  · have q67 := h67; rw [Int32.lt_iff_toInt_lt, (by decide : (0 : Int32).toInt = 0)] at q67
    refine ev_loc f_X11_pour (nx := 22) rfl rfl rfl rfl ?_
    refine ev_if f_X11_pour (t1 := 30) (t2 := 25) rfl rfl rfl (fun h151 => ?_) (fun h151 => ?_)
    · have q151 := h151; rw [Int32.lt_iff_toInt_lt, (by decide : (0 : Int32).toInt = 0)] at q151
      refine ev_loc f_X11_pour (nx := 31) rfl rfl rfl rfl ?_
      refine ev_ic f_X11_pour (nx := 32) (v := 1) rfl (by decide) rfl ?_
      refine ev_inV2 f_X11_pour (nx := 35) (lo2 := [(0, .ref 0), (1, .int 1)]) rfl rfl rfl rfl f_X11_deny (hW.s rfl) rfl rfl rfl rfl rfl ?_
      refine ev_loc f_X11_deny (nx := 1) rfl rfl rfl rfl ?_
      refine ev_loc f_X11_deny (nx := 2) rfl rfl rfl rfl ?_
      refine ev_putI f_X11_deny (nx := 5) rfl (hW.s rfl) rfl rfl rfl ?_
      refine ev_ic f_X11_deny (nx := 6) (v := 0) rfl (by decide) rfl ?_
      refine ev_retK1 f_X11_deny rfl rfl rfl ?_
      refine ev_retK1 f_X11_pour rfl rfl rfl ?_
      refine ev_loc f_L_law (nx := 465) rfl rfl rfl rfl ?_
      refine ev_loc f_L_law (nx := 466) rfl rfl rfl rfl ?_
      refine ev_loc f_L_law (nx := 467) rfl rfl rfl rfl ?_
      refine ev_ic f_L_law (nx := 468) (v := 1) rfl (by decide) rfl ?_
      refine ev_aluvI f_L_law (nx := 469) (w := 1) rfl rfl rfl (by decide) rfl ?_
      refine ev_scrv f_L_law (nx := 470) (j := 1) (w := 3) rfl hX (by decide) (by decide) (by decide) e1 rfl ?_
      refine ev_loc f_L_law (nx := 471) rfl rfl rfl rfl ?_
      refine ev_loc f_L_law (nx := 472) rfl rfl rfl rfl ?_
      refine ev_ic f_L_law (nx := 473) (v := 2) rfl (by decide) rfl ?_
      refine ev_aluvI f_L_law (nx := 474) (w := 2) rfl rfl rfl (by decide) rfl ?_
      refine ev_scr f_L_law (nx := 475) (j := 2) rfl hX (by decide) (by decide) (by decide) rfl ?_
      refine ev_loc f_L_law (nx := 476) rfl rfl rfl rfl ?_
      refine ev_loc f_L_law (nx := 477) rfl rfl rfl rfl ?_
      refine ev_ic f_L_law (nx := 478) (v := 3) rfl (by decide) rfl ?_
      refine ev_aluvI f_L_law (nx := 479) (w := 3) rfl rfl rfl (by decide) rfl ?_
      refine ev_scrv f_L_law (nx := 480) (j := 3) (w := 2) rfl hX (by decide) (by decide) (by decide) e3 rfl ?_
      refine ev_loc f_L_law (nx := 481) rfl rfl rfl rfl ?_
      refine ev_loc f_L_law (nx := 482) rfl rfl rfl rfl ?_
      refine ev_ic f_L_law (nx := 483) (v := 4) rfl (by decide) rfl ?_
      refine ev_aluvI f_L_law (nx := 484) (w := 4) rfl rfl rfl (by decide) rfl ?_
      refine ev_scr f_L_law (nx := 485) (j := 4) rfl hX (by decide) (by decide) (by decide) rfl ?_
      refine ev_loc f_L_law (nx := 486) rfl rfl rfl rfl ?_
      refine ev_loc f_L_law (nx := 487) rfl rfl rfl rfl ?_
      refine ev_ic f_L_law (nx := 488) (v := 5) rfl (by decide) rfl ?_
      refine ev_aluvI f_L_law (nx := 489) (w := 5) rfl rfl rfl (by decide) rfl ?_
      refine ev_scr f_L_law (nx := 490) (j := 5) rfl hX (by decide) (by decide) (by decide) rfl ?_
      refine ev_inV6 f_L_law (nx := 493) (lo2 := [(0, .ref 69), (1, .int 3), (2, .int ((X.2 2))), (3, .int 2), (4, .int ((X.2 4))), (5, .int ((X.2 5)))]) rfl rfl rfl rfl f_X12_pour (hW.s rfl) rfl rfl rfl rfl rfl ?_
      refine ev_loc f_X12_pour (nx := 1) rfl rfl rfl rfl ?_
      refine ev_inS1 f_X12_pour (nx := 4) (lo2 := [(0, .int 3)]) rfl rfl rfl rfl f_X12_isTray rfl rfl rfl rfl ?_
      refine ev_loc f_X12_isTray (nx := 1) rfl rfl rfl rfl ?_
      refine ev_f f_X12_isTray (t1 := 13) (t2 := 4) rfl rfl rfl (by decide) ?_
      refine ev_loc f_X12_isTray (nx := 5) rfl rfl rfl rfl ?_
      refine ev_ic f_X12_isTray (nx := 6) (v := 4) rfl (by decide) rfl ?_
      refine ev_f f_X12_isTray (t1 := 13) (t2 := 9) rfl rfl rfl (by decide) ?_
      refine ev_ic f_X12_isTray (nx := 10) (v := 1) rfl (by decide) rfl ?_
      refine ev_jmp f_X12_isTray (nx := 14) rfl rfl rfl ?_
      refine ev_retK1 f_X12_isTray rfl rfl rfl ?_
      refine ev_f f_X12_pour (t1 := 28) (t2 := 7) rfl rfl rfl (by decide) ?_
      refine ev_loc f_X12_pour (nx := 8) rfl rfl rfl rfl ?_
      refine ev_inS1 f_X12_pour (nx := 11) (lo2 := [(0, .int 2)]) rfl rfl rfl rfl f_X12_isTray rfl rfl rfl rfl ?_
      refine ev_loc f_X12_isTray (nx := 1) rfl rfl rfl rfl ?_
      refine ev_f f_X12_isTray (t1 := 13) (t2 := 4) rfl rfl rfl (by decide) ?_
      refine ev_loc f_X12_isTray (nx := 5) rfl rfl rfl rfl ?_
      refine ev_ic f_X12_isTray (nx := 6) (v := 4) rfl (by decide) rfl ?_
      refine ev_f f_X12_isTray (t1 := 13) (t2 := 9) rfl rfl rfl (by decide) ?_
      refine ev_ic f_X12_isTray (nx := 10) (v := 1) rfl (by decide) rfl ?_
      refine ev_jmp f_X12_isTray (nx := 14) rfl rfl rfl ?_
      refine ev_retK1 f_X12_isTray rfl rfl rfl ?_
      refine ev_f f_X12_pour (t1 := 28) (t2 := 14) rfl rfl rfl (by decide) ?_
      refine ev_loc f_X12_pour (nx := 15) rfl rfl rfl rfl ?_
      refine ev_f f_X12_pour (t1 := 28) (t2 := 18) rfl rfl rfl (by rw [Int32.lt_iff_toInt_lt, (by decide : (0 : Int32).toInt = 0)]; omega) ?_
      refine ev_loc f_X12_pour (nx := 20) rfl rfl rfl rfl ?_
      refine ev_t f_X12_pour (t1 := 28) (t2 := 23) rfl rfl rfl (by rw [Int32.lt_iff_toInt_lt, (by decide : (0 : Int32).toInt = 0)]; omega) ?_
      refine ev_loc f_X12_pour (nx := 29) rfl rfl rfl rfl ?_
      refine ev_ic f_X12_pour (nx := 30) (v := 1) rfl (by decide) rfl ?_
      refine ev_inV2 f_X12_pour (nx := 33) (lo2 := [(0, .ref 69), (1, .int 1)]) rfl rfl rfl rfl f_X12_is (hW.s rfl) rfl rfl rfl rfl rfl ?_
      refine ev_loc f_X12_is (nx := 1) rfl rfl rfl rfl ?_
      refine ev_loc f_X12_is (nx := 2) rfl rfl rfl rfl ?_
      refine ev_putI f_X12_is (nx := 5) rfl (hW.s rfl) rfl rfl rfl ?_
      refine ev_loc f_X12_is (nx := 6) rfl rfl rfl rfl ?_
      refine ev_f f_X12_is (t1 := 9) (t2 := 13) rfl rfl rfl (by decide) ?_
      refine ev_ic f_X12_is (nx := 14) (v := 0) rfl (by decide) rfl ?_
      refine ev_retK1 f_X12_is rfl rfl rfl ?_
      refine ev_retK1 f_X12_pour rfl rfl rfl ?_
      refine ev_t f_L_law (t1 := 1628) (t2 := 496) rfl rfl rfl (by decide) ?_
      refine ev_incv f_L_law (nx := 1631) (c := 6) (w := 6) (lo' := [(3, .int 6), (2, .ref 69), (1, .ref 0), (0, .retAddr 30)]) rfl rfl (by decide) (by decide) rfl rfl rfl ?_
      refine ev_jmp f_L_law (nx := 18) rfl rfl rfl ?_
      refine ev_loc f_L_law (nx := 19) rfl rfl rfl rfl ?_
      refine ev_loc f_L_law (nx := 20) rfl rfl rfl rfl ?_
      refine ev_alenX f_L_law (nx := 21) rfl hX rfl ?_
      refine ev_bp f_L_law (nx := 23) (v := 6) rfl (by decide) rfl ?_
      refine ev_aluvI f_L_law (nx := 24) (w := 0) rfl rfl rfl (by decide) rfl ?_
      refine ev_t f_L_law (t1 := 1634) (t2 := 27) rfl rfl rfl (by decide) ?_
      refine ev_ic f_L_law (nx := 1635) (v := 1) rfl (by decide) rfl ?_
      refine ev_ret f_L_law rfl rfl rfl ?_
      exact ⟨rfl, hz⟩
    · have q151 := h151; rw [Int32.lt_iff_toInt_lt, (by decide : (0 : Int32).toInt = 0)] at q151
      refine ev_loc f_X11_pour (nx := 27) rfl rfl rfl rfl ?_
      refine ev_if f_X11_pour (t1 := 36) (t2 := 30) rfl rfl rfl (fun h237 => ?_) (fun h237 => ?_)
      · have q237 := h237; rw [Int32.le_iff_toInt_le, (by decide : (0 : Int32).toInt = 0)] at q237
        refine ev_loc f_X11_pour (nx := 37) rfl rfl rfl rfl ?_
        refine ev_getR f_X11_pour (nx := 40) rfl (hW.s rfl) rfl rfl (hW.r rfl) rfl rfl ?_
        refine ev_loc f_X11_pour (nx := 41) rfl rfl rfl rfl ?_
        refine ev_aaldv f_X11_pour (nx := 42) (j := 3) rfl (hW.s rfl) rfl (by decide) (by decide) (by decide) (hW.r rfl) rfl rfl ?_
        refine ev_loc f_X11_pour (nx := 44) (lo' := [(6, .ref 67), (0, .ref 0), (1, .int 3), (2, .int ((X.2 2))), (3, .int 2), (4, .int ((X.2 4))), (5, .int ((X.2 5)))]) rfl rfl rfl rfl ?_
        refine ev_loc f_X11_pour (nx := 45) rfl rfl rfl rfl ?_
        refine ev_getR f_X11_pour (nx := 48) rfl (hW.s rfl) rfl rfl (hW.r rfl) rfl rfl ?_
        refine ev_loc f_X11_pour (nx := 49) rfl rfl rfl rfl ?_
        refine ev_aaldv f_X11_pour (nx := 50) (j := 2) rfl (hW.s rfl) rfl (by decide) (by decide) (by decide) (hW.r rfl) rfl rfl ?_
        refine ev_loc f_X11_pour (nx := 52) (lo' := [(7, .ref 65), (6, .ref 67), (0, .ref 0), (1, .int 3), (2, .int ((X.2 2))), (3, .int 2), (4, .int ((X.2 4))), (5, .int ((X.2 5)))]) rfl rfl rfl rfl ?_
        refine ev_loc f_X11_pour (nx := 54) rfl rfl rfl rfl ?_
        refine ev_inV1 f_X11_pour (nx := 57) (lo2 := [(0, .ref 67)]) rfl rfl rfl rfl f_X10_isMissing (hW.s rfl) rfl rfl rfl rfl rfl ?_
        refine ev_loc f_X10_isMissing (nx := 1) rfl rfl rfl rfl ?_
        refine ev_gvI f_X10_isMissing (nx := 4) (w := -1) rfl (hW.s rfl) rfl rfl (wi_67_2 (gi := gi) hR) rfl ?_
        refine ev_ic f_X10_isMissing (nx := 5) (v := -1) rfl (by decide) rfl ?_
        refine ev_t f_X10_isMissing (t1 := 8) (t2 := 12) rfl rfl rfl (by decide) ?_
        refine ev_ic f_X10_isMissing (nx := 9) (v := 1) rfl (by decide) rfl ?_
        refine ev_jmp f_X10_isMissing (nx := 13) rfl rfl rfl ?_
        refine ev_retK1 f_X10_isMissing rfl rfl rfl ?_
        refine ev_f f_X11_pour (t1 := 60) (t2 := 68) rfl rfl rfl (by decide) ?_
        refine ev_loc f_X11_pour (nx := 69) rfl rfl rfl rfl ?_
        refine ev_ic f_X11_pour (nx := 70) (v := 2) rfl (by decide) rfl ?_
        refine ev_inV2 f_X11_pour (nx := 73) (lo2 := [(0, .ref 0), (1, .int 2)]) rfl rfl rfl rfl f_X11_deny (hW.s rfl) rfl rfl rfl rfl rfl ?_
        refine ev_loc f_X11_deny (nx := 1) rfl rfl rfl rfl ?_
        refine ev_loc f_X11_deny (nx := 2) rfl rfl rfl rfl ?_
        refine ev_putI f_X11_deny (nx := 5) rfl (hW.s rfl) rfl rfl rfl ?_
        refine ev_ic f_X11_deny (nx := 6) (v := 0) rfl (by decide) rfl ?_
        refine ev_retK1 f_X11_deny rfl rfl rfl ?_
        refine ev_retK1 f_X11_pour rfl rfl rfl ?_
        refine ev_loc f_L_law (nx := 465) rfl rfl rfl rfl ?_
        refine ev_loc f_L_law (nx := 466) rfl rfl rfl rfl ?_
        refine ev_loc f_L_law (nx := 467) rfl rfl rfl rfl ?_
        refine ev_ic f_L_law (nx := 468) (v := 1) rfl (by decide) rfl ?_
        refine ev_aluvI f_L_law (nx := 469) (w := 1) rfl rfl rfl (by decide) rfl ?_
        refine ev_scrv f_L_law (nx := 470) (j := 1) (w := 3) rfl hX (by decide) (by decide) (by decide) e1 rfl ?_
        refine ev_loc f_L_law (nx := 471) rfl rfl rfl rfl ?_
        refine ev_loc f_L_law (nx := 472) rfl rfl rfl rfl ?_
        refine ev_ic f_L_law (nx := 473) (v := 2) rfl (by decide) rfl ?_
        refine ev_aluvI f_L_law (nx := 474) (w := 2) rfl rfl rfl (by decide) rfl ?_
        refine ev_scr f_L_law (nx := 475) (j := 2) rfl hX (by decide) (by decide) (by decide) rfl ?_
        refine ev_loc f_L_law (nx := 476) rfl rfl rfl rfl ?_
        refine ev_loc f_L_law (nx := 477) rfl rfl rfl rfl ?_
        refine ev_ic f_L_law (nx := 478) (v := 3) rfl (by decide) rfl ?_
        refine ev_aluvI f_L_law (nx := 479) (w := 3) rfl rfl rfl (by decide) rfl ?_
        refine ev_scrv f_L_law (nx := 480) (j := 3) (w := 2) rfl hX (by decide) (by decide) (by decide) e3 rfl ?_
        refine ev_loc f_L_law (nx := 481) rfl rfl rfl rfl ?_
        refine ev_loc f_L_law (nx := 482) rfl rfl rfl rfl ?_
        refine ev_ic f_L_law (nx := 483) (v := 4) rfl (by decide) rfl ?_
        refine ev_aluvI f_L_law (nx := 484) (w := 4) rfl rfl rfl (by decide) rfl ?_
        refine ev_scr f_L_law (nx := 485) (j := 4) rfl hX (by decide) (by decide) (by decide) rfl ?_
        refine ev_loc f_L_law (nx := 486) rfl rfl rfl rfl ?_
        refine ev_loc f_L_law (nx := 487) rfl rfl rfl rfl ?_
        refine ev_ic f_L_law (nx := 488) (v := 5) rfl (by decide) rfl ?_
        refine ev_aluvI f_L_law (nx := 489) (w := 5) rfl rfl rfl (by decide) rfl ?_
        refine ev_scr f_L_law (nx := 490) (j := 5) rfl hX (by decide) (by decide) (by decide) rfl ?_
        refine ev_inV6 f_L_law (nx := 493) (lo2 := [(0, .ref 69), (1, .int 3), (2, .int ((X.2 2))), (3, .int 2), (4, .int ((X.2 4))), (5, .int ((X.2 5)))]) rfl rfl rfl rfl f_X12_pour (hW.s rfl) rfl rfl rfl rfl rfl ?_
        refine ev_loc f_X12_pour (nx := 1) rfl rfl rfl rfl ?_
        refine ev_inS1 f_X12_pour (nx := 4) (lo2 := [(0, .int 3)]) rfl rfl rfl rfl f_X12_isTray rfl rfl rfl rfl ?_
        refine ev_loc f_X12_isTray (nx := 1) rfl rfl rfl rfl ?_
        refine ev_f f_X12_isTray (t1 := 13) (t2 := 4) rfl rfl rfl (by decide) ?_
        refine ev_loc f_X12_isTray (nx := 5) rfl rfl rfl rfl ?_
        refine ev_ic f_X12_isTray (nx := 6) (v := 4) rfl (by decide) rfl ?_
        refine ev_f f_X12_isTray (t1 := 13) (t2 := 9) rfl rfl rfl (by decide) ?_
        refine ev_ic f_X12_isTray (nx := 10) (v := 1) rfl (by decide) rfl ?_
        refine ev_jmp f_X12_isTray (nx := 14) rfl rfl rfl ?_
        refine ev_retK1 f_X12_isTray rfl rfl rfl ?_
        refine ev_f f_X12_pour (t1 := 28) (t2 := 7) rfl rfl rfl (by decide) ?_
        refine ev_loc f_X12_pour (nx := 8) rfl rfl rfl rfl ?_
        refine ev_inS1 f_X12_pour (nx := 11) (lo2 := [(0, .int 2)]) rfl rfl rfl rfl f_X12_isTray rfl rfl rfl rfl ?_
        refine ev_loc f_X12_isTray (nx := 1) rfl rfl rfl rfl ?_
        refine ev_f f_X12_isTray (t1 := 13) (t2 := 4) rfl rfl rfl (by decide) ?_
        refine ev_loc f_X12_isTray (nx := 5) rfl rfl rfl rfl ?_
        refine ev_ic f_X12_isTray (nx := 6) (v := 4) rfl (by decide) rfl ?_
        refine ev_f f_X12_isTray (t1 := 13) (t2 := 9) rfl rfl rfl (by decide) ?_
        refine ev_ic f_X12_isTray (nx := 10) (v := 1) rfl (by decide) rfl ?_
        refine ev_jmp f_X12_isTray (nx := 14) rfl rfl rfl ?_
        refine ev_retK1 f_X12_isTray rfl rfl rfl ?_
        refine ev_f f_X12_pour (t1 := 28) (t2 := 14) rfl rfl rfl (by decide) ?_
        refine ev_loc f_X12_pour (nx := 15) rfl rfl rfl rfl ?_
        refine ev_f f_X12_pour (t1 := 28) (t2 := 18) rfl rfl rfl (by rw [Int32.lt_iff_toInt_lt, (by decide : (0 : Int32).toInt = 0)]; omega) ?_
        refine ev_loc f_X12_pour (nx := 20) rfl rfl rfl rfl ?_
        refine ev_f f_X12_pour (t1 := 28) (t2 := 23) rfl rfl rfl (by rw [Int32.lt_iff_toInt_lt, (by decide : (0 : Int32).toInt = 0)]; omega) ?_
        refine ev_loc f_X12_pour (nx := 25) rfl rfl rfl rfl ?_
        refine ev_t f_X12_pour (t1 := 34) (t2 := 28) rfl rfl rfl (by rw [Int32.le_iff_toInt_le, (by decide : (0 : Int32).toInt = 0)]; omega) ?_
        refine ev_loc f_X12_pour (nx := 35) rfl rfl rfl rfl ?_
        refine ev_getR f_X12_pour (nx := 38) rfl (hW.s rfl) rfl rfl (hW.r rfl) rfl rfl ?_
        refine ev_loc f_X12_pour (nx := 39) rfl rfl rfl rfl ?_
        refine ev_ialdv f_X12_pour (nx := 40) (j := 3) (w := -1) rfl (hW.s rfl) (by decide) (by decide) (by decide) (wi_73_3 (gi := gi) hR) rfl ?_
        refine ev_ic f_X12_pour (nx := 41) (v := -1) rfl (by decide) rfl ?_
        refine ev_t f_X12_pour (t1 := 54) (t2 := 44) rfl rfl rfl (by decide) ?_
        refine ev_loc f_X12_pour (nx := 55) rfl rfl rfl rfl ?_
        refine ev_ic f_X12_pour (nx := 56) (v := 2) rfl (by decide) rfl ?_
        refine ev_inV2 f_X12_pour (nx := 59) (lo2 := [(0, .ref 69), (1, .int 2)]) rfl rfl rfl rfl f_X12_is (hW.s rfl) rfl rfl rfl rfl rfl ?_
        refine ev_loc f_X12_is (nx := 1) rfl rfl rfl rfl ?_
        refine ev_loc f_X12_is (nx := 2) rfl rfl rfl rfl ?_
        refine ev_putI f_X12_is (nx := 5) rfl (hW.s rfl) rfl rfl rfl ?_
        refine ev_loc f_X12_is (nx := 6) rfl rfl rfl rfl ?_
        refine ev_f f_X12_is (t1 := 9) (t2 := 13) rfl rfl rfl (by decide) ?_
        refine ev_ic f_X12_is (nx := 14) (v := 0) rfl (by decide) rfl ?_
        refine ev_retK1 f_X12_is rfl rfl rfl ?_
        refine ev_retK1 f_X12_pour rfl rfl rfl ?_
        refine ev_t f_L_law (t1 := 1628) (t2 := 496) rfl rfl rfl (by decide) ?_
        refine ev_incv f_L_law (nx := 1631) (c := 6) (w := 6) (lo' := [(3, .int 6), (2, .ref 69), (1, .ref 0), (0, .retAddr 30)]) rfl rfl (by decide) (by decide) rfl rfl rfl ?_
        refine ev_jmp f_L_law (nx := 18) rfl rfl rfl ?_
        refine ev_loc f_L_law (nx := 19) rfl rfl rfl rfl ?_
        refine ev_loc f_L_law (nx := 20) rfl rfl rfl rfl ?_
        refine ev_alenX f_L_law (nx := 21) rfl hX rfl ?_
        refine ev_bp f_L_law (nx := 23) (v := 6) rfl (by decide) rfl ?_
        refine ev_aluvI f_L_law (nx := 24) (w := 0) rfl rfl rfl (by decide) rfl ?_
        refine ev_t f_L_law (t1 := 1634) (t2 := 27) rfl rfl rfl (by decide) ?_
        refine ev_ic f_L_law (nx := 1635) (v := 1) rfl (by decide) rfl ?_
        refine ev_ret f_L_law rfl rfl rfl ?_
        exact ⟨rfl, hz⟩
      · have q237 := h237; rw [Int32.le_iff_toInt_le, (by decide : (0 : Int32).toInt = 0)] at q237
        refine ev_loc f_X11_pour (nx := 31) rfl rfl rfl rfl ?_
        refine ev_ic f_X11_pour (nx := 32) (v := 1) rfl (by decide) rfl ?_
        refine ev_inV2 f_X11_pour (nx := 35) (lo2 := [(0, .ref 0), (1, .int 1)]) rfl rfl rfl rfl f_X11_deny (hW.s rfl) rfl rfl rfl rfl rfl ?_
        refine ev_loc f_X11_deny (nx := 1) rfl rfl rfl rfl ?_
        refine ev_loc f_X11_deny (nx := 2) rfl rfl rfl rfl ?_
        refine ev_putI f_X11_deny (nx := 5) rfl (hW.s rfl) rfl rfl rfl ?_
        refine ev_ic f_X11_deny (nx := 6) (v := 0) rfl (by decide) rfl ?_
        refine ev_retK1 f_X11_deny rfl rfl rfl ?_
        refine ev_retK1 f_X11_pour rfl rfl rfl ?_
        refine ev_loc f_L_law (nx := 465) rfl rfl rfl rfl ?_
        refine ev_loc f_L_law (nx := 466) rfl rfl rfl rfl ?_
        refine ev_loc f_L_law (nx := 467) rfl rfl rfl rfl ?_
        refine ev_ic f_L_law (nx := 468) (v := 1) rfl (by decide) rfl ?_
        refine ev_aluvI f_L_law (nx := 469) (w := 1) rfl rfl rfl (by decide) rfl ?_
        refine ev_scrv f_L_law (nx := 470) (j := 1) (w := 3) rfl hX (by decide) (by decide) (by decide) e1 rfl ?_
        refine ev_loc f_L_law (nx := 471) rfl rfl rfl rfl ?_
        refine ev_loc f_L_law (nx := 472) rfl rfl rfl rfl ?_
        refine ev_ic f_L_law (nx := 473) (v := 2) rfl (by decide) rfl ?_
        refine ev_aluvI f_L_law (nx := 474) (w := 2) rfl rfl rfl (by decide) rfl ?_
        refine ev_scr f_L_law (nx := 475) (j := 2) rfl hX (by decide) (by decide) (by decide) rfl ?_
        refine ev_loc f_L_law (nx := 476) rfl rfl rfl rfl ?_
        refine ev_loc f_L_law (nx := 477) rfl rfl rfl rfl ?_
        refine ev_ic f_L_law (nx := 478) (v := 3) rfl (by decide) rfl ?_
        refine ev_aluvI f_L_law (nx := 479) (w := 3) rfl rfl rfl (by decide) rfl ?_
        refine ev_scrv f_L_law (nx := 480) (j := 3) (w := 2) rfl hX (by decide) (by decide) (by decide) e3 rfl ?_
        refine ev_loc f_L_law (nx := 481) rfl rfl rfl rfl ?_
        refine ev_loc f_L_law (nx := 482) rfl rfl rfl rfl ?_
        refine ev_ic f_L_law (nx := 483) (v := 4) rfl (by decide) rfl ?_
        refine ev_aluvI f_L_law (nx := 484) (w := 4) rfl rfl rfl (by decide) rfl ?_
        refine ev_scr f_L_law (nx := 485) (j := 4) rfl hX (by decide) (by decide) (by decide) rfl ?_
        refine ev_loc f_L_law (nx := 486) rfl rfl rfl rfl ?_
        refine ev_loc f_L_law (nx := 487) rfl rfl rfl rfl ?_
        refine ev_ic f_L_law (nx := 488) (v := 5) rfl (by decide) rfl ?_
        refine ev_aluvI f_L_law (nx := 489) (w := 5) rfl rfl rfl (by decide) rfl ?_
        refine ev_scr f_L_law (nx := 490) (j := 5) rfl hX (by decide) (by decide) (by decide) rfl ?_
        refine ev_inV6 f_L_law (nx := 493) (lo2 := [(0, .ref 69), (1, .int 3), (2, .int ((X.2 2))), (3, .int 2), (4, .int ((X.2 4))), (5, .int ((X.2 5)))]) rfl rfl rfl rfl f_X12_pour (hW.s rfl) rfl rfl rfl rfl rfl ?_
        refine ev_loc f_X12_pour (nx := 1) rfl rfl rfl rfl ?_
        refine ev_inS1 f_X12_pour (nx := 4) (lo2 := [(0, .int 3)]) rfl rfl rfl rfl f_X12_isTray rfl rfl rfl rfl ?_
        refine ev_loc f_X12_isTray (nx := 1) rfl rfl rfl rfl ?_
        refine ev_f f_X12_isTray (t1 := 13) (t2 := 4) rfl rfl rfl (by decide) ?_
        refine ev_loc f_X12_isTray (nx := 5) rfl rfl rfl rfl ?_
        refine ev_ic f_X12_isTray (nx := 6) (v := 4) rfl (by decide) rfl ?_
        refine ev_f f_X12_isTray (t1 := 13) (t2 := 9) rfl rfl rfl (by decide) ?_
        refine ev_ic f_X12_isTray (nx := 10) (v := 1) rfl (by decide) rfl ?_
        refine ev_jmp f_X12_isTray (nx := 14) rfl rfl rfl ?_
        refine ev_retK1 f_X12_isTray rfl rfl rfl ?_
        refine ev_f f_X12_pour (t1 := 28) (t2 := 7) rfl rfl rfl (by decide) ?_
        refine ev_loc f_X12_pour (nx := 8) rfl rfl rfl rfl ?_
        refine ev_inS1 f_X12_pour (nx := 11) (lo2 := [(0, .int 2)]) rfl rfl rfl rfl f_X12_isTray rfl rfl rfl rfl ?_
        refine ev_loc f_X12_isTray (nx := 1) rfl rfl rfl rfl ?_
        refine ev_f f_X12_isTray (t1 := 13) (t2 := 4) rfl rfl rfl (by decide) ?_
        refine ev_loc f_X12_isTray (nx := 5) rfl rfl rfl rfl ?_
        refine ev_ic f_X12_isTray (nx := 6) (v := 4) rfl (by decide) rfl ?_
        refine ev_f f_X12_isTray (t1 := 13) (t2 := 9) rfl rfl rfl (by decide) ?_
        refine ev_ic f_X12_isTray (nx := 10) (v := 1) rfl (by decide) rfl ?_
        refine ev_jmp f_X12_isTray (nx := 14) rfl rfl rfl ?_
        refine ev_retK1 f_X12_isTray rfl rfl rfl ?_
        refine ev_f f_X12_pour (t1 := 28) (t2 := 14) rfl rfl rfl (by decide) ?_
        refine ev_loc f_X12_pour (nx := 15) rfl rfl rfl rfl ?_
        refine ev_f f_X12_pour (t1 := 28) (t2 := 18) rfl rfl rfl (by rw [Int32.lt_iff_toInt_lt, (by decide : (0 : Int32).toInt = 0)]; omega) ?_
        refine ev_loc f_X12_pour (nx := 20) rfl rfl rfl rfl ?_
        refine ev_f f_X12_pour (t1 := 28) (t2 := 23) rfl rfl rfl (by rw [Int32.lt_iff_toInt_lt, (by decide : (0 : Int32).toInt = 0)]; omega) ?_
        refine ev_loc f_X12_pour (nx := 25) rfl rfl rfl rfl ?_
        refine ev_f f_X12_pour (t1 := 34) (t2 := 28) rfl rfl rfl (by rw [Int32.le_iff_toInt_le, (by decide : (0 : Int32).toInt = 0)]; omega) ?_
        refine ev_loc f_X12_pour (nx := 29) rfl rfl rfl rfl ?_
        refine ev_ic f_X12_pour (nx := 30) (v := 1) rfl (by decide) rfl ?_
        refine ev_inV2 f_X12_pour (nx := 33) (lo2 := [(0, .ref 69), (1, .int 1)]) rfl rfl rfl rfl f_X12_is (hW.s rfl) rfl rfl rfl rfl rfl ?_
        refine ev_loc f_X12_is (nx := 1) rfl rfl rfl rfl ?_
        refine ev_loc f_X12_is (nx := 2) rfl rfl rfl rfl ?_
        refine ev_putI f_X12_is (nx := 5) rfl (hW.s rfl) rfl rfl rfl ?_
        refine ev_loc f_X12_is (nx := 6) rfl rfl rfl rfl ?_
        refine ev_f f_X12_is (t1 := 9) (t2 := 13) rfl rfl rfl (by decide) ?_
        refine ev_ic f_X12_is (nx := 14) (v := 0) rfl (by decide) rfl ?_
        refine ev_retK1 f_X12_is rfl rfl rfl ?_
        refine ev_retK1 f_X12_pour rfl rfl rfl ?_
        refine ev_t f_L_law (t1 := 1628) (t2 := 496) rfl rfl rfl (by decide) ?_
        refine ev_incv f_L_law (nx := 1631) (c := 6) (w := 6) (lo' := [(3, .int 6), (2, .ref 69), (1, .ref 0), (0, .retAddr 30)]) rfl rfl (by decide) (by decide) rfl rfl rfl ?_
        refine ev_jmp f_L_law (nx := 18) rfl rfl rfl ?_
        refine ev_loc f_L_law (nx := 19) rfl rfl rfl rfl ?_
        refine ev_loc f_L_law (nx := 20) rfl rfl rfl rfl ?_
        refine ev_alenX f_L_law (nx := 21) rfl hX rfl ?_
        refine ev_bp f_L_law (nx := 23) (v := 6) rfl (by decide) rfl ?_
        refine ev_aluvI f_L_law (nx := 24) (w := 0) rfl rfl rfl (by decide) rfl ?_
        refine ev_t f_L_law (t1 := 1634) (t2 := 27) rfl rfl rfl (by decide) ?_
        refine ev_ic f_L_law (nx := 1635) (v := 1) rfl (by decide) rfl ?_
        refine ev_ret f_L_law rfl rfl rfl ?_
        exact ⟨rfl, hz⟩
set_option maxRecDepth 20000 in
theorem pc_6_3_3 (hR : x_R W1 (sh, gi, gl, gr)) (hX : X.1 = 6) (e1 : X.2 1 = 3) (e3 : X.2 3 = 3) : x_Ev X 1000 n_L_law 435 [(3, .int 0), (2, .ref 69), (1, .ref 0), (0, .retAddr 30)] [] (sh, gi, gl, gr) x_P1 := by
  have hW := W1_WF hR
  have hz := W1_hz hR
  refine ev_loc f_L_law (nx := 436) rfl rfl rfl rfl ?_
  refine ev_loc f_L_law (nx := 437) rfl rfl rfl rfl ?_
  refine ev_loc f_L_law (nx := 438) rfl rfl rfl rfl ?_
  refine ev_ic f_L_law (nx := 439) (v := 1) rfl (by decide) rfl ?_
  refine ev_aluvI f_L_law (nx := 440) (w := 1) rfl rfl rfl (by decide) rfl ?_
  refine ev_scrv f_L_law (nx := 441) (j := 1) (w := 3) rfl hX (by decide) (by decide) (by decide) e1 rfl ?_
  refine ev_loc f_L_law (nx := 442) rfl rfl rfl rfl ?_
  refine ev_loc f_L_law (nx := 443) rfl rfl rfl rfl ?_
  refine ev_ic f_L_law (nx := 444) (v := 2) rfl (by decide) rfl ?_
  refine ev_aluvI f_L_law (nx := 445) (w := 2) rfl rfl rfl (by decide) rfl ?_
  refine ev_scr f_L_law (nx := 446) (j := 2) rfl hX (by decide) (by decide) (by decide) rfl ?_
  refine ev_loc f_L_law (nx := 447) rfl rfl rfl rfl ?_
  refine ev_loc f_L_law (nx := 448) rfl rfl rfl rfl ?_
  refine ev_ic f_L_law (nx := 449) (v := 3) rfl (by decide) rfl ?_
  refine ev_aluvI f_L_law (nx := 450) (w := 3) rfl rfl rfl (by decide) rfl ?_
  refine ev_scrv f_L_law (nx := 451) (j := 3) (w := 3) rfl hX (by decide) (by decide) (by decide) e3 rfl ?_
  refine ev_loc f_L_law (nx := 452) rfl rfl rfl rfl ?_
  refine ev_loc f_L_law (nx := 453) rfl rfl rfl rfl ?_
  refine ev_ic f_L_law (nx := 454) (v := 4) rfl (by decide) rfl ?_
  refine ev_aluvI f_L_law (nx := 455) (w := 4) rfl rfl rfl (by decide) rfl ?_
  refine ev_scr f_L_law (nx := 456) (j := 4) rfl hX (by decide) (by decide) (by decide) rfl ?_
  refine ev_loc f_L_law (nx := 457) rfl rfl rfl rfl ?_
  refine ev_loc f_L_law (nx := 458) rfl rfl rfl rfl ?_
  refine ev_ic f_L_law (nx := 459) (v := 5) rfl (by decide) rfl ?_
  refine ev_aluvI f_L_law (nx := 460) (w := 5) rfl rfl rfl (by decide) rfl ?_
  refine ev_scr f_L_law (nx := 461) (j := 5) rfl hX (by decide) (by decide) (by decide) rfl ?_
  refine ev_inV6 f_L_law (nx := 464) (lo2 := [(0, .ref 0), (1, .int 3), (2, .int ((X.2 2))), (3, .int 3), (4, .int ((X.2 4))), (5, .int ((X.2 5)))]) rfl rfl rfl rfl f_X11_pour (hW.s rfl) rfl rfl rfl rfl rfl ?_
  refine ev_loc f_X11_pour (nx := 1) rfl rfl rfl rfl ?_
  refine ev_loc f_X11_pour (nx := 2) rfl rfl rfl rfl ?_
  refine ev_inV2 f_X11_pour (nx := 5) (lo2 := [(0, .ref 0), (1, .int 3)]) rfl rfl rfl rfl f_X11_isTray (hW.s rfl) rfl rfl rfl rfl rfl ?_
  refine ev_loc f_X11_isTray (nx := 1) rfl rfl rfl rfl ?_
  refine ev_f f_X11_isTray (t1 := 26) (t2 := 4) rfl rfl rfl (by decide) ?_
  refine ev_loc f_X11_isTray (nx := 5) rfl rfl rfl rfl ?_
  refine ev_loc f_X11_isTray (nx := 6) rfl rfl rfl rfl ?_
  refine ev_getR f_X11_isTray (nx := 9) rfl (hW.s rfl) rfl rfl (hW.r rfl) rfl rfl ?_
  refine ev_alenv f_X11_isTray (nx := 10) (w := 4) rfl (hW.s rfl) rfl (by decide) rfl ?_
  refine ev_f f_X11_isTray (t1 := 26) (t2 := 13) rfl rfl rfl (by decide) ?_
  refine ev_loc f_X11_isTray (nx := 14) rfl rfl rfl rfl ?_
  refine ev_getR f_X11_isTray (nx := 17) rfl (hW.s rfl) rfl rfl (hW.r rfl) rfl rfl ?_
  refine ev_loc f_X11_isTray (nx := 18) rfl rfl rfl rfl ?_
  refine ev_aaldv f_X11_isTray (nx := 19) (j := 3) rfl (hW.s rfl) rfl (by decide) (by decide) (by decide) (hW.r rfl) rfl rfl ?_
  refine ev_jmp f_X11_isTray (nx := 22) rfl rfl rfl ?_
  refine ev_ic f_X11_isTray (nx := 23) (v := 1) rfl (by decide) rfl ?_
  refine ev_jmp f_X11_isTray (nx := 27) rfl rfl rfl ?_
  refine ev_retK1 f_X11_isTray rfl rfl rfl ?_
  refine ev_f f_X11_pour (t1 := 30) (t2 := 8) rfl rfl rfl (by decide) ?_
  refine ev_loc f_X11_pour (nx := 9) rfl rfl rfl rfl ?_
  refine ev_loc f_X11_pour (nx := 10) rfl rfl rfl rfl ?_
  refine ev_inV2 f_X11_pour (nx := 13) (lo2 := [(0, .ref 0), (1, .int 3)]) rfl rfl rfl rfl f_X11_isTray (hW.s rfl) rfl rfl rfl rfl rfl ?_
  refine ev_loc f_X11_isTray (nx := 1) rfl rfl rfl rfl ?_
  refine ev_f f_X11_isTray (t1 := 26) (t2 := 4) rfl rfl rfl (by decide) ?_
  refine ev_loc f_X11_isTray (nx := 5) rfl rfl rfl rfl ?_
  refine ev_loc f_X11_isTray (nx := 6) rfl rfl rfl rfl ?_
  refine ev_getR f_X11_isTray (nx := 9) rfl (hW.s rfl) rfl rfl (hW.r rfl) rfl rfl ?_
  refine ev_alenv f_X11_isTray (nx := 10) (w := 4) rfl (hW.s rfl) rfl (by decide) rfl ?_
  refine ev_f f_X11_isTray (t1 := 26) (t2 := 13) rfl rfl rfl (by decide) ?_
  refine ev_loc f_X11_isTray (nx := 14) rfl rfl rfl rfl ?_
  refine ev_getR f_X11_isTray (nx := 17) rfl (hW.s rfl) rfl rfl (hW.r rfl) rfl rfl ?_
  refine ev_loc f_X11_isTray (nx := 18) rfl rfl rfl rfl ?_
  refine ev_aaldv f_X11_isTray (nx := 19) (j := 3) rfl (hW.s rfl) rfl (by decide) (by decide) (by decide) (hW.r rfl) rfl rfl ?_
  refine ev_jmp f_X11_isTray (nx := 22) rfl rfl rfl ?_
  refine ev_ic f_X11_isTray (nx := 23) (v := 1) rfl (by decide) rfl ?_
  refine ev_jmp f_X11_isTray (nx := 27) rfl rfl rfl ?_
  refine ev_retK1 f_X11_isTray rfl rfl rfl ?_
  refine ev_f f_X11_pour (t1 := 30) (t2 := 16) rfl rfl rfl (by decide) ?_
  refine ev_loc f_X11_pour (nx := 17) rfl rfl rfl rfl ?_
  refine ev_if f_X11_pour (t1 := 30) (t2 := 20) rfl rfl rfl (fun h67 => ?_) (fun h67 => ?_)
  · have q67 := h67; rw [Int32.lt_iff_toInt_lt, (by decide : (0 : Int32).toInt = 0)] at q67
    refine ev_loc f_X11_pour (nx := 31) rfl rfl rfl rfl ?_
    refine ev_ic f_X11_pour (nx := 32) (v := 1) rfl (by decide) rfl ?_
    refine ev_inV2 f_X11_pour (nx := 35) (lo2 := [(0, .ref 0), (1, .int 1)]) rfl rfl rfl rfl f_X11_deny (hW.s rfl) rfl rfl rfl rfl rfl ?_
    refine ev_loc f_X11_deny (nx := 1) rfl rfl rfl rfl ?_
    refine ev_loc f_X11_deny (nx := 2) rfl rfl rfl rfl ?_
    refine ev_putI f_X11_deny (nx := 5) rfl (hW.s rfl) rfl rfl rfl ?_
    refine ev_ic f_X11_deny (nx := 6) (v := 0) rfl (by decide) rfl ?_
    refine ev_retK1 f_X11_deny rfl rfl rfl ?_
    refine ev_retK1 f_X11_pour rfl rfl rfl ?_
    refine ev_loc f_L_law (nx := 465) rfl rfl rfl rfl ?_
    refine ev_loc f_L_law (nx := 466) rfl rfl rfl rfl ?_
    refine ev_loc f_L_law (nx := 467) rfl rfl rfl rfl ?_
    refine ev_ic f_L_law (nx := 468) (v := 1) rfl (by decide) rfl ?_
    refine ev_aluvI f_L_law (nx := 469) (w := 1) rfl rfl rfl (by decide) rfl ?_
    refine ev_scrv f_L_law (nx := 470) (j := 1) (w := 3) rfl hX (by decide) (by decide) (by decide) e1 rfl ?_
    refine ev_loc f_L_law (nx := 471) rfl rfl rfl rfl ?_
    refine ev_loc f_L_law (nx := 472) rfl rfl rfl rfl ?_
    refine ev_ic f_L_law (nx := 473) (v := 2) rfl (by decide) rfl ?_
    refine ev_aluvI f_L_law (nx := 474) (w := 2) rfl rfl rfl (by decide) rfl ?_
    refine ev_scr f_L_law (nx := 475) (j := 2) rfl hX (by decide) (by decide) (by decide) rfl ?_
    refine ev_loc f_L_law (nx := 476) rfl rfl rfl rfl ?_
    refine ev_loc f_L_law (nx := 477) rfl rfl rfl rfl ?_
    refine ev_ic f_L_law (nx := 478) (v := 3) rfl (by decide) rfl ?_
    refine ev_aluvI f_L_law (nx := 479) (w := 3) rfl rfl rfl (by decide) rfl ?_
    refine ev_scrv f_L_law (nx := 480) (j := 3) (w := 3) rfl hX (by decide) (by decide) (by decide) e3 rfl ?_
    refine ev_loc f_L_law (nx := 481) rfl rfl rfl rfl ?_
    refine ev_loc f_L_law (nx := 482) rfl rfl rfl rfl ?_
    refine ev_ic f_L_law (nx := 483) (v := 4) rfl (by decide) rfl ?_
    refine ev_aluvI f_L_law (nx := 484) (w := 4) rfl rfl rfl (by decide) rfl ?_
    refine ev_scr f_L_law (nx := 485) (j := 4) rfl hX (by decide) (by decide) (by decide) rfl ?_
    refine ev_loc f_L_law (nx := 486) rfl rfl rfl rfl ?_
    refine ev_loc f_L_law (nx := 487) rfl rfl rfl rfl ?_
    refine ev_ic f_L_law (nx := 488) (v := 5) rfl (by decide) rfl ?_
    refine ev_aluvI f_L_law (nx := 489) (w := 5) rfl rfl rfl (by decide) rfl ?_
    refine ev_scr f_L_law (nx := 490) (j := 5) rfl hX (by decide) (by decide) (by decide) rfl ?_
    refine ev_inV6 f_L_law (nx := 493) (lo2 := [(0, .ref 69), (1, .int 3), (2, .int ((X.2 2))), (3, .int 3), (4, .int ((X.2 4))), (5, .int ((X.2 5)))]) rfl rfl rfl rfl f_X12_pour (hW.s rfl) rfl rfl rfl rfl rfl ?_
    refine ev_loc f_X12_pour (nx := 1) rfl rfl rfl rfl ?_
    refine ev_inS1 f_X12_pour (nx := 4) (lo2 := [(0, .int 3)]) rfl rfl rfl rfl f_X12_isTray rfl rfl rfl rfl ?_
    refine ev_loc f_X12_isTray (nx := 1) rfl rfl rfl rfl ?_
    refine ev_f f_X12_isTray (t1 := 13) (t2 := 4) rfl rfl rfl (by decide) ?_
    refine ev_loc f_X12_isTray (nx := 5) rfl rfl rfl rfl ?_
    refine ev_ic f_X12_isTray (nx := 6) (v := 4) rfl (by decide) rfl ?_
    refine ev_f f_X12_isTray (t1 := 13) (t2 := 9) rfl rfl rfl (by decide) ?_
    refine ev_ic f_X12_isTray (nx := 10) (v := 1) rfl (by decide) rfl ?_
    refine ev_jmp f_X12_isTray (nx := 14) rfl rfl rfl ?_
    refine ev_retK1 f_X12_isTray rfl rfl rfl ?_
    refine ev_f f_X12_pour (t1 := 28) (t2 := 7) rfl rfl rfl (by decide) ?_
    refine ev_loc f_X12_pour (nx := 8) rfl rfl rfl rfl ?_
    refine ev_inS1 f_X12_pour (nx := 11) (lo2 := [(0, .int 3)]) rfl rfl rfl rfl f_X12_isTray rfl rfl rfl rfl ?_
    refine ev_loc f_X12_isTray (nx := 1) rfl rfl rfl rfl ?_
    refine ev_f f_X12_isTray (t1 := 13) (t2 := 4) rfl rfl rfl (by decide) ?_
    refine ev_loc f_X12_isTray (nx := 5) rfl rfl rfl rfl ?_
    refine ev_ic f_X12_isTray (nx := 6) (v := 4) rfl (by decide) rfl ?_
    refine ev_f f_X12_isTray (t1 := 13) (t2 := 9) rfl rfl rfl (by decide) ?_
    refine ev_ic f_X12_isTray (nx := 10) (v := 1) rfl (by decide) rfl ?_
    refine ev_jmp f_X12_isTray (nx := 14) rfl rfl rfl ?_
    refine ev_retK1 f_X12_isTray rfl rfl rfl ?_
    refine ev_f f_X12_pour (t1 := 28) (t2 := 14) rfl rfl rfl (by decide) ?_
    refine ev_loc f_X12_pour (nx := 15) rfl rfl rfl rfl ?_
    refine ev_t f_X12_pour (t1 := 28) (t2 := 18) rfl rfl rfl (by rw [Int32.lt_iff_toInt_lt, (by decide : (0 : Int32).toInt = 0)]; omega) ?_
    refine ev_loc f_X12_pour (nx := 29) rfl rfl rfl rfl ?_
    refine ev_ic f_X12_pour (nx := 30) (v := 1) rfl (by decide) rfl ?_
    refine ev_inV2 f_X12_pour (nx := 33) (lo2 := [(0, .ref 69), (1, .int 1)]) rfl rfl rfl rfl f_X12_is (hW.s rfl) rfl rfl rfl rfl rfl ?_
    refine ev_loc f_X12_is (nx := 1) rfl rfl rfl rfl ?_
    refine ev_loc f_X12_is (nx := 2) rfl rfl rfl rfl ?_
    refine ev_putI f_X12_is (nx := 5) rfl (hW.s rfl) rfl rfl rfl ?_
    refine ev_loc f_X12_is (nx := 6) rfl rfl rfl rfl ?_
    refine ev_f f_X12_is (t1 := 9) (t2 := 13) rfl rfl rfl (by decide) ?_
    refine ev_ic f_X12_is (nx := 14) (v := 0) rfl (by decide) rfl ?_
    refine ev_retK1 f_X12_is rfl rfl rfl ?_
    refine ev_retK1 f_X12_pour rfl rfl rfl ?_
    refine ev_t f_L_law (t1 := 1628) (t2 := 496) rfl rfl rfl (by decide) ?_
    refine ev_incv f_L_law (nx := 1631) (c := 6) (w := 6) (lo' := [(3, .int 6), (2, .ref 69), (1, .ref 0), (0, .retAddr 30)]) rfl rfl (by decide) (by decide) rfl rfl rfl ?_
    refine ev_jmp f_L_law (nx := 18) rfl rfl rfl ?_
    refine ev_loc f_L_law (nx := 19) rfl rfl rfl rfl ?_
    refine ev_loc f_L_law (nx := 20) rfl rfl rfl rfl ?_
    refine ev_alenX f_L_law (nx := 21) rfl hX rfl ?_
    refine ev_bp f_L_law (nx := 23) (v := 6) rfl (by decide) rfl ?_
    refine ev_aluvI f_L_law (nx := 24) (w := 0) rfl rfl rfl (by decide) rfl ?_
    refine ev_t f_L_law (t1 := 1634) (t2 := 27) rfl rfl rfl (by decide) ?_
    refine ev_ic f_L_law (nx := 1635) (v := 1) rfl (by decide) rfl ?_
    refine ev_ret f_L_law rfl rfl rfl ?_
    exact ⟨rfl, hz⟩
  · have q67 := h67; rw [Int32.lt_iff_toInt_lt, (by decide : (0 : Int32).toInt = 0)] at q67
    refine ev_loc f_X11_pour (nx := 22) rfl rfl rfl rfl ?_
    refine ev_if f_X11_pour (t1 := 30) (t2 := 25) rfl rfl rfl (fun h151 => ?_) (fun h151 => ?_)
    · have q151 := h151; rw [Int32.lt_iff_toInt_lt, (by decide : (0 : Int32).toInt = 0)] at q151
      refine ev_loc f_X11_pour (nx := 31) rfl rfl rfl rfl ?_
      refine ev_ic f_X11_pour (nx := 32) (v := 1) rfl (by decide) rfl ?_
      refine ev_inV2 f_X11_pour (nx := 35) (lo2 := [(0, .ref 0), (1, .int 1)]) rfl rfl rfl rfl f_X11_deny (hW.s rfl) rfl rfl rfl rfl rfl ?_
      refine ev_loc f_X11_deny (nx := 1) rfl rfl rfl rfl ?_
      refine ev_loc f_X11_deny (nx := 2) rfl rfl rfl rfl ?_
      refine ev_putI f_X11_deny (nx := 5) rfl (hW.s rfl) rfl rfl rfl ?_
      refine ev_ic f_X11_deny (nx := 6) (v := 0) rfl (by decide) rfl ?_
      refine ev_retK1 f_X11_deny rfl rfl rfl ?_
      refine ev_retK1 f_X11_pour rfl rfl rfl ?_
      refine ev_loc f_L_law (nx := 465) rfl rfl rfl rfl ?_
      refine ev_loc f_L_law (nx := 466) rfl rfl rfl rfl ?_
      refine ev_loc f_L_law (nx := 467) rfl rfl rfl rfl ?_
      refine ev_ic f_L_law (nx := 468) (v := 1) rfl (by decide) rfl ?_
      refine ev_aluvI f_L_law (nx := 469) (w := 1) rfl rfl rfl (by decide) rfl ?_
      refine ev_scrv f_L_law (nx := 470) (j := 1) (w := 3) rfl hX (by decide) (by decide) (by decide) e1 rfl ?_
      refine ev_loc f_L_law (nx := 471) rfl rfl rfl rfl ?_
      refine ev_loc f_L_law (nx := 472) rfl rfl rfl rfl ?_
      refine ev_ic f_L_law (nx := 473) (v := 2) rfl (by decide) rfl ?_
      refine ev_aluvI f_L_law (nx := 474) (w := 2) rfl rfl rfl (by decide) rfl ?_
      refine ev_scr f_L_law (nx := 475) (j := 2) rfl hX (by decide) (by decide) (by decide) rfl ?_
      refine ev_loc f_L_law (nx := 476) rfl rfl rfl rfl ?_
      refine ev_loc f_L_law (nx := 477) rfl rfl rfl rfl ?_
      refine ev_ic f_L_law (nx := 478) (v := 3) rfl (by decide) rfl ?_
      refine ev_aluvI f_L_law (nx := 479) (w := 3) rfl rfl rfl (by decide) rfl ?_
      refine ev_scrv f_L_law (nx := 480) (j := 3) (w := 3) rfl hX (by decide) (by decide) (by decide) e3 rfl ?_
      refine ev_loc f_L_law (nx := 481) rfl rfl rfl rfl ?_
      refine ev_loc f_L_law (nx := 482) rfl rfl rfl rfl ?_
      refine ev_ic f_L_law (nx := 483) (v := 4) rfl (by decide) rfl ?_
      refine ev_aluvI f_L_law (nx := 484) (w := 4) rfl rfl rfl (by decide) rfl ?_
      refine ev_scr f_L_law (nx := 485) (j := 4) rfl hX (by decide) (by decide) (by decide) rfl ?_
      refine ev_loc f_L_law (nx := 486) rfl rfl rfl rfl ?_
      refine ev_loc f_L_law (nx := 487) rfl rfl rfl rfl ?_
      refine ev_ic f_L_law (nx := 488) (v := 5) rfl (by decide) rfl ?_
      refine ev_aluvI f_L_law (nx := 489) (w := 5) rfl rfl rfl (by decide) rfl ?_
      refine ev_scr f_L_law (nx := 490) (j := 5) rfl hX (by decide) (by decide) (by decide) rfl ?_
      refine ev_inV6 f_L_law (nx := 493) (lo2 := [(0, .ref 69), (1, .int 3), (2, .int ((X.2 2))), (3, .int 3), (4, .int ((X.2 4))), (5, .int ((X.2 5)))]) rfl rfl rfl rfl f_X12_pour (hW.s rfl) rfl rfl rfl rfl rfl ?_
      refine ev_loc f_X12_pour (nx := 1) rfl rfl rfl rfl ?_
      refine ev_inS1 f_X12_pour (nx := 4) (lo2 := [(0, .int 3)]) rfl rfl rfl rfl f_X12_isTray rfl rfl rfl rfl ?_
      refine ev_loc f_X12_isTray (nx := 1) rfl rfl rfl rfl ?_
      refine ev_f f_X12_isTray (t1 := 13) (t2 := 4) rfl rfl rfl (by decide) ?_
      refine ev_loc f_X12_isTray (nx := 5) rfl rfl rfl rfl ?_
      refine ev_ic f_X12_isTray (nx := 6) (v := 4) rfl (by decide) rfl ?_
      refine ev_f f_X12_isTray (t1 := 13) (t2 := 9) rfl rfl rfl (by decide) ?_
      refine ev_ic f_X12_isTray (nx := 10) (v := 1) rfl (by decide) rfl ?_
      refine ev_jmp f_X12_isTray (nx := 14) rfl rfl rfl ?_
      refine ev_retK1 f_X12_isTray rfl rfl rfl ?_
      refine ev_f f_X12_pour (t1 := 28) (t2 := 7) rfl rfl rfl (by decide) ?_
      refine ev_loc f_X12_pour (nx := 8) rfl rfl rfl rfl ?_
      refine ev_inS1 f_X12_pour (nx := 11) (lo2 := [(0, .int 3)]) rfl rfl rfl rfl f_X12_isTray rfl rfl rfl rfl ?_
      refine ev_loc f_X12_isTray (nx := 1) rfl rfl rfl rfl ?_
      refine ev_f f_X12_isTray (t1 := 13) (t2 := 4) rfl rfl rfl (by decide) ?_
      refine ev_loc f_X12_isTray (nx := 5) rfl rfl rfl rfl ?_
      refine ev_ic f_X12_isTray (nx := 6) (v := 4) rfl (by decide) rfl ?_
      refine ev_f f_X12_isTray (t1 := 13) (t2 := 9) rfl rfl rfl (by decide) ?_
      refine ev_ic f_X12_isTray (nx := 10) (v := 1) rfl (by decide) rfl ?_
      refine ev_jmp f_X12_isTray (nx := 14) rfl rfl rfl ?_
      refine ev_retK1 f_X12_isTray rfl rfl rfl ?_
      refine ev_f f_X12_pour (t1 := 28) (t2 := 14) rfl rfl rfl (by decide) ?_
      refine ev_loc f_X12_pour (nx := 15) rfl rfl rfl rfl ?_
      refine ev_f f_X12_pour (t1 := 28) (t2 := 18) rfl rfl rfl (by rw [Int32.lt_iff_toInt_lt, (by decide : (0 : Int32).toInt = 0)]; omega) ?_
      refine ev_loc f_X12_pour (nx := 20) rfl rfl rfl rfl ?_
      refine ev_t f_X12_pour (t1 := 28) (t2 := 23) rfl rfl rfl (by rw [Int32.lt_iff_toInt_lt, (by decide : (0 : Int32).toInt = 0)]; omega) ?_
      refine ev_loc f_X12_pour (nx := 29) rfl rfl rfl rfl ?_
      refine ev_ic f_X12_pour (nx := 30) (v := 1) rfl (by decide) rfl ?_
      refine ev_inV2 f_X12_pour (nx := 33) (lo2 := [(0, .ref 69), (1, .int 1)]) rfl rfl rfl rfl f_X12_is (hW.s rfl) rfl rfl rfl rfl rfl ?_
      refine ev_loc f_X12_is (nx := 1) rfl rfl rfl rfl ?_
      refine ev_loc f_X12_is (nx := 2) rfl rfl rfl rfl ?_
      refine ev_putI f_X12_is (nx := 5) rfl (hW.s rfl) rfl rfl rfl ?_
      refine ev_loc f_X12_is (nx := 6) rfl rfl rfl rfl ?_
      refine ev_f f_X12_is (t1 := 9) (t2 := 13) rfl rfl rfl (by decide) ?_
      refine ev_ic f_X12_is (nx := 14) (v := 0) rfl (by decide) rfl ?_
      refine ev_retK1 f_X12_is rfl rfl rfl ?_
      refine ev_retK1 f_X12_pour rfl rfl rfl ?_
      refine ev_t f_L_law (t1 := 1628) (t2 := 496) rfl rfl rfl (by decide) ?_
      refine ev_incv f_L_law (nx := 1631) (c := 6) (w := 6) (lo' := [(3, .int 6), (2, .ref 69), (1, .ref 0), (0, .retAddr 30)]) rfl rfl (by decide) (by decide) rfl rfl rfl ?_
      refine ev_jmp f_L_law (nx := 18) rfl rfl rfl ?_
      refine ev_loc f_L_law (nx := 19) rfl rfl rfl rfl ?_
      refine ev_loc f_L_law (nx := 20) rfl rfl rfl rfl ?_
      refine ev_alenX f_L_law (nx := 21) rfl hX rfl ?_
      refine ev_bp f_L_law (nx := 23) (v := 6) rfl (by decide) rfl ?_
      refine ev_aluvI f_L_law (nx := 24) (w := 0) rfl rfl rfl (by decide) rfl ?_
      refine ev_t f_L_law (t1 := 1634) (t2 := 27) rfl rfl rfl (by decide) ?_
      refine ev_ic f_L_law (nx := 1635) (v := 1) rfl (by decide) rfl ?_
      refine ev_ret f_L_law rfl rfl rfl ?_
      exact ⟨rfl, hz⟩
    · have q151 := h151; rw [Int32.lt_iff_toInt_lt, (by decide : (0 : Int32).toInt = 0)] at q151
      refine ev_loc f_X11_pour (nx := 27) rfl rfl rfl rfl ?_
      refine ev_if f_X11_pour (t1 := 36) (t2 := 30) rfl rfl rfl (fun h237 => ?_) (fun h237 => ?_)
      · have q237 := h237; rw [Int32.le_iff_toInt_le, (by decide : (0 : Int32).toInt = 0)] at q237
        refine ev_loc f_X11_pour (nx := 37) rfl rfl rfl rfl ?_
        refine ev_getR f_X11_pour (nx := 40) rfl (hW.s rfl) rfl rfl (hW.r rfl) rfl rfl ?_
        refine ev_loc f_X11_pour (nx := 41) rfl rfl rfl rfl ?_
        refine ev_aaldv f_X11_pour (nx := 42) (j := 3) rfl (hW.s rfl) rfl (by decide) (by decide) (by decide) (hW.r rfl) rfl rfl ?_
        refine ev_loc f_X11_pour (nx := 44) (lo' := [(6, .ref 67), (0, .ref 0), (1, .int 3), (2, .int ((X.2 2))), (3, .int 3), (4, .int ((X.2 4))), (5, .int ((X.2 5)))]) rfl rfl rfl rfl ?_
        refine ev_loc f_X11_pour (nx := 45) rfl rfl rfl rfl ?_
        refine ev_getR f_X11_pour (nx := 48) rfl (hW.s rfl) rfl rfl (hW.r rfl) rfl rfl ?_
        refine ev_loc f_X11_pour (nx := 49) rfl rfl rfl rfl ?_
        refine ev_aaldv f_X11_pour (nx := 50) (j := 3) rfl (hW.s rfl) rfl (by decide) (by decide) (by decide) (hW.r rfl) rfl rfl ?_
        refine ev_loc f_X11_pour (nx := 52) (lo' := [(7, .ref 67), (6, .ref 67), (0, .ref 0), (1, .int 3), (2, .int ((X.2 2))), (3, .int 3), (4, .int ((X.2 4))), (5, .int ((X.2 5)))]) rfl rfl rfl rfl ?_
        refine ev_loc f_X11_pour (nx := 54) rfl rfl rfl rfl ?_
        refine ev_inV1 f_X11_pour (nx := 57) (lo2 := [(0, .ref 67)]) rfl rfl rfl rfl f_X10_isMissing (hW.s rfl) rfl rfl rfl rfl rfl ?_
        refine ev_loc f_X10_isMissing (nx := 1) rfl rfl rfl rfl ?_
        refine ev_gvI f_X10_isMissing (nx := 4) (w := -1) rfl (hW.s rfl) rfl rfl (wi_67_2 (gi := gi) hR) rfl ?_
        refine ev_ic f_X10_isMissing (nx := 5) (v := -1) rfl (by decide) rfl ?_
        refine ev_t f_X10_isMissing (t1 := 8) (t2 := 12) rfl rfl rfl (by decide) ?_
        refine ev_ic f_X10_isMissing (nx := 9) (v := 1) rfl (by decide) rfl ?_
        refine ev_jmp f_X10_isMissing (nx := 13) rfl rfl rfl ?_
        refine ev_retK1 f_X10_isMissing rfl rfl rfl ?_
        refine ev_f f_X11_pour (t1 := 60) (t2 := 68) rfl rfl rfl (by decide) ?_
        refine ev_loc f_X11_pour (nx := 69) rfl rfl rfl rfl ?_
        refine ev_ic f_X11_pour (nx := 70) (v := 2) rfl (by decide) rfl ?_
        refine ev_inV2 f_X11_pour (nx := 73) (lo2 := [(0, .ref 0), (1, .int 2)]) rfl rfl rfl rfl f_X11_deny (hW.s rfl) rfl rfl rfl rfl rfl ?_
        refine ev_loc f_X11_deny (nx := 1) rfl rfl rfl rfl ?_
        refine ev_loc f_X11_deny (nx := 2) rfl rfl rfl rfl ?_
        refine ev_putI f_X11_deny (nx := 5) rfl (hW.s rfl) rfl rfl rfl ?_
        refine ev_ic f_X11_deny (nx := 6) (v := 0) rfl (by decide) rfl ?_
        refine ev_retK1 f_X11_deny rfl rfl rfl ?_
        refine ev_retK1 f_X11_pour rfl rfl rfl ?_
        refine ev_loc f_L_law (nx := 465) rfl rfl rfl rfl ?_
        refine ev_loc f_L_law (nx := 466) rfl rfl rfl rfl ?_
        refine ev_loc f_L_law (nx := 467) rfl rfl rfl rfl ?_
        refine ev_ic f_L_law (nx := 468) (v := 1) rfl (by decide) rfl ?_
        refine ev_aluvI f_L_law (nx := 469) (w := 1) rfl rfl rfl (by decide) rfl ?_
        refine ev_scrv f_L_law (nx := 470) (j := 1) (w := 3) rfl hX (by decide) (by decide) (by decide) e1 rfl ?_
        refine ev_loc f_L_law (nx := 471) rfl rfl rfl rfl ?_
        refine ev_loc f_L_law (nx := 472) rfl rfl rfl rfl ?_
        refine ev_ic f_L_law (nx := 473) (v := 2) rfl (by decide) rfl ?_
        refine ev_aluvI f_L_law (nx := 474) (w := 2) rfl rfl rfl (by decide) rfl ?_
        refine ev_scr f_L_law (nx := 475) (j := 2) rfl hX (by decide) (by decide) (by decide) rfl ?_
        refine ev_loc f_L_law (nx := 476) rfl rfl rfl rfl ?_
        refine ev_loc f_L_law (nx := 477) rfl rfl rfl rfl ?_
        refine ev_ic f_L_law (nx := 478) (v := 3) rfl (by decide) rfl ?_
        refine ev_aluvI f_L_law (nx := 479) (w := 3) rfl rfl rfl (by decide) rfl ?_
        refine ev_scrv f_L_law (nx := 480) (j := 3) (w := 3) rfl hX (by decide) (by decide) (by decide) e3 rfl ?_
        refine ev_loc f_L_law (nx := 481) rfl rfl rfl rfl ?_
        refine ev_loc f_L_law (nx := 482) rfl rfl rfl rfl ?_
        refine ev_ic f_L_law (nx := 483) (v := 4) rfl (by decide) rfl ?_
        refine ev_aluvI f_L_law (nx := 484) (w := 4) rfl rfl rfl (by decide) rfl ?_
        refine ev_scr f_L_law (nx := 485) (j := 4) rfl hX (by decide) (by decide) (by decide) rfl ?_
        refine ev_loc f_L_law (nx := 486) rfl rfl rfl rfl ?_
        refine ev_loc f_L_law (nx := 487) rfl rfl rfl rfl ?_
        refine ev_ic f_L_law (nx := 488) (v := 5) rfl (by decide) rfl ?_
        refine ev_aluvI f_L_law (nx := 489) (w := 5) rfl rfl rfl (by decide) rfl ?_
        refine ev_scr f_L_law (nx := 490) (j := 5) rfl hX (by decide) (by decide) (by decide) rfl ?_
        refine ev_inV6 f_L_law (nx := 493) (lo2 := [(0, .ref 69), (1, .int 3), (2, .int ((X.2 2))), (3, .int 3), (4, .int ((X.2 4))), (5, .int ((X.2 5)))]) rfl rfl rfl rfl f_X12_pour (hW.s rfl) rfl rfl rfl rfl rfl ?_
        refine ev_loc f_X12_pour (nx := 1) rfl rfl rfl rfl ?_
        refine ev_inS1 f_X12_pour (nx := 4) (lo2 := [(0, .int 3)]) rfl rfl rfl rfl f_X12_isTray rfl rfl rfl rfl ?_
        refine ev_loc f_X12_isTray (nx := 1) rfl rfl rfl rfl ?_
        refine ev_f f_X12_isTray (t1 := 13) (t2 := 4) rfl rfl rfl (by decide) ?_
        refine ev_loc f_X12_isTray (nx := 5) rfl rfl rfl rfl ?_
        refine ev_ic f_X12_isTray (nx := 6) (v := 4) rfl (by decide) rfl ?_
        refine ev_f f_X12_isTray (t1 := 13) (t2 := 9) rfl rfl rfl (by decide) ?_
        refine ev_ic f_X12_isTray (nx := 10) (v := 1) rfl (by decide) rfl ?_
        refine ev_jmp f_X12_isTray (nx := 14) rfl rfl rfl ?_
        refine ev_retK1 f_X12_isTray rfl rfl rfl ?_
        refine ev_f f_X12_pour (t1 := 28) (t2 := 7) rfl rfl rfl (by decide) ?_
        refine ev_loc f_X12_pour (nx := 8) rfl rfl rfl rfl ?_
        refine ev_inS1 f_X12_pour (nx := 11) (lo2 := [(0, .int 3)]) rfl rfl rfl rfl f_X12_isTray rfl rfl rfl rfl ?_
        refine ev_loc f_X12_isTray (nx := 1) rfl rfl rfl rfl ?_
        refine ev_f f_X12_isTray (t1 := 13) (t2 := 4) rfl rfl rfl (by decide) ?_
        refine ev_loc f_X12_isTray (nx := 5) rfl rfl rfl rfl ?_
        refine ev_ic f_X12_isTray (nx := 6) (v := 4) rfl (by decide) rfl ?_
        refine ev_f f_X12_isTray (t1 := 13) (t2 := 9) rfl rfl rfl (by decide) ?_
        refine ev_ic f_X12_isTray (nx := 10) (v := 1) rfl (by decide) rfl ?_
        refine ev_jmp f_X12_isTray (nx := 14) rfl rfl rfl ?_
        refine ev_retK1 f_X12_isTray rfl rfl rfl ?_
        refine ev_f f_X12_pour (t1 := 28) (t2 := 14) rfl rfl rfl (by decide) ?_
        refine ev_loc f_X12_pour (nx := 15) rfl rfl rfl rfl ?_
        refine ev_f f_X12_pour (t1 := 28) (t2 := 18) rfl rfl rfl (by rw [Int32.lt_iff_toInt_lt, (by decide : (0 : Int32).toInt = 0)]; omega) ?_
        refine ev_loc f_X12_pour (nx := 20) rfl rfl rfl rfl ?_
        refine ev_f f_X12_pour (t1 := 28) (t2 := 23) rfl rfl rfl (by rw [Int32.lt_iff_toInt_lt, (by decide : (0 : Int32).toInt = 0)]; omega) ?_
        refine ev_loc f_X12_pour (nx := 25) rfl rfl rfl rfl ?_
        refine ev_t f_X12_pour (t1 := 34) (t2 := 28) rfl rfl rfl (by rw [Int32.le_iff_toInt_le, (by decide : (0 : Int32).toInt = 0)]; omega) ?_
        refine ev_loc f_X12_pour (nx := 35) rfl rfl rfl rfl ?_
        refine ev_getR f_X12_pour (nx := 38) rfl (hW.s rfl) rfl rfl (hW.r rfl) rfl rfl ?_
        refine ev_loc f_X12_pour (nx := 39) rfl rfl rfl rfl ?_
        refine ev_ialdv f_X12_pour (nx := 40) (j := 3) (w := -1) rfl (hW.s rfl) (by decide) (by decide) (by decide) (wi_73_3 (gi := gi) hR) rfl ?_
        refine ev_ic f_X12_pour (nx := 41) (v := -1) rfl (by decide) rfl ?_
        refine ev_t f_X12_pour (t1 := 54) (t2 := 44) rfl rfl rfl (by decide) ?_
        refine ev_loc f_X12_pour (nx := 55) rfl rfl rfl rfl ?_
        refine ev_ic f_X12_pour (nx := 56) (v := 2) rfl (by decide) rfl ?_
        refine ev_inV2 f_X12_pour (nx := 59) (lo2 := [(0, .ref 69), (1, .int 2)]) rfl rfl rfl rfl f_X12_is (hW.s rfl) rfl rfl rfl rfl rfl ?_
        refine ev_loc f_X12_is (nx := 1) rfl rfl rfl rfl ?_
        refine ev_loc f_X12_is (nx := 2) rfl rfl rfl rfl ?_
        refine ev_putI f_X12_is (nx := 5) rfl (hW.s rfl) rfl rfl rfl ?_
        refine ev_loc f_X12_is (nx := 6) rfl rfl rfl rfl ?_
        refine ev_f f_X12_is (t1 := 9) (t2 := 13) rfl rfl rfl (by decide) ?_
        refine ev_ic f_X12_is (nx := 14) (v := 0) rfl (by decide) rfl ?_
        refine ev_retK1 f_X12_is rfl rfl rfl ?_
        refine ev_retK1 f_X12_pour rfl rfl rfl ?_
        refine ev_t f_L_law (t1 := 1628) (t2 := 496) rfl rfl rfl (by decide) ?_
        refine ev_incv f_L_law (nx := 1631) (c := 6) (w := 6) (lo' := [(3, .int 6), (2, .ref 69), (1, .ref 0), (0, .retAddr 30)]) rfl rfl (by decide) (by decide) rfl rfl rfl ?_
        refine ev_jmp f_L_law (nx := 18) rfl rfl rfl ?_
        refine ev_loc f_L_law (nx := 19) rfl rfl rfl rfl ?_
        refine ev_loc f_L_law (nx := 20) rfl rfl rfl rfl ?_
        refine ev_alenX f_L_law (nx := 21) rfl hX rfl ?_
        refine ev_bp f_L_law (nx := 23) (v := 6) rfl (by decide) rfl ?_
        refine ev_aluvI f_L_law (nx := 24) (w := 0) rfl rfl rfl (by decide) rfl ?_
        refine ev_t f_L_law (t1 := 1634) (t2 := 27) rfl rfl rfl (by decide) ?_
        refine ev_ic f_L_law (nx := 1635) (v := 1) rfl (by decide) rfl ?_
        refine ev_ret f_L_law rfl rfl rfl ?_
        exact ⟨rfl, hz⟩
      · have q237 := h237; rw [Int32.le_iff_toInt_le, (by decide : (0 : Int32).toInt = 0)] at q237
        refine ev_loc f_X11_pour (nx := 31) rfl rfl rfl rfl ?_
        refine ev_ic f_X11_pour (nx := 32) (v := 1) rfl (by decide) rfl ?_
        refine ev_inV2 f_X11_pour (nx := 35) (lo2 := [(0, .ref 0), (1, .int 1)]) rfl rfl rfl rfl f_X11_deny (hW.s rfl) rfl rfl rfl rfl rfl ?_
        refine ev_loc f_X11_deny (nx := 1) rfl rfl rfl rfl ?_
        refine ev_loc f_X11_deny (nx := 2) rfl rfl rfl rfl ?_
        refine ev_putI f_X11_deny (nx := 5) rfl (hW.s rfl) rfl rfl rfl ?_
        refine ev_ic f_X11_deny (nx := 6) (v := 0) rfl (by decide) rfl ?_
        refine ev_retK1 f_X11_deny rfl rfl rfl ?_
        refine ev_retK1 f_X11_pour rfl rfl rfl ?_
        refine ev_loc f_L_law (nx := 465) rfl rfl rfl rfl ?_
        refine ev_loc f_L_law (nx := 466) rfl rfl rfl rfl ?_
        refine ev_loc f_L_law (nx := 467) rfl rfl rfl rfl ?_
        refine ev_ic f_L_law (nx := 468) (v := 1) rfl (by decide) rfl ?_
        refine ev_aluvI f_L_law (nx := 469) (w := 1) rfl rfl rfl (by decide) rfl ?_
        refine ev_scrv f_L_law (nx := 470) (j := 1) (w := 3) rfl hX (by decide) (by decide) (by decide) e1 rfl ?_
        refine ev_loc f_L_law (nx := 471) rfl rfl rfl rfl ?_
        refine ev_loc f_L_law (nx := 472) rfl rfl rfl rfl ?_
        refine ev_ic f_L_law (nx := 473) (v := 2) rfl (by decide) rfl ?_
        refine ev_aluvI f_L_law (nx := 474) (w := 2) rfl rfl rfl (by decide) rfl ?_
        refine ev_scr f_L_law (nx := 475) (j := 2) rfl hX (by decide) (by decide) (by decide) rfl ?_
        refine ev_loc f_L_law (nx := 476) rfl rfl rfl rfl ?_
        refine ev_loc f_L_law (nx := 477) rfl rfl rfl rfl ?_
        refine ev_ic f_L_law (nx := 478) (v := 3) rfl (by decide) rfl ?_
        refine ev_aluvI f_L_law (nx := 479) (w := 3) rfl rfl rfl (by decide) rfl ?_
        refine ev_scrv f_L_law (nx := 480) (j := 3) (w := 3) rfl hX (by decide) (by decide) (by decide) e3 rfl ?_
        refine ev_loc f_L_law (nx := 481) rfl rfl rfl rfl ?_
        refine ev_loc f_L_law (nx := 482) rfl rfl rfl rfl ?_
        refine ev_ic f_L_law (nx := 483) (v := 4) rfl (by decide) rfl ?_
        refine ev_aluvI f_L_law (nx := 484) (w := 4) rfl rfl rfl (by decide) rfl ?_
        refine ev_scr f_L_law (nx := 485) (j := 4) rfl hX (by decide) (by decide) (by decide) rfl ?_
        refine ev_loc f_L_law (nx := 486) rfl rfl rfl rfl ?_
        refine ev_loc f_L_law (nx := 487) rfl rfl rfl rfl ?_
        refine ev_ic f_L_law (nx := 488) (v := 5) rfl (by decide) rfl ?_
        refine ev_aluvI f_L_law (nx := 489) (w := 5) rfl rfl rfl (by decide) rfl ?_
        refine ev_scr f_L_law (nx := 490) (j := 5) rfl hX (by decide) (by decide) (by decide) rfl ?_
        refine ev_inV6 f_L_law (nx := 493) (lo2 := [(0, .ref 69), (1, .int 3), (2, .int ((X.2 2))), (3, .int 3), (4, .int ((X.2 4))), (5, .int ((X.2 5)))]) rfl rfl rfl rfl f_X12_pour (hW.s rfl) rfl rfl rfl rfl rfl ?_
        refine ev_loc f_X12_pour (nx := 1) rfl rfl rfl rfl ?_
        refine ev_inS1 f_X12_pour (nx := 4) (lo2 := [(0, .int 3)]) rfl rfl rfl rfl f_X12_isTray rfl rfl rfl rfl ?_
        refine ev_loc f_X12_isTray (nx := 1) rfl rfl rfl rfl ?_
        refine ev_f f_X12_isTray (t1 := 13) (t2 := 4) rfl rfl rfl (by decide) ?_
        refine ev_loc f_X12_isTray (nx := 5) rfl rfl rfl rfl ?_
        refine ev_ic f_X12_isTray (nx := 6) (v := 4) rfl (by decide) rfl ?_
        refine ev_f f_X12_isTray (t1 := 13) (t2 := 9) rfl rfl rfl (by decide) ?_
        refine ev_ic f_X12_isTray (nx := 10) (v := 1) rfl (by decide) rfl ?_
        refine ev_jmp f_X12_isTray (nx := 14) rfl rfl rfl ?_
        refine ev_retK1 f_X12_isTray rfl rfl rfl ?_
        refine ev_f f_X12_pour (t1 := 28) (t2 := 7) rfl rfl rfl (by decide) ?_
        refine ev_loc f_X12_pour (nx := 8) rfl rfl rfl rfl ?_
        refine ev_inS1 f_X12_pour (nx := 11) (lo2 := [(0, .int 3)]) rfl rfl rfl rfl f_X12_isTray rfl rfl rfl rfl ?_
        refine ev_loc f_X12_isTray (nx := 1) rfl rfl rfl rfl ?_
        refine ev_f f_X12_isTray (t1 := 13) (t2 := 4) rfl rfl rfl (by decide) ?_
        refine ev_loc f_X12_isTray (nx := 5) rfl rfl rfl rfl ?_
        refine ev_ic f_X12_isTray (nx := 6) (v := 4) rfl (by decide) rfl ?_
        refine ev_f f_X12_isTray (t1 := 13) (t2 := 9) rfl rfl rfl (by decide) ?_
        refine ev_ic f_X12_isTray (nx := 10) (v := 1) rfl (by decide) rfl ?_
        refine ev_jmp f_X12_isTray (nx := 14) rfl rfl rfl ?_
        refine ev_retK1 f_X12_isTray rfl rfl rfl ?_
        refine ev_f f_X12_pour (t1 := 28) (t2 := 14) rfl rfl rfl (by decide) ?_
        refine ev_loc f_X12_pour (nx := 15) rfl rfl rfl rfl ?_
        refine ev_f f_X12_pour (t1 := 28) (t2 := 18) rfl rfl rfl (by rw [Int32.lt_iff_toInt_lt, (by decide : (0 : Int32).toInt = 0)]; omega) ?_
        refine ev_loc f_X12_pour (nx := 20) rfl rfl rfl rfl ?_
        refine ev_f f_X12_pour (t1 := 28) (t2 := 23) rfl rfl rfl (by rw [Int32.lt_iff_toInt_lt, (by decide : (0 : Int32).toInt = 0)]; omega) ?_
        refine ev_loc f_X12_pour (nx := 25) rfl rfl rfl rfl ?_
        refine ev_f f_X12_pour (t1 := 34) (t2 := 28) rfl rfl rfl (by rw [Int32.le_iff_toInt_le, (by decide : (0 : Int32).toInt = 0)]; omega) ?_
        refine ev_loc f_X12_pour (nx := 29) rfl rfl rfl rfl ?_
        refine ev_ic f_X12_pour (nx := 30) (v := 1) rfl (by decide) rfl ?_
        refine ev_inV2 f_X12_pour (nx := 33) (lo2 := [(0, .ref 69), (1, .int 1)]) rfl rfl rfl rfl f_X12_is (hW.s rfl) rfl rfl rfl rfl rfl ?_
        refine ev_loc f_X12_is (nx := 1) rfl rfl rfl rfl ?_
        refine ev_loc f_X12_is (nx := 2) rfl rfl rfl rfl ?_
        refine ev_putI f_X12_is (nx := 5) rfl (hW.s rfl) rfl rfl rfl ?_
        refine ev_loc f_X12_is (nx := 6) rfl rfl rfl rfl ?_
        refine ev_f f_X12_is (t1 := 9) (t2 := 13) rfl rfl rfl (by decide) ?_
        refine ev_ic f_X12_is (nx := 14) (v := 0) rfl (by decide) rfl ?_
        refine ev_retK1 f_X12_is rfl rfl rfl ?_
        refine ev_retK1 f_X12_pour rfl rfl rfl ?_
        refine ev_t f_L_law (t1 := 1628) (t2 := 496) rfl rfl rfl (by decide) ?_
        refine ev_incv f_L_law (nx := 1631) (c := 6) (w := 6) (lo' := [(3, .int 6), (2, .ref 69), (1, .ref 0), (0, .retAddr 30)]) rfl rfl (by decide) (by decide) rfl rfl rfl ?_
        refine ev_jmp f_L_law (nx := 18) rfl rfl rfl ?_
        refine ev_loc f_L_law (nx := 19) rfl rfl rfl rfl ?_
        refine ev_loc f_L_law (nx := 20) rfl rfl rfl rfl ?_
        refine ev_alenX f_L_law (nx := 21) rfl hX rfl ?_
        refine ev_bp f_L_law (nx := 23) (v := 6) rfl (by decide) rfl ?_
        refine ev_aluvI f_L_law (nx := 24) (w := 0) rfl rfl rfl (by decide) rfl ?_
        refine ev_t f_L_law (t1 := 1634) (t2 := 27) rfl rfl rfl (by decide) ?_
        refine ev_ic f_L_law (nx := 1635) (v := 1) rfl (by decide) rfl ?_
        refine ev_ret f_L_law rfl rfl rfl ?_
        exact ⟨rfl, hz⟩
set_option maxRecDepth 20000 in
theorem pc_25_x (hR : x_R W1 (sh, gi, gl, gr)) (hX : X.1 = 6) (hv : (X.2 1).toInt < 1 ∨ 4 < (X.2 1).toInt ∨ (X.2 2).toInt < 1 ∨ 4 < (X.2 2).toInt ∨ (X.2 3).toInt < 0 ∨ 9 < (X.2 3).toInt) : x_Ev X 1000 n_L_law 1075 [(3, .int 0), (2, .ref 69), (1, .ref 0), (0, .retAddr 30)] [] (sh, gi, gl, gr) x_P1 := by
  have hW := W1_WF hR
  have hz := W1_hz hR
  refine ev_loc f_L_law (nx := 1076) rfl rfl rfl rfl ?_
  refine ev_loc f_L_law (nx := 1077) rfl rfl rfl rfl ?_
  refine ev_loc f_L_law (nx := 1078) rfl rfl rfl rfl ?_
  refine ev_ic f_L_law (nx := 1079) (v := 1) rfl (by decide) rfl ?_
  refine ev_aluvI f_L_law (nx := 1080) (w := 1) rfl rfl rfl (by decide) rfl ?_
  refine ev_scr f_L_law (nx := 1081) (j := 1) rfl hX (by decide) (by decide) (by decide) rfl ?_
  refine ev_loc f_L_law (nx := 1082) rfl rfl rfl rfl ?_
  refine ev_loc f_L_law (nx := 1083) rfl rfl rfl rfl ?_
  refine ev_ic f_L_law (nx := 1084) (v := 2) rfl (by decide) rfl ?_
  refine ev_aluvI f_L_law (nx := 1085) (w := 2) rfl rfl rfl (by decide) rfl ?_
  refine ev_scr f_L_law (nx := 1086) (j := 2) rfl hX (by decide) (by decide) (by decide) rfl ?_
  refine ev_loc f_L_law (nx := 1087) rfl rfl rfl rfl ?_
  refine ev_loc f_L_law (nx := 1088) rfl rfl rfl rfl ?_
  refine ev_ic f_L_law (nx := 1089) (v := 3) rfl (by decide) rfl ?_
  refine ev_aluvI f_L_law (nx := 1090) (w := 3) rfl rfl rfl (by decide) rfl ?_
  refine ev_scr f_L_law (nx := 1091) (j := 3) rfl hX (by decide) (by decide) (by decide) rfl ?_
  refine ev_inV4 f_L_law (nx := 1094) (lo2 := [(0, .ref 0), (1, .int ((X.2 1))), (2, .int ((X.2 2))), (3, .int ((X.2 3)))]) rfl rfl rfl rfl f_X11_code (hW.s rfl) rfl rfl rfl rfl rfl ?_
  refine ev_loc f_X11_code (nx := 1) rfl rfl rfl rfl ?_
  refine ev_ic f_X11_code (nx := 2) (v := 1) rfl (by decide) rfl ?_
  refine ev_if f_X11_code (t1 := 30) (t2 := 5) rfl rfl rfl (fun h20 => ?_) (fun h20 => ?_)
  · have q20 := h20; rw [Int32.lt_iff_toInt_lt, (by decide : (1 : Int32).toInt = 1)] at q20
    refine ev_loc f_X11_code (nx := 31) rfl rfl rfl rfl ?_
    refine ev_ic f_X11_code (nx := 32) (v := 1) rfl (by decide) rfl ?_
    refine ev_inV2 f_X11_code (nx := 35) (lo2 := [(0, .ref 0), (1, .int 1)]) rfl rfl rfl rfl f_X11_refuse (hW.s rfl) rfl rfl rfl rfl rfl ?_
    refine ev_loc f_X11_refuse (nx := 1) rfl rfl rfl rfl ?_
    refine ev_loc f_X11_refuse (nx := 2) rfl rfl rfl rfl ?_
    refine ev_putI f_X11_refuse (nx := 5) rfl (hW.s rfl) rfl rfl rfl ?_
    refine ev_ic f_X11_refuse (nx := 6) (v := -1) rfl (by decide) rfl ?_
    refine ev_retK1 f_X11_refuse rfl rfl rfl ?_
    refine ev_retK1 f_X11_code rfl rfl rfl ?_
    refine ev_loc f_L_law (nx := 1095) rfl rfl rfl rfl ?_
    refine ev_loc f_L_law (nx := 1096) rfl rfl rfl rfl ?_
    refine ev_loc f_L_law (nx := 1097) rfl rfl rfl rfl ?_
    refine ev_ic f_L_law (nx := 1098) (v := 1) rfl (by decide) rfl ?_
    refine ev_aluvI f_L_law (nx := 1099) (w := 1) rfl rfl rfl (by decide) rfl ?_
    refine ev_scr f_L_law (nx := 1100) (j := 1) rfl hX (by decide) (by decide) (by decide) rfl ?_
    refine ev_loc f_L_law (nx := 1101) rfl rfl rfl rfl ?_
    refine ev_loc f_L_law (nx := 1102) rfl rfl rfl rfl ?_
    refine ev_ic f_L_law (nx := 1103) (v := 2) rfl (by decide) rfl ?_
    refine ev_aluvI f_L_law (nx := 1104) (w := 2) rfl rfl rfl (by decide) rfl ?_
    refine ev_scr f_L_law (nx := 1105) (j := 2) rfl hX (by decide) (by decide) (by decide) rfl ?_
    refine ev_loc f_L_law (nx := 1106) rfl rfl rfl rfl ?_
    refine ev_loc f_L_law (nx := 1107) rfl rfl rfl rfl ?_
    refine ev_ic f_L_law (nx := 1108) (v := 3) rfl (by decide) rfl ?_
    refine ev_aluvI f_L_law (nx := 1109) (w := 3) rfl rfl rfl (by decide) rfl ?_
    refine ev_scr f_L_law (nx := 1110) (j := 3) rfl hX (by decide) (by decide) (by decide) rfl ?_
    refine ev_inV4 f_L_law (nx := 1113) (lo2 := [(0, .ref 69), (1, .int ((X.2 1))), (2, .int ((X.2 2))), (3, .int ((X.2 3)))]) rfl rfl rfl rfl f_X12_code (hW.s rfl) rfl rfl rfl rfl rfl ?_
    refine ev_loc f_X12_code (nx := 1) rfl rfl rfl rfl ?_
    refine ev_alu f_X12_code (nx := 2) rfl rfl rfl rfl ?_
    refine ev_lc f_X12_code (nx := 3) (v := 1) rfl (by decide) rfl ?_
    refine ev_ldL f_X12_code (nx := 6) (v := 4) rfl (by decide) rfl ?_
    refine ev_inS3 f_X12_code (nx := 9) (lo2 := [(0, .long (((X.2 1) : Int32).toInt64)), (2, .long 1), (4, .long 4)]) rfl rfl rfl rfl f_X12_isFrom rfl rfl rfl rfl ?_
    refine ev_loc f_X12_isFrom (nx := 1) rfl rfl rfl rfl ?_
    refine ev_loc f_X12_isFrom (nx := 2) rfl rfl rfl rfl ?_
    refine ev_alu f_X12_isFrom (nx := 3) rfl rfl rfl rfl ?_
    refine ev_t f_X12_isFrom (t1 := 17) (t2 := 6) rfl rfl rfl (by rw [lgc_lt (n := 1) (by decide)]; omega) ?_
    refine ev_ic f_X12_isFrom (nx := 18) (v := 0) rfl (by decide) rfl ?_
    refine ev_retK1 f_X12_isFrom rfl rfl rfl ?_
    refine ev_t f_X12_code (t1 := 36) (t2 := 12) rfl rfl rfl (by decide) ?_
    refine ev_loc f_X12_code (nx := 37) rfl rfl rfl rfl ?_
    refine ev_ic f_X12_code (nx := 38) (v := 1) rfl (by decide) rfl ?_
    refine ev_inV2 f_X12_code (nx := 41) (lo2 := [(0, .ref 69), (1, .int 1)]) rfl rfl rfl rfl f_X12_refuse (hW.s rfl) rfl rfl rfl rfl rfl ?_
    refine ev_loc f_X12_refuse (nx := 1) rfl rfl rfl rfl ?_
    refine ev_loc f_X12_refuse (nx := 2) rfl rfl rfl rfl ?_
    refine ev_putI f_X12_refuse (nx := 5) rfl (hW.s rfl) rfl rfl rfl ?_
    refine ev_ic f_X12_refuse (nx := 6) (v := -1) rfl (by decide) rfl ?_
    refine ev_retK1 f_X12_refuse rfl rfl rfl ?_
    refine ev_retK1 f_X12_code rfl rfl rfl ?_
    refine ev_t f_L_law (t1 := 1628) (t2 := 1116) rfl rfl rfl (by decide) ?_
    refine ev_incv f_L_law (nx := 1631) (c := 6) (w := 6) (lo' := [(3, .int 6), (2, .ref 69), (1, .ref 0), (0, .retAddr 30)]) rfl rfl (by decide) (by decide) rfl rfl rfl ?_
    refine ev_jmp f_L_law (nx := 18) rfl rfl rfl ?_
    refine ev_loc f_L_law (nx := 19) rfl rfl rfl rfl ?_
    refine ev_loc f_L_law (nx := 20) rfl rfl rfl rfl ?_
    refine ev_alenX f_L_law (nx := 21) rfl hX rfl ?_
    refine ev_bp f_L_law (nx := 23) (v := 6) rfl (by decide) rfl ?_
    refine ev_aluvI f_L_law (nx := 24) (w := 0) rfl rfl rfl (by decide) rfl ?_
    refine ev_t f_L_law (t1 := 1634) (t2 := 27) rfl rfl rfl (by decide) ?_
    refine ev_ic f_L_law (nx := 1635) (v := 1) rfl (by decide) rfl ?_
    refine ev_ret f_L_law rfl rfl rfl ?_
    exact ⟨rfl, hz⟩
  · have q20 := h20; rw [Int32.lt_iff_toInt_lt, (by decide : (1 : Int32).toInt = 1)] at q20
    refine ev_loc f_X11_code (nx := 6) rfl rfl rfl rfl ?_
    refine ev_ic f_X11_code (nx := 7) (v := 4) rfl (by decide) rfl ?_
    refine ev_if f_X11_code (t1 := 30) (t2 := 10) rfl rfl rfl (fun h81 => ?_) (fun h81 => ?_)
    · have q81 := h81; rw [Int32.lt_iff_toInt_lt, (by decide : (4 : Int32).toInt = 4)] at q81
      refine ev_loc f_X11_code (nx := 31) rfl rfl rfl rfl ?_
      refine ev_ic f_X11_code (nx := 32) (v := 1) rfl (by decide) rfl ?_
      refine ev_inV2 f_X11_code (nx := 35) (lo2 := [(0, .ref 0), (1, .int 1)]) rfl rfl rfl rfl f_X11_refuse (hW.s rfl) rfl rfl rfl rfl rfl ?_
      refine ev_loc f_X11_refuse (nx := 1) rfl rfl rfl rfl ?_
      refine ev_loc f_X11_refuse (nx := 2) rfl rfl rfl rfl ?_
      refine ev_putI f_X11_refuse (nx := 5) rfl (hW.s rfl) rfl rfl rfl ?_
      refine ev_ic f_X11_refuse (nx := 6) (v := -1) rfl (by decide) rfl ?_
      refine ev_retK1 f_X11_refuse rfl rfl rfl ?_
      refine ev_retK1 f_X11_code rfl rfl rfl ?_
      refine ev_loc f_L_law (nx := 1095) rfl rfl rfl rfl ?_
      refine ev_loc f_L_law (nx := 1096) rfl rfl rfl rfl ?_
      refine ev_loc f_L_law (nx := 1097) rfl rfl rfl rfl ?_
      refine ev_ic f_L_law (nx := 1098) (v := 1) rfl (by decide) rfl ?_
      refine ev_aluvI f_L_law (nx := 1099) (w := 1) rfl rfl rfl (by decide) rfl ?_
      refine ev_scr f_L_law (nx := 1100) (j := 1) rfl hX (by decide) (by decide) (by decide) rfl ?_
      refine ev_loc f_L_law (nx := 1101) rfl rfl rfl rfl ?_
      refine ev_loc f_L_law (nx := 1102) rfl rfl rfl rfl ?_
      refine ev_ic f_L_law (nx := 1103) (v := 2) rfl (by decide) rfl ?_
      refine ev_aluvI f_L_law (nx := 1104) (w := 2) rfl rfl rfl (by decide) rfl ?_
      refine ev_scr f_L_law (nx := 1105) (j := 2) rfl hX (by decide) (by decide) (by decide) rfl ?_
      refine ev_loc f_L_law (nx := 1106) rfl rfl rfl rfl ?_
      refine ev_loc f_L_law (nx := 1107) rfl rfl rfl rfl ?_
      refine ev_ic f_L_law (nx := 1108) (v := 3) rfl (by decide) rfl ?_
      refine ev_aluvI f_L_law (nx := 1109) (w := 3) rfl rfl rfl (by decide) rfl ?_
      refine ev_scr f_L_law (nx := 1110) (j := 3) rfl hX (by decide) (by decide) (by decide) rfl ?_
      refine ev_inV4 f_L_law (nx := 1113) (lo2 := [(0, .ref 69), (1, .int ((X.2 1))), (2, .int ((X.2 2))), (3, .int ((X.2 3)))]) rfl rfl rfl rfl f_X12_code (hW.s rfl) rfl rfl rfl rfl rfl ?_
      refine ev_loc f_X12_code (nx := 1) rfl rfl rfl rfl ?_
      refine ev_alu f_X12_code (nx := 2) rfl rfl rfl rfl ?_
      refine ev_lc f_X12_code (nx := 3) (v := 1) rfl (by decide) rfl ?_
      refine ev_ldL f_X12_code (nx := 6) (v := 4) rfl (by decide) rfl ?_
      refine ev_inS3 f_X12_code (nx := 9) (lo2 := [(0, .long (((X.2 1) : Int32).toInt64)), (2, .long 1), (4, .long 4)]) rfl rfl rfl rfl f_X12_isFrom rfl rfl rfl rfl ?_
      refine ev_loc f_X12_isFrom (nx := 1) rfl rfl rfl rfl ?_
      refine ev_loc f_X12_isFrom (nx := 2) rfl rfl rfl rfl ?_
      refine ev_alu f_X12_isFrom (nx := 3) rfl rfl rfl rfl ?_
      refine ev_f f_X12_isFrom (t1 := 17) (t2 := 6) rfl rfl rfl (by rw [lgc_lt (n := 1) (by decide)]; omega) ?_
      refine ev_loc f_X12_isFrom (nx := 7) rfl rfl rfl rfl ?_
      refine ev_loc f_X12_isFrom (nx := 9) rfl rfl rfl rfl ?_
      refine ev_alu f_X12_isFrom (nx := 10) rfl rfl rfl rfl ?_
      refine ev_t f_X12_isFrom (t1 := 17) (t2 := 13) rfl rfl rfl (by rw [lgc_gt (n := 4) (by decide)]; omega) ?_
      refine ev_ic f_X12_isFrom (nx := 18) (v := 0) rfl (by decide) rfl ?_
      refine ev_retK1 f_X12_isFrom rfl rfl rfl ?_
      refine ev_t f_X12_code (t1 := 36) (t2 := 12) rfl rfl rfl (by decide) ?_
      refine ev_loc f_X12_code (nx := 37) rfl rfl rfl rfl ?_
      refine ev_ic f_X12_code (nx := 38) (v := 1) rfl (by decide) rfl ?_
      refine ev_inV2 f_X12_code (nx := 41) (lo2 := [(0, .ref 69), (1, .int 1)]) rfl rfl rfl rfl f_X12_refuse (hW.s rfl) rfl rfl rfl rfl rfl ?_
      refine ev_loc f_X12_refuse (nx := 1) rfl rfl rfl rfl ?_
      refine ev_loc f_X12_refuse (nx := 2) rfl rfl rfl rfl ?_
      refine ev_putI f_X12_refuse (nx := 5) rfl (hW.s rfl) rfl rfl rfl ?_
      refine ev_ic f_X12_refuse (nx := 6) (v := -1) rfl (by decide) rfl ?_
      refine ev_retK1 f_X12_refuse rfl rfl rfl ?_
      refine ev_retK1 f_X12_code rfl rfl rfl ?_
      refine ev_t f_L_law (t1 := 1628) (t2 := 1116) rfl rfl rfl (by decide) ?_
      refine ev_incv f_L_law (nx := 1631) (c := 6) (w := 6) (lo' := [(3, .int 6), (2, .ref 69), (1, .ref 0), (0, .retAddr 30)]) rfl rfl (by decide) (by decide) rfl rfl rfl ?_
      refine ev_jmp f_L_law (nx := 18) rfl rfl rfl ?_
      refine ev_loc f_L_law (nx := 19) rfl rfl rfl rfl ?_
      refine ev_loc f_L_law (nx := 20) rfl rfl rfl rfl ?_
      refine ev_alenX f_L_law (nx := 21) rfl hX rfl ?_
      refine ev_bp f_L_law (nx := 23) (v := 6) rfl (by decide) rfl ?_
      refine ev_aluvI f_L_law (nx := 24) (w := 0) rfl rfl rfl (by decide) rfl ?_
      refine ev_t f_L_law (t1 := 1634) (t2 := 27) rfl rfl rfl (by decide) ?_
      refine ev_ic f_L_law (nx := 1635) (v := 1) rfl (by decide) rfl ?_
      refine ev_ret f_L_law rfl rfl rfl ?_
      exact ⟨rfl, hz⟩
    · have q81 := h81; rw [Int32.lt_iff_toInt_lt, (by decide : (4 : Int32).toInt = 4)] at q81
      refine ev_loc f_X11_code (nx := 11) rfl rfl rfl rfl ?_
      refine ev_ic f_X11_code (nx := 12) (v := 1) rfl (by decide) rfl ?_
      refine ev_if f_X11_code (t1 := 30) (t2 := 15) rfl rfl rfl (fun h146 => ?_) (fun h146 => ?_)
      · have q146 := h146; rw [Int32.lt_iff_toInt_lt, (by decide : (1 : Int32).toInt = 1)] at q146
        refine ev_loc f_X11_code (nx := 31) rfl rfl rfl rfl ?_
        refine ev_ic f_X11_code (nx := 32) (v := 1) rfl (by decide) rfl ?_
        refine ev_inV2 f_X11_code (nx := 35) (lo2 := [(0, .ref 0), (1, .int 1)]) rfl rfl rfl rfl f_X11_refuse (hW.s rfl) rfl rfl rfl rfl rfl ?_
        refine ev_loc f_X11_refuse (nx := 1) rfl rfl rfl rfl ?_
        refine ev_loc f_X11_refuse (nx := 2) rfl rfl rfl rfl ?_
        refine ev_putI f_X11_refuse (nx := 5) rfl (hW.s rfl) rfl rfl rfl ?_
        refine ev_ic f_X11_refuse (nx := 6) (v := -1) rfl (by decide) rfl ?_
        refine ev_retK1 f_X11_refuse rfl rfl rfl ?_
        refine ev_retK1 f_X11_code rfl rfl rfl ?_
        refine ev_loc f_L_law (nx := 1095) rfl rfl rfl rfl ?_
        refine ev_loc f_L_law (nx := 1096) rfl rfl rfl rfl ?_
        refine ev_loc f_L_law (nx := 1097) rfl rfl rfl rfl ?_
        refine ev_ic f_L_law (nx := 1098) (v := 1) rfl (by decide) rfl ?_
        refine ev_aluvI f_L_law (nx := 1099) (w := 1) rfl rfl rfl (by decide) rfl ?_
        refine ev_scr f_L_law (nx := 1100) (j := 1) rfl hX (by decide) (by decide) (by decide) rfl ?_
        refine ev_loc f_L_law (nx := 1101) rfl rfl rfl rfl ?_
        refine ev_loc f_L_law (nx := 1102) rfl rfl rfl rfl ?_
        refine ev_ic f_L_law (nx := 1103) (v := 2) rfl (by decide) rfl ?_
        refine ev_aluvI f_L_law (nx := 1104) (w := 2) rfl rfl rfl (by decide) rfl ?_
        refine ev_scr f_L_law (nx := 1105) (j := 2) rfl hX (by decide) (by decide) (by decide) rfl ?_
        refine ev_loc f_L_law (nx := 1106) rfl rfl rfl rfl ?_
        refine ev_loc f_L_law (nx := 1107) rfl rfl rfl rfl ?_
        refine ev_ic f_L_law (nx := 1108) (v := 3) rfl (by decide) rfl ?_
        refine ev_aluvI f_L_law (nx := 1109) (w := 3) rfl rfl rfl (by decide) rfl ?_
        refine ev_scr f_L_law (nx := 1110) (j := 3) rfl hX (by decide) (by decide) (by decide) rfl ?_
        refine ev_inV4 f_L_law (nx := 1113) (lo2 := [(0, .ref 69), (1, .int ((X.2 1))), (2, .int ((X.2 2))), (3, .int ((X.2 3)))]) rfl rfl rfl rfl f_X12_code (hW.s rfl) rfl rfl rfl rfl rfl ?_
        refine ev_loc f_X12_code (nx := 1) rfl rfl rfl rfl ?_
        refine ev_alu f_X12_code (nx := 2) rfl rfl rfl rfl ?_
        refine ev_lc f_X12_code (nx := 3) (v := 1) rfl (by decide) rfl ?_
        refine ev_ldL f_X12_code (nx := 6) (v := 4) rfl (by decide) rfl ?_
        refine ev_inS3 f_X12_code (nx := 9) (lo2 := [(0, .long (((X.2 1) : Int32).toInt64)), (2, .long 1), (4, .long 4)]) rfl rfl rfl rfl f_X12_isFrom rfl rfl rfl rfl ?_
        refine ev_loc f_X12_isFrom (nx := 1) rfl rfl rfl rfl ?_
        refine ev_loc f_X12_isFrom (nx := 2) rfl rfl rfl rfl ?_
        refine ev_alu f_X12_isFrom (nx := 3) rfl rfl rfl rfl ?_
        refine ev_f f_X12_isFrom (t1 := 17) (t2 := 6) rfl rfl rfl (by rw [lgc_lt (n := 1) (by decide)]; omega) ?_
        refine ev_loc f_X12_isFrom (nx := 7) rfl rfl rfl rfl ?_
        refine ev_loc f_X12_isFrom (nx := 9) rfl rfl rfl rfl ?_
        refine ev_alu f_X12_isFrom (nx := 10) rfl rfl rfl rfl ?_
        refine ev_f f_X12_isFrom (t1 := 17) (t2 := 13) rfl rfl rfl (by rw [lgc_gt (n := 4) (by decide)]; omega) ?_
        refine ev_ic f_X12_isFrom (nx := 14) (v := 1) rfl (by decide) rfl ?_
        refine ev_jmp f_X12_isFrom (nx := 18) rfl rfl rfl ?_
        refine ev_retK1 f_X12_isFrom rfl rfl rfl ?_
        refine ev_f f_X12_code (t1 := 36) (t2 := 12) rfl rfl rfl (by decide) ?_
        refine ev_loc f_X12_code (nx := 13) rfl rfl rfl rfl ?_
        refine ev_alu f_X12_code (nx := 14) rfl rfl rfl rfl ?_
        refine ev_lc f_X12_code (nx := 15) (v := 1) rfl (by decide) rfl ?_
        refine ev_ldL f_X12_code (nx := 18) (v := 4) rfl (by decide) rfl ?_
        refine ev_inS3 f_X12_code (nx := 21) (lo2 := [(0, .long (((X.2 2) : Int32).toInt64)), (2, .long 1), (4, .long 4)]) rfl rfl rfl rfl f_X12_isFrom rfl rfl rfl rfl ?_
        refine ev_loc f_X12_isFrom (nx := 1) rfl rfl rfl rfl ?_
        refine ev_loc f_X12_isFrom (nx := 2) rfl rfl rfl rfl ?_
        refine ev_alu f_X12_isFrom (nx := 3) rfl rfl rfl rfl ?_
        refine ev_t f_X12_isFrom (t1 := 17) (t2 := 6) rfl rfl rfl (by rw [lgc_lt (n := 1) (by decide)]; omega) ?_
        refine ev_ic f_X12_isFrom (nx := 18) (v := 0) rfl (by decide) rfl ?_
        refine ev_retK1 f_X12_isFrom rfl rfl rfl ?_
        refine ev_t f_X12_code (t1 := 36) (t2 := 24) rfl rfl rfl (by decide) ?_
        refine ev_loc f_X12_code (nx := 37) rfl rfl rfl rfl ?_
        refine ev_ic f_X12_code (nx := 38) (v := 1) rfl (by decide) rfl ?_
        refine ev_inV2 f_X12_code (nx := 41) (lo2 := [(0, .ref 69), (1, .int 1)]) rfl rfl rfl rfl f_X12_refuse (hW.s rfl) rfl rfl rfl rfl rfl ?_
        refine ev_loc f_X12_refuse (nx := 1) rfl rfl rfl rfl ?_
        refine ev_loc f_X12_refuse (nx := 2) rfl rfl rfl rfl ?_
        refine ev_putI f_X12_refuse (nx := 5) rfl (hW.s rfl) rfl rfl rfl ?_
        refine ev_ic f_X12_refuse (nx := 6) (v := -1) rfl (by decide) rfl ?_
        refine ev_retK1 f_X12_refuse rfl rfl rfl ?_
        refine ev_retK1 f_X12_code rfl rfl rfl ?_
        refine ev_t f_L_law (t1 := 1628) (t2 := 1116) rfl rfl rfl (by decide) ?_
        refine ev_incv f_L_law (nx := 1631) (c := 6) (w := 6) (lo' := [(3, .int 6), (2, .ref 69), (1, .ref 0), (0, .retAddr 30)]) rfl rfl (by decide) (by decide) rfl rfl rfl ?_
        refine ev_jmp f_L_law (nx := 18) rfl rfl rfl ?_
        refine ev_loc f_L_law (nx := 19) rfl rfl rfl rfl ?_
        refine ev_loc f_L_law (nx := 20) rfl rfl rfl rfl ?_
        refine ev_alenX f_L_law (nx := 21) rfl hX rfl ?_
        refine ev_bp f_L_law (nx := 23) (v := 6) rfl (by decide) rfl ?_
        refine ev_aluvI f_L_law (nx := 24) (w := 0) rfl rfl rfl (by decide) rfl ?_
        refine ev_t f_L_law (t1 := 1634) (t2 := 27) rfl rfl rfl (by decide) ?_
        refine ev_ic f_L_law (nx := 1635) (v := 1) rfl (by decide) rfl ?_
        refine ev_ret f_L_law rfl rfl rfl ?_
        exact ⟨rfl, hz⟩
      · have q146 := h146; rw [Int32.lt_iff_toInt_lt, (by decide : (1 : Int32).toInt = 1)] at q146
        refine ev_loc f_X11_code (nx := 16) rfl rfl rfl rfl ?_
        refine ev_ic f_X11_code (nx := 17) (v := 4) rfl (by decide) rfl ?_
        refine ev_if f_X11_code (t1 := 30) (t2 := 20) rfl rfl rfl (fun h224 => ?_) (fun h224 => ?_)
        · have q224 := h224; rw [Int32.lt_iff_toInt_lt, (by decide : (4 : Int32).toInt = 4)] at q224
          refine ev_loc f_X11_code (nx := 31) rfl rfl rfl rfl ?_
          refine ev_ic f_X11_code (nx := 32) (v := 1) rfl (by decide) rfl ?_
          refine ev_inV2 f_X11_code (nx := 35) (lo2 := [(0, .ref 0), (1, .int 1)]) rfl rfl rfl rfl f_X11_refuse (hW.s rfl) rfl rfl rfl rfl rfl ?_
          refine ev_loc f_X11_refuse (nx := 1) rfl rfl rfl rfl ?_
          refine ev_loc f_X11_refuse (nx := 2) rfl rfl rfl rfl ?_
          refine ev_putI f_X11_refuse (nx := 5) rfl (hW.s rfl) rfl rfl rfl ?_
          refine ev_ic f_X11_refuse (nx := 6) (v := -1) rfl (by decide) rfl ?_
          refine ev_retK1 f_X11_refuse rfl rfl rfl ?_
          refine ev_retK1 f_X11_code rfl rfl rfl ?_
          refine ev_loc f_L_law (nx := 1095) rfl rfl rfl rfl ?_
          refine ev_loc f_L_law (nx := 1096) rfl rfl rfl rfl ?_
          refine ev_loc f_L_law (nx := 1097) rfl rfl rfl rfl ?_
          refine ev_ic f_L_law (nx := 1098) (v := 1) rfl (by decide) rfl ?_
          refine ev_aluvI f_L_law (nx := 1099) (w := 1) rfl rfl rfl (by decide) rfl ?_
          refine ev_scr f_L_law (nx := 1100) (j := 1) rfl hX (by decide) (by decide) (by decide) rfl ?_
          refine ev_loc f_L_law (nx := 1101) rfl rfl rfl rfl ?_
          refine ev_loc f_L_law (nx := 1102) rfl rfl rfl rfl ?_
          refine ev_ic f_L_law (nx := 1103) (v := 2) rfl (by decide) rfl ?_
          refine ev_aluvI f_L_law (nx := 1104) (w := 2) rfl rfl rfl (by decide) rfl ?_
          refine ev_scr f_L_law (nx := 1105) (j := 2) rfl hX (by decide) (by decide) (by decide) rfl ?_
          refine ev_loc f_L_law (nx := 1106) rfl rfl rfl rfl ?_
          refine ev_loc f_L_law (nx := 1107) rfl rfl rfl rfl ?_
          refine ev_ic f_L_law (nx := 1108) (v := 3) rfl (by decide) rfl ?_
          refine ev_aluvI f_L_law (nx := 1109) (w := 3) rfl rfl rfl (by decide) rfl ?_
          refine ev_scr f_L_law (nx := 1110) (j := 3) rfl hX (by decide) (by decide) (by decide) rfl ?_
          refine ev_inV4 f_L_law (nx := 1113) (lo2 := [(0, .ref 69), (1, .int ((X.2 1))), (2, .int ((X.2 2))), (3, .int ((X.2 3)))]) rfl rfl rfl rfl f_X12_code (hW.s rfl) rfl rfl rfl rfl rfl ?_
          refine ev_loc f_X12_code (nx := 1) rfl rfl rfl rfl ?_
          refine ev_alu f_X12_code (nx := 2) rfl rfl rfl rfl ?_
          refine ev_lc f_X12_code (nx := 3) (v := 1) rfl (by decide) rfl ?_
          refine ev_ldL f_X12_code (nx := 6) (v := 4) rfl (by decide) rfl ?_
          refine ev_inS3 f_X12_code (nx := 9) (lo2 := [(0, .long (((X.2 1) : Int32).toInt64)), (2, .long 1), (4, .long 4)]) rfl rfl rfl rfl f_X12_isFrom rfl rfl rfl rfl ?_
          refine ev_loc f_X12_isFrom (nx := 1) rfl rfl rfl rfl ?_
          refine ev_loc f_X12_isFrom (nx := 2) rfl rfl rfl rfl ?_
          refine ev_alu f_X12_isFrom (nx := 3) rfl rfl rfl rfl ?_
          refine ev_f f_X12_isFrom (t1 := 17) (t2 := 6) rfl rfl rfl (by rw [lgc_lt (n := 1) (by decide)]; omega) ?_
          refine ev_loc f_X12_isFrom (nx := 7) rfl rfl rfl rfl ?_
          refine ev_loc f_X12_isFrom (nx := 9) rfl rfl rfl rfl ?_
          refine ev_alu f_X12_isFrom (nx := 10) rfl rfl rfl rfl ?_
          refine ev_f f_X12_isFrom (t1 := 17) (t2 := 13) rfl rfl rfl (by rw [lgc_gt (n := 4) (by decide)]; omega) ?_
          refine ev_ic f_X12_isFrom (nx := 14) (v := 1) rfl (by decide) rfl ?_
          refine ev_jmp f_X12_isFrom (nx := 18) rfl rfl rfl ?_
          refine ev_retK1 f_X12_isFrom rfl rfl rfl ?_
          refine ev_f f_X12_code (t1 := 36) (t2 := 12) rfl rfl rfl (by decide) ?_
          refine ev_loc f_X12_code (nx := 13) rfl rfl rfl rfl ?_
          refine ev_alu f_X12_code (nx := 14) rfl rfl rfl rfl ?_
          refine ev_lc f_X12_code (nx := 15) (v := 1) rfl (by decide) rfl ?_
          refine ev_ldL f_X12_code (nx := 18) (v := 4) rfl (by decide) rfl ?_
          refine ev_inS3 f_X12_code (nx := 21) (lo2 := [(0, .long (((X.2 2) : Int32).toInt64)), (2, .long 1), (4, .long 4)]) rfl rfl rfl rfl f_X12_isFrom rfl rfl rfl rfl ?_
          refine ev_loc f_X12_isFrom (nx := 1) rfl rfl rfl rfl ?_
          refine ev_loc f_X12_isFrom (nx := 2) rfl rfl rfl rfl ?_
          refine ev_alu f_X12_isFrom (nx := 3) rfl rfl rfl rfl ?_
          refine ev_f f_X12_isFrom (t1 := 17) (t2 := 6) rfl rfl rfl (by rw [lgc_lt (n := 1) (by decide)]; omega) ?_
          refine ev_loc f_X12_isFrom (nx := 7) rfl rfl rfl rfl ?_
          refine ev_loc f_X12_isFrom (nx := 9) rfl rfl rfl rfl ?_
          refine ev_alu f_X12_isFrom (nx := 10) rfl rfl rfl rfl ?_
          refine ev_t f_X12_isFrom (t1 := 17) (t2 := 13) rfl rfl rfl (by rw [lgc_gt (n := 4) (by decide)]; omega) ?_
          refine ev_ic f_X12_isFrom (nx := 18) (v := 0) rfl (by decide) rfl ?_
          refine ev_retK1 f_X12_isFrom rfl rfl rfl ?_
          refine ev_t f_X12_code (t1 := 36) (t2 := 24) rfl rfl rfl (by decide) ?_
          refine ev_loc f_X12_code (nx := 37) rfl rfl rfl rfl ?_
          refine ev_ic f_X12_code (nx := 38) (v := 1) rfl (by decide) rfl ?_
          refine ev_inV2 f_X12_code (nx := 41) (lo2 := [(0, .ref 69), (1, .int 1)]) rfl rfl rfl rfl f_X12_refuse (hW.s rfl) rfl rfl rfl rfl rfl ?_
          refine ev_loc f_X12_refuse (nx := 1) rfl rfl rfl rfl ?_
          refine ev_loc f_X12_refuse (nx := 2) rfl rfl rfl rfl ?_
          refine ev_putI f_X12_refuse (nx := 5) rfl (hW.s rfl) rfl rfl rfl ?_
          refine ev_ic f_X12_refuse (nx := 6) (v := -1) rfl (by decide) rfl ?_
          refine ev_retK1 f_X12_refuse rfl rfl rfl ?_
          refine ev_retK1 f_X12_code rfl rfl rfl ?_
          refine ev_t f_L_law (t1 := 1628) (t2 := 1116) rfl rfl rfl (by decide) ?_
          refine ev_incv f_L_law (nx := 1631) (c := 6) (w := 6) (lo' := [(3, .int 6), (2, .ref 69), (1, .ref 0), (0, .retAddr 30)]) rfl rfl (by decide) (by decide) rfl rfl rfl ?_
          refine ev_jmp f_L_law (nx := 18) rfl rfl rfl ?_
          refine ev_loc f_L_law (nx := 19) rfl rfl rfl rfl ?_
          refine ev_loc f_L_law (nx := 20) rfl rfl rfl rfl ?_
          refine ev_alenX f_L_law (nx := 21) rfl hX rfl ?_
          refine ev_bp f_L_law (nx := 23) (v := 6) rfl (by decide) rfl ?_
          refine ev_aluvI f_L_law (nx := 24) (w := 0) rfl rfl rfl (by decide) rfl ?_
          refine ev_t f_L_law (t1 := 1634) (t2 := 27) rfl rfl rfl (by decide) ?_
          refine ev_ic f_L_law (nx := 1635) (v := 1) rfl (by decide) rfl ?_
          refine ev_ret f_L_law rfl rfl rfl ?_
          exact ⟨rfl, hz⟩
        · have q224 := h224; rw [Int32.lt_iff_toInt_lt, (by decide : (4 : Int32).toInt = 4)] at q224
          refine ev_loc f_X11_code (nx := 21) rfl rfl rfl rfl ?_
          refine ev_if f_X11_code (t1 := 30) (t2 := 24) rfl rfl rfl (fun h305 => ?_) (fun h305 => ?_)
          · have q305 := h305; rw [Int32.lt_iff_toInt_lt, (by decide : (0 : Int32).toInt = 0)] at q305
            refine ev_loc f_X11_code (nx := 31) rfl rfl rfl rfl ?_
            refine ev_ic f_X11_code (nx := 32) (v := 1) rfl (by decide) rfl ?_
            refine ev_inV2 f_X11_code (nx := 35) (lo2 := [(0, .ref 0), (1, .int 1)]) rfl rfl rfl rfl f_X11_refuse (hW.s rfl) rfl rfl rfl rfl rfl ?_
            refine ev_loc f_X11_refuse (nx := 1) rfl rfl rfl rfl ?_
            refine ev_loc f_X11_refuse (nx := 2) rfl rfl rfl rfl ?_
            refine ev_putI f_X11_refuse (nx := 5) rfl (hW.s rfl) rfl rfl rfl ?_
            refine ev_ic f_X11_refuse (nx := 6) (v := -1) rfl (by decide) rfl ?_
            refine ev_retK1 f_X11_refuse rfl rfl rfl ?_
            refine ev_retK1 f_X11_code rfl rfl rfl ?_
            refine ev_loc f_L_law (nx := 1095) rfl rfl rfl rfl ?_
            refine ev_loc f_L_law (nx := 1096) rfl rfl rfl rfl ?_
            refine ev_loc f_L_law (nx := 1097) rfl rfl rfl rfl ?_
            refine ev_ic f_L_law (nx := 1098) (v := 1) rfl (by decide) rfl ?_
            refine ev_aluvI f_L_law (nx := 1099) (w := 1) rfl rfl rfl (by decide) rfl ?_
            refine ev_scr f_L_law (nx := 1100) (j := 1) rfl hX (by decide) (by decide) (by decide) rfl ?_
            refine ev_loc f_L_law (nx := 1101) rfl rfl rfl rfl ?_
            refine ev_loc f_L_law (nx := 1102) rfl rfl rfl rfl ?_
            refine ev_ic f_L_law (nx := 1103) (v := 2) rfl (by decide) rfl ?_
            refine ev_aluvI f_L_law (nx := 1104) (w := 2) rfl rfl rfl (by decide) rfl ?_
            refine ev_scr f_L_law (nx := 1105) (j := 2) rfl hX (by decide) (by decide) (by decide) rfl ?_
            refine ev_loc f_L_law (nx := 1106) rfl rfl rfl rfl ?_
            refine ev_loc f_L_law (nx := 1107) rfl rfl rfl rfl ?_
            refine ev_ic f_L_law (nx := 1108) (v := 3) rfl (by decide) rfl ?_
            refine ev_aluvI f_L_law (nx := 1109) (w := 3) rfl rfl rfl (by decide) rfl ?_
            refine ev_scr f_L_law (nx := 1110) (j := 3) rfl hX (by decide) (by decide) (by decide) rfl ?_
            refine ev_inV4 f_L_law (nx := 1113) (lo2 := [(0, .ref 69), (1, .int ((X.2 1))), (2, .int ((X.2 2))), (3, .int ((X.2 3)))]) rfl rfl rfl rfl f_X12_code (hW.s rfl) rfl rfl rfl rfl rfl ?_
            refine ev_loc f_X12_code (nx := 1) rfl rfl rfl rfl ?_
            refine ev_alu f_X12_code (nx := 2) rfl rfl rfl rfl ?_
            refine ev_lc f_X12_code (nx := 3) (v := 1) rfl (by decide) rfl ?_
            refine ev_ldL f_X12_code (nx := 6) (v := 4) rfl (by decide) rfl ?_
            refine ev_inS3 f_X12_code (nx := 9) (lo2 := [(0, .long (((X.2 1) : Int32).toInt64)), (2, .long 1), (4, .long 4)]) rfl rfl rfl rfl f_X12_isFrom rfl rfl rfl rfl ?_
            refine ev_loc f_X12_isFrom (nx := 1) rfl rfl rfl rfl ?_
            refine ev_loc f_X12_isFrom (nx := 2) rfl rfl rfl rfl ?_
            refine ev_alu f_X12_isFrom (nx := 3) rfl rfl rfl rfl ?_
            refine ev_f f_X12_isFrom (t1 := 17) (t2 := 6) rfl rfl rfl (by rw [lgc_lt (n := 1) (by decide)]; omega) ?_
            refine ev_loc f_X12_isFrom (nx := 7) rfl rfl rfl rfl ?_
            refine ev_loc f_X12_isFrom (nx := 9) rfl rfl rfl rfl ?_
            refine ev_alu f_X12_isFrom (nx := 10) rfl rfl rfl rfl ?_
            refine ev_f f_X12_isFrom (t1 := 17) (t2 := 13) rfl rfl rfl (by rw [lgc_gt (n := 4) (by decide)]; omega) ?_
            refine ev_ic f_X12_isFrom (nx := 14) (v := 1) rfl (by decide) rfl ?_
            refine ev_jmp f_X12_isFrom (nx := 18) rfl rfl rfl ?_
            refine ev_retK1 f_X12_isFrom rfl rfl rfl ?_
            refine ev_f f_X12_code (t1 := 36) (t2 := 12) rfl rfl rfl (by decide) ?_
            refine ev_loc f_X12_code (nx := 13) rfl rfl rfl rfl ?_
            refine ev_alu f_X12_code (nx := 14) rfl rfl rfl rfl ?_
            refine ev_lc f_X12_code (nx := 15) (v := 1) rfl (by decide) rfl ?_
            refine ev_ldL f_X12_code (nx := 18) (v := 4) rfl (by decide) rfl ?_
            refine ev_inS3 f_X12_code (nx := 21) (lo2 := [(0, .long (((X.2 2) : Int32).toInt64)), (2, .long 1), (4, .long 4)]) rfl rfl rfl rfl f_X12_isFrom rfl rfl rfl rfl ?_
            refine ev_loc f_X12_isFrom (nx := 1) rfl rfl rfl rfl ?_
            refine ev_loc f_X12_isFrom (nx := 2) rfl rfl rfl rfl ?_
            refine ev_alu f_X12_isFrom (nx := 3) rfl rfl rfl rfl ?_
            refine ev_f f_X12_isFrom (t1 := 17) (t2 := 6) rfl rfl rfl (by rw [lgc_lt (n := 1) (by decide)]; omega) ?_
            refine ev_loc f_X12_isFrom (nx := 7) rfl rfl rfl rfl ?_
            refine ev_loc f_X12_isFrom (nx := 9) rfl rfl rfl rfl ?_
            refine ev_alu f_X12_isFrom (nx := 10) rfl rfl rfl rfl ?_
            refine ev_f f_X12_isFrom (t1 := 17) (t2 := 13) rfl rfl rfl (by rw [lgc_gt (n := 4) (by decide)]; omega) ?_
            refine ev_ic f_X12_isFrom (nx := 14) (v := 1) rfl (by decide) rfl ?_
            refine ev_jmp f_X12_isFrom (nx := 18) rfl rfl rfl ?_
            refine ev_retK1 f_X12_isFrom rfl rfl rfl ?_
            refine ev_f f_X12_code (t1 := 36) (t2 := 24) rfl rfl rfl (by decide) ?_
            refine ev_loc f_X12_code (nx := 25) rfl rfl rfl rfl ?_
            refine ev_alu f_X12_code (nx := 26) rfl rfl rfl rfl ?_
            refine ev_lc f_X12_code (nx := 27) (v := 0) rfl (by decide) rfl ?_
            refine ev_ldL f_X12_code (nx := 30) (v := 9) rfl (by decide) rfl ?_
            refine ev_inS3 f_X12_code (nx := 33) (lo2 := [(0, .long (((X.2 3) : Int32).toInt64)), (2, .long 0), (4, .long 9)]) rfl rfl rfl rfl f_X12_isFrom rfl rfl rfl rfl ?_
            refine ev_loc f_X12_isFrom (nx := 1) rfl rfl rfl rfl ?_
            refine ev_loc f_X12_isFrom (nx := 2) rfl rfl rfl rfl ?_
            refine ev_alu f_X12_isFrom (nx := 3) rfl rfl rfl rfl ?_
            refine ev_t f_X12_isFrom (t1 := 17) (t2 := 6) rfl rfl rfl (by rw [lgc_lt (n := 0) (by decide)]; omega) ?_
            refine ev_ic f_X12_isFrom (nx := 18) (v := 0) rfl (by decide) rfl ?_
            refine ev_retK1 f_X12_isFrom rfl rfl rfl ?_
            refine ev_t f_X12_code (t1 := 36) (t2 := 42) rfl rfl rfl (by decide) ?_
            refine ev_loc f_X12_code (nx := 37) rfl rfl rfl rfl ?_
            refine ev_ic f_X12_code (nx := 38) (v := 1) rfl (by decide) rfl ?_
            refine ev_inV2 f_X12_code (nx := 41) (lo2 := [(0, .ref 69), (1, .int 1)]) rfl rfl rfl rfl f_X12_refuse (hW.s rfl) rfl rfl rfl rfl rfl ?_
            refine ev_loc f_X12_refuse (nx := 1) rfl rfl rfl rfl ?_
            refine ev_loc f_X12_refuse (nx := 2) rfl rfl rfl rfl ?_
            refine ev_putI f_X12_refuse (nx := 5) rfl (hW.s rfl) rfl rfl rfl ?_
            refine ev_ic f_X12_refuse (nx := 6) (v := -1) rfl (by decide) rfl ?_
            refine ev_retK1 f_X12_refuse rfl rfl rfl ?_
            refine ev_retK1 f_X12_code rfl rfl rfl ?_
            refine ev_t f_L_law (t1 := 1628) (t2 := 1116) rfl rfl rfl (by decide) ?_
            refine ev_incv f_L_law (nx := 1631) (c := 6) (w := 6) (lo' := [(3, .int 6), (2, .ref 69), (1, .ref 0), (0, .retAddr 30)]) rfl rfl (by decide) (by decide) rfl rfl rfl ?_
            refine ev_jmp f_L_law (nx := 18) rfl rfl rfl ?_
            refine ev_loc f_L_law (nx := 19) rfl rfl rfl rfl ?_
            refine ev_loc f_L_law (nx := 20) rfl rfl rfl rfl ?_
            refine ev_alenX f_L_law (nx := 21) rfl hX rfl ?_
            refine ev_bp f_L_law (nx := 23) (v := 6) rfl (by decide) rfl ?_
            refine ev_aluvI f_L_law (nx := 24) (w := 0) rfl rfl rfl (by decide) rfl ?_
            refine ev_t f_L_law (t1 := 1634) (t2 := 27) rfl rfl rfl (by decide) ?_
            refine ev_ic f_L_law (nx := 1635) (v := 1) rfl (by decide) rfl ?_
            refine ev_ret f_L_law rfl rfl rfl ?_
            exact ⟨rfl, hz⟩
          · have q305 := h305; rw [Int32.lt_iff_toInt_lt, (by decide : (0 : Int32).toInt = 0)] at q305
            refine ev_loc f_X11_code (nx := 25) rfl rfl rfl rfl ?_
            refine ev_bp f_X11_code (nx := 27) (v := 9) rfl (by decide) rfl ?_
            refine ev_if f_X11_code (t1 := 36) (t2 := 30) rfl rfl rfl (fun h400 => ?_) (fun h400 => ?_)
            · have q400 := h400; rw [Int32.le_iff_toInt_le, (by decide : (9 : Int32).toInt = 9)] at q400
              exfalso; omega
            · have q400 := h400; rw [Int32.le_iff_toInt_le, (by decide : (9 : Int32).toInt = 9)] at q400
              refine ev_loc f_X11_code (nx := 31) rfl rfl rfl rfl ?_
              refine ev_ic f_X11_code (nx := 32) (v := 1) rfl (by decide) rfl ?_
              refine ev_inV2 f_X11_code (nx := 35) (lo2 := [(0, .ref 0), (1, .int 1)]) rfl rfl rfl rfl f_X11_refuse (hW.s rfl) rfl rfl rfl rfl rfl ?_
              refine ev_loc f_X11_refuse (nx := 1) rfl rfl rfl rfl ?_
              refine ev_loc f_X11_refuse (nx := 2) rfl rfl rfl rfl ?_
              refine ev_putI f_X11_refuse (nx := 5) rfl (hW.s rfl) rfl rfl rfl ?_
              refine ev_ic f_X11_refuse (nx := 6) (v := -1) rfl (by decide) rfl ?_
              refine ev_retK1 f_X11_refuse rfl rfl rfl ?_
              refine ev_retK1 f_X11_code rfl rfl rfl ?_
              refine ev_loc f_L_law (nx := 1095) rfl rfl rfl rfl ?_
              refine ev_loc f_L_law (nx := 1096) rfl rfl rfl rfl ?_
              refine ev_loc f_L_law (nx := 1097) rfl rfl rfl rfl ?_
              refine ev_ic f_L_law (nx := 1098) (v := 1) rfl (by decide) rfl ?_
              refine ev_aluvI f_L_law (nx := 1099) (w := 1) rfl rfl rfl (by decide) rfl ?_
              refine ev_scr f_L_law (nx := 1100) (j := 1) rfl hX (by decide) (by decide) (by decide) rfl ?_
              refine ev_loc f_L_law (nx := 1101) rfl rfl rfl rfl ?_
              refine ev_loc f_L_law (nx := 1102) rfl rfl rfl rfl ?_
              refine ev_ic f_L_law (nx := 1103) (v := 2) rfl (by decide) rfl ?_
              refine ev_aluvI f_L_law (nx := 1104) (w := 2) rfl rfl rfl (by decide) rfl ?_
              refine ev_scr f_L_law (nx := 1105) (j := 2) rfl hX (by decide) (by decide) (by decide) rfl ?_
              refine ev_loc f_L_law (nx := 1106) rfl rfl rfl rfl ?_
              refine ev_loc f_L_law (nx := 1107) rfl rfl rfl rfl ?_
              refine ev_ic f_L_law (nx := 1108) (v := 3) rfl (by decide) rfl ?_
              refine ev_aluvI f_L_law (nx := 1109) (w := 3) rfl rfl rfl (by decide) rfl ?_
              refine ev_scr f_L_law (nx := 1110) (j := 3) rfl hX (by decide) (by decide) (by decide) rfl ?_
              refine ev_inV4 f_L_law (nx := 1113) (lo2 := [(0, .ref 69), (1, .int ((X.2 1))), (2, .int ((X.2 2))), (3, .int ((X.2 3)))]) rfl rfl rfl rfl f_X12_code (hW.s rfl) rfl rfl rfl rfl rfl ?_
              refine ev_loc f_X12_code (nx := 1) rfl rfl rfl rfl ?_
              refine ev_alu f_X12_code (nx := 2) rfl rfl rfl rfl ?_
              refine ev_lc f_X12_code (nx := 3) (v := 1) rfl (by decide) rfl ?_
              refine ev_ldL f_X12_code (nx := 6) (v := 4) rfl (by decide) rfl ?_
              refine ev_inS3 f_X12_code (nx := 9) (lo2 := [(0, .long (((X.2 1) : Int32).toInt64)), (2, .long 1), (4, .long 4)]) rfl rfl rfl rfl f_X12_isFrom rfl rfl rfl rfl ?_
              refine ev_loc f_X12_isFrom (nx := 1) rfl rfl rfl rfl ?_
              refine ev_loc f_X12_isFrom (nx := 2) rfl rfl rfl rfl ?_
              refine ev_alu f_X12_isFrom (nx := 3) rfl rfl rfl rfl ?_
              refine ev_f f_X12_isFrom (t1 := 17) (t2 := 6) rfl rfl rfl (by rw [lgc_lt (n := 1) (by decide)]; omega) ?_
              refine ev_loc f_X12_isFrom (nx := 7) rfl rfl rfl rfl ?_
              refine ev_loc f_X12_isFrom (nx := 9) rfl rfl rfl rfl ?_
              refine ev_alu f_X12_isFrom (nx := 10) rfl rfl rfl rfl ?_
              refine ev_f f_X12_isFrom (t1 := 17) (t2 := 13) rfl rfl rfl (by rw [lgc_gt (n := 4) (by decide)]; omega) ?_
              refine ev_ic f_X12_isFrom (nx := 14) (v := 1) rfl (by decide) rfl ?_
              refine ev_jmp f_X12_isFrom (nx := 18) rfl rfl rfl ?_
              refine ev_retK1 f_X12_isFrom rfl rfl rfl ?_
              refine ev_f f_X12_code (t1 := 36) (t2 := 12) rfl rfl rfl (by decide) ?_
              refine ev_loc f_X12_code (nx := 13) rfl rfl rfl rfl ?_
              refine ev_alu f_X12_code (nx := 14) rfl rfl rfl rfl ?_
              refine ev_lc f_X12_code (nx := 15) (v := 1) rfl (by decide) rfl ?_
              refine ev_ldL f_X12_code (nx := 18) (v := 4) rfl (by decide) rfl ?_
              refine ev_inS3 f_X12_code (nx := 21) (lo2 := [(0, .long (((X.2 2) : Int32).toInt64)), (2, .long 1), (4, .long 4)]) rfl rfl rfl rfl f_X12_isFrom rfl rfl rfl rfl ?_
              refine ev_loc f_X12_isFrom (nx := 1) rfl rfl rfl rfl ?_
              refine ev_loc f_X12_isFrom (nx := 2) rfl rfl rfl rfl ?_
              refine ev_alu f_X12_isFrom (nx := 3) rfl rfl rfl rfl ?_
              refine ev_f f_X12_isFrom (t1 := 17) (t2 := 6) rfl rfl rfl (by rw [lgc_lt (n := 1) (by decide)]; omega) ?_
              refine ev_loc f_X12_isFrom (nx := 7) rfl rfl rfl rfl ?_
              refine ev_loc f_X12_isFrom (nx := 9) rfl rfl rfl rfl ?_
              refine ev_alu f_X12_isFrom (nx := 10) rfl rfl rfl rfl ?_
              refine ev_f f_X12_isFrom (t1 := 17) (t2 := 13) rfl rfl rfl (by rw [lgc_gt (n := 4) (by decide)]; omega) ?_
              refine ev_ic f_X12_isFrom (nx := 14) (v := 1) rfl (by decide) rfl ?_
              refine ev_jmp f_X12_isFrom (nx := 18) rfl rfl rfl ?_
              refine ev_retK1 f_X12_isFrom rfl rfl rfl ?_
              refine ev_f f_X12_code (t1 := 36) (t2 := 24) rfl rfl rfl (by decide) ?_
              refine ev_loc f_X12_code (nx := 25) rfl rfl rfl rfl ?_
              refine ev_alu f_X12_code (nx := 26) rfl rfl rfl rfl ?_
              refine ev_lc f_X12_code (nx := 27) (v := 0) rfl (by decide) rfl ?_
              refine ev_ldL f_X12_code (nx := 30) (v := 9) rfl (by decide) rfl ?_
              refine ev_inS3 f_X12_code (nx := 33) (lo2 := [(0, .long (((X.2 3) : Int32).toInt64)), (2, .long 0), (4, .long 9)]) rfl rfl rfl rfl f_X12_isFrom rfl rfl rfl rfl ?_
              refine ev_loc f_X12_isFrom (nx := 1) rfl rfl rfl rfl ?_
              refine ev_loc f_X12_isFrom (nx := 2) rfl rfl rfl rfl ?_
              refine ev_alu f_X12_isFrom (nx := 3) rfl rfl rfl rfl ?_
              refine ev_f f_X12_isFrom (t1 := 17) (t2 := 6) rfl rfl rfl (by rw [lgc_lt (n := 0) (by decide)]; omega) ?_
              refine ev_loc f_X12_isFrom (nx := 7) rfl rfl rfl rfl ?_
              refine ev_loc f_X12_isFrom (nx := 9) rfl rfl rfl rfl ?_
              refine ev_alu f_X12_isFrom (nx := 10) rfl rfl rfl rfl ?_
              refine ev_t f_X12_isFrom (t1 := 17) (t2 := 13) rfl rfl rfl (by rw [lgc_gt (n := 9) (by decide)]; omega) ?_
              refine ev_ic f_X12_isFrom (nx := 18) (v := 0) rfl (by decide) rfl ?_
              refine ev_retK1 f_X12_isFrom rfl rfl rfl ?_
              refine ev_t f_X12_code (t1 := 36) (t2 := 42) rfl rfl rfl (by decide) ?_
              refine ev_loc f_X12_code (nx := 37) rfl rfl rfl rfl ?_
              refine ev_ic f_X12_code (nx := 38) (v := 1) rfl (by decide) rfl ?_
              refine ev_inV2 f_X12_code (nx := 41) (lo2 := [(0, .ref 69), (1, .int 1)]) rfl rfl rfl rfl f_X12_refuse (hW.s rfl) rfl rfl rfl rfl rfl ?_
              refine ev_loc f_X12_refuse (nx := 1) rfl rfl rfl rfl ?_
              refine ev_loc f_X12_refuse (nx := 2) rfl rfl rfl rfl ?_
              refine ev_putI f_X12_refuse (nx := 5) rfl (hW.s rfl) rfl rfl rfl ?_
              refine ev_ic f_X12_refuse (nx := 6) (v := -1) rfl (by decide) rfl ?_
              refine ev_retK1 f_X12_refuse rfl rfl rfl ?_
              refine ev_retK1 f_X12_code rfl rfl rfl ?_
              refine ev_t f_L_law (t1 := 1628) (t2 := 1116) rfl rfl rfl (by decide) ?_
              refine ev_incv f_L_law (nx := 1631) (c := 6) (w := 6) (lo' := [(3, .int 6), (2, .ref 69), (1, .ref 0), (0, .retAddr 30)]) rfl rfl (by decide) (by decide) rfl rfl rfl ?_
              refine ev_jmp f_L_law (nx := 18) rfl rfl rfl ?_
              refine ev_loc f_L_law (nx := 19) rfl rfl rfl rfl ?_
              refine ev_loc f_L_law (nx := 20) rfl rfl rfl rfl ?_
              refine ev_alenX f_L_law (nx := 21) rfl hX rfl ?_
              refine ev_bp f_L_law (nx := 23) (v := 6) rfl (by decide) rfl ?_
              refine ev_aluvI f_L_law (nx := 24) (w := 0) rfl rfl rfl (by decide) rfl ?_
              refine ev_t f_L_law (t1 := 1634) (t2 := 27) rfl rfl rfl (by decide) ?_
              refine ev_ic f_L_law (nx := 1635) (v := 1) rfl (by decide) rfl ?_
              refine ev_ret f_L_law rfl rfl rfl ?_
              exact ⟨rfl, hz⟩
end XC
