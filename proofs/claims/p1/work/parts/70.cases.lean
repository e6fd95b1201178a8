/-! ===== printed by gen63.py: calls walked in place ===== -/
section XC
variable {X : x_Ext} {sh : List (Nat ⊕ (Nat × Nat))} {gi : Nat → Nat → Int32} {gl : Nat → Nat → Int64} {gr : Nat → Nat → Value}
set_option maxRecDepth 20000 in
theorem pc_0 (hR : x_R W1 (sh, gi, gl, gr)) (hX : X.1 = 6) : x_Ev X 1000 n_L_law 244 [(3, .int 0), (2, .ref 69), (1, .ref 0), (0, .retAddr 30)] [] (sh, gi, gl, gr) x_P1 := by
  have hW := W1_WF hR
  have hz := W1_hz hR
  refine ev_loc f_L_law (nx := 245) rfl rfl rfl rfl ?_
  refine ev_inV1 f_L_law (nx := 248) (lo2 := [(0, .ref 0)]) rfl rfl rfl rfl f_X11_status (hW.s rfl) rfl rfl rfl rfl rfl ?_
  refine ev_loc f_X11_status (nx := 1) rfl rfl rfl rfl ?_
  refine ev_gvI f_X11_status (nx := 4) (w := 0) rfl (hW.s rfl) rfl rfl (wi_0_0 (gi := gi) hR) rfl ?_
  refine ev_retK1 f_X11_status rfl rfl rfl ?_
  refine ev_loc f_L_law (nx := 249) rfl rfl rfl rfl ?_
  refine ev_inV1 f_L_law (nx := 252) (lo2 := [(0, .ref 69)]) rfl rfl rfl rfl f_X12_status (hW.s rfl) rfl rfl rfl rfl rfl ?_
  refine ev_loc f_X12_status (nx := 1) rfl rfl rfl rfl ?_
  refine ev_gvI f_X12_status (nx := 4) (w := 0) rfl (hW.s rfl) rfl rfl (wi_69_2 (gi := gi) hR) rfl ?_
  refine ev_retK1 f_X12_status rfl rfl rfl ?_
  refine ev_t f_L_law (t1 := 1628) (t2 := 255) rfl rfl rfl (by decide) ?_
  refine ev_incv f_L_law (nx := 1631) (c := 6) (w := 6) (lo' := [(3, .int 6), (2, .ref 69), (1, .ref 0), (0, .retAddr 30)]) rfl rfl (by decide) (by decide) rfl rfl rfl ?_
  refine ev_jmp f_L_law (nx := 18) rfl rfl rfl ?_
  refine ev_loc f_L_law (nx := 19) rfl rfl rfl rfl ?_
  refine ev_loc f_L_law (nx := 20) rfl rfl rfl rfl ?_
  refine ev_alenX f_L_law (nx := 21) rfl hX rfl ?_
  refine ev_bp f_L_law (nx := 23) (v := 6) rfl (by decide) rfl ?_
  refine ev_aluvI f_L_law (nx := 24) (w := 0) rfl rfl rfl (by decide) rfl ?_
  refine ev_t f_L_law (t1 := 1634) (t2 := 27) rfl rfl rfl (by decide) ?_
  refine ev_ic f_L_law (nx := 1635) (v := 1) rfl (by decide) rfl ?_
  refine ev_ret f_L_law rfl rfl rfl ?_
  exact ⟨rfl, hz⟩
set_option maxRecDepth 20000 in
theorem pc_1 (hR : x_R W1 (sh, gi, gl, gr)) (hX : X.1 = 6) : x_Ev X 1000 n_L_law 257 [(3, .int 0), (2, .ref 69), (1, .ref 0), (0, .retAddr 30)] [] (sh, gi, gl, gr) x_P1 := by
  have hW := W1_WF hR
  have hz := W1_hz hR
  refine ev_loc f_L_law (nx := 258) rfl rfl rfl rfl ?_
  refine ev_inV1 f_L_law (nx := 261) (lo2 := [(0, .ref 0)]) rfl rfl rfl rfl f_X11_top (hW.s rfl) rfl rfl rfl rfl rfl ?_
  refine ev_loc f_X11_top (nx := 1) rfl rfl rfl rfl ?_
  refine ev_gvL f_X11_top (nx := 4) (w := 0) rfl (hW.s rfl) rfl rfl (wl_0_1 (gl := gl) hR) rfl ?_
  refine ev_retK1 f_X11_top rfl rfl rfl ?_
  refine ev_loc f_L_law (nx := 262) rfl rfl rfl rfl ?_
  refine ev_inV1 f_L_law (nx := 265) (lo2 := [(0, .ref 69)]) rfl rfl rfl rfl f_X12_top (hW.s rfl) rfl rfl rfl rfl rfl ?_
  refine ev_loc f_X12_top (nx := 1) rfl rfl rfl rfl ?_
  refine ev_gvL f_X12_top (nx := 4) (w := 0) rfl (hW.s rfl) rfl rfl (wl_69_3 (gl := gl) hR) rfl ?_
  refine ev_retK1 f_X12_top rfl rfl rfl ?_
  refine ev_aluvI f_L_law (nx := 266) (w := 0) rfl rfl rfl (by decide) rfl ?_
  refine ev_t f_L_law (t1 := 1628) (t2 := 269) rfl rfl rfl (by decide) ?_
  refine ev_incv f_L_law (nx := 1631) (c := 6) (w := 6) (lo' := [(3, .int 6), (2, .ref 69), (1, .ref 0), (0, .retAddr 30)]) rfl rfl (by decide) (by decide) rfl rfl rfl ?_
  refine ev_jmp f_L_law (nx := 18) rfl rfl rfl ?_
  refine ev_loc f_L_law (nx := 19) rfl rfl rfl rfl ?_
  refine ev_loc f_L_law (nx := 20) rfl rfl rfl rfl ?_
  refine ev_alenX f_L_law (nx := 21) rfl hX rfl ?_
  refine ev_bp f_L_law (nx := 23) (v := 6) rfl (by decide) rfl ?_
  refine ev_aluvI f_L_law (nx := 24) (w := 0) rfl rfl rfl (by decide) rfl ?_
  refine ev_t f_L_law (t1 := 1634) (t2 := 27) rfl rfl rfl (by decide) ?_
  refine ev_ic f_L_law (nx := 1635) (v := 1) rfl (by decide) rfl ?_
  refine ev_ret f_L_law rfl rfl rfl ?_
  exact ⟨rfl, hz⟩
set_option maxRecDepth 20000 in
theorem pc_2 (hR : x_R W1 (sh, gi, gl, gr)) (hX : X.1 = 6) : x_Ev X 1000 n_L_law 271 [(3, .int 0), (2, .ref 69), (1, .ref 0), (0, .retAddr 30)] [] (sh, gi, gl, gr) x_P1 := by
  have hW := W1_WF hR
  have hz := W1_hz hR
  refine ev_loc f_L_law (nx := 272) rfl rfl rfl rfl ?_
  refine ev_inV1 f_L_law (nx := 275) (lo2 := [(0, .ref 0)]) rfl rfl rfl rfl f_X11_bottom (hW.s rfl) rfl rfl rfl rfl rfl ?_
  refine ev_loc f_X11_bottom (nx := 1) rfl rfl rfl rfl ?_
  refine ev_gvL f_X11_bottom (nx := 4) (w := 1) rfl (hW.s rfl) rfl rfl (wl_0_2 (gl := gl) hR) rfl ?_
  refine ev_retK1 f_X11_bottom rfl rfl rfl ?_
  refine ev_loc f_L_law (nx := 276) rfl rfl rfl rfl ?_
  refine ev_inV1 f_L_law (nx := 279) (lo2 := [(0, .ref 69)]) rfl rfl rfl rfl f_X12_bottom (hW.s rfl) rfl rfl rfl rfl rfl ?_
  refine ev_loc f_X12_bottom (nx := 1) rfl rfl rfl rfl ?_
  refine ev_gvL f_X12_bottom (nx := 4) (w := 1) rfl (hW.s rfl) rfl rfl (wl_69_4 (gl := gl) hR) rfl ?_
  refine ev_retK1 f_X12_bottom rfl rfl rfl ?_
  refine ev_aluvI f_L_law (nx := 280) (w := 0) rfl rfl rfl (by decide) rfl ?_
  refine ev_t f_L_law (t1 := 1628) (t2 := 283) rfl rfl rfl (by decide) ?_
  refine ev_incv f_L_law (nx := 1631) (c := 6) (w := 6) (lo' := [(3, .int 6), (2, .ref 69), (1, .ref 0), (0, .retAddr 30)]) rfl rfl (by decide) (by decide) rfl rfl rfl ?_
  refine ev_jmp f_L_law (nx := 18) rfl rfl rfl ?_
  refine ev_loc f_L_law (nx := 19) rfl rfl rfl rfl ?_
  refine ev_loc f_L_law (nx := 20) rfl rfl rfl rfl ?_
  refine ev_alenX f_L_law (nx := 21) rfl hX rfl ?_
  refine ev_bp f_L_law (nx := 23) (v := 6) rfl (by decide) rfl ?_
  refine ev_aluvI f_L_law (nx := 24) (w := 0) rfl rfl rfl (by decide) rfl ?_
  refine ev_t f_L_law (t1 := 1634) (t2 := 27) rfl rfl rfl (by decide) ?_
  refine ev_ic f_L_law (nx := 1635) (v := 1) rfl (by decide) rfl ?_
  refine ev_ret f_L_law rfl rfl rfl ?_
  exact ⟨rfl, hz⟩
set_option maxRecDepth 20000 in
theorem pc_7 (hR : x_R W1 (sh, gi, gl, gr)) (hX : X.1 = 6) : x_Ev X 1000 n_L_law 498 [(3, .int 0), (2, .ref 69), (1, .ref 0), (0, .retAddr 30)] [] (sh, gi, gl, gr) x_P1 := by
  have hW := W1_WF hR
  have hz := W1_hz hR
  refine ev_loc f_L_law (nx := 499) rfl rfl rfl rfl ?_
  refine ev_loc f_L_law (nx := 500) rfl rfl rfl rfl ?_
  refine ev_loc f_L_law (nx := 501) rfl rfl rfl rfl ?_
  refine ev_ic f_L_law (nx := 502) (v := 1) rfl (by decide) rfl ?_
  refine ev_aluvI f_L_law (nx := 503) (w := 1) rfl rfl rfl (by decide) rfl ?_
  refine ev_scr f_L_law (nx := 504) (j := 1) rfl hX (by decide) (by decide) (by decide) rfl ?_
  refine ev_loc f_L_law (nx := 505) rfl rfl rfl rfl ?_
  refine ev_loc f_L_law (nx := 506) rfl rfl rfl rfl ?_
  refine ev_ic f_L_law (nx := 507) (v := 2) rfl (by decide) rfl ?_
  refine ev_aluvI f_L_law (nx := 508) (w := 2) rfl rfl rfl (by decide) rfl ?_
  refine ev_scr f_L_law (nx := 509) (j := 2) rfl hX (by decide) (by decide) (by decide) rfl ?_
  refine ev_loc f_L_law (nx := 510) rfl rfl rfl rfl ?_
  refine ev_loc f_L_law (nx := 511) rfl rfl rfl rfl ?_
  refine ev_ic f_L_law (nx := 512) (v := 3) rfl (by decide) rfl ?_
  refine ev_aluvI f_L_law (nx := 513) (w := 3) rfl rfl rfl (by decide) rfl ?_
  refine ev_scr f_L_law (nx := 514) (j := 3) rfl hX (by decide) (by decide) (by decide) rfl ?_
  refine ev_loc f_L_law (nx := 515) rfl rfl rfl rfl ?_
  refine ev_loc f_L_law (nx := 516) rfl rfl rfl rfl ?_
  refine ev_ic f_L_law (nx := 517) (v := 4) rfl (by decide) rfl ?_
  refine ev_aluvI f_L_law (nx := 518) (w := 4) rfl rfl rfl (by decide) rfl ?_
  refine ev_scr f_L_law (nx := 519) (j := 4) rfl hX (by decide) (by decide) (by decide) rfl ?_
  refine ev_loc f_L_law (nx := 520) rfl rfl rfl rfl ?_
  refine ev_loc f_L_law (nx := 521) rfl rfl rfl rfl ?_
  refine ev_ic f_L_law (nx := 522) (v := 5) rfl (by decide) rfl ?_
  refine ev_aluvI f_L_law (nx := 523) (w := 5) rfl rfl rfl (by decide) rfl ?_
  refine ev_scr f_L_law (nx := 524) (j := 5) rfl hX (by decide) (by decide) (by decide) rfl ?_
  refine ev_inV6 f_L_law (nx := 527) (lo2 := [(0, .ref 0), (1, .int ((X.2 1))), (2, .int ((X.2 2))), (3, .int ((X.2 3))), (4, .int ((X.2 4))), (5, .int ((X.2 5)))]) rfl rfl rfl rfl f_X11_feed (hW.s rfl) rfl rfl rfl rfl rfl ?_
  refine ev_loc f_X11_feed (nx := 1) rfl rfl rfl rfl ?_
  refine ev_gvI f_X11_feed (nx := 4) (w := 0) rfl (hW.s rfl) rfl rfl (wi_0_5 (gi := gi) hR) rfl ?_
  refine ev_bp f_X11_feed (nx := 6) (v := 20) rfl (by decide) rfl ?_
  refine ev_aluvI f_X11_feed (nx := 7) (w := 20) rfl rfl rfl (by decide) rfl ?_
  refine ev_loc f_X11_feed (nx := 8) rfl rfl rfl rfl ?_
  refine ev_getR f_X11_feed (nx := 11) rfl (hW.s rfl) rfl rfl (hW.r rfl) rfl rfl ?_
  refine ev_alenv f_X11_feed (nx := 12) (w := 900) rfl (hW.s rfl) rfl (by decide) rfl ?_
  refine ev_t f_X11_feed (t1 := 17) (t2 := 15) rfl rfl rfl (by decide) ?_
  refine ev_loc f_X11_feed (nx := 18) rfl rfl rfl rfl ?_
  refine ev_loc f_X11_feed (nx := 19) rfl rfl rfl rfl ?_
  refine ev_inV2 f_X11_feed (nx := 22) (lo2 := [(0, .ref 0), (1, .int ((X.2 1)))]) rfl rfl rfl rfl f_X11_feedOne (hW.s rfl) rfl rfl rfl rfl rfl ?_
  refine ev_bp f_X11_feedOne (nx := 2) (v := 24) rfl (by decide) rfl ?_
  refine ev_loc f_X11_feedOne (nx := 3) (lo' := [(2, .int 24), (0, .ref 0), (1, .int ((X.2 1)))]) rfl rfl rfl rfl ?_
  refine ev_loc f_X11_feedOne (nx := 4) rfl rfl rfl rfl ?_
  refine ev_f f_X11_feedOne (t1 := 48) (t2 := 7) rfl rfl rfl (by decide) ?_
  refine ev_loc f_X11_feedOne (nx := 8) rfl rfl rfl rfl ?_
  refine ev_gvI f_X11_feedOne (nx := 11) (w := 0) rfl (hW.s rfl) rfl rfl (wi_0_5 (gi := gi) hR) rfl ?_
  refine ev_loc f_X11_feedOne (nx := 12) rfl rfl rfl rfl ?_
  refine ev_getR f_X11_feedOne (nx := 15) rfl (hW.s rfl) rfl rfl (hW.r rfl) rfl rfl ?_
  refine ev_alenv f_X11_feedOne (nx := 16) (w := 900) rfl (hW.s rfl) rfl (by decide) rfl ?_
  refine ev_f f_X11_feedOne (t1 := 48) (t2 := 19) rfl rfl rfl (by decide) ?_
  refine ev_loc f_X11_feedOne (nx := 20) rfl rfl rfl rfl ?_
  refine ev_getR f_X11_feedOne (nx := 23) rfl (hW.s rfl) rfl rfl (hW.r rfl) rfl rfl ?_
  refine ev_loc f_X11_feedOne (nx := 24) rfl rfl rfl rfl ?_
  refine ev_gvI f_X11_feedOne (nx := 27) (w := 0) rfl (hW.s rfl) rfl rfl (wi_0_5 (gi := gi) hR) rfl ?_
  refine ev_loc f_X11_feedOne (nx := 28) rfl rfl rfl rfl ?_
  refine ev_loc f_X11_feedOne (nx := 29) rfl rfl rfl rfl ?_
  refine ev_alu f_X11_feedOne (nx := 30) rfl rfl rfl rfl ?_
  refine ev_alu f_X11_feedOne (nx := 31) rfl rfl rfl rfl ?_
  refine ev_bastv f_X11_feedOne (nx := 32) (j := 0) rfl (hW.s rfl) (by decide) (by decide) (by decide) rfl ?_
  refine ev_loc f_X11_feedOne (nx := 33) rfl rfl rfl rfl ?_
  refine ev_alu f_X11_feedOne (nx := 34) rfl rfl rfl rfl ?_
  refine ev_gvI f_X11_feedOne (nx := 37) (w := 0) rfl (hW.s rfl) rfl rfl (wi_0_5 (gi := gi) hR) rfl ?_
  refine ev_ic f_X11_feedOne (nx := 38) (v := 1) rfl (by decide) rfl ?_
  refine ev_aluvI f_X11_feedOne (nx := 39) (w := 1) rfl rfl rfl (by decide) rfl ?_
  refine ev_putI f_X11_feedOne (nx := 42) rfl (hW.s rfl) rfl rfl rfl ?_
  refine ev_incv f_X11_feedOne (nx := 45) (c := -8) (w := 16) (lo' := [(2, .int 16), (0, .ref 0), (1, .int ((X.2 1)))]) rfl rfl (by decide) (by decide) rfl rfl rfl ?_
  refine ev_jmp f_X11_feedOne (nx := 3) rfl rfl rfl ?_
  refine ev_loc f_X11_feedOne (nx := 4) rfl rfl rfl rfl ?_
  refine ev_f f_X11_feedOne (t1 := 48) (t2 := 7) rfl rfl rfl (by decide) ?_
  refine ev_loc f_X11_feedOne (nx := 8) rfl rfl rfl rfl ?_
  refine ev_gvI f_X11_feedOne (nx := 11) (w := 1) rfl (hW.s rfl) rfl rfl rfl rfl ?_
  refine ev_loc f_X11_feedOne (nx := 12) rfl rfl rfl rfl ?_
  refine ev_getR f_X11_feedOne (nx := 15) rfl (hW.s rfl) rfl rfl (hW.r rfl) rfl rfl ?_
  refine ev_alenv f_X11_feedOne (nx := 16) (w := 900) rfl (hW.s rfl) rfl (by decide) rfl ?_
  refine ev_f f_X11_feedOne (t1 := 48) (t2 := 19) rfl rfl rfl (by decide) ?_
  refine ev_loc f_X11_feedOne (nx := 20) rfl rfl rfl rfl ?_
  refine ev_getR f_X11_feedOne (nx := 23) rfl (hW.s rfl) rfl rfl (hW.r rfl) rfl rfl ?_
  refine ev_loc f_X11_feedOne (nx := 24) rfl rfl rfl rfl ?_
  refine ev_gvI f_X11_feedOne (nx := 27) (w := 1) rfl (hW.s rfl) rfl rfl rfl rfl ?_
  refine ev_loc f_X11_feedOne (nx := 28) rfl rfl rfl rfl ?_
  refine ev_loc f_X11_feedOne (nx := 29) rfl rfl rfl rfl ?_
  refine ev_alu f_X11_feedOne (nx := 30) rfl rfl rfl rfl ?_
  refine ev_alu f_X11_feedOne (nx := 31) rfl rfl rfl rfl ?_
  refine ev_bastv f_X11_feedOne (nx := 32) (j := 1) rfl (hW.s rfl) (by decide) (by decide) (by decide) rfl ?_
  refine ev_loc f_X11_feedOne (nx := 33) rfl rfl rfl rfl ?_
  refine ev_alu f_X11_feedOne (nx := 34) rfl rfl rfl rfl ?_
  refine ev_gvI f_X11_feedOne (nx := 37) (w := 1) rfl (hW.s rfl) rfl rfl rfl rfl ?_
  refine ev_ic f_X11_feedOne (nx := 38) (v := 1) rfl (by decide) rfl ?_
  refine ev_aluvI f_X11_feedOne (nx := 39) (w := 2) rfl rfl rfl (by decide) rfl ?_
  refine ev_putI f_X11_feedOne (nx := 42) rfl (hW.s rfl) rfl rfl rfl ?_
  refine ev_incv f_X11_feedOne (nx := 45) (c := -8) (w := 8) (lo' := [(2, .int 8), (0, .ref 0), (1, .int ((X.2 1)))]) rfl rfl (by decide) (by decide) rfl rfl rfl ?_
  refine ev_jmp f_X11_feedOne (nx := 3) rfl rfl rfl ?_
  refine ev_loc f_X11_feedOne (nx := 4) rfl rfl rfl rfl ?_
  refine ev_f f_X11_feedOne (t1 := 48) (t2 := 7) rfl rfl rfl (by decide) ?_
  refine ev_loc f_X11_feedOne (nx := 8) rfl rfl rfl rfl ?_
  refine ev_gvI f_X11_feedOne (nx := 11) (w := 2) rfl (hW.s rfl) rfl rfl rfl rfl ?_
  refine ev_loc f_X11_feedOne (nx := 12) rfl rfl rfl rfl ?_
  refine ev_getR f_X11_feedOne (nx := 15) rfl (hW.s rfl) rfl rfl (hW.r rfl) rfl rfl ?_
  refine ev_alenv f_X11_feedOne (nx := 16) (w := 900) rfl (hW.s rfl) rfl (by decide) rfl ?_
  refine ev_f f_X11_feedOne (t1 := 48) (t2 := 19) rfl rfl rfl (by decide) ?_
  refine ev_loc f_X11_feedOne (nx := 20) rfl rfl rfl rfl ?_
  refine ev_getR f_X11_feedOne (nx := 23) rfl (hW.s rfl) rfl rfl (hW.r rfl) rfl rfl ?_
  refine ev_loc f_X11_feedOne (nx := 24) rfl rfl rfl rfl ?_
  refine ev_gvI f_X11_feedOne (nx := 27) (w := 2) rfl (hW.s rfl) rfl rfl rfl rfl ?_
  refine ev_loc f_X11_feedOne (nx := 28) rfl rfl rfl rfl ?_
  refine ev_loc f_X11_feedOne (nx := 29) rfl rfl rfl rfl ?_
  refine ev_alu f_X11_feedOne (nx := 30) rfl rfl rfl rfl ?_
  refine ev_alu f_X11_feedOne (nx := 31) rfl rfl rfl rfl ?_
  refine ev_bastv f_X11_feedOne (nx := 32) (j := 2) rfl (hW.s rfl) (by decide) (by decide) (by decide) rfl ?_
  refine ev_loc f_X11_feedOne (nx := 33) rfl rfl rfl rfl ?_
  refine ev_alu f_X11_feedOne (nx := 34) rfl rfl rfl rfl ?_
  refine ev_gvI f_X11_feedOne (nx := 37) (w := 2) rfl (hW.s rfl) rfl rfl rfl rfl ?_
  refine ev_ic f_X11_feedOne (nx := 38) (v := 1) rfl (by decide) rfl ?_
  refine ev_aluvI f_X11_feedOne (nx := 39) (w := 3) rfl rfl rfl (by decide) rfl ?_
  refine ev_putI f_X11_feedOne (nx := 42) rfl (hW.s rfl) rfl rfl rfl ?_
  refine ev_incv f_X11_feedOne (nx := 45) (c := -8) (w := 0) (lo' := [(2, .int 0), (0, .ref 0), (1, .int ((X.2 1)))]) rfl rfl (by decide) (by decide) rfl rfl rfl ?_
  refine ev_jmp f_X11_feedOne (nx := 3) rfl rfl rfl ?_
  refine ev_loc f_X11_feedOne (nx := 4) rfl rfl rfl rfl ?_
  refine ev_f f_X11_feedOne (t1 := 48) (t2 := 7) rfl rfl rfl (by decide) ?_
  refine ev_loc f_X11_feedOne (nx := 8) rfl rfl rfl rfl ?_
  refine ev_gvI f_X11_feedOne (nx := 11) (w := 3) rfl (hW.s rfl) rfl rfl rfl rfl ?_
  refine ev_loc f_X11_feedOne (nx := 12) rfl rfl rfl rfl ?_
  refine ev_getR f_X11_feedOne (nx := 15) rfl (hW.s rfl) rfl rfl (hW.r rfl) rfl rfl ?_
  refine ev_alenv f_X11_feedOne (nx := 16) (w := 900) rfl (hW.s rfl) rfl (by decide) rfl ?_
  refine ev_f f_X11_feedOne (t1 := 48) (t2 := 19) rfl rfl rfl (by decide) ?_
  refine ev_loc f_X11_feedOne (nx := 20) rfl rfl rfl rfl ?_
  refine ev_getR f_X11_feedOne (nx := 23) rfl (hW.s rfl) rfl rfl (hW.r rfl) rfl rfl ?_
  refine ev_loc f_X11_feedOne (nx := 24) rfl rfl rfl rfl ?_
  refine ev_gvI f_X11_feedOne (nx := 27) (w := 3) rfl (hW.s rfl) rfl rfl rfl rfl ?_
  refine ev_loc f_X11_feedOne (nx := 28) rfl rfl rfl rfl ?_
  refine ev_loc f_X11_feedOne (nx := 29) rfl rfl rfl rfl ?_
  refine ev_alu f_X11_feedOne (nx := 30) rfl rfl rfl rfl ?_
  refine ev_alu f_X11_feedOne (nx := 31) rfl rfl rfl rfl ?_
  refine ev_bastv f_X11_feedOne (nx := 32) (j := 3) rfl (hW.s rfl) (by decide) (by decide) (by decide) rfl ?_
  refine ev_loc f_X11_feedOne (nx := 33) rfl rfl rfl rfl ?_
  refine ev_alu f_X11_feedOne (nx := 34) rfl rfl rfl rfl ?_
  refine ev_gvI f_X11_feedOne (nx := 37) (w := 3) rfl (hW.s rfl) rfl rfl rfl rfl ?_
  refine ev_ic f_X11_feedOne (nx := 38) (v := 1) rfl (by decide) rfl ?_
  refine ev_aluvI f_X11_feedOne (nx := 39) (w := 4) rfl rfl rfl (by decide) rfl ?_
  refine ev_putI f_X11_feedOne (nx := 42) rfl (hW.s rfl) rfl rfl rfl ?_
  refine ev_incv f_X11_feedOne (nx := 45) (c := -8) (w := -8) (lo' := [(2, .int (-8)), (0, .ref 0), (1, .int ((X.2 1)))]) rfl rfl (by decide) (by decide) rfl rfl rfl ?_
  refine ev_jmp f_X11_feedOne (nx := 3) rfl rfl rfl ?_
  refine ev_loc f_X11_feedOne (nx := 4) rfl rfl rfl rfl ?_
  refine ev_t f_X11_feedOne (t1 := 48) (t2 := 7) rfl rfl rfl (by decide) ?_
  refine ev_retK0 f_X11_feedOne rfl rfl rfl ?_
  refine ev_loc f_X11_feed (nx := 23) rfl rfl rfl rfl ?_
  refine ev_loc f_X11_feed (nx := 24) rfl rfl rfl rfl ?_
  refine ev_inV2 f_X11_feed (nx := 27) (lo2 := [(0, .ref 0), (1, .int ((X.2 2)))]) rfl rfl rfl rfl f_X11_feedOne (hW.s rfl) rfl rfl rfl rfl rfl ?_
  refine ev_bp f_X11_feedOne (nx := 2) (v := 24) rfl (by decide) rfl ?_
  refine ev_loc f_X11_feedOne (nx := 3) (lo' := [(2, .int 24), (0, .ref 0), (1, .int ((X.2 2)))]) rfl rfl rfl rfl ?_
  refine ev_loc f_X11_feedOne (nx := 4) rfl rfl rfl rfl ?_
  refine ev_f f_X11_feedOne (t1 := 48) (t2 := 7) rfl rfl rfl (by decide) ?_
  refine ev_loc f_X11_feedOne (nx := 8) rfl rfl rfl rfl ?_
  refine ev_gvI f_X11_feedOne (nx := 11) (w := 4) rfl (hW.s rfl) rfl rfl rfl rfl ?_
  refine ev_loc f_X11_feedOne (nx := 12) rfl rfl rfl rfl ?_
  refine ev_getR f_X11_feedOne (nx := 15) rfl (hW.s rfl) rfl rfl (hW.r rfl) rfl rfl ?_
  refine ev_alenv f_X11_feedOne (nx := 16) (w := 900) rfl (hW.s rfl) rfl (by decide) rfl ?_
  refine ev_f f_X11_feedOne (t1 := 48) (t2 := 19) rfl rfl rfl (by decide) ?_
  refine ev_loc f_X11_feedOne (nx := 20) rfl rfl rfl rfl ?_
  refine ev_getR f_X11_feedOne (nx := 23) rfl (hW.s rfl) rfl rfl (hW.r rfl) rfl rfl ?_
  refine ev_loc f_X11_feedOne (nx := 24) rfl rfl rfl rfl ?_
  refine ev_gvI f_X11_feedOne (nx := 27) (w := 4) rfl (hW.s rfl) rfl rfl rfl rfl ?_
  refine ev_loc f_X11_feedOne (nx := 28) rfl rfl rfl rfl ?_
  refine ev_loc f_X11_feedOne (nx := 29) rfl rfl rfl rfl ?_
  refine ev_alu f_X11_feedOne (nx := 30) rfl rfl rfl rfl ?_
  refine ev_alu f_X11_feedOne (nx := 31) rfl rfl rfl rfl ?_
  refine ev_bastv f_X11_feedOne (nx := 32) (j := 4) rfl (hW.s rfl) (by decide) (by decide) (by decide) rfl ?_
  refine ev_loc f_X11_feedOne (nx := 33) rfl rfl rfl rfl ?_
  refine ev_alu f_X11_feedOne (nx := 34) rfl rfl rfl rfl ?_
  refine ev_gvI f_X11_feedOne (nx := 37) (w := 4) rfl (hW.s rfl) rfl rfl rfl rfl ?_
  refine ev_ic f_X11_feedOne (nx := 38) (v := 1) rfl (by decide) rfl ?_
  refine ev_aluvI f_X11_feedOne (nx := 39) (w := 5) rfl rfl rfl (by decide) rfl ?_
  refine ev_putI f_X11_feedOne (nx := 42) rfl (hW.s rfl) rfl rfl rfl ?_
  refine ev_incv f_X11_feedOne (nx := 45) (c := -8) (w := 16) (lo' := [(2, .int 16), (0, .ref 0), (1, .int ((X.2 2)))]) rfl rfl (by decide) (by decide) rfl rfl rfl ?_
  refine ev_jmp f_X11_feedOne (nx := 3) rfl rfl rfl ?_
  refine ev_loc f_X11_feedOne (nx := 4) rfl rfl rfl rfl ?_
  refine ev_f f_X11_feedOne (t1 := 48) (t2 := 7) rfl rfl rfl (by decide) ?_
  refine ev_loc f_X11_feedOne (nx := 8) rfl rfl rfl rfl ?_
  refine ev_gvI f_X11_feedOne (nx := 11) (w := 5) rfl (hW.s rfl) rfl rfl rfl rfl ?_
  refine ev_loc f_X11_feedOne (nx := 12) rfl rfl rfl rfl ?_
  refine ev_getR f_X11_feedOne (nx := 15) rfl (hW.s rfl) rfl rfl (hW.r rfl) rfl rfl ?_
  refine ev_alenv f_X11_feedOne (nx := 16) (w := 900) rfl (hW.s rfl) rfl (by decide) rfl ?_
  refine ev_f f_X11_feedOne (t1 := 48) (t2 := 19) rfl rfl rfl (by decide) ?_
  refine ev_loc f_X11_feedOne (nx := 20) rfl rfl rfl rfl ?_
  refine ev_getR f_X11_feedOne (nx := 23) rfl (hW.s rfl) rfl rfl (hW.r rfl) rfl rfl ?_
  refine ev_loc f_X11_feedOne (nx := 24) rfl rfl rfl rfl ?_
  refine ev_gvI f_X11_feedOne (nx := 27) (w := 5) rfl (hW.s rfl) rfl rfl rfl rfl ?_
  refine ev_loc f_X11_feedOne (nx := 28) rfl rfl rfl rfl ?_
  refine ev_loc f_X11_feedOne (nx := 29) rfl rfl rfl rfl ?_
  refine ev_alu f_X11_feedOne (nx := 30) rfl rfl rfl rfl ?_
  refine ev_alu f_X11_feedOne (nx := 31) rfl rfl rfl rfl ?_
  refine ev_bastv f_X11_feedOne (nx := 32) (j := 5) rfl (hW.s rfl) (by decide) (by decide) (by decide) rfl ?_
  refine ev_loc f_X11_feedOne (nx := 33) rfl rfl rfl rfl ?_
  refine ev_alu f_X11_feedOne (nx := 34) rfl rfl rfl rfl ?_
  refine ev_gvI f_X11_feedOne (nx := 37) (w := 5) rfl (hW.s rfl) rfl rfl rfl rfl ?_
  refine ev_ic f_X11_feedOne (nx := 38) (v := 1) rfl (by decide) rfl ?_
  refine ev_aluvI f_X11_feedOne (nx := 39) (w := 6) rfl rfl rfl (by decide) rfl ?_
  refine ev_putI f_X11_feedOne (nx := 42) rfl (hW.s rfl) rfl rfl rfl ?_
  refine ev_incv f_X11_feedOne (nx := 45) (c := -8) (w := 8) (lo' := [(2, .int 8), (0, .ref 0), (1, .int ((X.2 2)))]) rfl rfl (by decide) (by decide) rfl rfl rfl ?_
  refine ev_jmp f_X11_feedOne (nx := 3) rfl rfl rfl ?_
  refine ev_loc f_X11_feedOne (nx := 4) rfl rfl rfl rfl ?_
  refine ev_f f_X11_feedOne (t1 := 48) (t2 := 7) rfl rfl rfl (by decide) ?_
  refine ev_loc f_X11_feedOne (nx := 8) rfl rfl rfl rfl ?_
  refine ev_gvI f_X11_feedOne (nx := 11) (w := 6) rfl (hW.s rfl) rfl rfl rfl rfl ?_
  refine ev_loc f_X11_feedOne (nx := 12) rfl rfl rfl rfl ?_
  refine ev_getR f_X11_feedOne (nx := 15) rfl (hW.s rfl) rfl rfl (hW.r rfl) rfl rfl ?_
  refine ev_alenv f_X11_feedOne (nx := 16) (w := 900) rfl (hW.s rfl) rfl (by decide) rfl ?_
  refine ev_f f_X11_feedOne (t1 := 48) (t2 := 19) rfl rfl rfl (by decide) ?_
  refine ev_loc f_X11_feedOne (nx := 20) rfl rfl rfl rfl ?_
  refine ev_getR f_X11_feedOne (nx := 23) rfl (hW.s rfl) rfl rfl (hW.r rfl) rfl rfl ?_
  refine ev_loc f_X11_feedOne (nx := 24) rfl rfl rfl rfl ?_
  refine ev_gvI f_X11_feedOne (nx := 27) (w := 6) rfl (hW.s rfl) rfl rfl rfl rfl ?_
  refine ev_loc f_X11_feedOne (nx := 28) rfl rfl rfl rfl ?_
  refine ev_loc f_X11_feedOne (nx := 29) rfl rfl rfl rfl ?_
  refine ev_alu f_X11_feedOne (nx := 30) rfl rfl rfl rfl ?_
  refine ev_alu f_X11_feedOne (nx := 31) rfl rfl rfl rfl ?_
  refine ev_bastv f_X11_feedOne (nx := 32) (j := 6) rfl (hW.s rfl) (by decide) (by decide) (by decide) rfl ?_
  refine ev_loc f_X11_feedOne (nx := 33) rfl rfl rfl rfl ?_
  refine ev_alu f_X11_feedOne (nx := 34) rfl rfl rfl rfl ?_
  refine ev_gvI f_X11_feedOne (nx := 37) (w := 6) rfl (hW.s rfl) rfl rfl rfl rfl ?_
  refine ev_ic f_X11_feedOne (nx := 38) (v := 1) rfl (by decide) rfl ?_
  refine ev_aluvI f_X11_feedOne (nx := 39) (w := 7) rfl rfl rfl (by decide) rfl ?_
  refine ev_putI f_X11_feedOne (nx := 42) rfl (hW.s rfl) rfl rfl rfl ?_
  refine ev_incv f_X11_feedOne (nx := 45) (c := -8) (w := 0) (lo' := [(2, .int 0), (0, .ref 0), (1, .int ((X.2 2)))]) rfl rfl (by decide) (by decide) rfl rfl rfl ?_
  refine ev_jmp f_X11_feedOne (nx := 3) rfl rfl rfl ?_
  refine ev_loc f_X11_feedOne (nx := 4) rfl rfl rfl rfl ?_
  refine ev_f f_X11_feedOne (t1 := 48) (t2 := 7) rfl rfl rfl (by decide) ?_
  refine ev_loc f_X11_feedOne (nx := 8) rfl rfl rfl rfl ?_
  refine ev_gvI f_X11_feedOne (nx := 11) (w := 7) rfl (hW.s rfl) rfl rfl rfl rfl ?_
  refine ev_loc f_X11_feedOne (nx := 12) rfl rfl rfl rfl ?_
  refine ev_getR f_X11_feedOne (nx := 15) rfl (hW.s rfl) rfl rfl (hW.r rfl) rfl rfl ?_
  refine ev_alenv f_X11_feedOne (nx := 16) (w := 900) rfl (hW.s rfl) rfl (by decide) rfl ?_
  refine ev_f f_X11_feedOne (t1 := 48) (t2 := 19) rfl rfl rfl (by decide) ?_
  refine ev_loc f_X11_feedOne (nx := 20) rfl rfl rfl rfl ?_
  refine ev_getR f_X11_feedOne (nx := 23) rfl (hW.s rfl) rfl rfl (hW.r rfl) rfl rfl ?_
  refine ev_loc f_X11_feedOne (nx := 24) rfl rfl rfl rfl ?_
  refine ev_gvI f_X11_feedOne (nx := 27) (w := 7) rfl (hW.s rfl) rfl rfl rfl rfl ?_
  refine ev_loc f_X11_feedOne (nx := 28) rfl rfl rfl rfl ?_
  refine ev_loc f_X11_feedOne (nx := 29) rfl rfl rfl rfl ?_
  refine ev_alu f_X11_feedOne (nx := 30) rfl rfl rfl rfl ?_
  refine ev_alu f_X11_feedOne (nx := 31) rfl rfl rfl rfl ?_
  refine ev_bastv f_X11_feedOne (nx := 32) (j := 7) rfl (hW.s rfl) (by decide) (by decide) (by decide) rfl ?_
  refine ev_loc f_X11_feedOne (nx := 33) rfl rfl rfl rfl ?_
  refine ev_alu f_X11_feedOne (nx := 34) rfl rfl rfl rfl ?_
  refine ev_gvI f_X11_feedOne (nx := 37) (w := 7) rfl (hW.s rfl) rfl rfl rfl rfl ?_
  refine ev_ic f_X11_feedOne (nx := 38) (v := 1) rfl (by decide) rfl ?_
  refine ev_aluvI f_X11_feedOne (nx := 39) (w := 8) rfl rfl rfl (by decide) rfl ?_
  refine ev_putI f_X11_feedOne (nx := 42) rfl (hW.s rfl) rfl rfl rfl ?_
  refine ev_incv f_X11_feedOne (nx := 45) (c := -8) (w := -8) (lo' := [(2, .int (-8)), (0, .ref 0), (1, .int ((X.2 2)))]) rfl rfl (by decide) (by decide) rfl rfl rfl ?_
  refine ev_jmp f_X11_feedOne (nx := 3) rfl rfl rfl ?_
  refine ev_loc f_X11_feedOne (nx := 4) rfl rfl rfl rfl ?_
  refine ev_t f_X11_feedOne (t1 := 48) (t2 := 7) rfl rfl rfl (by decide) ?_
  refine ev_retK0 f_X11_feedOne rfl rfl rfl ?_
  refine ev_loc f_X11_feed (nx := 28) rfl rfl rfl rfl ?_
  refine ev_loc f_X11_feed (nx := 29) rfl rfl rfl rfl ?_
  refine ev_inV2 f_X11_feed (nx := 32) (lo2 := [(0, .ref 0), (1, .int ((X.2 3)))]) rfl rfl rfl rfl f_X11_feedOne (hW.s rfl) rfl rfl rfl rfl rfl ?_
  refine ev_bp f_X11_feedOne (nx := 2) (v := 24) rfl (by decide) rfl ?_
  refine ev_loc f_X11_feedOne (nx := 3) (lo' := [(2, .int 24), (0, .ref 0), (1, .int ((X.2 3)))]) rfl rfl rfl rfl ?_
  refine ev_loc f_X11_feedOne (nx := 4) rfl rfl rfl rfl ?_
  refine ev_f f_X11_feedOne (t1 := 48) (t2 := 7) rfl rfl rfl (by decide) ?_
  refine ev_loc f_X11_feedOne (nx := 8) rfl rfl rfl rfl ?_
  refine ev_gvI f_X11_feedOne (nx := 11) (w := 8) rfl (hW.s rfl) rfl rfl rfl rfl ?_
  refine ev_loc f_X11_feedOne (nx := 12) rfl rfl rfl rfl ?_
  refine ev_getR f_X11_feedOne (nx := 15) rfl (hW.s rfl) rfl rfl (hW.r rfl) rfl rfl ?_
  refine ev_alenv f_X11_feedOne (nx := 16) (w := 900) rfl (hW.s rfl) rfl (by decide) rfl ?_
  refine ev_f f_X11_feedOne (t1 := 48) (t2 := 19) rfl rfl rfl (by decide) ?_
  refine ev_loc f_X11_feedOne (nx := 20) rfl rfl rfl rfl ?_
  refine ev_getR f_X11_feedOne (nx := 23) rfl (hW.s rfl) rfl rfl (hW.r rfl) rfl rfl ?_
  refine ev_loc f_X11_feedOne (nx := 24) rfl rfl rfl rfl ?_
  refine ev_gvI f_X11_feedOne (nx := 27) (w := 8) rfl (hW.s rfl) rfl rfl rfl rfl ?_
  refine ev_loc f_X11_feedOne (nx := 28) rfl rfl rfl rfl ?_
  refine ev_loc f_X11_feedOne (nx := 29) rfl rfl rfl rfl ?_
  refine ev_alu f_X11_feedOne (nx := 30) rfl rfl rfl rfl ?_
  refine ev_alu f_X11_feedOne (nx := 31) rfl rfl rfl rfl ?_
  refine ev_bastv f_X11_feedOne (nx := 32) (j := 8) rfl (hW.s rfl) (by decide) (by decide) (by decide) rfl ?_
  refine ev_loc f_X11_feedOne (nx := 33) rfl rfl rfl rfl ?_
  refine ev_alu f_X11_feedOne (nx := 34) rfl rfl rfl rfl ?_
  refine ev_gvI f_X11_feedOne (nx := 37) (w := 8) rfl (hW.s rfl) rfl rfl rfl rfl ?_
  refine ev_ic f_X11_feedOne (nx := 38) (v := 1) rfl (by decide) rfl ?_
  refine ev_aluvI f_X11_feedOne (nx := 39) (w := 9) rfl rfl rfl (by decide) rfl ?_
  refine ev_putI f_X11_feedOne (nx := 42) rfl (hW.s rfl) rfl rfl rfl ?_
  refine ev_incv f_X11_feedOne (nx := 45) (c := -8) (w := 16) (lo' := [(2, .int 16), (0, .ref 0), (1, .int ((X.2 3)))]) rfl rfl (by decide) (by decide) rfl rfl rfl ?_
  refine ev_jmp f_X11_feedOne (nx := 3) rfl rfl rfl ?_
  refine ev_loc f_X11_feedOne (nx := 4) rfl rfl rfl rfl ?_
  refine ev_f f_X11_feedOne (t1 := 48) (t2 := 7) rfl rfl rfl (by decide) ?_
  refine ev_loc f_X11_feedOne (nx := 8) rfl rfl rfl rfl ?_
  refine ev_gvI f_X11_feedOne (nx := 11) (w := 9) rfl (hW.s rfl) rfl rfl rfl rfl ?_
  refine ev_loc f_X11_feedOne (nx := 12) rfl rfl rfl rfl ?_
  refine ev_getR f_X11_feedOne (nx := 15) rfl (hW.s rfl) rfl rfl (hW.r rfl) rfl rfl ?_
  refine ev_alenv f_X11_feedOne (nx := 16) (w := 900) rfl (hW.s rfl) rfl (by decide) rfl ?_
  refine ev_f f_X11_feedOne (t1 := 48) (t2 := 19) rfl rfl rfl (by decide) ?_
  refine ev_loc f_X11_feedOne (nx := 20) rfl rfl rfl rfl ?_
  refine ev_getR f_X11_feedOne (nx := 23) rfl (hW.s rfl) rfl rfl (hW.r rfl) rfl rfl ?_
  refine ev_loc f_X11_feedOne (nx := 24) rfl rfl rfl rfl ?_
  refine ev_gvI f_X11_feedOne (nx := 27) (w := 9) rfl (hW.s rfl) rfl rfl rfl rfl ?_
  refine ev_loc f_X11_feedOne (nx := 28) rfl rfl rfl rfl ?_
  refine ev_loc f_X11_feedOne (nx := 29) rfl rfl rfl rfl ?_
  refine ev_alu f_X11_feedOne (nx := 30) rfl rfl rfl rfl ?_
  refine ev_alu f_X11_feedOne (nx := 31) rfl rfl rfl rfl ?_
  refine ev_bastv f_X11_feedOne (nx := 32) (j := 9) rfl (hW.s rfl) (by decide) (by decide) (by decide) rfl ?_
  refine ev_loc f_X11_feedOne (nx := 33) rfl rfl rfl rfl ?_
  refine ev_alu f_X11_feedOne (nx := 34) rfl rfl rfl rfl ?_
  refine ev_gvI f_X11_feedOne (nx := 37) (w := 9) rfl (hW.s rfl) rfl rfl rfl rfl ?_
  refine ev_ic f_X11_feedOne (nx := 38) (v := 1) rfl (by decide) rfl ?_
  refine ev_aluvI f_X11_feedOne (nx := 39) (w := 10) rfl rfl rfl (by decide) rfl ?_
  refine ev_putI f_X11_feedOne (nx := 42) rfl (hW.s rfl) rfl rfl rfl ?_
  refine ev_incv f_X11_feedOne (nx := 45) (c := -8) (w := 8) (lo' := [(2, .int 8), (0, .ref 0), (1, .int ((X.2 3)))]) rfl rfl (by decide) (by decide) rfl rfl rfl ?_
  refine ev_jmp f_X11_feedOne (nx := 3) rfl rfl rfl ?_
  refine ev_loc f_X11_feedOne (nx := 4) rfl rfl rfl rfl ?_
  refine ev_f f_X11_feedOne (t1 := 48) (t2 := 7) rfl rfl rfl (by decide) ?_
  refine ev_loc f_X11_feedOne (nx := 8) rfl rfl rfl rfl ?_
  refine ev_gvI f_X11_feedOne (nx := 11) (w := 10) rfl (hW.s rfl) rfl rfl rfl rfl ?_
  refine ev_loc f_X11_feedOne (nx := 12) rfl rfl rfl rfl ?_
  refine ev_getR f_X11_feedOne (nx := 15) rfl (hW.s rfl) rfl rfl (hW.r rfl) rfl rfl ?_
  refine ev_alenv f_X11_feedOne (nx := 16) (w := 900) rfl (hW.s rfl) rfl (by decide) rfl ?_
  refine ev_f f_X11_feedOne (t1 := 48) (t2 := 19) rfl rfl rfl (by decide) ?_
  refine ev_loc f_X11_feedOne (nx := 20) rfl rfl rfl rfl ?_
  refine ev_getR f_X11_feedOne (nx := 23) rfl (hW.s rfl) rfl rfl (hW.r rfl) rfl rfl ?_
  refine ev_loc f_X11_feedOne (nx := 24) rfl rfl rfl rfl ?_
  refine ev_gvI f_X11_feedOne (nx := 27) (w := 10) rfl (hW.s rfl) rfl rfl rfl rfl ?_
  refine ev_loc f_X11_feedOne (nx := 28) rfl rfl rfl rfl ?_
  refine ev_loc f_X11_feedOne (nx := 29) rfl rfl rfl rfl ?_
  refine ev_alu f_X11_feedOne (nx := 30) rfl rfl rfl rfl ?_
  refine ev_alu f_X11_feedOne (nx := 31) rfl rfl rfl rfl ?_
  refine ev_bastv f_X11_feedOne (nx := 32) (j := 10) rfl (hW.s rfl) (by decide) (by decide) (by decide) rfl ?_
  refine ev_loc f_X11_feedOne (nx := 33) rfl rfl rfl rfl ?_
  refine ev_alu f_X11_feedOne (nx := 34) rfl rfl rfl rfl ?_
  refine ev_gvI f_X11_feedOne (nx := 37) (w := 10) rfl (hW.s rfl) rfl rfl rfl rfl ?_
  refine ev_ic f_X11_feedOne (nx := 38) (v := 1) rfl (by decide) rfl ?_
  refine ev_aluvI f_X11_feedOne (nx := 39) (w := 11) rfl rfl rfl (by decide) rfl ?_
  refine ev_putI f_X11_feedOne (nx := 42) rfl (hW.s rfl) rfl rfl rfl ?_
  refine ev_incv f_X11_feedOne (nx := 45) (c := -8) (w := 0) (lo' := [(2, .int 0), (0, .ref 0), (1, .int ((X.2 3)))]) rfl rfl (by decide) (by decide) rfl rfl rfl ?_
  refine ev_jmp f_X11_feedOne (nx := 3) rfl rfl rfl ?_
  refine ev_loc f_X11_feedOne (nx := 4) rfl rfl rfl rfl ?_
  refine ev_f f_X11_feedOne (t1 := 48) (t2 := 7) rfl rfl rfl (by decide) ?_
  refine ev_loc f_X11_feedOne (nx := 8) rfl rfl rfl rfl ?_
  refine ev_gvI f_X11_feedOne (nx := 11) (w := 11) rfl (hW.s rfl) rfl rfl rfl rfl ?_
  refine ev_loc f_X11_feedOne (nx := 12) rfl rfl rfl rfl ?_
  refine ev_getR f_X11_feedOne (nx := 15) rfl (hW.s rfl) rfl rfl (hW.r rfl) rfl rfl ?_
  refine ev_alenv f_X11_feedOne (nx := 16) (w := 900) rfl (hW.s rfl) rfl (by decide) rfl ?_
  refine ev_f f_X11_feedOne (t1 := 48) (t2 := 19) rfl rfl rfl (by decide) ?_
  refine ev_loc f_X11_feedOne (nx := 20) rfl rfl rfl rfl ?_
  refine ev_getR f_X11_feedOne (nx := 23) rfl (hW.s rfl) rfl rfl (hW.r rfl) rfl rfl ?_
  refine ev_loc f_X11_feedOne (nx := 24) rfl rfl rfl rfl ?_
  refine ev_gvI f_X11_feedOne (nx := 27) (w := 11) rfl (hW.s rfl) rfl rfl rfl rfl ?_
  refine ev_loc f_X11_feedOne (nx := 28) rfl rfl rfl rfl ?_
  refine ev_loc f_X11_feedOne (nx := 29) rfl rfl rfl rfl ?_
  refine ev_alu f_X11_feedOne (nx := 30) rfl rfl rfl rfl ?_
  refine ev_alu f_X11_feedOne (nx := 31) rfl rfl rfl rfl ?_
  refine ev_bastv f_X11_feedOne (nx := 32) (j := 11) rfl (hW.s rfl) (by decide) (by decide) (by decide) rfl ?_
  refine ev_loc f_X11_feedOne (nx := 33) rfl rfl rfl rfl ?_
  refine ev_alu f_X11_feedOne (nx := 34) rfl rfl rfl rfl ?_
  refine ev_gvI f_X11_feedOne (nx := 37) (w := 11) rfl (hW.s rfl) rfl rfl rfl rfl ?_
  refine ev_ic f_X11_feedOne (nx := 38) (v := 1) rfl (by decide) rfl ?_
  refine ev_aluvI f_X11_feedOne (nx := 39) (w := 12) rfl rfl rfl (by decide) rfl ?_
  refine ev_putI f_X11_feedOne (nx := 42) rfl (hW.s rfl) rfl rfl rfl ?_
  refine ev_incv f_X11_feedOne (nx := 45) (c := -8) (w := -8) (lo' := [(2, .int (-8)), (0, .ref 0), (1, .int ((X.2 3)))]) rfl rfl (by decide) (by decide) rfl rfl rfl ?_
  refine ev_jmp f_X11_feedOne (nx := 3) rfl rfl rfl ?_
  refine ev_loc f_X11_feedOne (nx := 4) rfl rfl rfl rfl ?_
  refine ev_t f_X11_feedOne (t1 := 48) (t2 := 7) rfl rfl rfl (by decide) ?_
  refine ev_retK0 f_X11_feedOne rfl rfl rfl ?_
  refine ev_loc f_X11_feed (nx := 33) rfl rfl rfl rfl ?_
  refine ev_loc f_X11_feed (nx := 35) rfl rfl rfl rfl ?_
  refine ev_inV2 f_X11_feed (nx := 38) (lo2 := [(0, .ref 0), (1, .int ((X.2 4)))]) rfl rfl rfl rfl f_X11_feedOne (hW.s rfl) rfl rfl rfl rfl rfl ?_
  refine ev_bp f_X11_feedOne (nx := 2) (v := 24) rfl (by decide) rfl ?_
  refine ev_loc f_X11_feedOne (nx := 3) (lo' := [(2, .int 24), (0, .ref 0), (1, .int ((X.2 4)))]) rfl rfl rfl rfl ?_
  refine ev_loc f_X11_feedOne (nx := 4) rfl rfl rfl rfl ?_
  refine ev_f f_X11_feedOne (t1 := 48) (t2 := 7) rfl rfl rfl (by decide) ?_
  refine ev_loc f_X11_feedOne (nx := 8) rfl rfl rfl rfl ?_
  refine ev_gvI f_X11_feedOne (nx := 11) (w := 12) rfl (hW.s rfl) rfl rfl rfl rfl ?_
  refine ev_loc f_X11_feedOne (nx := 12) rfl rfl rfl rfl ?_
  refine ev_getR f_X11_feedOne (nx := 15) rfl (hW.s rfl) rfl rfl (hW.r rfl) rfl rfl ?_
  refine ev_alenv f_X11_feedOne (nx := 16) (w := 900) rfl (hW.s rfl) rfl (by decide) rfl ?_
  refine ev_f f_X11_feedOne (t1 := 48) (t2 := 19) rfl rfl rfl (by decide) ?_
  refine ev_loc f_X11_feedOne (nx := 20) rfl rfl rfl rfl ?_
  refine ev_getR f_X11_feedOne (nx := 23) rfl (hW.s rfl) rfl rfl (hW.r rfl) rfl rfl ?_
  refine ev_loc f_X11_feedOne (nx := 24) rfl rfl rfl rfl ?_
  refine ev_gvI f_X11_feedOne (nx := 27) (w := 12) rfl (hW.s rfl) rfl rfl rfl rfl ?_
  refine ev_loc f_X11_feedOne (nx := 28) rfl rfl rfl rfl ?_
  refine ev_loc f_X11_feedOne (nx := 29) rfl rfl rfl rfl ?_
  refine ev_alu f_X11_feedOne (nx := 30) rfl rfl rfl rfl ?_
  refine ev_alu f_X11_feedOne (nx := 31) rfl rfl rfl rfl ?_
  refine ev_bastv f_X11_feedOne (nx := 32) (j := 12) rfl (hW.s rfl) (by decide) (by decide) (by decide) rfl ?_
  refine ev_loc f_X11_feedOne (nx := 33) rfl rfl rfl rfl ?_
  refine ev_alu f_X11_feedOne (nx := 34) rfl rfl rfl rfl ?_
  refine ev_gvI f_X11_feedOne (nx := 37) (w := 12) rfl (hW.s rfl) rfl rfl rfl rfl ?_
  refine ev_ic f_X11_feedOne (nx := 38) (v := 1) rfl (by decide) rfl ?_
  refine ev_aluvI f_X11_feedOne (nx := 39) (w := 13) rfl rfl rfl (by decide) rfl ?_
  refine ev_putI f_X11_feedOne (nx := 42) rfl (hW.s rfl) rfl rfl rfl ?_
  refine ev_incv f_X11_feedOne (nx := 45) (c := -8) (w := 16) (lo' := [(2, .int 16), (0, .ref 0), (1, .int ((X.2 4)))]) rfl rfl (by decide) (by decide) rfl rfl rfl ?_
  refine ev_jmp f_X11_feedOne (nx := 3) rfl rfl rfl ?_
  refine ev_loc f_X11_feedOne (nx := 4) rfl rfl rfl rfl ?_
  refine ev_f f_X11_feedOne (t1 := 48) (t2 := 7) rfl rfl rfl (by decide) ?_
  refine ev_loc f_X11_feedOne (nx := 8) rfl rfl rfl rfl ?_
  refine ev_gvI f_X11_feedOne (nx := 11) (w := 13) rfl (hW.s rfl) rfl rfl rfl rfl ?_
  refine ev_loc f_X11_feedOne (nx := 12) rfl rfl rfl rfl ?_
  refine ev_getR f_X11_feedOne (nx := 15) rfl (hW.s rfl) rfl rfl (hW.r rfl) rfl rfl ?_
  refine ev_alenv f_X11_feedOne (nx := 16) (w := 900) rfl (hW.s rfl) rfl (by decide) rfl ?_
  refine ev_f f_X11_feedOne (t1 := 48) (t2 := 19) rfl rfl rfl (by decide) ?_
  refine ev_loc f_X11_feedOne (nx := 20) rfl rfl rfl rfl ?_
  refine ev_getR f_X11_feedOne (nx := 23) rfl (hW.s rfl) rfl rfl (hW.r rfl) rfl rfl ?_
  refine ev_loc f_X11_feedOne (nx := 24) rfl rfl rfl rfl ?_
  refine ev_gvI f_X11_feedOne (nx := 27) (w := 13) rfl (hW.s rfl) rfl rfl rfl rfl ?_
  refine ev_loc f_X11_feedOne (nx := 28) rfl rfl rfl rfl ?_
  refine ev_loc f_X11_feedOne (nx := 29) rfl rfl rfl rfl ?_
  refine ev_alu f_X11_feedOne (nx := 30) rfl rfl rfl rfl ?_
  refine ev_alu f_X11_feedOne (nx := 31) rfl rfl rfl rfl ?_
  refine ev_bastv f_X11_feedOne (nx := 32) (j := 13) rfl (hW.s rfl) (by decide) (by decide) (by decide) rfl ?_
  refine ev_loc f_X11_feedOne (nx := 33) rfl rfl rfl rfl ?_
  refine ev_alu f_X11_feedOne (nx := 34) rfl rfl rfl rfl ?_
  refine ev_gvI f_X11_feedOne (nx := 37) (w := 13) rfl (hW.s rfl) rfl rfl rfl rfl ?_
  refine ev_ic f_X11_feedOne (nx := 38) (v := 1) rfl (by decide) rfl ?_
  refine ev_aluvI f_X11_feedOne (nx := 39) (w := 14) rfl rfl rfl (by decide) rfl ?_
  refine ev_putI f_X11_feedOne (nx := 42) rfl (hW.s rfl) rfl rfl rfl ?_
  refine ev_incv f_X11_feedOne (nx := 45) (c := -8) (w := 8) (lo' := [(2, .int 8), (0, .ref 0), (1, .int ((X.2 4)))]) rfl rfl (by decide) (by decide) rfl rfl rfl ?_
  refine ev_jmp f_X11_feedOne (nx := 3) rfl rfl rfl ?_
  refine ev_loc f_X11_feedOne (nx := 4) rfl rfl rfl rfl ?_
  refine ev_f f_X11_feedOne (t1 := 48) (t2 := 7) rfl rfl rfl (by decide) ?_
  refine ev_loc f_X11_feedOne (nx := 8) rfl rfl rfl rfl ?_
  refine ev_gvI f_X11_feedOne (nx := 11) (w := 14) rfl (hW.s rfl) rfl rfl rfl rfl ?_
  refine ev_loc f_X11_feedOne (nx := 12) rfl rfl rfl rfl ?_
  refine ev_getR f_X11_feedOne (nx := 15) rfl (hW.s rfl) rfl rfl (hW.r rfl) rfl rfl ?_
  refine ev_alenv f_X11_feedOne (nx := 16) (w := 900) rfl (hW.s rfl) rfl (by decide) rfl ?_
  refine ev_f f_X11_feedOne (t1 := 48) (t2 := 19) rfl rfl rfl (by decide) ?_
  refine ev_loc f_X11_feedOne (nx := 20) rfl rfl rfl rfl ?_
  refine ev_getR f_X11_feedOne (nx := 23) rfl (hW.s rfl) rfl rfl (hW.r rfl) rfl rfl ?_
  refine ev_loc f_X11_feedOne (nx := 24) rfl rfl rfl rfl ?_
  refine ev_gvI f_X11_feedOne (nx := 27) (w := 14) rfl (hW.s rfl) rfl rfl rfl rfl ?_
  refine ev_loc f_X11_feedOne (nx := 28) rfl rfl rfl rfl ?_
  refine ev_loc f_X11_feedOne (nx := 29) rfl rfl rfl rfl ?_
  refine ev_alu f_X11_feedOne (nx := 30) rfl rfl rfl rfl ?_
  refine ev_alu f_X11_feedOne (nx := 31) rfl rfl rfl rfl ?_
  refine ev_bastv f_X11_feedOne (nx := 32) (j := 14) rfl (hW.s rfl) (by decide) (by decide) (by decide) rfl ?_
  refine ev_loc f_X11_feedOne (nx := 33) rfl rfl rfl rfl ?_
  refine ev_alu f_X11_feedOne (nx := 34) rfl rfl rfl rfl ?_
  refine ev_gvI f_X11_feedOne (nx := 37) (w := 14) rfl (hW.s rfl) rfl rfl rfl rfl ?_
  refine ev_ic f_X11_feedOne (nx := 38) (v := 1) rfl (by decide) rfl ?_
  refine ev_aluvI f_X11_feedOne (nx := 39) (w := 15) rfl rfl rfl (by decide) rfl ?_
  refine ev_putI f_X11_feedOne (nx := 42) rfl (hW.s rfl) rfl rfl rfl ?_
  refine ev_incv f_X11_feedOne (nx := 45) (c := -8) (w := 0) (lo' := [(2, .int 0), (0, .ref 0), (1, .int ((X.2 4)))]) rfl rfl (by decide) (by decide) rfl rfl rfl ?_
  refine ev_jmp f_X11_feedOne (nx := 3) rfl rfl rfl ?_
  refine ev_loc f_X11_feedOne (nx := 4) rfl rfl rfl rfl ?_
  refine ev_f f_X11_feedOne (t1 := 48) (t2 := 7) rfl rfl rfl (by decide) ?_
  refine ev_loc f_X11_feedOne (nx := 8) rfl rfl rfl rfl ?_
  refine ev_gvI f_X11_feedOne (nx := 11) (w := 15) rfl (hW.s rfl) rfl rfl rfl rfl ?_
  refine ev_loc f_X11_feedOne (nx := 12) rfl rfl rfl rfl ?_
  refine ev_getR f_X11_feedOne (nx := 15) rfl (hW.s rfl) rfl rfl (hW.r rfl) rfl rfl ?_
  refine ev_alenv f_X11_feedOne (nx := 16) (w := 900) rfl (hW.s rfl) rfl (by decide) rfl ?_
  refine ev_f f_X11_feedOne (t1 := 48) (t2 := 19) rfl rfl rfl (by decide) ?_
  refine ev_loc f_X11_feedOne (nx := 20) rfl rfl rfl rfl ?_
  refine ev_getR f_X11_feedOne (nx := 23) rfl (hW.s rfl) rfl rfl (hW.r rfl) rfl rfl ?_
  refine ev_loc f_X11_feedOne (nx := 24) rfl rfl rfl rfl ?_
  refine ev_gvI f_X11_feedOne (nx := 27) (w := 15) rfl (hW.s rfl) rfl rfl rfl rfl ?_
  refine ev_loc f_X11_feedOne (nx := 28) rfl rfl rfl rfl ?_
  refine ev_loc f_X11_feedOne (nx := 29) rfl rfl rfl rfl ?_
  refine ev_alu f_X11_feedOne (nx := 30) rfl rfl rfl rfl ?_
  refine ev_alu f_X11_feedOne (nx := 31) rfl rfl rfl rfl ?_
  refine ev_bastv f_X11_feedOne (nx := 32) (j := 15) rfl (hW.s rfl) (by decide) (by decide) (by decide) rfl ?_
  refine ev_loc f_X11_feedOne (nx := 33) rfl rfl rfl rfl ?_
  refine ev_alu f_X11_feedOne (nx := 34) rfl rfl rfl rfl ?_
  refine ev_gvI f_X11_feedOne (nx := 37) (w := 15) rfl (hW.s rfl) rfl rfl rfl rfl ?_
  refine ev_ic f_X11_feedOne (nx := 38) (v := 1) rfl (by decide) rfl ?_
  refine ev_aluvI f_X11_feedOne (nx := 39) (w := 16) rfl rfl rfl (by decide) rfl ?_
  refine ev_putI f_X11_feedOne (nx := 42) rfl (hW.s rfl) rfl rfl rfl ?_
  refine ev_incv f_X11_feedOne (nx := 45) (c := -8) (w := -8) (lo' := [(2, .int (-8)), (0, .ref 0), (1, .int ((X.2 4)))]) rfl rfl (by decide) (by decide) rfl rfl rfl ?_
  refine ev_jmp f_X11_feedOne (nx := 3) rfl rfl rfl ?_
  refine ev_loc f_X11_feedOne (nx := 4) rfl rfl rfl rfl ?_
  refine ev_t f_X11_feedOne (t1 := 48) (t2 := 7) rfl rfl rfl (by decide) ?_
  refine ev_retK0 f_X11_feedOne rfl rfl rfl ?_
  refine ev_loc f_X11_feed (nx := 39) rfl rfl rfl rfl ?_
  refine ev_loc f_X11_feed (nx := 41) rfl rfl rfl rfl ?_
  refine ev_inV2 f_X11_feed (nx := 44) (lo2 := [(0, .ref 0), (1, .int ((X.2 5)))]) rfl rfl rfl rfl f_X11_feedOne (hW.s rfl) rfl rfl rfl rfl rfl ?_
  refine ev_bp f_X11_feedOne (nx := 2) (v := 24) rfl (by decide) rfl ?_
  refine ev_loc f_X11_feedOne (nx := 3) (lo' := [(2, .int 24), (0, .ref 0), (1, .int ((X.2 5)))]) rfl rfl rfl rfl ?_
  refine ev_loc f_X11_feedOne (nx := 4) rfl rfl rfl rfl ?_
  refine ev_f f_X11_feedOne (t1 := 48) (t2 := 7) rfl rfl rfl (by decide) ?_
  refine ev_loc f_X11_feedOne (nx := 8) rfl rfl rfl rfl ?_
  refine ev_gvI f_X11_feedOne (nx := 11) (w := 16) rfl (hW.s rfl) rfl rfl rfl rfl ?_
  refine ev_loc f_X11_feedOne (nx := 12) rfl rfl rfl rfl ?_
  refine ev_getR f_X11_feedOne (nx := 15) rfl (hW.s rfl) rfl rfl (hW.r rfl) rfl rfl ?_
  refine ev_alenv f_X11_feedOne (nx := 16) (w := 900) rfl (hW.s rfl) rfl (by decide) rfl ?_
  refine ev_f f_X11_feedOne (t1 := 48) (t2 := 19) rfl rfl rfl (by decide) ?_
  refine ev_loc f_X11_feedOne (nx := 20) rfl rfl rfl rfl ?_
  refine ev_getR f_X11_feedOne (nx := 23) rfl (hW.s rfl) rfl rfl (hW.r rfl) rfl rfl ?_
  refine ev_loc f_X11_feedOne (nx := 24) rfl rfl rfl rfl ?_
  refine ev_gvI f_X11_feedOne (nx := 27) (w := 16) rfl (hW.s rfl) rfl rfl rfl rfl ?_
  refine ev_loc f_X11_feedOne (nx := 28) rfl rfl rfl rfl ?_
  refine ev_loc f_X11_feedOne (nx := 29) rfl rfl rfl rfl ?_
  refine ev_alu f_X11_feedOne (nx := 30) rfl rfl rfl rfl ?_
  refine ev_alu f_X11_feedOne (nx := 31) rfl rfl rfl rfl ?_
  refine ev_bastv f_X11_feedOne (nx := 32) (j := 16) rfl (hW.s rfl) (by decide) (by decide) (by decide) rfl ?_
  refine ev_loc f_X11_feedOne (nx := 33) rfl rfl rfl rfl ?_
  refine ev_alu f_X11_feedOne (nx := 34) rfl rfl rfl rfl ?_
  refine ev_gvI f_X11_feedOne (nx := 37) (w := 16) rfl (hW.s rfl) rfl rfl rfl rfl ?_
  refine ev_ic f_X11_feedOne (nx := 38) (v := 1) rfl (by decide) rfl ?_
  refine ev_aluvI f_X11_feedOne (nx := 39) (w := 17) rfl rfl rfl (by decide) rfl ?_
  refine ev_putI f_X11_feedOne (nx := 42) rfl (hW.s rfl) rfl rfl rfl ?_
  refine ev_incv f_X11_feedOne (nx := 45) (c := -8) (w := 16) (lo' := [(2, .int 16), (0, .ref 0), (1, .int ((X.2 5)))]) rfl rfl (by decide) (by decide) rfl rfl rfl ?_
  refine ev_jmp f_X11_feedOne (nx := 3) rfl rfl rfl ?_
  refine ev_loc f_X11_feedOne (nx := 4) rfl rfl rfl rfl ?_
  refine ev_f f_X11_feedOne (t1 := 48) (t2 := 7) rfl rfl rfl (by decide) ?_
  refine ev_loc f_X11_feedOne (nx := 8) rfl rfl rfl rfl ?_
  refine ev_gvI f_X11_feedOne (nx := 11) (w := 17) rfl (hW.s rfl) rfl rfl rfl rfl ?_
  refine ev_loc f_X11_feedOne (nx := 12) rfl rfl rfl rfl ?_
  refine ev_getR f_X11_feedOne (nx := 15) rfl (hW.s rfl) rfl rfl (hW.r rfl) rfl rfl ?_
  refine ev_alenv f_X11_feedOne (nx := 16) (w := 900) rfl (hW.s rfl) rfl (by decide) rfl ?_
  refine ev_f f_X11_feedOne (t1 := 48) (t2 := 19) rfl rfl rfl (by decide) ?_
  refine ev_loc f_X11_feedOne (nx := 20) rfl rfl rfl rfl ?_
  refine ev_getR f_X11_feedOne (nx := 23) rfl (hW.s rfl) rfl rfl (hW.r rfl) rfl rfl ?_
  refine ev_loc f_X11_feedOne (nx := 24) rfl rfl rfl rfl ?_
  refine ev_gvI f_X11_feedOne (nx := 27) (w := 17) rfl (hW.s rfl) rfl rfl rfl rfl ?_
  refine ev_loc f_X11_feedOne (nx := 28) rfl rfl rfl rfl ?_
  refine ev_loc f_X11_feedOne (nx := 29) rfl rfl rfl rfl ?_
  refine ev_alu f_X11_feedOne (nx := 30) rfl rfl rfl rfl ?_
  refine ev_alu f_X11_feedOne (nx := 31) rfl rfl rfl rfl ?_
  refine ev_bastv f_X11_feedOne (nx := 32) (j := 17) rfl (hW.s rfl) (by decide) (by decide) (by decide) rfl ?_
  refine ev_loc f_X11_feedOne (nx := 33) rfl rfl rfl rfl ?_
  refine ev_alu f_X11_feedOne (nx := 34) rfl rfl rfl rfl ?_
  refine ev_gvI f_X11_feedOne (nx := 37) (w := 17) rfl (hW.s rfl) rfl rfl rfl rfl ?_
  refine ev_ic f_X11_feedOne (nx := 38) (v := 1) rfl (by decide) rfl ?_
  refine ev_aluvI f_X11_feedOne (nx := 39) (w := 18) rfl rfl rfl (by decide) rfl ?_
  refine ev_putI f_X11_feedOne (nx := 42) rfl (hW.s rfl) rfl rfl rfl ?_
  refine ev_incv f_X11_feedOne (nx := 45) (c := -8) (w := 8) (lo' := [(2, .int 8), (0, .ref 0), (1, .int ((X.2 5)))]) rfl rfl (by decide) (by decide) rfl rfl rfl ?_
  refine ev_jmp f_X11_feedOne (nx := 3) rfl rfl rfl ?_
  refine ev_loc f_X11_feedOne (nx := 4) rfl rfl rfl rfl ?_
  refine ev_f f_X11_feedOne (t1 := 48) (t2 := 7) rfl rfl rfl (by decide) ?_
  refine ev_loc f_X11_feedOne (nx := 8) rfl rfl rfl rfl ?_
  refine ev_gvI f_X11_feedOne (nx := 11) (w := 18) rfl (hW.s rfl) rfl rfl rfl rfl ?_
  refine ev_loc f_X11_feedOne (nx := 12) rfl rfl rfl rfl ?_
  refine ev_getR f_X11_feedOne (nx := 15) rfl (hW.s rfl) rfl rfl (hW.r rfl) rfl rfl ?_
  refine ev_alenv f_X11_feedOne (nx := 16) (w := 900) rfl (hW.s rfl) rfl (by decide) rfl ?_
  refine ev_f f_X11_feedOne (t1 := 48) (t2 := 19) rfl rfl rfl (by decide) ?_
  refine ev_loc f_X11_feedOne (nx := 20) rfl rfl rfl rfl ?_
  refine ev_getR f_X11_feedOne (nx := 23) rfl (hW.s rfl) rfl rfl (hW.r rfl) rfl rfl ?_
  refine ev_loc f_X11_feedOne (nx := 24) rfl rfl rfl rfl ?_
  refine ev_gvI f_X11_feedOne (nx := 27) (w := 18) rfl (hW.s rfl) rfl rfl rfl rfl ?_
  refine ev_loc f_X11_feedOne (nx := 28) rfl rfl rfl rfl ?_
  refine ev_loc f_X11_feedOne (nx := 29) rfl rfl rfl rfl ?_
  refine ev_alu f_X11_feedOne (nx := 30) rfl rfl rfl rfl ?_
  refine ev_alu f_X11_feedOne (nx := 31) rfl rfl rfl rfl ?_
  refine ev_bastv f_X11_feedOne (nx := 32) (j := 18) rfl (hW.s rfl) (by decide) (by decide) (by decide) rfl ?_
  refine ev_loc f_X11_feedOne (nx := 33) rfl rfl rfl rfl ?_
  refine ev_alu f_X11_feedOne (nx := 34) rfl rfl rfl rfl ?_
  refine ev_gvI f_X11_feedOne (nx := 37) (w := 18) rfl (hW.s rfl) rfl rfl rfl rfl ?_
  refine ev_ic f_X11_feedOne (nx := 38) (v := 1) rfl (by decide) rfl ?_
  refine ev_aluvI f_X11_feedOne (nx := 39) (w := 19) rfl rfl rfl (by decide) rfl ?_
  refine ev_putI f_X11_feedOne (nx := 42) rfl (hW.s rfl) rfl rfl rfl ?_
  refine ev_incv f_X11_feedOne (nx := 45) (c := -8) (w := 0) (lo' := [(2, .int 0), (0, .ref 0), (1, .int ((X.2 5)))]) rfl rfl (by decide) (by decide) rfl rfl rfl ?_
  refine ev_jmp f_X11_feedOne (nx := 3) rfl rfl rfl ?_
  refine ev_loc f_X11_feedOne (nx := 4) rfl rfl rfl rfl ?_
  refine ev_f f_X11_feedOne (t1 := 48) (t2 := 7) rfl rfl rfl (by decide) ?_
  refine ev_loc f_X11_feedOne (nx := 8) rfl rfl rfl rfl ?_
  refine ev_gvI f_X11_feedOne (nx := 11) (w := 19) rfl (hW.s rfl) rfl rfl rfl rfl ?_
  refine ev_loc f_X11_feedOne (nx := 12) rfl rfl rfl rfl ?_
  refine ev_getR f_X11_feedOne (nx := 15) rfl (hW.s rfl) rfl rfl (hW.r rfl) rfl rfl ?_
  refine ev_alenv f_X11_feedOne (nx := 16) (w := 900) rfl (hW.s rfl) rfl (by decide) rfl ?_
  refine ev_f f_X11_feedOne (t1 := 48) (t2 := 19) rfl rfl rfl (by decide) ?_
  refine ev_loc f_X11_feedOne (nx := 20) rfl rfl rfl rfl ?_
  refine ev_getR f_X11_feedOne (nx := 23) rfl (hW.s rfl) rfl rfl (hW.r rfl) rfl rfl ?_
  refine ev_loc f_X11_feedOne (nx := 24) rfl rfl rfl rfl ?_
  refine ev_gvI f_X11_feedOne (nx := 27) (w := 19) rfl (hW.s rfl) rfl rfl rfl rfl ?_
  refine ev_loc f_X11_feedOne (nx := 28) rfl rfl rfl rfl ?_
  refine ev_loc f_X11_feedOne (nx := 29) rfl rfl rfl rfl ?_
  refine ev_alu f_X11_feedOne (nx := 30) rfl rfl rfl rfl ?_
  refine ev_alu f_X11_feedOne (nx := 31) rfl rfl rfl rfl ?_
  refine ev_bastv f_X11_feedOne (nx := 32) (j := 19) rfl (hW.s rfl) (by decide) (by decide) (by decide) rfl ?_
  refine ev_loc f_X11_feedOne (nx := 33) rfl rfl rfl rfl ?_
  refine ev_alu f_X11_feedOne (nx := 34) rfl rfl rfl rfl ?_
  refine ev_gvI f_X11_feedOne (nx := 37) (w := 19) rfl (hW.s rfl) rfl rfl rfl rfl ?_
  refine ev_ic f_X11_feedOne (nx := 38) (v := 1) rfl (by decide) rfl ?_
  refine ev_aluvI f_X11_feedOne (nx := 39) (w := 20) rfl rfl rfl (by decide) rfl ?_
  refine ev_putI f_X11_feedOne (nx := 42) rfl (hW.s rfl) rfl rfl rfl ?_
  refine ev_incv f_X11_feedOne (nx := 45) (c := -8) (w := -8) (lo' := [(2, .int (-8)), (0, .ref 0), (1, .int ((X.2 5)))]) rfl rfl (by decide) (by decide) rfl rfl rfl ?_
  refine ev_jmp f_X11_feedOne (nx := 3) rfl rfl rfl ?_
  refine ev_loc f_X11_feedOne (nx := 4) rfl rfl rfl rfl ?_
  refine ev_t f_X11_feedOne (t1 := 48) (t2 := 7) rfl rfl rfl (by decide) ?_
  refine ev_retK0 f_X11_feedOne rfl rfl rfl ?_
  refine ev_loc f_X11_feed (nx := 45) rfl rfl rfl rfl ?_
  refine ev_gvI f_X11_feed (nx := 48) (w := 20) rfl (hW.s rfl) rfl rfl rfl rfl ?_
  refine ev_retK1 f_X11_feed rfl rfl rfl ?_
  refine ev_loc f_L_law (nx := 528) rfl rfl rfl rfl ?_
  refine ev_loc f_L_law (nx := 529) rfl rfl rfl rfl ?_
  refine ev_loc f_L_law (nx := 530) rfl rfl rfl rfl ?_
  refine ev_ic f_L_law (nx := 531) (v := 1) rfl (by decide) rfl ?_
  refine ev_aluvI f_L_law (nx := 532) (w := 1) rfl rfl rfl (by decide) rfl ?_
  refine ev_scr f_L_law (nx := 533) (j := 1) rfl hX (by decide) (by decide) (by decide) rfl ?_
  refine ev_loc f_L_law (nx := 534) rfl rfl rfl rfl ?_
  refine ev_loc f_L_law (nx := 535) rfl rfl rfl rfl ?_
  refine ev_ic f_L_law (nx := 536) (v := 2) rfl (by decide) rfl ?_
  refine ev_aluvI f_L_law (nx := 537) (w := 2) rfl rfl rfl (by decide) rfl ?_
  refine ev_scr f_L_law (nx := 538) (j := 2) rfl hX (by decide) (by decide) (by decide) rfl ?_
  refine ev_loc f_L_law (nx := 539) rfl rfl rfl rfl ?_
  refine ev_loc f_L_law (nx := 540) rfl rfl rfl rfl ?_
  refine ev_ic f_L_law (nx := 541) (v := 3) rfl (by decide) rfl ?_
  refine ev_aluvI f_L_law (nx := 542) (w := 3) rfl rfl rfl (by decide) rfl ?_
  refine ev_scr f_L_law (nx := 543) (j := 3) rfl hX (by decide) (by decide) (by decide) rfl ?_
  refine ev_loc f_L_law (nx := 544) rfl rfl rfl rfl ?_
  refine ev_loc f_L_law (nx := 545) rfl rfl rfl rfl ?_
  refine ev_ic f_L_law (nx := 546) (v := 4) rfl (by decide) rfl ?_
  refine ev_aluvI f_L_law (nx := 547) (w := 4) rfl rfl rfl (by decide) rfl ?_
  refine ev_scr f_L_law (nx := 548) (j := 4) rfl hX (by decide) (by decide) (by decide) rfl ?_
  refine ev_loc f_L_law (nx := 549) rfl rfl rfl rfl ?_
  refine ev_loc f_L_law (nx := 550) rfl rfl rfl rfl ?_
  refine ev_ic f_L_law (nx := 551) (v := 5) rfl (by decide) rfl ?_
  refine ev_aluvI f_L_law (nx := 552) (w := 5) rfl rfl rfl (by decide) rfl ?_
  refine ev_scr f_L_law (nx := 553) (j := 5) rfl hX (by decide) (by decide) (by decide) rfl ?_
  refine ev_inV6 f_L_law (nx := 556) (lo2 := [(0, .ref 69), (1, .int ((X.2 1))), (2, .int ((X.2 2))), (3, .int ((X.2 3))), (4, .int ((X.2 4))), (5, .int ((X.2 5)))]) rfl rfl rfl rfl f_X12_feed (hW.s rfl) rfl rfl rfl rfl rfl ?_
  refine ev_loc f_X12_feed (nx := 1) rfl rfl rfl rfl ?_
  refine ev_gvI f_X12_feed (nx := 4) (w := 0) rfl (hW.s rfl) rfl rfl (wi_69_10 (gi := gi) hR) rfl ?_
  refine ev_bp f_X12_feed (nx := 6) (v := 20) rfl (by decide) rfl ?_
  refine ev_aluvI f_X12_feed (nx := 7) (w := 20) rfl rfl rfl (by decide) rfl ?_
  refine ev_sp f_X12_feed (nx := 10) (v := 900) rfl (by decide) rfl ?_
  refine ev_t f_X12_feed (t1 := 15) (t2 := 13) rfl rfl rfl (by decide) ?_
  refine ev_loc f_X12_feed (nx := 16) rfl rfl rfl rfl ?_
  refine ev_loc f_X12_feed (nx := 17) rfl rfl rfl rfl ?_
  refine ev_inV2 f_X12_feed (nx := 20) (lo2 := [(0, .ref 69), (1, .int ((X.2 1)))]) rfl rfl rfl rfl f_X12_four (hW.s rfl) rfl rfl rfl rfl rfl ?_
  refine ev_bp f_X12_four (nx := 2) (v := 24) rfl (by decide) rfl ?_
  refine ev_loc f_X12_four (nx := 3) (lo' := [(2, .int 24), (0, .ref 69), (1, .int ((X.2 1)))]) rfl rfl rfl rfl ?_
  refine ev_loc f_X12_four (nx := 4) rfl rfl rfl rfl ?_
  refine ev_f f_X12_four (t1 := 36) (t2 := 7) rfl rfl rfl (by decide) ?_
  refine ev_loc f_X12_four (nx := 8) rfl rfl rfl rfl ?_
  refine ev_getR f_X12_four (nx := 11) rfl (hW.s rfl) rfl rfl (hW.r rfl) rfl rfl ?_
  refine ev_loc f_X12_four (nx := 12) rfl rfl rfl rfl ?_
  refine ev_gvI f_X12_four (nx := 15) (w := 0) rfl (hW.s rfl) rfl rfl (wi_69_10 (gi := gi) hR) rfl ?_
  refine ev_loc f_X12_four (nx := 16) rfl rfl rfl rfl ?_
  refine ev_loc f_X12_four (nx := 17) rfl rfl rfl rfl ?_
  refine ev_alu f_X12_four (nx := 18) rfl rfl rfl rfl ?_
  refine ev_alu f_X12_four (nx := 19) rfl rfl rfl rfl ?_
  refine ev_bastv f_X12_four (nx := 20) (j := 0) rfl (hW.s rfl) (by decide) (by decide) (by decide) rfl ?_
  refine ev_loc f_X12_four (nx := 21) rfl rfl rfl rfl ?_
  refine ev_alu f_X12_four (nx := 22) rfl rfl rfl rfl ?_
  refine ev_gvI f_X12_four (nx := 25) (w := 0) rfl (hW.s rfl) rfl rfl (wi_69_10 (gi := gi) hR) rfl ?_
  refine ev_ic f_X12_four (nx := 26) (v := 1) rfl (by decide) rfl ?_
  refine ev_aluvI f_X12_four (nx := 27) (w := 1) rfl rfl rfl (by decide) rfl ?_
  refine ev_putI f_X12_four (nx := 30) rfl (hW.s rfl) rfl rfl rfl ?_
  refine ev_incv f_X12_four (nx := 33) (c := -8) (w := 16) (lo' := [(2, .int 16), (0, .ref 69), (1, .int ((X.2 1)))]) rfl rfl (by decide) (by decide) rfl rfl rfl ?_
  refine ev_jmp f_X12_four (nx := 3) rfl rfl rfl ?_
  refine ev_loc f_X12_four (nx := 4) rfl rfl rfl rfl ?_
  refine ev_f f_X12_four (t1 := 36) (t2 := 7) rfl rfl rfl (by decide) ?_
  refine ev_loc f_X12_four (nx := 8) rfl rfl rfl rfl ?_
  refine ev_getR f_X12_four (nx := 11) rfl (hW.s rfl) rfl rfl (hW.r rfl) rfl rfl ?_
  refine ev_loc f_X12_four (nx := 12) rfl rfl rfl rfl ?_
  refine ev_gvI f_X12_four (nx := 15) (w := 1) rfl (hW.s rfl) rfl rfl rfl rfl ?_
  refine ev_loc f_X12_four (nx := 16) rfl rfl rfl rfl ?_
  refine ev_loc f_X12_four (nx := 17) rfl rfl rfl rfl ?_
  refine ev_alu f_X12_four (nx := 18) rfl rfl rfl rfl ?_
  refine ev_alu f_X12_four (nx := 19) rfl rfl rfl rfl ?_
  refine ev_bastv f_X12_four (nx := 20) (j := 1) rfl (hW.s rfl) (by decide) (by decide) (by decide) rfl ?_
  refine ev_loc f_X12_four (nx := 21) rfl rfl rfl rfl ?_
  refine ev_alu f_X12_four (nx := 22) rfl rfl rfl rfl ?_
  refine ev_gvI f_X12_four (nx := 25) (w := 1) rfl (hW.s rfl) rfl rfl rfl rfl ?_
  refine ev_ic f_X12_four (nx := 26) (v := 1) rfl (by decide) rfl ?_
  refine ev_aluvI f_X12_four (nx := 27) (w := 2) rfl rfl rfl (by decide) rfl ?_
  refine ev_putI f_X12_four (nx := 30) rfl (hW.s rfl) rfl rfl rfl ?_
  refine ev_incv f_X12_four (nx := 33) (c := -8) (w := 8) (lo' := [(2, .int 8), (0, .ref 69), (1, .int ((X.2 1)))]) rfl rfl (by decide) (by decide) rfl rfl rfl ?_
  refine ev_jmp f_X12_four (nx := 3) rfl rfl rfl ?_
  refine ev_loc f_X12_four (nx := 4) rfl rfl rfl rfl ?_
  refine ev_f f_X12_four (t1 := 36) (t2 := 7) rfl rfl rfl (by decide) ?_
  refine ev_loc f_X12_four (nx := 8) rfl rfl rfl rfl ?_
  refine ev_getR f_X12_four (nx := 11) rfl (hW.s rfl) rfl rfl (hW.r rfl) rfl rfl ?_
  refine ev_loc f_X12_four (nx := 12) rfl rfl rfl rfl ?_
  refine ev_gvI f_X12_four (nx := 15) (w := 2) rfl (hW.s rfl) rfl rfl rfl rfl ?_
  refine ev_loc f_X12_four (nx := 16) rfl rfl rfl rfl ?_
  refine ev_loc f_X12_four (nx := 17) rfl rfl rfl rfl ?_
  refine ev_alu f_X12_four (nx := 18) rfl rfl rfl rfl ?_
  refine ev_alu f_X12_four (nx := 19) rfl rfl rfl rfl ?_
  refine ev_bastv f_X12_four (nx := 20) (j := 2) rfl (hW.s rfl) (by decide) (by decide) (by decide) rfl ?_
  refine ev_loc f_X12_four (nx := 21) rfl rfl rfl rfl ?_
  refine ev_alu f_X12_four (nx := 22) rfl rfl rfl rfl ?_
  refine ev_gvI f_X12_four (nx := 25) (w := 2) rfl (hW.s rfl) rfl rfl rfl rfl ?_
  refine ev_ic f_X12_four (nx := 26) (v := 1) rfl (by decide) rfl ?_
  refine ev_aluvI f_X12_four (nx := 27) (w := 3) rfl rfl rfl (by decide) rfl ?_
  refine ev_putI f_X12_four (nx := 30) rfl (hW.s rfl) rfl rfl rfl ?_
  refine ev_incv f_X12_four (nx := 33) (c := -8) (w := 0) (lo' := [(2, .int 0), (0, .ref 69), (1, .int ((X.2 1)))]) rfl rfl (by decide) (by decide) rfl rfl rfl ?_
  refine ev_jmp f_X12_four (nx := 3) rfl rfl rfl ?_
  refine ev_loc f_X12_four (nx := 4) rfl rfl rfl rfl ?_
  refine ev_f f_X12_four (t1 := 36) (t2 := 7) rfl rfl rfl (by decide) ?_
  refine ev_loc f_X12_four (nx := 8) rfl rfl rfl rfl ?_
  refine ev_getR f_X12_four (nx := 11) rfl (hW.s rfl) rfl rfl (hW.r rfl) rfl rfl ?_
  refine ev_loc f_X12_four (nx := 12) rfl rfl rfl rfl ?_
  refine ev_gvI f_X12_four (nx := 15) (w := 3) rfl (hW.s rfl) rfl rfl rfl rfl ?_
  refine ev_loc f_X12_four (nx := 16) rfl rfl rfl rfl ?_
  refine ev_loc f_X12_four (nx := 17) rfl rfl rfl rfl ?_
  refine ev_alu f_X12_four (nx := 18) rfl rfl rfl rfl ?_
  refine ev_alu f_X12_four (nx := 19) rfl rfl rfl rfl ?_
  refine ev_bastv f_X12_four (nx := 20) (j := 3) rfl (hW.s rfl) (by decide) (by decide) (by decide) rfl ?_
  refine ev_loc f_X12_four (nx := 21) rfl rfl rfl rfl ?_
  refine ev_alu f_X12_four (nx := 22) rfl rfl rfl rfl ?_
  refine ev_gvI f_X12_four (nx := 25) (w := 3) rfl (hW.s rfl) rfl rfl rfl rfl ?_
  refine ev_ic f_X12_four (nx := 26) (v := 1) rfl (by decide) rfl ?_
  refine ev_aluvI f_X12_four (nx := 27) (w := 4) rfl rfl rfl (by decide) rfl ?_
  refine ev_putI f_X12_four (nx := 30) rfl (hW.s rfl) rfl rfl rfl ?_
  refine ev_incv f_X12_four (nx := 33) (c := -8) (w := -8) (lo' := [(2, .int (-8)), (0, .ref 69), (1, .int ((X.2 1)))]) rfl rfl (by decide) (by decide) rfl rfl rfl ?_
  refine ev_jmp f_X12_four (nx := 3) rfl rfl rfl ?_
  refine ev_loc f_X12_four (nx := 4) rfl rfl rfl rfl ?_
  refine ev_t f_X12_four (t1 := 36) (t2 := 7) rfl rfl rfl (by decide) ?_
  refine ev_retK0 f_X12_four rfl rfl rfl ?_
  refine ev_loc f_X12_feed (nx := 21) rfl rfl rfl rfl ?_
  refine ev_loc f_X12_feed (nx := 22) rfl rfl rfl rfl ?_
  refine ev_inV2 f_X12_feed (nx := 25) (lo2 := [(0, .ref 69), (1, .int ((X.2 2)))]) rfl rfl rfl rfl f_X12_four (hW.s rfl) rfl rfl rfl rfl rfl ?_
  refine ev_bp f_X12_four (nx := 2) (v := 24) rfl (by decide) rfl ?_
  refine ev_loc f_X12_four (nx := 3) (lo' := [(2, .int 24), (0, .ref 69), (1, .int ((X.2 2)))]) rfl rfl rfl rfl ?_
  refine ev_loc f_X12_four (nx := 4) rfl rfl rfl rfl ?_
  refine ev_f f_X12_four (t1 := 36) (t2 := 7) rfl rfl rfl (by decide) ?_
  refine ev_loc f_X12_four (nx := 8) rfl rfl rfl rfl ?_
  refine ev_getR f_X12_four (nx := 11) rfl (hW.s rfl) rfl rfl (hW.r rfl) rfl rfl ?_
  refine ev_loc f_X12_four (nx := 12) rfl rfl rfl rfl ?_
  refine ev_gvI f_X12_four (nx := 15) (w := 4) rfl (hW.s rfl) rfl rfl rfl rfl ?_
  refine ev_loc f_X12_four (nx := 16) rfl rfl rfl rfl ?_
  refine ev_loc f_X12_four (nx := 17) rfl rfl rfl rfl ?_
  refine ev_alu f_X12_four (nx := 18) rfl rfl rfl rfl ?_
  refine ev_alu f_X12_four (nx := 19) rfl rfl rfl rfl ?_
  refine ev_bastv f_X12_four (nx := 20) (j := 4) rfl (hW.s rfl) (by decide) (by decide) (by decide) rfl ?_
  refine ev_loc f_X12_four (nx := 21) rfl rfl rfl rfl ?_
  refine ev_alu f_X12_four (nx := 22) rfl rfl rfl rfl ?_
  refine ev_gvI f_X12_four (nx := 25) (w := 4) rfl (hW.s rfl) rfl rfl rfl rfl ?_
  refine ev_ic f_X12_four (nx := 26) (v := 1) rfl (by decide) rfl ?_
  refine ev_aluvI f_X12_four (nx := 27) (w := 5) rfl rfl rfl (by decide) rfl ?_
  refine ev_putI f_X12_four (nx := 30) rfl (hW.s rfl) rfl rfl rfl ?_
  refine ev_incv f_X12_four (nx := 33) (c := -8) (w := 16) (lo' := [(2, .int 16), (0, .ref 69), (1, .int ((X.2 2)))]) rfl rfl (by decide) (by decide) rfl rfl rfl ?_
  refine ev_jmp f_X12_four (nx := 3) rfl rfl rfl ?_
  refine ev_loc f_X12_four (nx := 4) rfl rfl rfl rfl ?_
  refine ev_f f_X12_four (t1 := 36) (t2 := 7) rfl rfl rfl (by decide) ?_
  refine ev_loc f_X12_four (nx := 8) rfl rfl rfl rfl ?_
  refine ev_getR f_X12_four (nx := 11) rfl (hW.s rfl) rfl rfl (hW.r rfl) rfl rfl ?_
  refine ev_loc f_X12_four (nx := 12) rfl rfl rfl rfl ?_
  refine ev_gvI f_X12_four (nx := 15) (w := 5) rfl (hW.s rfl) rfl rfl rfl rfl ?_
  refine ev_loc f_X12_four (nx := 16) rfl rfl rfl rfl ?_
  refine ev_loc f_X12_four (nx := 17) rfl rfl rfl rfl ?_
  refine ev_alu f_X12_four (nx := 18) rfl rfl rfl rfl ?_
  refine ev_alu f_X12_four (nx := 19) rfl rfl rfl rfl ?_
  refine ev_bastv f_X12_four (nx := 20) (j := 5) rfl (hW.s rfl) (by decide) (by decide) (by decide) rfl ?_
  refine ev_loc f_X12_four (nx := 21) rfl rfl rfl rfl ?_
  refine ev_alu f_X12_four (nx := 22) rfl rfl rfl rfl ?_
  refine ev_gvI f_X12_four (nx := 25) (w := 5) rfl (hW.s rfl) rfl rfl rfl rfl ?_
  refine ev_ic f_X12_four (nx := 26) (v := 1) rfl (by decide) rfl ?_
  refine ev_aluvI f_X12_four (nx := 27) (w := 6) rfl rfl rfl (by decide) rfl ?_
  refine ev_putI f_X12_four (nx := 30) rfl (hW.s rfl) rfl rfl rfl ?_
  refine ev_incv f_X12_four (nx := 33) (c := -8) (w := 8) (lo' := [(2, .int 8), (0, .ref 69), (1, .int ((X.2 2)))]) rfl rfl (by decide) (by decide) rfl rfl rfl ?_
  refine ev_jmp f_X12_four (nx := 3) rfl rfl rfl ?_
  refine ev_loc f_X12_four (nx := 4) rfl rfl rfl rfl ?_
  refine ev_f f_X12_four (t1 := 36) (t2 := 7) rfl rfl rfl (by decide) ?_
  refine ev_loc f_X12_four (nx := 8) rfl rfl rfl rfl ?_
  refine ev_getR f_X12_four (nx := 11) rfl (hW.s rfl) rfl rfl (hW.r rfl) rfl rfl ?_
  refine ev_loc f_X12_four (nx := 12) rfl rfl rfl rfl ?_
  refine ev_gvI f_X12_four (nx := 15) (w := 6) rfl (hW.s rfl) rfl rfl rfl rfl ?_
  refine ev_loc f_X12_four (nx := 16) rfl rfl rfl rfl ?_
  refine ev_loc f_X12_four (nx := 17) rfl rfl rfl rfl ?_
  refine ev_alu f_X12_four (nx := 18) rfl rfl rfl rfl ?_
  refine ev_alu f_X12_four (nx := 19) rfl rfl rfl rfl ?_
  refine ev_bastv f_X12_four (nx := 20) (j := 6) rfl (hW.s rfl) (by decide) (by decide) (by decide) rfl ?_
  refine ev_loc f_X12_four (nx := 21) rfl rfl rfl rfl ?_
  refine ev_alu f_X12_four (nx := 22) rfl rfl rfl rfl ?_
  refine ev_gvI f_X12_four (nx := 25) (w := 6) rfl (hW.s rfl) rfl rfl rfl rfl ?_
  refine ev_ic f_X12_four (nx := 26) (v := 1) rfl (by decide) rfl ?_
  refine ev_aluvI f_X12_four (nx := 27) (w := 7) rfl rfl rfl (by decide) rfl ?_
  refine ev_putI f_X12_four (nx := 30) rfl (hW.s rfl) rfl rfl rfl ?_
  refine ev_incv f_X12_four (nx := 33) (c := -8) (w := 0) (lo' := [(2, .int 0), (0, .ref 69), (1, .int ((X.2 2)))]) rfl rfl (by decide) (by decide) rfl rfl rfl ?_
  refine ev_jmp f_X12_four (nx := 3) rfl rfl rfl ?_
  refine ev_loc f_X12_four (nx := 4) rfl rfl rfl rfl ?_
  refine ev_f f_X12_four (t1 := 36) (t2 := 7) rfl rfl rfl (by decide) ?_
  refine ev_loc f_X12_four (nx := 8) rfl rfl rfl rfl ?_
  refine ev_getR f_X12_four (nx := 11) rfl (hW.s rfl) rfl rfl (hW.r rfl) rfl rfl ?_
  refine ev_loc f_X12_four (nx := 12) rfl rfl rfl rfl ?_
  refine ev_gvI f_X12_four (nx := 15) (w := 7) rfl (hW.s rfl) rfl rfl rfl rfl ?_
  refine ev_loc f_X12_four (nx := 16) rfl rfl rfl rfl ?_
  refine ev_loc f_X12_four (nx := 17) rfl rfl rfl rfl ?_
  refine ev_alu f_X12_four (nx := 18) rfl rfl rfl rfl ?_
  refine ev_alu f_X12_four (nx := 19) rfl rfl rfl rfl ?_
  refine ev_bastv f_X12_four (nx := 20) (j := 7) rfl (hW.s rfl) (by decide) (by decide) (by decide) rfl ?_
  refine ev_loc f_X12_four (nx := 21) rfl rfl rfl rfl ?_
  refine ev_alu f_X12_four (nx := 22) rfl rfl rfl rfl ?_
  refine ev_gvI f_X12_four (nx := 25) (w := 7) rfl (hW.s rfl) rfl rfl rfl rfl ?_
  refine ev_ic f_X12_four (nx := 26) (v := 1) rfl (by decide) rfl ?_
  refine ev_aluvI f_X12_four (nx := 27) (w := 8) rfl rfl rfl (by decide) rfl ?_
  refine ev_putI f_X12_four (nx := 30) rfl (hW.s rfl) rfl rfl rfl ?_
  refine ev_incv f_X12_four (nx := 33) (c := -8) (w := -8) (lo' := [(2, .int (-8)), (0, .ref 69), (1, .int ((X.2 2)))]) rfl rfl (by decide) (by decide) rfl rfl rfl ?_
  refine ev_jmp f_X12_four (nx := 3) rfl rfl rfl ?_
  refine ev_loc f_X12_four (nx := 4) rfl rfl rfl rfl ?_
  refine ev_t f_X12_four (t1 := 36) (t2 := 7) rfl rfl rfl (by decide) ?_
  refine ev_retK0 f_X12_four rfl rfl rfl ?_
  refine ev_loc f_X12_feed (nx := 26) rfl rfl rfl rfl ?_
  refine ev_loc f_X12_feed (nx := 27) rfl rfl rfl rfl ?_
  refine ev_inV2 f_X12_feed (nx := 30) (lo2 := [(0, .ref 69), (1, .int ((X.2 3)))]) rfl rfl rfl rfl f_X12_four (hW.s rfl) rfl rfl rfl rfl rfl ?_
  refine ev_bp f_X12_four (nx := 2) (v := 24) rfl (by decide) rfl ?_
  refine ev_loc f_X12_four (nx := 3) (lo' := [(2, .int 24), (0, .ref 69), (1, .int ((X.2 3)))]) rfl rfl rfl rfl ?_
  refine ev_loc f_X12_four (nx := 4) rfl rfl rfl rfl ?_
  refine ev_f f_X12_four (t1 := 36) (t2 := 7) rfl rfl rfl (by decide) ?_
  refine ev_loc f_X12_four (nx := 8) rfl rfl rfl rfl ?_
  refine ev_getR f_X12_four (nx := 11) rfl (hW.s rfl) rfl rfl (hW.r rfl) rfl rfl ?_
  refine ev_loc f_X12_four (nx := 12) rfl rfl rfl rfl ?_
  refine ev_gvI f_X12_four (nx := 15) (w := 8) rfl (hW.s rfl) rfl rfl rfl rfl ?_
  refine ev_loc f_X12_four (nx := 16) rfl rfl rfl rfl ?_
  refine ev_loc f_X12_four (nx := 17) rfl rfl rfl rfl ?_
  refine ev_alu f_X12_four (nx := 18) rfl rfl rfl rfl ?_
  refine ev_alu f_X12_four (nx := 19) rfl rfl rfl rfl ?_
  refine ev_bastv f_X12_four (nx := 20) (j := 8) rfl (hW.s rfl) (by decide) (by decide) (by decide) rfl ?_
  refine ev_loc f_X12_four (nx := 21) rfl rfl rfl rfl ?_
  refine ev_alu f_X12_four (nx := 22) rfl rfl rfl rfl ?_
  refine ev_gvI f_X12_four (nx := 25) (w := 8) rfl (hW.s rfl) rfl rfl rfl rfl ?_
  refine ev_ic f_X12_four (nx := 26) (v := 1) rfl (by decide) rfl ?_
  refine ev_aluvI f_X12_four (nx := 27) (w := 9) rfl rfl rfl (by decide) rfl ?_
  refine ev_putI f_X12_four (nx := 30) rfl (hW.s rfl) rfl rfl rfl ?_
  refine ev_incv f_X12_four (nx := 33) (c := -8) (w := 16) (lo' := [(2, .int 16), (0, .ref 69), (1, .int ((X.2 3)))]) rfl rfl (by decide) (by decide) rfl rfl rfl ?_
  refine ev_jmp f_X12_four (nx := 3) rfl rfl rfl ?_
  refine ev_loc f_X12_four (nx := 4) rfl rfl rfl rfl ?_
  refine ev_f f_X12_four (t1 := 36) (t2 := 7) rfl rfl rfl (by decide) ?_
  refine ev_loc f_X12_four (nx := 8) rfl rfl rfl rfl ?_
  refine ev_getR f_X12_four (nx := 11) rfl (hW.s rfl) rfl rfl (hW.r rfl) rfl rfl ?_
  refine ev_loc f_X12_four (nx := 12) rfl rfl rfl rfl ?_
  refine ev_gvI f_X12_four (nx := 15) (w := 9) rfl (hW.s rfl) rfl rfl rfl rfl ?_
  refine ev_loc f_X12_four (nx := 16) rfl rfl rfl rfl ?_
  refine ev_loc f_X12_four (nx := 17) rfl rfl rfl rfl ?_
  refine ev_alu f_X12_four (nx := 18) rfl rfl rfl rfl ?_
  refine ev_alu f_X12_four (nx := 19) rfl rfl rfl rfl ?_
  refine ev_bastv f_X12_four (nx := 20) (j := 9) rfl (hW.s rfl) (by decide) (by decide) (by decide) rfl ?_
  refine ev_loc f_X12_four (nx := 21) rfl rfl rfl rfl ?_
  refine ev_alu f_X12_four (nx := 22) rfl rfl rfl rfl ?_
  refine ev_gvI f_X12_four (nx := 25) (w := 9) rfl (hW.s rfl) rfl rfl rfl rfl ?_
  refine ev_ic f_X12_four (nx := 26) (v := 1) rfl (by decide) rfl ?_
  refine ev_aluvI f_X12_four (nx := 27) (w := 10) rfl rfl rfl (by decide) rfl ?_
  refine ev_putI f_X12_four (nx := 30) rfl (hW.s rfl) rfl rfl rfl ?_
  refine ev_incv f_X12_four (nx := 33) (c := -8) (w := 8) (lo' := [(2, .int 8), (0, .ref 69), (1, .int ((X.2 3)))]) rfl rfl (by decide) (by decide) rfl rfl rfl ?_
  refine ev_jmp f_X12_four (nx := 3) rfl rfl rfl ?_
  refine ev_loc f_X12_four (nx := 4) rfl rfl rfl rfl ?_
  refine ev_f f_X12_four (t1 := 36) (t2 := 7) rfl rfl rfl (by decide) ?_
  refine ev_loc f_X12_four (nx := 8) rfl rfl rfl rfl ?_
  refine ev_getR f_X12_four (nx := 11) rfl (hW.s rfl) rfl rfl (hW.r rfl) rfl rfl ?_
  refine ev_loc f_X12_four (nx := 12) rfl rfl rfl rfl ?_
  refine ev_gvI f_X12_four (nx := 15) (w := 10) rfl (hW.s rfl) rfl rfl rfl rfl ?_
  refine ev_loc f_X12_four (nx := 16) rfl rfl rfl rfl ?_
  refine ev_loc f_X12_four (nx := 17) rfl rfl rfl rfl ?_
  refine ev_alu f_X12_four (nx := 18) rfl rfl rfl rfl ?_
  refine ev_alu f_X12_four (nx := 19) rfl rfl rfl rfl ?_
  refine ev_bastv f_X12_four (nx := 20) (j := 10) rfl (hW.s rfl) (by decide) (by decide) (by decide) rfl ?_
  refine ev_loc f_X12_four (nx := 21) rfl rfl rfl rfl ?_
  refine ev_alu f_X12_four (nx := 22) rfl rfl rfl rfl ?_
  refine ev_gvI f_X12_four (nx := 25) (w := 10) rfl (hW.s rfl) rfl rfl rfl rfl ?_
  refine ev_ic f_X12_four (nx := 26) (v := 1) rfl (by decide) rfl ?_
  refine ev_aluvI f_X12_four (nx := 27) (w := 11) rfl rfl rfl (by decide) rfl ?_
  refine ev_putI f_X12_four (nx := 30) rfl (hW.s rfl) rfl rfl rfl ?_
  refine ev_incv f_X12_four (nx := 33) (c := -8) (w := 0) (lo' := [(2, .int 0), (0, .ref 69), (1, .int ((X.2 3)))]) rfl rfl (by decide) (by decide) rfl rfl rfl ?_
  refine ev_jmp f_X12_four (nx := 3) rfl rfl rfl ?_
  refine ev_loc f_X12_four (nx := 4) rfl rfl rfl rfl ?_
  refine ev_f f_X12_four (t1 := 36) (t2 := 7) rfl rfl rfl (by decide) ?_
  refine ev_loc f_X12_four (nx := 8) rfl rfl rfl rfl ?_
  refine ev_getR f_X12_four (nx := 11) rfl (hW.s rfl) rfl rfl (hW.r rfl) rfl rfl ?_
  refine ev_loc f_X12_four (nx := 12) rfl rfl rfl rfl ?_
  refine ev_gvI f_X12_four (nx := 15) (w := 11) rfl (hW.s rfl) rfl rfl rfl rfl ?_
  refine ev_loc f_X12_four (nx := 16) rfl rfl rfl rfl ?_
  refine ev_loc f_X12_four (nx := 17) rfl rfl rfl rfl ?_
  refine ev_alu f_X12_four (nx := 18) rfl rfl rfl rfl ?_
  refine ev_alu f_X12_four (nx := 19) rfl rfl rfl rfl ?_
  refine ev_bastv f_X12_four (nx := 20) (j := 11) rfl (hW.s rfl) (by decide) (by decide) (by decide) rfl ?_
  refine ev_loc f_X12_four (nx := 21) rfl rfl rfl rfl ?_
  refine ev_alu f_X12_four (nx := 22) rfl rfl rfl rfl ?_
  refine ev_gvI f_X12_four (nx := 25) (w := 11) rfl (hW.s rfl) rfl rfl rfl rfl ?_
  refine ev_ic f_X12_four (nx := 26) (v := 1) rfl (by decide) rfl ?_
  refine ev_aluvI f_X12_four (nx := 27) (w := 12) rfl rfl rfl (by decide) rfl ?_
  refine ev_putI f_X12_four (nx := 30) rfl (hW.s rfl) rfl rfl rfl ?_
  refine ev_incv f_X12_four (nx := 33) (c := -8) (w := -8) (lo' := [(2, .int (-8)), (0, .ref 69), (1, .int ((X.2 3)))]) rfl rfl (by decide) (by decide) rfl rfl rfl ?_
  refine ev_jmp f_X12_four (nx := 3) rfl rfl rfl ?_
  refine ev_loc f_X12_four (nx := 4) rfl rfl rfl rfl ?_
  refine ev_t f_X12_four (t1 := 36) (t2 := 7) rfl rfl rfl (by decide) ?_
  refine ev_retK0 f_X12_four rfl rfl rfl ?_
  refine ev_loc f_X12_feed (nx := 31) rfl rfl rfl rfl ?_
  refine ev_loc f_X12_feed (nx := 33) rfl rfl rfl rfl ?_
  refine ev_inV2 f_X12_feed (nx := 36) (lo2 := [(0, .ref 69), (1, .int ((X.2 4)))]) rfl rfl rfl rfl f_X12_four (hW.s rfl) rfl rfl rfl rfl rfl ?_
  refine ev_bp f_X12_four (nx := 2) (v := 24) rfl (by decide) rfl ?_
  refine ev_loc f_X12_four (nx := 3) (lo' := [(2, .int 24), (0, .ref 69), (1, .int ((X.2 4)))]) rfl rfl rfl rfl ?_
  refine ev_loc f_X12_four (nx := 4) rfl rfl rfl rfl ?_
  refine ev_f f_X12_four (t1 := 36) (t2 := 7) rfl rfl rfl (by decide) ?_
  refine ev_loc f_X12_four (nx := 8) rfl rfl rfl rfl ?_
  refine ev_getR f_X12_four (nx := 11) rfl (hW.s rfl) rfl rfl (hW.r rfl) rfl rfl ?_
  refine ev_loc f_X12_four (nx := 12) rfl rfl rfl rfl ?_
  refine ev_gvI f_X12_four (nx := 15) (w := 12) rfl (hW.s rfl) rfl rfl rfl rfl ?_
  refine ev_loc f_X12_four (nx := 16) rfl rfl rfl rfl ?_
  refine ev_loc f_X12_four (nx := 17) rfl rfl rfl rfl ?_
  refine ev_alu f_X12_four (nx := 18) rfl rfl rfl rfl ?_
  refine ev_alu f_X12_four (nx := 19) rfl rfl rfl rfl ?_
  refine ev_bastv f_X12_four (nx := 20) (j := 12) rfl (hW.s rfl) (by decide) (by decide) (by decide) rfl ?_
  refine ev_loc f_X12_four (nx := 21) rfl rfl rfl rfl ?_
  refine ev_alu f_X12_four (nx := 22) rfl rfl rfl rfl ?_
  refine ev_gvI f_X12_four (nx := 25) (w := 12) rfl (hW.s rfl) rfl rfl rfl rfl ?_
  refine ev_ic f_X12_four (nx := 26) (v := 1) rfl (by decide) rfl ?_
  refine ev_aluvI f_X12_four (nx := 27) (w := 13) rfl rfl rfl (by decide) rfl ?_
  refine ev_putI f_X12_four (nx := 30) rfl (hW.s rfl) rfl rfl rfl ?_
  refine ev_incv f_X12_four (nx := 33) (c := -8) (w := 16) (lo' := [(2, .int 16), (0, .ref 69), (1, .int ((X.2 4)))]) rfl rfl (by decide) (by decide) rfl rfl rfl ?_
  refine ev_jmp f_X12_four (nx := 3) rfl rfl rfl ?_
  refine ev_loc f_X12_four (nx := 4) rfl rfl rfl rfl ?_
  refine ev_f f_X12_four (t1 := 36) (t2 := 7) rfl rfl rfl (by decide) ?_
  refine ev_loc f_X12_four (nx := 8) rfl rfl rfl rfl ?_
  refine ev_getR f_X12_four (nx := 11) rfl (hW.s rfl) rfl rfl (hW.r rfl) rfl rfl ?_
  refine ev_loc f_X12_four (nx := 12) rfl rfl rfl rfl ?_
  refine ev_gvI f_X12_four (nx := 15) (w := 13) rfl (hW.s rfl) rfl rfl rfl rfl ?_
  refine ev_loc f_X12_four (nx := 16) rfl rfl rfl rfl ?_
  refine ev_loc f_X12_four (nx := 17) rfl rfl rfl rfl ?_
  refine ev_alu f_X12_four (nx := 18) rfl rfl rfl rfl ?_
  refine ev_alu f_X12_four (nx := 19) rfl rfl rfl rfl ?_
  refine ev_bastv f_X12_four (nx := 20) (j := 13) rfl (hW.s rfl) (by decide) (by decide) (by decide) rfl ?_
  refine ev_loc f_X12_four (nx := 21) rfl rfl rfl rfl ?_
  refine ev_alu f_X12_four (nx := 22) rfl rfl rfl rfl ?_
  refine ev_gvI f_X12_four (nx := 25) (w := 13) rfl (hW.s rfl) rfl rfl rfl rfl ?_
  refine ev_ic f_X12_four (nx := 26) (v := 1) rfl (by decide) rfl ?_
  refine ev_aluvI f_X12_four (nx := 27) (w := 14) rfl rfl rfl (by decide) rfl ?_
  refine ev_putI f_X12_four (nx := 30) rfl (hW.s rfl) rfl rfl rfl ?_
  refine ev_incv f_X12_four (nx := 33) (c := -8) (w := 8) (lo' := [(2, .int 8), (0, .ref 69), (1, .int ((X.2 4)))]) rfl rfl (by decide) (by decide) rfl rfl rfl ?_
  refine ev_jmp f_X12_four (nx := 3) rfl rfl rfl ?_
  refine ev_loc f_X12_four (nx := 4) rfl rfl rfl rfl ?_
  refine ev_f f_X12_four (t1 := 36) (t2 := 7) rfl rfl rfl (by decide) ?_
  refine ev_loc f_X12_four (nx := 8) rfl rfl rfl rfl ?_
  refine ev_getR f_X12_four (nx := 11) rfl (hW.s rfl) rfl rfl (hW.r rfl) rfl rfl ?_
  refine ev_loc f_X12_four (nx := 12) rfl rfl rfl rfl ?_
  refine ev_gvI f_X12_four (nx := 15) (w := 14) rfl (hW.s rfl) rfl rfl rfl rfl ?_
  refine ev_loc f_X12_four (nx := 16) rfl rfl rfl rfl ?_
  refine ev_loc f_X12_four (nx := 17) rfl rfl rfl rfl ?_
  refine ev_alu f_X12_four (nx := 18) rfl rfl rfl rfl ?_
  refine ev_alu f_X12_four (nx := 19) rfl rfl rfl rfl ?_
  refine ev_bastv f_X12_four (nx := 20) (j := 14) rfl (hW.s rfl) (by decide) (by decide) (by decide) rfl ?_
  refine ev_loc f_X12_four (nx := 21) rfl rfl rfl rfl ?_
  refine ev_alu f_X12_four (nx := 22) rfl rfl rfl rfl ?_
  refine ev_gvI f_X12_four (nx := 25) (w := 14) rfl (hW.s rfl) rfl rfl rfl rfl ?_
  refine ev_ic f_X12_four (nx := 26) (v := 1) rfl (by decide) rfl ?_
  refine ev_aluvI f_X12_four (nx := 27) (w := 15) rfl rfl rfl (by decide) rfl ?_
  refine ev_putI f_X12_four (nx := 30) rfl (hW.s rfl) rfl rfl rfl ?_
  refine ev_incv f_X12_four (nx := 33) (c := -8) (w := 0) (lo' := [(2, .int 0), (0, .ref 69), (1, .int ((X.2 4)))]) rfl rfl (by decide) (by decide) rfl rfl rfl ?_
  refine ev_jmp f_X12_four (nx := 3) rfl rfl rfl ?_
  refine ev_loc f_X12_four (nx := 4) rfl rfl rfl rfl ?_
  refine ev_f f_X12_four (t1 := 36) (t2 := 7) rfl rfl rfl (by decide) ?_
  refine ev_loc f_X12_four (nx := 8) rfl rfl rfl rfl ?_
  refine ev_getR f_X12_four (nx := 11) rfl (hW.s rfl) rfl rfl (hW.r rfl) rfl rfl ?_
  refine ev_loc f_X12_four (nx := 12) rfl rfl rfl rfl ?_
  refine ev_gvI f_X12_four (nx := 15) (w := 15) rfl (hW.s rfl) rfl rfl rfl rfl ?_
  refine ev_loc f_X12_four (nx := 16) rfl rfl rfl rfl ?_
  refine ev_loc f_X12_four (nx := 17) rfl rfl rfl rfl ?_
  refine ev_alu f_X12_four (nx := 18) rfl rfl rfl rfl ?_
  refine ev_alu f_X12_four (nx := 19) rfl rfl rfl rfl ?_
  refine ev_bastv f_X12_four (nx := 20) (j := 15) rfl (hW.s rfl) (by decide) (by decide) (by decide) rfl ?_
  refine ev_loc f_X12_four (nx := 21) rfl rfl rfl rfl ?_
  refine ev_alu f_X12_four (nx := 22) rfl rfl rfl rfl ?_
  refine ev_gvI f_X12_four (nx := 25) (w := 15) rfl (hW.s rfl) rfl rfl rfl rfl ?_
  refine ev_ic f_X12_four (nx := 26) (v := 1) rfl (by decide) rfl ?_
  refine ev_aluvI f_X12_four (nx := 27) (w := 16) rfl rfl rfl (by decide) rfl ?_
  refine ev_putI f_X12_four (nx := 30) rfl (hW.s rfl) rfl rfl rfl ?_
  refine ev_incv f_X12_four (nx := 33) (c := -8) (w := -8) (lo' := [(2, .int (-8)), (0, .ref 69), (1, .int ((X.2 4)))]) rfl rfl (by decide) (by decide) rfl rfl rfl ?_
  refine ev_jmp f_X12_four (nx := 3) rfl rfl rfl ?_
  refine ev_loc f_X12_four (nx := 4) rfl rfl rfl rfl ?_
  refine ev_t f_X12_four (t1 := 36) (t2 := 7) rfl rfl rfl (by decide) ?_
  refine ev_retK0 f_X12_four rfl rfl rfl ?_
  refine ev_loc f_X12_feed (nx := 37) rfl rfl rfl rfl ?_
  refine ev_loc f_X12_feed (nx := 39) rfl rfl rfl rfl ?_
  refine ev_inV2 f_X12_feed (nx := 42) (lo2 := [(0, .ref 69), (1, .int ((X.2 5)))]) rfl rfl rfl rfl f_X12_four (hW.s rfl) rfl rfl rfl rfl rfl ?_
  refine ev_bp f_X12_four (nx := 2) (v := 24) rfl (by decide) rfl ?_
  refine ev_loc f_X12_four (nx := 3) (lo' := [(2, .int 24), (0, .ref 69), (1, .int ((X.2 5)))]) rfl rfl rfl rfl ?_
  refine ev_loc f_X12_four (nx := 4) rfl rfl rfl rfl ?_
  refine ev_f f_X12_four (t1 := 36) (t2 := 7) rfl rfl rfl (by decide) ?_
  refine ev_loc f_X12_four (nx := 8) rfl rfl rfl rfl ?_
  refine ev_getR f_X12_four (nx := 11) rfl (hW.s rfl) rfl rfl (hW.r rfl) rfl rfl ?_
  refine ev_loc f_X12_four (nx := 12) rfl rfl rfl rfl ?_
  refine ev_gvI f_X12_four (nx := 15) (w := 16) rfl (hW.s rfl) rfl rfl rfl rfl ?_
  refine ev_loc f_X12_four (nx := 16) rfl rfl rfl rfl ?_
  refine ev_loc f_X12_four (nx := 17) rfl rfl rfl rfl ?_
  refine ev_alu f_X12_four (nx := 18) rfl rfl rfl rfl ?_
  refine ev_alu f_X12_four (nx := 19) rfl rfl rfl rfl ?_
  refine ev_bastv f_X12_four (nx := 20) (j := 16) rfl (hW.s rfl) (by decide) (by decide) (by decide) rfl ?_
  refine ev_loc f_X12_four (nx := 21) rfl rfl rfl rfl ?_
  refine ev_alu f_X12_four (nx := 22) rfl rfl rfl rfl ?_
  refine ev_gvI f_X12_four (nx := 25) (w := 16) rfl (hW.s rfl) rfl rfl rfl rfl ?_
  refine ev_ic f_X12_four (nx := 26) (v := 1) rfl (by decide) rfl ?_
  refine ev_aluvI f_X12_four (nx := 27) (w := 17) rfl rfl rfl (by decide) rfl ?_
  refine ev_putI f_X12_four (nx := 30) rfl (hW.s rfl) rfl rfl rfl ?_
  refine ev_incv f_X12_four (nx := 33) (c := -8) (w := 16) (lo' := [(2, .int 16), (0, .ref 69), (1, .int ((X.2 5)))]) rfl rfl (by decide) (by decide) rfl rfl rfl ?_
  refine ev_jmp f_X12_four (nx := 3) rfl rfl rfl ?_
  refine ev_loc f_X12_four (nx := 4) rfl rfl rfl rfl ?_
  refine ev_f f_X12_four (t1 := 36) (t2 := 7) rfl rfl rfl (by decide) ?_
  refine ev_loc f_X12_four (nx := 8) rfl rfl rfl rfl ?_
  refine ev_getR f_X12_four (nx := 11) rfl (hW.s rfl) rfl rfl (hW.r rfl) rfl rfl ?_
  refine ev_loc f_X12_four (nx := 12) rfl rfl rfl rfl ?_
  refine ev_gvI f_X12_four (nx := 15) (w := 17) rfl (hW.s rfl) rfl rfl rfl rfl ?_
  refine ev_loc f_X12_four (nx := 16) rfl rfl rfl rfl ?_
  refine ev_loc f_X12_four (nx := 17) rfl rfl rfl rfl ?_
  refine ev_alu f_X12_four (nx := 18) rfl rfl rfl rfl ?_
  refine ev_alu f_X12_four (nx := 19) rfl rfl rfl rfl ?_
  refine ev_bastv f_X12_four (nx := 20) (j := 17) rfl (hW.s rfl) (by decide) (by decide) (by decide) rfl ?_
  refine ev_loc f_X12_four (nx := 21) rfl rfl rfl rfl ?_
  refine ev_alu f_X12_four (nx := 22) rfl rfl rfl rfl ?_
  refine ev_gvI f_X12_four (nx := 25) (w := 17) rfl (hW.s rfl) rfl rfl rfl rfl ?_
  refine ev_ic f_X12_four (nx := 26) (v := 1) rfl (by decide) rfl ?_
  refine ev_aluvI f_X12_four (nx := 27) (w := 18) rfl rfl rfl (by decide) rfl ?_
  refine ev_putI f_X12_four (nx := 30) rfl (hW.s rfl) rfl rfl rfl ?_
  refine ev_incv f_X12_four (nx := 33) (c := -8) (w := 8) (lo' := [(2, .int 8), (0, .ref 69), (1, .int ((X.2 5)))]) rfl rfl (by decide) (by decide) rfl rfl rfl ?_
  refine ev_jmp f_X12_four (nx := 3) rfl rfl rfl ?_
  refine ev_loc f_X12_four (nx := 4) rfl rfl rfl rfl ?_
  refine ev_f f_X12_four (t1 := 36) (t2 := 7) rfl rfl rfl (by decide) ?_
  refine ev_loc f_X12_four (nx := 8) rfl rfl rfl rfl ?_
  refine ev_getR f_X12_four (nx := 11) rfl (hW.s rfl) rfl rfl (hW.r rfl) rfl rfl ?_
  refine ev_loc f_X12_four (nx := 12) rfl rfl rfl rfl ?_
  refine ev_gvI f_X12_four (nx := 15) (w := 18) rfl (hW.s rfl) rfl rfl rfl rfl ?_
  refine ev_loc f_X12_four (nx := 16) rfl rfl rfl rfl ?_
  refine ev_loc f_X12_four (nx := 17) rfl rfl rfl rfl ?_
  refine ev_alu f_X12_four (nx := 18) rfl rfl rfl rfl ?_
  refine ev_alu f_X12_four (nx := 19) rfl rfl rfl rfl ?_
  refine ev_bastv f_X12_four (nx := 20) (j := 18) rfl (hW.s rfl) (by decide) (by decide) (by decide) rfl ?_
  refine ev_loc f_X12_four (nx := 21) rfl rfl rfl rfl ?_
  refine ev_alu f_X12_four (nx := 22) rfl rfl rfl rfl ?_
  refine ev_gvI f_X12_four (nx := 25) (w := 18) rfl (hW.s rfl) rfl rfl rfl rfl ?_
  refine ev_ic f_X12_four (nx := 26) (v := 1) rfl (by decide) rfl ?_
  refine ev_aluvI f_X12_four (nx := 27) (w := 19) rfl rfl rfl (by decide) rfl ?_
  refine ev_putI f_X12_four (nx := 30) rfl (hW.s rfl) rfl rfl rfl ?_
  refine ev_incv f_X12_four (nx := 33) (c := -8) (w := 0) (lo' := [(2, .int 0), (0, .ref 69), (1, .int ((X.2 5)))]) rfl rfl (by decide) (by decide) rfl rfl rfl ?_
  refine ev_jmp f_X12_four (nx := 3) rfl rfl rfl ?_
  refine ev_loc f_X12_four (nx := 4) rfl rfl rfl rfl ?_
  refine ev_f f_X12_four (t1 := 36) (t2 := 7) rfl rfl rfl (by decide) ?_
  refine ev_loc f_X12_four (nx := 8) rfl rfl rfl rfl ?_
  refine ev_getR f_X12_four (nx := 11) rfl (hW.s rfl) rfl rfl (hW.r rfl) rfl rfl ?_
  refine ev_loc f_X12_four (nx := 12) rfl rfl rfl rfl ?_
  refine ev_gvI f_X12_four (nx := 15) (w := 19) rfl (hW.s rfl) rfl rfl rfl rfl ?_
  refine ev_loc f_X12_four (nx := 16) rfl rfl rfl rfl ?_
  refine ev_loc f_X12_four (nx := 17) rfl rfl rfl rfl ?_
  refine ev_alu f_X12_four (nx := 18) rfl rfl rfl rfl ?_
  refine ev_alu f_X12_four (nx := 19) rfl rfl rfl rfl ?_
  refine ev_bastv f_X12_four (nx := 20) (j := 19) rfl (hW.s rfl) (by decide) (by decide) (by decide) rfl ?_
  refine ev_loc f_X12_four (nx := 21) rfl rfl rfl rfl ?_
  refine ev_alu f_X12_four (nx := 22) rfl rfl rfl rfl ?_
  refine ev_gvI f_X12_four (nx := 25) (w := 19) rfl (hW.s rfl) rfl rfl rfl rfl ?_
  refine ev_ic f_X12_four (nx := 26) (v := 1) rfl (by decide) rfl ?_
  refine ev_aluvI f_X12_four (nx := 27) (w := 20) rfl rfl rfl (by decide) rfl ?_
  refine ev_putI f_X12_four (nx := 30) rfl (hW.s rfl) rfl rfl rfl ?_
  refine ev_incv f_X12_four (nx := 33) (c := -8) (w := -8) (lo' := [(2, .int (-8)), (0, .ref 69), (1, .int ((X.2 5)))]) rfl rfl (by decide) (by decide) rfl rfl rfl ?_
  refine ev_jmp f_X12_four (nx := 3) rfl rfl rfl ?_
  refine ev_loc f_X12_four (nx := 4) rfl rfl rfl rfl ?_
  refine ev_t f_X12_four (t1 := 36) (t2 := 7) rfl rfl rfl (by decide) ?_
  refine ev_retK0 f_X12_four rfl rfl rfl ?_
  refine ev_loc f_X12_feed (nx := 43) rfl rfl rfl rfl ?_
  refine ev_gvI f_X12_feed (nx := 46) (w := 20) rfl (hW.s rfl) rfl rfl rfl rfl ?_
  refine ev_retK1 f_X12_feed rfl rfl rfl ?_
  refine ev_t f_L_law (t1 := 1628) (t2 := 559) rfl rfl rfl (by decide) ?_
  refine ev_incv f_L_law (nx := 1631) (c := 6) (w := 6) (lo' := [(3, .int 6), (2, .ref 69), (1, .ref 0), (0, .retAddr 30)]) rfl rfl (by decide) (by decide) rfl rfl rfl ?_
  refine ev_jmp f_L_law (nx := 18) rfl rfl rfl ?_
  refine ev_loc f_L_law (nx := 19) rfl rfl rfl rfl ?_
  refine ev_loc f_L_law (nx := 20) rfl rfl rfl rfl ?_
  refine ev_alenX f_L_law (nx := 21) rfl hX rfl ?_
  refine ev_bp f_L_law (nx := 23) (v := 6) rfl (by decide) rfl ?_
  refine ev_aluvI f_L_law (nx := 24) (w := 0) rfl rfl rfl (by decide) rfl ?_
  refine ev_t f_L_law (t1 := 1634) (t2 := 27) rfl rfl rfl (by decide) ?_
  refine ev_ic f_L_law (nx := 1635) (v := 1) rfl (by decide) rfl ?_
  refine ev_ret f_L_law rfl rfl rfl ?_
  exact ⟨rfl, hz⟩
set_option maxRecDepth 20000 in
theorem pc_10 (hR : x_R W1 (sh, gi, gl, gr)) (hX : X.1 = 6) : x_Ev X 1000 n_L_law 607 [(3, .int 0), (2, .ref 69), (1, .ref 0), (0, .retAddr 30)] [] (sh, gi, gl, gr) x_P1 := by
  have hW := W1_WF hR
  have hz := W1_hz hR
  refine ev_loc f_L_law (nx := 608) rfl rfl rfl rfl ?_
  refine ev_loc f_L_law (nx := 609) rfl rfl rfl rfl ?_
  refine ev_loc f_L_law (nx := 610) rfl rfl rfl rfl ?_
  refine ev_ic f_L_law (nx := 611) (v := 1) rfl (by decide) rfl ?_
  refine ev_aluvI f_L_law (nx := 612) (w := 1) rfl rfl rfl (by decide) rfl ?_
  refine ev_scr f_L_law (nx := 613) (j := 1) rfl hX (by decide) (by decide) (by decide) rfl ?_
  refine ev_inV2 f_L_law (nx := 616) (lo2 := [(0, .ref 0), (1, .int ((X.2 1)))]) rfl rfl rfl rfl f_X11_fault (hW.s rfl) rfl rfl rfl rfl rfl ?_
  refine ev_loc f_X11_fault (nx := 1) rfl rfl rfl rfl ?_
  refine ev_if f_X11_fault (t1 := 4) (t2 := 9) rfl rfl rfl (fun h9 => ?_) (fun h9 => ?_)
  · have q9 := h9; rw [← Int32.toInt_inj, (by decide : (0 : Int32).toInt = 0)] at q9
    refine ev_loc f_X11_fault (nx := 5) rfl rfl rfl rfl ?_
    refine ev_gvI f_X11_fault (nx := 8) (w := -1) rfl (hW.s rfl) rfl rfl (wi_0_8 (gi := gi) hR) rfl ?_
    refine ev_retK1 f_X11_fault rfl rfl rfl ?_
    refine ev_loc f_L_law (nx := 617) rfl rfl rfl rfl ?_
    refine ev_loc f_L_law (nx := 618) rfl rfl rfl rfl ?_
    refine ev_loc f_L_law (nx := 619) rfl rfl rfl rfl ?_
    refine ev_ic f_L_law (nx := 620) (v := 1) rfl (by decide) rfl ?_
    refine ev_aluvI f_L_law (nx := 621) (w := 1) rfl rfl rfl (by decide) rfl ?_
    refine ev_scr f_L_law (nx := 622) (j := 1) rfl hX (by decide) (by decide) (by decide) rfl ?_
    refine ev_inV2 f_L_law (nx := 625) (lo2 := [(0, .ref 69), (1, .int ((X.2 1)))]) rfl rfl rfl rfl f_X12_fault (hW.s rfl) rfl rfl rfl rfl rfl ?_
    refine ev_loc f_X12_fault (nx := 1) rfl rfl rfl rfl ?_
    refine ev_t f_X12_fault (t1 := 4) (t2 := 11) rfl rfl rfl (by rw [← Int32.toInt_inj, (by decide : (0 : Int32).toInt = 0)]; omega) ?_
    refine ev_loc f_X12_fault (nx := 5) rfl rfl rfl rfl ?_
    refine ev_gvI f_X12_fault (nx := 8) (w := -1) rfl (hW.s rfl) rfl rfl (wi_69_16 (gi := gi) hR) rfl ?_
    refine ev_jmp f_X12_fault (nx := 24) rfl rfl rfl ?_
    refine ev_retK1 f_X12_fault rfl rfl rfl ?_
    refine ev_t f_L_law (t1 := 1628) (t2 := 628) rfl rfl rfl (by decide) ?_
    refine ev_incv f_L_law (nx := 1631) (c := 6) (w := 6) (lo' := [(3, .int 6), (2, .ref 69), (1, .ref 0), (0, .retAddr 30)]) rfl rfl (by decide) (by decide) rfl rfl rfl ?_
    refine ev_jmp f_L_law (nx := 18) rfl rfl rfl ?_
    refine ev_loc f_L_law (nx := 19) rfl rfl rfl rfl ?_
    refine ev_loc f_L_law (nx := 20) rfl rfl rfl rfl ?_
    refine ev_alenX f_L_law (nx := 21) rfl hX rfl ?_
    refine ev_bp f_L_law (nx := 23) (v := 6) rfl (by decide) rfl ?_
    refine ev_aluvI f_L_law (nx := 24) (w := 0) rfl rfl rfl (by decide) rfl ?_
    refine ev_t f_L_law (t1 := 1634) (t2 := 27) rfl rfl rfl (by decide) ?_
    refine ev_ic f_L_law (nx := 1635) (v := 1) rfl (by decide) rfl ?_
    refine ev_ret f_L_law rfl rfl rfl ?_
    exact ⟨rfl, hz⟩
  · have q9 := h9; rw [← Int32.toInt_inj, (by decide : (0 : Int32).toInt = 0)] at q9
    refine ev_loc f_X11_fault (nx := 10) rfl rfl rfl rfl ?_
    refine ev_ic f_X11_fault (nx := 11) (v := 1) rfl (by decide) rfl ?_
    refine ev_if f_X11_fault (t1 := 14) (t2 := 21) rfl rfl rfl (fun h39 => ?_) (fun h39 => ?_)
    · have q39 := h39; rw [← Int32.toInt_inj, (by decide : (1 : Int32).toInt = 1)] at q39
      refine ev_loc f_X11_fault (nx := 15) rfl rfl rfl rfl ?_
      refine ev_gvI f_X11_fault (nx := 18) (w := -1) rfl (hW.s rfl) rfl rfl (wi_0_9 (gi := gi) hR) rfl ?_
      refine ev_jmp f_X11_fault (nx := 22) rfl rfl rfl ?_
      refine ev_retK1 f_X11_fault rfl rfl rfl ?_
      refine ev_loc f_L_law (nx := 617) rfl rfl rfl rfl ?_
      refine ev_loc f_L_law (nx := 618) rfl rfl rfl rfl ?_
      refine ev_loc f_L_law (nx := 619) rfl rfl rfl rfl ?_
      refine ev_ic f_L_law (nx := 620) (v := 1) rfl (by decide) rfl ?_
      refine ev_aluvI f_L_law (nx := 621) (w := 1) rfl rfl rfl (by decide) rfl ?_
      refine ev_scr f_L_law (nx := 622) (j := 1) rfl hX (by decide) (by decide) (by decide) rfl ?_
      refine ev_inV2 f_L_law (nx := 625) (lo2 := [(0, .ref 69), (1, .int ((X.2 1)))]) rfl rfl rfl rfl f_X12_fault (hW.s rfl) rfl rfl rfl rfl rfl ?_
      refine ev_loc f_X12_fault (nx := 1) rfl rfl rfl rfl ?_
      refine ev_f f_X12_fault (t1 := 4) (t2 := 11) rfl rfl rfl (by rw [← Int32.toInt_inj, (by decide : (0 : Int32).toInt = 0)]; omega) ?_
      refine ev_loc f_X12_fault (nx := 12) rfl rfl rfl rfl ?_
      refine ev_ic f_X12_fault (nx := 13) (v := 1) rfl (by decide) rfl ?_
      refine ev_t f_X12_fault (t1 := 16) (t2 := 23) rfl rfl rfl (by rw [← Int32.toInt_inj, (by decide : (1 : Int32).toInt = 1)]; omega) ?_
      refine ev_loc f_X12_fault (nx := 17) rfl rfl rfl rfl ?_
      refine ev_gvI f_X12_fault (nx := 20) (w := -1) rfl (hW.s rfl) rfl rfl (wi_69_17 (gi := gi) hR) rfl ?_
      refine ev_jmp f_X12_fault (nx := 24) rfl rfl rfl ?_
      refine ev_retK1 f_X12_fault rfl rfl rfl ?_
      refine ev_t f_L_law (t1 := 1628) (t2 := 628) rfl rfl rfl (by decide) ?_
      refine ev_incv f_L_law (nx := 1631) (c := 6) (w := 6) (lo' := [(3, .int 6), (2, .ref 69), (1, .ref 0), (0, .retAddr 30)]) rfl rfl (by decide) (by decide) rfl rfl rfl ?_
      refine ev_jmp f_L_law (nx := 18) rfl rfl rfl ?_
      refine ev_loc f_L_law (nx := 19) rfl rfl rfl rfl ?_
      refine ev_loc f_L_law (nx := 20) rfl rfl rfl rfl ?_
      refine ev_alenX f_L_law (nx := 21) rfl hX rfl ?_
      refine ev_bp f_L_law (nx := 23) (v := 6) rfl (by decide) rfl ?_
      refine ev_aluvI f_L_law (nx := 24) (w := 0) rfl rfl rfl (by decide) rfl ?_
      refine ev_t f_L_law (t1 := 1634) (t2 := 27) rfl rfl rfl (by decide) ?_
      refine ev_ic f_L_law (nx := 1635) (v := 1) rfl (by decide) rfl ?_
      refine ev_ret f_L_law rfl rfl rfl ?_
      exact ⟨rfl, hz⟩
    · have q39 := h39; rw [← Int32.toInt_inj, (by decide : (1 : Int32).toInt = 1)] at q39
      refine ev_ic f_X11_fault (nx := 22) (v := -1) rfl (by decide) rfl ?_
      refine ev_retK1 f_X11_fault rfl rfl rfl ?_
      refine ev_loc f_L_law (nx := 617) rfl rfl rfl rfl ?_
      refine ev_loc f_L_law (nx := 618) rfl rfl rfl rfl ?_
      refine ev_loc f_L_law (nx := 619) rfl rfl rfl rfl ?_
      refine ev_ic f_L_law (nx := 620) (v := 1) rfl (by decide) rfl ?_
      refine ev_aluvI f_L_law (nx := 621) (w := 1) rfl rfl rfl (by decide) rfl ?_
      refine ev_scr f_L_law (nx := 622) (j := 1) rfl hX (by decide) (by decide) (by decide) rfl ?_
      refine ev_inV2 f_L_law (nx := 625) (lo2 := [(0, .ref 69), (1, .int ((X.2 1)))]) rfl rfl rfl rfl f_X12_fault (hW.s rfl) rfl rfl rfl rfl rfl ?_
      refine ev_loc f_X12_fault (nx := 1) rfl rfl rfl rfl ?_
      refine ev_f f_X12_fault (t1 := 4) (t2 := 11) rfl rfl rfl h9 ?_
      refine ev_loc f_X12_fault (nx := 12) rfl rfl rfl rfl ?_
      refine ev_ic f_X12_fault (nx := 13) (v := 1) rfl (by decide) rfl ?_
      refine ev_f f_X12_fault (t1 := 16) (t2 := 23) rfl rfl rfl h39 ?_
      refine ev_ic f_X12_fault (nx := 24) (v := -1) rfl (by decide) rfl ?_
      refine ev_retK1 f_X12_fault rfl rfl rfl ?_
      refine ev_t f_L_law (t1 := 1628) (t2 := 628) rfl rfl rfl (by decide) ?_
      refine ev_incv f_L_law (nx := 1631) (c := 6) (w := 6) (lo' := [(3, .int 6), (2, .ref 69), (1, .ref 0), (0, .retAddr 30)]) rfl rfl (by decide) (by decide) rfl rfl rfl ?_
      refine ev_jmp f_L_law (nx := 18) rfl rfl rfl ?_
      refine ev_loc f_L_law (nx := 19) rfl rfl rfl rfl ?_
      refine ev_loc f_L_law (nx := 20) rfl rfl rfl rfl ?_
      refine ev_alenX f_L_law (nx := 21) rfl hX rfl ?_
      refine ev_bp f_L_law (nx := 23) (v := 6) rfl (by decide) rfl ?_
      refine ev_aluvI f_L_law (nx := 24) (w := 0) rfl rfl rfl (by decide) rfl ?_
      refine ev_t f_L_law (t1 := 1634) (t2 := 27) rfl rfl rfl (by decide) ?_
      refine ev_ic f_L_law (nx := 1635) (v := 1) rfl (by decide) rfl ?_
      refine ev_ret f_L_law rfl rfl rfl ?_
      exact ⟨rfl, hz⟩
set_option maxRecDepth 20000 in
theorem pc_12 (hR : x_R W1 (sh, gi, gl, gr)) (hX : X.1 = 6) : x_Ev X 1000 n_L_law 653 [(3, .int 0), (2, .ref 69), (1, .ref 0), (0, .retAddr 30)] [] (sh, gi, gl, gr) x_P1 := by
  have hW := W1_WF hR
  have hz := W1_hz hR
  refine ev_loc f_L_law (nx := 654) rfl rfl rfl rfl ?_
  refine ev_loc f_L_law (nx := 655) rfl rfl rfl rfl ?_
  refine ev_loc f_L_law (nx := 656) rfl rfl rfl rfl ?_
  refine ev_ic f_L_law (nx := 657) (v := 1) rfl (by decide) rfl ?_
  refine ev_aluvI f_L_law (nx := 658) (w := 1) rfl rfl rfl (by decide) rfl ?_
  refine ev_scr f_L_law (nx := 659) (j := 1) rfl hX (by decide) (by decide) (by decide) rfl ?_
  refine ev_loc f_L_law (nx := 660) rfl rfl rfl rfl ?_
  refine ev_loc f_L_law (nx := 661) rfl rfl rfl rfl ?_
  refine ev_ic f_L_law (nx := 662) (v := 2) rfl (by decide) rfl ?_
  refine ev_aluvI f_L_law (nx := 663) (w := 2) rfl rfl rfl (by decide) rfl ?_
  refine ev_scr f_L_law (nx := 664) (j := 2) rfl hX (by decide) (by decide) (by decide) rfl ?_
  refine ev_inV3 f_L_law (nx := 667) (lo2 := [(0, .ref 0), (1, .int ((X.2 1))), (2, .int ((X.2 2)))]) rfl rfl rfl rfl f_X11_ship (hW.s rfl) rfl rfl rfl rfl rfl ?_
  refine ev_loc f_X11_ship (nx := 1) rfl rfl rfl rfl ?_
  refine ev_loc f_X11_ship (nx := 2) rfl rfl rfl rfl ?_
  refine ev_inV2 f_X11_ship (nx := 5) (lo2 := [(0, .ref 0), (1, .int ((X.2 1)))]) rfl rfl rfl rfl f_X11_isShip (hW.s rfl) rfl rfl rfl rfl rfl ?_
  refine ev_loc f_X11_isShip (nx := 1) rfl rfl rfl rfl ?_
  refine ev_if f_X11_isShip (t1 := 22) (t2 := 4) rfl rfl rfl (fun h17 => ?_) (fun h17 => ?_)
  · have q17 := h17; rw [Int32.lt_iff_toInt_lt, (by decide : (0 : Int32).toInt = 0)] at q17
    refine ev_ic f_X11_isShip (nx := 23) (v := 0) rfl (by decide) rfl ?_
    refine ev_retK1 f_X11_isShip rfl rfl rfl ?_
    refine ev_t f_X11_ship (t1 := 8) (t2 := 14) rfl rfl rfl (by decide) ?_
    refine ev_loc f_X11_ship (nx := 9) rfl rfl rfl rfl ?_
    refine ev_ic f_X11_ship (nx := 10) (v := 1) rfl (by decide) rfl ?_
    refine ev_inV2 f_X11_ship (nx := 13) (lo2 := [(0, .ref 0), (1, .int 1)]) rfl rfl rfl rfl f_X11_refuse (hW.s rfl) rfl rfl rfl rfl rfl ?_
    refine ev_loc f_X11_refuse (nx := 1) rfl rfl rfl rfl ?_
    refine ev_loc f_X11_refuse (nx := 2) rfl rfl rfl rfl ?_
    refine ev_putI f_X11_refuse (nx := 5) rfl (hW.s rfl) rfl rfl rfl ?_
    refine ev_ic f_X11_refuse (nx := 6) (v := -1) rfl (by decide) rfl ?_
    refine ev_retK1 f_X11_refuse rfl rfl rfl ?_
    refine ev_retK1 f_X11_ship rfl rfl rfl ?_
    refine ev_loc f_L_law (nx := 668) rfl rfl rfl rfl ?_
    refine ev_loc f_L_law (nx := 669) rfl rfl rfl rfl ?_
    refine ev_loc f_L_law (nx := 670) rfl rfl rfl rfl ?_
    refine ev_ic f_L_law (nx := 671) (v := 1) rfl (by decide) rfl ?_
    refine ev_aluvI f_L_law (nx := 672) (w := 1) rfl rfl rfl (by decide) rfl ?_
    refine ev_scr f_L_law (nx := 673) (j := 1) rfl hX (by decide) (by decide) (by decide) rfl ?_
    refine ev_loc f_L_law (nx := 674) rfl rfl rfl rfl ?_
    refine ev_loc f_L_law (nx := 675) rfl rfl rfl rfl ?_
    refine ev_ic f_L_law (nx := 676) (v := 2) rfl (by decide) rfl ?_
    refine ev_aluvI f_L_law (nx := 677) (w := 2) rfl rfl rfl (by decide) rfl ?_
    refine ev_scr f_L_law (nx := 678) (j := 2) rfl hX (by decide) (by decide) (by decide) rfl ?_
    refine ev_inV3 f_L_law (nx := 681) (lo2 := [(0, .ref 69), (1, .int ((X.2 1))), (2, .int ((X.2 2)))]) rfl rfl rfl rfl f_X12_ship (hW.s rfl) rfl rfl rfl rfl rfl ?_
    refine ev_loc f_X12_ship (nx := 1) rfl rfl rfl rfl ?_
    refine ev_loc f_X12_ship (nx := 2) rfl rfl rfl rfl ?_
    refine ev_inV2 f_X12_ship (nx := 5) (lo2 := [(0, .ref 69), (1, .int ((X.2 1)))]) rfl rfl rfl rfl f_X12_isShip (hW.s rfl) rfl rfl rfl rfl rfl ?_
    refine ev_loc f_X12_isShip (nx := 1) rfl rfl rfl rfl ?_
    refine ev_t f_X12_isShip (t1 := 18) (t2 := 4) rfl rfl rfl (by rw [Int32.lt_iff_toInt_lt, (by decide : (0 : Int32).toInt = 0)]; omega) ?_
    refine ev_ic f_X12_isShip (nx := 19) (v := 0) rfl (by decide) rfl ?_
    refine ev_retK1 f_X12_isShip rfl rfl rfl ?_
    refine ev_t f_X12_ship (t1 := 37) (t2 := 8) rfl rfl rfl (by decide) ?_
    refine ev_loc f_X12_ship (nx := 38) rfl rfl rfl rfl ?_
    refine ev_ic f_X12_ship (nx := 39) (v := 1) rfl (by decide) rfl ?_
    refine ev_inV2 f_X12_ship (nx := 42) (lo2 := [(0, .ref 69), (1, .int 1)]) rfl rfl rfl rfl f_X12_refuse (hW.s rfl) rfl rfl rfl rfl rfl ?_
    refine ev_loc f_X12_refuse (nx := 1) rfl rfl rfl rfl ?_
    refine ev_loc f_X12_refuse (nx := 2) rfl rfl rfl rfl ?_
    refine ev_putI f_X12_refuse (nx := 5) rfl (hW.s rfl) rfl rfl rfl ?_
    refine ev_ic f_X12_refuse (nx := 6) (v := -1) rfl (by decide) rfl ?_
    refine ev_retK1 f_X12_refuse rfl rfl rfl ?_
    refine ev_retK1 f_X12_ship rfl rfl rfl ?_
    refine ev_t f_L_law (t1 := 1628) (t2 := 684) rfl rfl rfl (by decide) ?_
    refine ev_incv f_L_law (nx := 1631) (c := 6) (w := 6) (lo' := [(3, .int 6), (2, .ref 69), (1, .ref 0), (0, .retAddr 30)]) rfl rfl (by decide) (by decide) rfl rfl rfl ?_
    refine ev_jmp f_L_law (nx := 18) rfl rfl rfl ?_
    refine ev_loc f_L_law (nx := 19) rfl rfl rfl rfl ?_
    refine ev_loc f_L_law (nx := 20) rfl rfl rfl rfl ?_
    refine ev_alenX f_L_law (nx := 21) rfl hX rfl ?_
    refine ev_bp f_L_law (nx := 23) (v := 6) rfl (by decide) rfl ?_
    refine ev_aluvI f_L_law (nx := 24) (w := 0) rfl rfl rfl (by decide) rfl ?_
    refine ev_t f_L_law (t1 := 1634) (t2 := 27) rfl rfl rfl (by decide) ?_
    refine ev_ic f_L_law (nx := 1635) (v := 1) rfl (by decide) rfl ?_
    refine ev_ret f_L_law rfl rfl rfl ?_
    exact ⟨rfl, hz⟩
  · have q17 := h17; rw [Int32.lt_iff_toInt_lt, (by decide : (0 : Int32).toInt = 0)] at q17
    refine ev_loc f_X11_isShip (nx := 5) rfl rfl rfl rfl ?_
    refine ev_loc f_X11_isShip (nx := 6) rfl rfl rfl rfl ?_
    refine ev_getR f_X11_isShip (nx := 9) rfl (hW.s rfl) rfl rfl (wr_0_6 (gr := gr) hR) rfl rfl ?_
    refine ev_getR f_X11_isShip (nx := 12) rfl (hW.s rfl) rfl rfl (hW.r rfl) rfl rfl ?_
    refine ev_gvI f_X11_isShip (nx := 15) (w := 0) rfl (hW.s rfl) rfl rfl (wi_6_0 (gi := gi) hR) rfl ?_
    refine ev_t f_X11_isShip (t1 := 22) (t2 := 18) rfl rfl rfl (by rw [Int32.le_iff_toInt_le, (by decide : (0 : Int32).toInt = 0)]; omega) ?_
    refine ev_ic f_X11_isShip (nx := 23) (v := 0) rfl (by decide) rfl ?_
    refine ev_retK1 f_X11_isShip rfl rfl rfl ?_
    refine ev_t f_X11_ship (t1 := 8) (t2 := 14) rfl rfl rfl (by decide) ?_
    refine ev_loc f_X11_ship (nx := 9) rfl rfl rfl rfl ?_
    refine ev_ic f_X11_ship (nx := 10) (v := 1) rfl (by decide) rfl ?_
    refine ev_inV2 f_X11_ship (nx := 13) (lo2 := [(0, .ref 0), (1, .int 1)]) rfl rfl rfl rfl f_X11_refuse (hW.s rfl) rfl rfl rfl rfl rfl ?_
    refine ev_loc f_X11_refuse (nx := 1) rfl rfl rfl rfl ?_
    refine ev_loc f_X11_refuse (nx := 2) rfl rfl rfl rfl ?_
    refine ev_putI f_X11_refuse (nx := 5) rfl (hW.s rfl) rfl rfl rfl ?_
    refine ev_ic f_X11_refuse (nx := 6) (v := -1) rfl (by decide) rfl ?_
    refine ev_retK1 f_X11_refuse rfl rfl rfl ?_
    refine ev_retK1 f_X11_ship rfl rfl rfl ?_
    refine ev_loc f_L_law (nx := 668) rfl rfl rfl rfl ?_
    refine ev_loc f_L_law (nx := 669) rfl rfl rfl rfl ?_
    refine ev_loc f_L_law (nx := 670) rfl rfl rfl rfl ?_
    refine ev_ic f_L_law (nx := 671) (v := 1) rfl (by decide) rfl ?_
    refine ev_aluvI f_L_law (nx := 672) (w := 1) rfl rfl rfl (by decide) rfl ?_
    refine ev_scr f_L_law (nx := 673) (j := 1) rfl hX (by decide) (by decide) (by decide) rfl ?_
    refine ev_loc f_L_law (nx := 674) rfl rfl rfl rfl ?_
    refine ev_loc f_L_law (nx := 675) rfl rfl rfl rfl ?_
    refine ev_ic f_L_law (nx := 676) (v := 2) rfl (by decide) rfl ?_
    refine ev_aluvI f_L_law (nx := 677) (w := 2) rfl rfl rfl (by decide) rfl ?_
    refine ev_scr f_L_law (nx := 678) (j := 2) rfl hX (by decide) (by decide) (by decide) rfl ?_
    refine ev_inV3 f_L_law (nx := 681) (lo2 := [(0, .ref 69), (1, .int ((X.2 1))), (2, .int ((X.2 2)))]) rfl rfl rfl rfl f_X12_ship (hW.s rfl) rfl rfl rfl rfl rfl ?_
    refine ev_loc f_X12_ship (nx := 1) rfl rfl rfl rfl ?_
    refine ev_loc f_X12_ship (nx := 2) rfl rfl rfl rfl ?_
    refine ev_inV2 f_X12_ship (nx := 5) (lo2 := [(0, .ref 69), (1, .int ((X.2 1)))]) rfl rfl rfl rfl f_X12_isShip (hW.s rfl) rfl rfl rfl rfl rfl ?_
    refine ev_loc f_X12_isShip (nx := 1) rfl rfl rfl rfl ?_
    refine ev_f f_X12_isShip (t1 := 18) (t2 := 4) rfl rfl rfl (by rw [Int32.lt_iff_toInt_lt, (by decide : (0 : Int32).toInt = 0)]; omega) ?_
    refine ev_loc f_X12_isShip (nx := 5) rfl rfl rfl rfl ?_
    refine ev_loc f_X12_isShip (nx := 6) rfl rfl rfl rfl ?_
    refine ev_getR f_X12_isShip (nx := 9) rfl (hW.s rfl) rfl rfl (hW.r rfl) rfl rfl ?_
    refine ev_ic f_X12_isShip (nx := 10) (v := 1) rfl (by decide) rfl ?_
    refine ev_ialdv f_X12_isShip (nx := 11) (j := 1) (w := 0) rfl (hW.s rfl) (by decide) (by decide) (by decide) (wi_70_1 (gi := gi) hR) rfl ?_
    refine ev_t f_X12_isShip (t1 := 18) (t2 := 14) rfl rfl rfl (by rw [Int32.le_iff_toInt_le, (by decide : (0 : Int32).toInt = 0)]; omega) ?_
    refine ev_ic f_X12_isShip (nx := 19) (v := 0) rfl (by decide) rfl ?_
    refine ev_retK1 f_X12_isShip rfl rfl rfl ?_
    refine ev_t f_X12_ship (t1 := 37) (t2 := 8) rfl rfl rfl (by decide) ?_
    refine ev_loc f_X12_ship (nx := 38) rfl rfl rfl rfl ?_
    refine ev_ic f_X12_ship (nx := 39) (v := 1) rfl (by decide) rfl ?_
    refine ev_inV2 f_X12_ship (nx := 42) (lo2 := [(0, .ref 69), (1, .int 1)]) rfl rfl rfl rfl f_X12_refuse (hW.s rfl) rfl rfl rfl rfl rfl ?_
    refine ev_loc f_X12_refuse (nx := 1) rfl rfl rfl rfl ?_
    refine ev_loc f_X12_refuse (nx := 2) rfl rfl rfl rfl ?_
    refine ev_putI f_X12_refuse (nx := 5) rfl (hW.s rfl) rfl rfl rfl ?_
    refine ev_ic f_X12_refuse (nx := 6) (v := -1) rfl (by decide) rfl ?_
    refine ev_retK1 f_X12_refuse rfl rfl rfl ?_
    refine ev_retK1 f_X12_ship rfl rfl rfl ?_
    refine ev_t f_L_law (t1 := 1628) (t2 := 684) rfl rfl rfl (by decide) ?_
    refine ev_incv f_L_law (nx := 1631) (c := 6) (w := 6) (lo' := [(3, .int 6), (2, .ref 69), (1, .ref 0), (0, .retAddr 30)]) rfl rfl (by decide) (by decide) rfl rfl rfl ?_
    refine ev_jmp f_L_law (nx := 18) rfl rfl rfl ?_
    refine ev_loc f_L_law (nx := 19) rfl rfl rfl rfl ?_
    refine ev_loc f_L_law (nx := 20) rfl rfl rfl rfl ?_
    refine ev_alenX f_L_law (nx := 21) rfl hX rfl ?_
    refine ev_bp f_L_law (nx := 23) (v := 6) rfl (by decide) rfl ?_
    refine ev_aluvI f_L_law (nx := 24) (w := 0) rfl rfl rfl (by decide) rfl ?_
    refine ev_t f_L_law (t1 := 1634) (t2 := 27) rfl rfl rfl (by decide) ?_
    refine ev_ic f_L_law (nx := 1635) (v := 1) rfl (by decide) rfl ?_
    refine ev_ret f_L_law rfl rfl rfl ?_
    exact ⟨rfl, hz⟩
set_option maxRecDepth 20000 in
theorem pc_13 (hR : x_R W1 (sh, gi, gl, gr)) (hX : X.1 = 6) : x_Ev X 1000 n_L_law 686 [(3, .int 0), (2, .ref 69), (1, .ref 0), (0, .retAddr 30)] [] (sh, gi, gl, gr) x_P1 := by
  have hW := W1_WF hR
  have hz := W1_hz hR
  refine ev_loc f_L_law (nx := 687) rfl rfl rfl rfl ?_
  refine ev_loc f_L_law (nx := 688) rfl rfl rfl rfl ?_
  refine ev_loc f_L_law (nx := 689) rfl rfl rfl rfl ?_
  refine ev_ic f_L_law (nx := 690) (v := 1) rfl (by decide) rfl ?_
  refine ev_aluvI f_L_law (nx := 691) (w := 1) rfl rfl rfl (by decide) rfl ?_
  refine ev_scr f_L_law (nx := 692) (j := 1) rfl hX (by decide) (by decide) (by decide) rfl ?_
  refine ev_loc f_L_law (nx := 693) rfl rfl rfl rfl ?_
  refine ev_loc f_L_law (nx := 694) rfl rfl rfl rfl ?_
  refine ev_ic f_L_law (nx := 695) (v := 2) rfl (by decide) rfl ?_
  refine ev_aluvI f_L_law (nx := 696) (w := 2) rfl rfl rfl (by decide) rfl ?_
  refine ev_scr f_L_law (nx := 697) (j := 2) rfl hX (by decide) (by decide) (by decide) rfl ?_
  refine ev_inV3 f_L_law (nx := 700) (lo2 := [(0, .ref 0), (1, .int ((X.2 1))), (2, .int ((X.2 2)))]) rfl rfl rfl rfl f_X11_cart (hW.s rfl) rfl rfl rfl rfl rfl ?_
  refine ev_loc f_X11_cart (nx := 1) rfl rfl rfl rfl ?_
  refine ev_loc f_X11_cart (nx := 2) rfl rfl rfl rfl ?_
  refine ev_inV2 f_X11_cart (nx := 5) (lo2 := [(0, .ref 0), (1, .int ((X.2 1)))]) rfl rfl rfl rfl f_X11_isCart (hW.s rfl) rfl rfl rfl rfl rfl ?_
  refine ev_loc f_X11_isCart (nx := 1) rfl rfl rfl rfl ?_
  refine ev_if f_X11_isCart (t1 := 22) (t2 := 4) rfl rfl rfl (fun h17 => ?_) (fun h17 => ?_)
  · have q17 := h17; rw [Int32.lt_iff_toInt_lt, (by decide : (0 : Int32).toInt = 0)] at q17
    refine ev_ic f_X11_isCart (nx := 23) (v := 0) rfl (by decide) rfl ?_
    refine ev_retK1 f_X11_isCart rfl rfl rfl ?_
    refine ev_t f_X11_cart (t1 := 8) (t2 := 14) rfl rfl rfl (by decide) ?_
    refine ev_loc f_X11_cart (nx := 9) rfl rfl rfl rfl ?_
    refine ev_ic f_X11_cart (nx := 10) (v := 1) rfl (by decide) rfl ?_
    refine ev_inV2 f_X11_cart (nx := 13) (lo2 := [(0, .ref 0), (1, .int 1)]) rfl rfl rfl rfl f_X11_refuse (hW.s rfl) rfl rfl rfl rfl rfl ?_
    refine ev_loc f_X11_refuse (nx := 1) rfl rfl rfl rfl ?_
    refine ev_loc f_X11_refuse (nx := 2) rfl rfl rfl rfl ?_
    refine ev_putI f_X11_refuse (nx := 5) rfl (hW.s rfl) rfl rfl rfl ?_
    refine ev_ic f_X11_refuse (nx := 6) (v := -1) rfl (by decide) rfl ?_
    refine ev_retK1 f_X11_refuse rfl rfl rfl ?_
    refine ev_retK1 f_X11_cart rfl rfl rfl ?_
    refine ev_loc f_L_law (nx := 701) rfl rfl rfl rfl ?_
    refine ev_loc f_L_law (nx := 702) rfl rfl rfl rfl ?_
    refine ev_loc f_L_law (nx := 703) rfl rfl rfl rfl ?_
    refine ev_ic f_L_law (nx := 704) (v := 1) rfl (by decide) rfl ?_
    refine ev_aluvI f_L_law (nx := 705) (w := 1) rfl rfl rfl (by decide) rfl ?_
    refine ev_scr f_L_law (nx := 706) (j := 1) rfl hX (by decide) (by decide) (by decide) rfl ?_
    refine ev_loc f_L_law (nx := 707) rfl rfl rfl rfl ?_
    refine ev_loc f_L_law (nx := 708) rfl rfl rfl rfl ?_
    refine ev_ic f_L_law (nx := 709) (v := 2) rfl (by decide) rfl ?_
    refine ev_aluvI f_L_law (nx := 710) (w := 2) rfl rfl rfl (by decide) rfl ?_
    refine ev_scr f_L_law (nx := 711) (j := 2) rfl hX (by decide) (by decide) (by decide) rfl ?_
    refine ev_inV3 f_L_law (nx := 714) (lo2 := [(0, .ref 69), (1, .int ((X.2 1))), (2, .int ((X.2 2)))]) rfl rfl rfl rfl f_X12_cart (hW.s rfl) rfl rfl rfl rfl rfl ?_
    refine ev_loc f_X12_cart (nx := 1) rfl rfl rfl rfl ?_
    refine ev_loc f_X12_cart (nx := 2) rfl rfl rfl rfl ?_
    refine ev_inV2 f_X12_cart (nx := 5) (lo2 := [(0, .ref 69), (1, .int ((X.2 1)))]) rfl rfl rfl rfl f_X12_isCart (hW.s rfl) rfl rfl rfl rfl rfl ?_
    refine ev_loc f_X12_isCart (nx := 1) rfl rfl rfl rfl ?_
    refine ev_t f_X12_isCart (t1 := 18) (t2 := 4) rfl rfl rfl (by rw [Int32.lt_iff_toInt_lt, (by decide : (0 : Int32).toInt = 0)]; omega) ?_
    refine ev_ic f_X12_isCart (nx := 19) (v := 0) rfl (by decide) rfl ?_
    refine ev_retK1 f_X12_isCart rfl rfl rfl ?_
    refine ev_t f_X12_cart (t1 := 37) (t2 := 8) rfl rfl rfl (by decide) ?_
    refine ev_loc f_X12_cart (nx := 38) rfl rfl rfl rfl ?_
    refine ev_ic f_X12_cart (nx := 39) (v := 1) rfl (by decide) rfl ?_
    refine ev_inV2 f_X12_cart (nx := 42) (lo2 := [(0, .ref 69), (1, .int 1)]) rfl rfl rfl rfl f_X12_refuse (hW.s rfl) rfl rfl rfl rfl rfl ?_
    refine ev_loc f_X12_refuse (nx := 1) rfl rfl rfl rfl ?_
    refine ev_loc f_X12_refuse (nx := 2) rfl rfl rfl rfl ?_
    refine ev_putI f_X12_refuse (nx := 5) rfl (hW.s rfl) rfl rfl rfl ?_
    refine ev_ic f_X12_refuse (nx := 6) (v := -1) rfl (by decide) rfl ?_
    refine ev_retK1 f_X12_refuse rfl rfl rfl ?_
    refine ev_retK1 f_X12_cart rfl rfl rfl ?_
    refine ev_t f_L_law (t1 := 1628) (t2 := 717) rfl rfl rfl (by decide) ?_
    refine ev_incv f_L_law (nx := 1631) (c := 6) (w := 6) (lo' := [(3, .int 6), (2, .ref 69), (1, .ref 0), (0, .retAddr 30)]) rfl rfl (by decide) (by decide) rfl rfl rfl ?_
    refine ev_jmp f_L_law (nx := 18) rfl rfl rfl ?_
    refine ev_loc f_L_law (nx := 19) rfl rfl rfl rfl ?_
    refine ev_loc f_L_law (nx := 20) rfl rfl rfl rfl ?_
    refine ev_alenX f_L_law (nx := 21) rfl hX rfl ?_
    refine ev_bp f_L_law (nx := 23) (v := 6) rfl (by decide) rfl ?_
    refine ev_aluvI f_L_law (nx := 24) (w := 0) rfl rfl rfl (by decide) rfl ?_
    refine ev_t f_L_law (t1 := 1634) (t2 := 27) rfl rfl rfl (by decide) ?_
    refine ev_ic f_L_law (nx := 1635) (v := 1) rfl (by decide) rfl ?_
    refine ev_ret f_L_law rfl rfl rfl ?_
    exact ⟨rfl, hz⟩
  · have q17 := h17; rw [Int32.lt_iff_toInt_lt, (by decide : (0 : Int32).toInt = 0)] at q17
    refine ev_loc f_X11_isCart (nx := 5) rfl rfl rfl rfl ?_
    refine ev_loc f_X11_isCart (nx := 6) rfl rfl rfl rfl ?_
    refine ev_getR f_X11_isCart (nx := 9) rfl (hW.s rfl) rfl rfl (wr_0_6 (gr := gr) hR) rfl rfl ?_
    refine ev_getR f_X11_isCart (nx := 12) rfl (hW.s rfl) rfl rfl (hW.r rfl) rfl rfl ?_
    refine ev_gvI f_X11_isCart (nx := 15) (w := 0) rfl (hW.s rfl) rfl rfl (wi_13_0 (gi := gi) hR) rfl ?_
    refine ev_t f_X11_isCart (t1 := 22) (t2 := 18) rfl rfl rfl (by rw [Int32.le_iff_toInt_le, (by decide : (0 : Int32).toInt = 0)]; omega) ?_
    refine ev_ic f_X11_isCart (nx := 23) (v := 0) rfl (by decide) rfl ?_
    refine ev_retK1 f_X11_isCart rfl rfl rfl ?_
    refine ev_t f_X11_cart (t1 := 8) (t2 := 14) rfl rfl rfl (by decide) ?_
    refine ev_loc f_X11_cart (nx := 9) rfl rfl rfl rfl ?_
    refine ev_ic f_X11_cart (nx := 10) (v := 1) rfl (by decide) rfl ?_
    refine ev_inV2 f_X11_cart (nx := 13) (lo2 := [(0, .ref 0), (1, .int 1)]) rfl rfl rfl rfl f_X11_refuse (hW.s rfl) rfl rfl rfl rfl rfl ?_
    refine ev_loc f_X11_refuse (nx := 1) rfl rfl rfl rfl ?_
    refine ev_loc f_X11_refuse (nx := 2) rfl rfl rfl rfl ?_
    refine ev_putI f_X11_refuse (nx := 5) rfl (hW.s rfl) rfl rfl rfl ?_
    refine ev_ic f_X11_refuse (nx := 6) (v := -1) rfl (by decide) rfl ?_
    refine ev_retK1 f_X11_refuse rfl rfl rfl ?_
    refine ev_retK1 f_X11_cart rfl rfl rfl ?_
    refine ev_loc f_L_law (nx := 701) rfl rfl rfl rfl ?_
    refine ev_loc f_L_law (nx := 702) rfl rfl rfl rfl ?_
    refine ev_loc f_L_law (nx := 703) rfl rfl rfl rfl ?_
    refine ev_ic f_L_law (nx := 704) (v := 1) rfl (by decide) rfl ?_
    refine ev_aluvI f_L_law (nx := 705) (w := 1) rfl rfl rfl (by decide) rfl ?_
    refine ev_scr f_L_law (nx := 706) (j := 1) rfl hX (by decide) (by decide) (by decide) rfl ?_
    refine ev_loc f_L_law (nx := 707) rfl rfl rfl rfl ?_
    refine ev_loc f_L_law (nx := 708) rfl rfl rfl rfl ?_
    refine ev_ic f_L_law (nx := 709) (v := 2) rfl (by decide) rfl ?_
    refine ev_aluvI f_L_law (nx := 710) (w := 2) rfl rfl rfl (by decide) rfl ?_
    refine ev_scr f_L_law (nx := 711) (j := 2) rfl hX (by decide) (by decide) (by decide) rfl ?_
    refine ev_inV3 f_L_law (nx := 714) (lo2 := [(0, .ref 69), (1, .int ((X.2 1))), (2, .int ((X.2 2)))]) rfl rfl rfl rfl f_X12_cart (hW.s rfl) rfl rfl rfl rfl rfl ?_
    refine ev_loc f_X12_cart (nx := 1) rfl rfl rfl rfl ?_
    refine ev_loc f_X12_cart (nx := 2) rfl rfl rfl rfl ?_
    refine ev_inV2 f_X12_cart (nx := 5) (lo2 := [(0, .ref 69), (1, .int ((X.2 1)))]) rfl rfl rfl rfl f_X12_isCart (hW.s rfl) rfl rfl rfl rfl rfl ?_
    refine ev_loc f_X12_isCart (nx := 1) rfl rfl rfl rfl ?_
    refine ev_f f_X12_isCart (t1 := 18) (t2 := 4) rfl rfl rfl (by rw [Int32.lt_iff_toInt_lt, (by decide : (0 : Int32).toInt = 0)]; omega) ?_
    refine ev_loc f_X12_isCart (nx := 5) rfl rfl rfl rfl ?_
    refine ev_loc f_X12_isCart (nx := 6) rfl rfl rfl rfl ?_
    refine ev_getR f_X12_isCart (nx := 9) rfl (hW.s rfl) rfl rfl (hW.r rfl) rfl rfl ?_
    refine ev_ic f_X12_isCart (nx := 10) (v := 2) rfl (by decide) rfl ?_
    refine ev_ialdv f_X12_isCart (nx := 11) (j := 2) (w := 0) rfl (hW.s rfl) (by decide) (by decide) (by decide) (wi_70_2 (gi := gi) hR) rfl ?_
    refine ev_t f_X12_isCart (t1 := 18) (t2 := 14) rfl rfl rfl (by rw [Int32.le_iff_toInt_le, (by decide : (0 : Int32).toInt = 0)]; omega) ?_
    refine ev_ic f_X12_isCart (nx := 19) (v := 0) rfl (by decide) rfl ?_
    refine ev_retK1 f_X12_isCart rfl rfl rfl ?_
    refine ev_t f_X12_cart (t1 := 37) (t2 := 8) rfl rfl rfl (by decide) ?_
    refine ev_loc f_X12_cart (nx := 38) rfl rfl rfl rfl ?_
    refine ev_ic f_X12_cart (nx := 39) (v := 1) rfl (by decide) rfl ?_
    refine ev_inV2 f_X12_cart (nx := 42) (lo2 := [(0, .ref 69), (1, .int 1)]) rfl rfl rfl rfl f_X12_refuse (hW.s rfl) rfl rfl rfl rfl rfl ?_
    refine ev_loc f_X12_refuse (nx := 1) rfl rfl rfl rfl ?_
    refine ev_loc f_X12_refuse (nx := 2) rfl rfl rfl rfl ?_
    refine ev_putI f_X12_refuse (nx := 5) rfl (hW.s rfl) rfl rfl rfl ?_
    refine ev_ic f_X12_refuse (nx := 6) (v := -1) rfl (by decide) rfl ?_
    refine ev_retK1 f_X12_refuse rfl rfl rfl ?_
    refine ev_retK1 f_X12_cart rfl rfl rfl ?_
    refine ev_t f_L_law (t1 := 1628) (t2 := 717) rfl rfl rfl (by decide) ?_
    refine ev_incv f_L_law (nx := 1631) (c := 6) (w := 6) (lo' := [(3, .int 6), (2, .ref 69), (1, .ref 0), (0, .retAddr 30)]) rfl rfl (by decide) (by decide) rfl rfl rfl ?_
    refine ev_jmp f_L_law (nx := 18) rfl rfl rfl ?_
    refine ev_loc f_L_law (nx := 19) rfl rfl rfl rfl ?_
    refine ev_loc f_L_law (nx := 20) rfl rfl rfl rfl ?_
    refine ev_alenX f_L_law (nx := 21) rfl hX rfl ?_
    refine ev_bp f_L_law (nx := 23) (v := 6) rfl (by decide) rfl ?_
    refine ev_aluvI f_L_law (nx := 24) (w := 0) rfl rfl rfl (by decide) rfl ?_
    refine ev_t f_L_law (t1 := 1634) (t2 := 27) rfl rfl rfl (by decide) ?_
    refine ev_ic f_L_law (nx := 1635) (v := 1) rfl (by decide) rfl ?_
    refine ev_ret f_L_law rfl rfl rfl ?_
    exact ⟨rfl, hz⟩
set_option maxRecDepth 20000 in
theorem pc_14 (hR : x_R W1 (sh, gi, gl, gr)) (hX : X.1 = 6) : x_Ev X 1000 n_L_law 719 [(3, .int 0), (2, .ref 69), (1, .ref 0), (0, .retAddr 30)] [] (sh, gi, gl, gr) x_P1 := by
  have hW := W1_WF hR
  have hz := W1_hz hR
  refine ev_loc f_L_law (nx := 720) rfl rfl rfl rfl ?_
  refine ev_loc f_L_law (nx := 721) rfl rfl rfl rfl ?_
  refine ev_loc f_L_law (nx := 722) rfl rfl rfl rfl ?_
  refine ev_ic f_L_law (nx := 723) (v := 1) rfl (by decide) rfl ?_
  refine ev_aluvI f_L_law (nx := 724) (w := 1) rfl rfl rfl (by decide) rfl ?_
  refine ev_scr f_L_law (nx := 725) (j := 1) rfl hX (by decide) (by decide) (by decide) rfl ?_
  refine ev_inV2 f_L_law (nx := 728) (lo2 := [(0, .ref 0), (1, .int ((X.2 1)))]) rfl rfl rfl rfl f_X11_nextShip (hW.s rfl) rfl rfl rfl rfl rfl ?_
  refine ev_loc f_X11_nextShip (nx := 1) rfl rfl rfl rfl ?_
  refine ev_loc f_X11_nextShip (nx := 2) rfl rfl rfl rfl ?_
  refine ev_inV2 f_X11_nextShip (nx := 5) (lo2 := [(0, .ref 0), (1, .int ((X.2 1)))]) rfl rfl rfl rfl f_X11_isShip (hW.s rfl) rfl rfl rfl rfl rfl ?_
  refine ev_loc f_X11_isShip (nx := 1) rfl rfl rfl rfl ?_
  refine ev_if f_X11_isShip (t1 := 22) (t2 := 4) rfl rfl rfl (fun h12 => ?_) (fun h12 => ?_)
  · have q12 := h12; rw [Int32.lt_iff_toInt_lt, (by decide : (0 : Int32).toInt = 0)] at q12
    refine ev_ic f_X11_isShip (nx := 23) (v := 0) rfl (by decide) rfl ?_
    refine ev_retK1 f_X11_isShip rfl rfl rfl ?_
    refine ev_t f_X11_nextShip (t1 := 8) (t2 := 15) rfl rfl rfl (by decide) ?_
    refine ev_loc f_X11_nextShip (nx := 9) rfl rfl rfl rfl ?_
    refine ev_bp f_X11_nextShip (nx := 11) (v := 6) rfl (by decide) rfl ?_
    refine ev_inV2 f_X11_nextShip (nx := 14) (lo2 := [(0, .ref 0), (1, .int 6)]) rfl rfl rfl rfl f_X11_refuse (hW.s rfl) rfl rfl rfl rfl rfl ?_
    refine ev_loc f_X11_refuse (nx := 1) rfl rfl rfl rfl ?_
    refine ev_loc f_X11_refuse (nx := 2) rfl rfl rfl rfl ?_
    refine ev_putI f_X11_refuse (nx := 5) rfl (hW.s rfl) rfl rfl rfl ?_
    refine ev_ic f_X11_refuse (nx := 6) (v := -1) rfl (by decide) rfl ?_
    refine ev_retK1 f_X11_refuse rfl rfl rfl ?_
    refine ev_retK1 f_X11_nextShip rfl rfl rfl ?_
    refine ev_loc f_L_law (nx := 729) rfl rfl rfl rfl ?_
    refine ev_loc f_L_law (nx := 730) rfl rfl rfl rfl ?_
    refine ev_loc f_L_law (nx := 731) rfl rfl rfl rfl ?_
    refine ev_ic f_L_law (nx := 732) (v := 1) rfl (by decide) rfl ?_
    refine ev_aluvI f_L_law (nx := 733) (w := 1) rfl rfl rfl (by decide) rfl ?_
    refine ev_scr f_L_law (nx := 734) (j := 1) rfl hX (by decide) (by decide) (by decide) rfl ?_
    refine ev_inV2 f_L_law (nx := 737) (lo2 := [(0, .ref 69), (1, .int ((X.2 1)))]) rfl rfl rfl rfl f_X12_nextShip (hW.s rfl) rfl rfl rfl rfl rfl ?_
    refine ev_loc f_X12_nextShip (nx := 1) rfl rfl rfl rfl ?_
    refine ev_inV1 f_X12_nextShip (nx := 4) (lo2 := [(0, .ref 69)]) rfl rfl rfl rfl f_X12_tellsMinutes (hW.s rfl) rfl rfl rfl rfl rfl ?_
    refine ev_ic f_X12_tellsMinutes (nx := 1) (v := 0) rfl (by decide) rfl ?_
    refine ev_loc f_X12_tellsMinutes (nx := 2) (lo' := [(1, .int 0), (0, .ref 69)]) rfl rfl rfl rfl ?_
    refine ev_loc f_X12_tellsMinutes (nx := 3) rfl rfl rfl rfl ?_
    refine ev_bp f_X12_tellsMinutes (nx := 5) (v := 6) rfl (by decide) rfl ?_
    refine ev_f f_X12_tellsMinutes (t1 := 33) (t2 := 8) rfl rfl rfl (by decide) ?_
    refine ev_loc f_X12_tellsMinutes (nx := 9) rfl rfl rfl rfl ?_
    refine ev_getR f_X12_tellsMinutes (nx := 12) rfl (hW.s rfl) rfl rfl (hW.r rfl) rfl rfl ?_
    refine ev_loc f_X12_tellsMinutes (nx := 13) rfl rfl rfl rfl ?_
    refine ev_loc f_X12_tellsMinutes (nx := 14) rfl rfl rfl rfl ?_
    refine ev_getR f_X12_tellsMinutes (nx := 17) rfl (hW.s rfl) rfl rfl (hW.r rfl) rfl rfl ?_
    refine ev_bp f_X12_tellsMinutes (nx := 19) (v := 52) rfl (by decide) rfl ?_
    refine ev_ic f_X12_tellsMinutes (nx := 20) (v := 5) rfl (by decide) rfl ?_
    refine ev_loc f_X12_tellsMinutes (nx := 21) rfl rfl rfl rfl ?_
    refine ev_aluvI f_X12_tellsMinutes (nx := 22) (w := 0) rfl rfl rfl (by decide) rfl ?_
    refine ev_aluvI f_X12_tellsMinutes (nx := 23) (w := 52) rfl rfl rfl (by decide) rfl ?_
    refine ev_ic f_X12_tellsMinutes (nx := 24) (v := 1) rfl (by decide) rfl ?_
    refine ev_aluvI f_X12_tellsMinutes (nx := 25) (w := 53) rfl rfl rfl (by decide) rfl ?_
    refine ev_ialdv f_X12_tellsMinutes (nx := 26) (j := 53) (w := 0) rfl (hW.s rfl) (by decide) (by decide) (by decide) (wi_70_53 (gi := gi) hR) rfl ?_
    refine ev_iastv f_X12_tellsMinutes (nx := 27) (j := 0) rfl (hW.s rfl) (by decide) (by decide) (by decide) rfl ?_
    refine ev_incv f_X12_tellsMinutes (nx := 30) (c := 1) (w := 1) (lo' := [(1, .int 1), (0, .ref 69)]) rfl rfl (by decide) (by decide) rfl rfl rfl ?_
    refine ev_jmp f_X12_tellsMinutes (nx := 2) rfl rfl rfl ?_
    refine ev_loc f_X12_tellsMinutes (nx := 3) rfl rfl rfl rfl ?_
    refine ev_bp f_X12_tellsMinutes (nx := 5) (v := 6) rfl (by decide) rfl ?_
    refine ev_f f_X12_tellsMinutes (t1 := 33) (t2 := 8) rfl rfl rfl (by decide) ?_
    refine ev_loc f_X12_tellsMinutes (nx := 9) rfl rfl rfl rfl ?_
    refine ev_getR f_X12_tellsMinutes (nx := 12) rfl (hW.s rfl) rfl rfl (hW.r rfl) rfl rfl ?_
    refine ev_loc f_X12_tellsMinutes (nx := 13) rfl rfl rfl rfl ?_
    refine ev_loc f_X12_tellsMinutes (nx := 14) rfl rfl rfl rfl ?_
    refine ev_getR f_X12_tellsMinutes (nx := 17) rfl (hW.s rfl) rfl rfl (hW.r rfl) rfl rfl ?_
    refine ev_bp f_X12_tellsMinutes (nx := 19) (v := 52) rfl (by decide) rfl ?_
    refine ev_ic f_X12_tellsMinutes (nx := 20) (v := 5) rfl (by decide) rfl ?_
    refine ev_loc f_X12_tellsMinutes (nx := 21) rfl rfl rfl rfl ?_
    refine ev_aluvI f_X12_tellsMinutes (nx := 22) (w := 5) rfl rfl rfl (by decide) rfl ?_
    refine ev_aluvI f_X12_tellsMinutes (nx := 23) (w := 57) rfl rfl rfl (by decide) rfl ?_
    refine ev_ic f_X12_tellsMinutes (nx := 24) (v := 1) rfl (by decide) rfl ?_
    refine ev_aluvI f_X12_tellsMinutes (nx := 25) (w := 58) rfl rfl rfl (by decide) rfl ?_
    refine ev_ialdv f_X12_tellsMinutes (nx := 26) (j := 58) (w := 0) rfl (hW.s rfl) (by decide) (by decide) (by decide) (wi_70_58 (gi := gi) hR) rfl ?_
    refine ev_iastv f_X12_tellsMinutes (nx := 27) (j := 1) rfl (hW.s rfl) (by decide) (by decide) (by decide) rfl ?_
    refine ev_incv f_X12_tellsMinutes (nx := 30) (c := 1) (w := 2) (lo' := [(1, .int 2), (0, .ref 69)]) rfl rfl (by decide) (by decide) rfl rfl rfl ?_
    refine ev_jmp f_X12_tellsMinutes (nx := 2) rfl rfl rfl ?_
    refine ev_loc f_X12_tellsMinutes (nx := 3) rfl rfl rfl rfl ?_
    refine ev_bp f_X12_tellsMinutes (nx := 5) (v := 6) rfl (by decide) rfl ?_
    refine ev_f f_X12_tellsMinutes (t1 := 33) (t2 := 8) rfl rfl rfl (by decide) ?_
    refine ev_loc f_X12_tellsMinutes (nx := 9) rfl rfl rfl rfl ?_
    refine ev_getR f_X12_tellsMinutes (nx := 12) rfl (hW.s rfl) rfl rfl (hW.r rfl) rfl rfl ?_
    refine ev_loc f_X12_tellsMinutes (nx := 13) rfl rfl rfl rfl ?_
    refine ev_loc f_X12_tellsMinutes (nx := 14) rfl rfl rfl rfl ?_
    refine ev_getR f_X12_tellsMinutes (nx := 17) rfl (hW.s rfl) rfl rfl (hW.r rfl) rfl rfl ?_
    refine ev_bp f_X12_tellsMinutes (nx := 19) (v := 52) rfl (by decide) rfl ?_
    refine ev_ic f_X12_tellsMinutes (nx := 20) (v := 5) rfl (by decide) rfl ?_
    refine ev_loc f_X12_tellsMinutes (nx := 21) rfl rfl rfl rfl ?_
    refine ev_aluvI f_X12_tellsMinutes (nx := 22) (w := 10) rfl rfl rfl (by decide) rfl ?_
    refine ev_aluvI f_X12_tellsMinutes (nx := 23) (w := 62) rfl rfl rfl (by decide) rfl ?_
    refine ev_ic f_X12_tellsMinutes (nx := 24) (v := 1) rfl (by decide) rfl ?_
    refine ev_aluvI f_X12_tellsMinutes (nx := 25) (w := 63) rfl rfl rfl (by decide) rfl ?_
    refine ev_ialdv f_X12_tellsMinutes (nx := 26) (j := 63) (w := 0) rfl (hW.s rfl) (by decide) (by decide) (by decide) (wi_70_63 (gi := gi) hR) rfl ?_
    refine ev_iastv f_X12_tellsMinutes (nx := 27) (j := 2) rfl (hW.s rfl) (by decide) (by decide) (by decide) rfl ?_
    refine ev_incv f_X12_tellsMinutes (nx := 30) (c := 1) (w := 3) (lo' := [(1, .int 3), (0, .ref 69)]) rfl rfl (by decide) (by decide) rfl rfl rfl ?_
    refine ev_jmp f_X12_tellsMinutes (nx := 2) rfl rfl rfl ?_
    refine ev_loc f_X12_tellsMinutes (nx := 3) rfl rfl rfl rfl ?_
    refine ev_bp f_X12_tellsMinutes (nx := 5) (v := 6) rfl (by decide) rfl ?_
    refine ev_f f_X12_tellsMinutes (t1 := 33) (t2 := 8) rfl rfl rfl (by decide) ?_
    refine ev_loc f_X12_tellsMinutes (nx := 9) rfl rfl rfl rfl ?_
    refine ev_getR f_X12_tellsMinutes (nx := 12) rfl (hW.s rfl) rfl rfl (hW.r rfl) rfl rfl ?_
    refine ev_loc f_X12_tellsMinutes (nx := 13) rfl rfl rfl rfl ?_
    refine ev_loc f_X12_tellsMinutes (nx := 14) rfl rfl rfl rfl ?_
    refine ev_getR f_X12_tellsMinutes (nx := 17) rfl (hW.s rfl) rfl rfl (hW.r rfl) rfl rfl ?_
    refine ev_bp f_X12_tellsMinutes (nx := 19) (v := 52) rfl (by decide) rfl ?_
    refine ev_ic f_X12_tellsMinutes (nx := 20) (v := 5) rfl (by decide) rfl ?_
    refine ev_loc f_X12_tellsMinutes (nx := 21) rfl rfl rfl rfl ?_
    refine ev_aluvI f_X12_tellsMinutes (nx := 22) (w := 15) rfl rfl rfl (by decide) rfl ?_
    refine ev_aluvI f_X12_tellsMinutes (nx := 23) (w := 67) rfl rfl rfl (by decide) rfl ?_
    refine ev_ic f_X12_tellsMinutes (nx := 24) (v := 1) rfl (by decide) rfl ?_
    refine ev_aluvI f_X12_tellsMinutes (nx := 25) (w := 68) rfl rfl rfl (by decide) rfl ?_
    refine ev_ialdv f_X12_tellsMinutes (nx := 26) (j := 68) (w := 0) rfl (hW.s rfl) (by decide) (by decide) (by decide) (wi_70_68 (gi := gi) hR) rfl ?_
    refine ev_iastv f_X12_tellsMinutes (nx := 27) (j := 3) rfl (hW.s rfl) (by decide) (by decide) (by decide) rfl ?_
    refine ev_incv f_X12_tellsMinutes (nx := 30) (c := 1) (w := 4) (lo' := [(1, .int 4), (0, .ref 69)]) rfl rfl (by decide) (by decide) rfl rfl rfl ?_
    refine ev_jmp f_X12_tellsMinutes (nx := 2) rfl rfl rfl ?_
    refine ev_loc f_X12_tellsMinutes (nx := 3) rfl rfl rfl rfl ?_
    refine ev_bp f_X12_tellsMinutes (nx := 5) (v := 6) rfl (by decide) rfl ?_
    refine ev_f f_X12_tellsMinutes (t1 := 33) (t2 := 8) rfl rfl rfl (by decide) ?_
    refine ev_loc f_X12_tellsMinutes (nx := 9) rfl rfl rfl rfl ?_
    refine ev_getR f_X12_tellsMinutes (nx := 12) rfl (hW.s rfl) rfl rfl (hW.r rfl) rfl rfl ?_
    refine ev_loc f_X12_tellsMinutes (nx := 13) rfl rfl rfl rfl ?_
    refine ev_loc f_X12_tellsMinutes (nx := 14) rfl rfl rfl rfl ?_
    refine ev_getR f_X12_tellsMinutes (nx := 17) rfl (hW.s rfl) rfl rfl (hW.r rfl) rfl rfl ?_
    refine ev_bp f_X12_tellsMinutes (nx := 19) (v := 52) rfl (by decide) rfl ?_
    refine ev_ic f_X12_tellsMinutes (nx := 20) (v := 5) rfl (by decide) rfl ?_
    refine ev_loc f_X12_tellsMinutes (nx := 21) rfl rfl rfl rfl ?_
    refine ev_aluvI f_X12_tellsMinutes (nx := 22) (w := 20) rfl rfl rfl (by decide) rfl ?_
    refine ev_aluvI f_X12_tellsMinutes (nx := 23) (w := 72) rfl rfl rfl (by decide) rfl ?_
    refine ev_ic f_X12_tellsMinutes (nx := 24) (v := 1) rfl (by decide) rfl ?_
    refine ev_aluvI f_X12_tellsMinutes (nx := 25) (w := 73) rfl rfl rfl (by decide) rfl ?_
    refine ev_ialdv f_X12_tellsMinutes (nx := 26) (j := 73) (w := 0) rfl (hW.s rfl) (by decide) (by decide) (by decide) (wi_70_73 (gi := gi) hR) rfl ?_
    refine ev_iastv f_X12_tellsMinutes (nx := 27) (j := 4) rfl (hW.s rfl) (by decide) (by decide) (by decide) rfl ?_
    refine ev_incv f_X12_tellsMinutes (nx := 30) (c := 1) (w := 5) (lo' := [(1, .int 5), (0, .ref 69)]) rfl rfl (by decide) (by decide) rfl rfl rfl ?_
    refine ev_jmp f_X12_tellsMinutes (nx := 2) rfl rfl rfl ?_
    refine ev_loc f_X12_tellsMinutes (nx := 3) rfl rfl rfl rfl ?_
    refine ev_bp f_X12_tellsMinutes (nx := 5) (v := 6) rfl (by decide) rfl ?_
    refine ev_f f_X12_tellsMinutes (t1 := 33) (t2 := 8) rfl rfl rfl (by decide) ?_
    refine ev_loc f_X12_tellsMinutes (nx := 9) rfl rfl rfl rfl ?_
    refine ev_getR f_X12_tellsMinutes (nx := 12) rfl (hW.s rfl) rfl rfl (hW.r rfl) rfl rfl ?_
    refine ev_loc f_X12_tellsMinutes (nx := 13) rfl rfl rfl rfl ?_
    refine ev_loc f_X12_tellsMinutes (nx := 14) rfl rfl rfl rfl ?_
    refine ev_getR f_X12_tellsMinutes (nx := 17) rfl (hW.s rfl) rfl rfl (hW.r rfl) rfl rfl ?_
    refine ev_bp f_X12_tellsMinutes (nx := 19) (v := 52) rfl (by decide) rfl ?_
    refine ev_ic f_X12_tellsMinutes (nx := 20) (v := 5) rfl (by decide) rfl ?_
    refine ev_loc f_X12_tellsMinutes (nx := 21) rfl rfl rfl rfl ?_
    refine ev_aluvI f_X12_tellsMinutes (nx := 22) (w := 25) rfl rfl rfl (by decide) rfl ?_
    refine ev_aluvI f_X12_tellsMinutes (nx := 23) (w := 77) rfl rfl rfl (by decide) rfl ?_
    refine ev_ic f_X12_tellsMinutes (nx := 24) (v := 1) rfl (by decide) rfl ?_
    refine ev_aluvI f_X12_tellsMinutes (nx := 25) (w := 78) rfl rfl rfl (by decide) rfl ?_
    refine ev_ialdv f_X12_tellsMinutes (nx := 26) (j := 78) (w := 0) rfl (hW.s rfl) (by decide) (by decide) (by decide) (wi_70_78 (gi := gi) hR) rfl ?_
    refine ev_iastv f_X12_tellsMinutes (nx := 27) (j := 5) rfl (hW.s rfl) (by decide) (by decide) (by decide) rfl ?_
    refine ev_incv f_X12_tellsMinutes (nx := 30) (c := 1) (w := 6) (lo' := [(1, .int 6), (0, .ref 69)]) rfl rfl (by decide) (by decide) rfl rfl rfl ?_
    refine ev_jmp f_X12_tellsMinutes (nx := 2) rfl rfl rfl ?_
    refine ev_loc f_X12_tellsMinutes (nx := 3) rfl rfl rfl rfl ?_
    refine ev_bp f_X12_tellsMinutes (nx := 5) (v := 6) rfl (by decide) rfl ?_
    refine ev_t f_X12_tellsMinutes (t1 := 33) (t2 := 8) rfl rfl rfl (by decide) ?_
    refine ev_ic f_X12_tellsMinutes (nx := 34) (v := 0) rfl (by decide) rfl ?_
    refine ev_loc f_X12_tellsMinutes (nx := 35) (lo' := [(1, .int 0), (0, .ref 69)]) rfl rfl rfl rfl ?_
    refine ev_loc f_X12_tellsMinutes (nx := 36) rfl rfl rfl rfl ?_
    refine ev_bp f_X12_tellsMinutes (nx := 38) (v := 6) rfl (by decide) rfl ?_
    refine ev_f f_X12_tellsMinutes (t1 := 67) (t2 := 41) rfl rfl rfl (by decide) ?_
    refine ev_loc f_X12_tellsMinutes (nx := 42) rfl rfl rfl rfl ?_
    refine ev_getR f_X12_tellsMinutes (nx := 45) rfl (hW.s rfl) rfl rfl (hW.r rfl) rfl rfl ?_
    refine ev_bp f_X12_tellsMinutes (nx := 47) (v := 6) rfl (by decide) rfl ?_
    refine ev_loc f_X12_tellsMinutes (nx := 48) rfl rfl rfl rfl ?_
    refine ev_aluvI f_X12_tellsMinutes (nx := 49) (w := 6) rfl rfl rfl (by decide) rfl ?_
    refine ev_loc f_X12_tellsMinutes (nx := 50) rfl rfl rfl rfl ?_
    refine ev_getR f_X12_tellsMinutes (nx := 53) rfl (hW.s rfl) rfl rfl (hW.r rfl) rfl rfl ?_
    refine ev_bp f_X12_tellsMinutes (nx := 55) (v := 82) rfl (by decide) rfl ?_
    refine ev_ic f_X12_tellsMinutes (nx := 56) (v := 3) rfl (by decide) rfl ?_
    refine ev_loc f_X12_tellsMinutes (nx := 57) rfl rfl rfl rfl ?_
    refine ev_aluvI f_X12_tellsMinutes (nx := 58) (w := 0) rfl rfl rfl (by decide) rfl ?_
    refine ev_aluvI f_X12_tellsMinutes (nx := 59) (w := 82) rfl rfl rfl (by decide) rfl ?_
    refine ev_ialdv f_X12_tellsMinutes (nx := 60) (j := 82) (w := 0) rfl (hW.s rfl) (by decide) (by decide) (by decide) (wi_70_82 (gi := gi) hR) rfl ?_
    refine ev_iastv f_X12_tellsMinutes (nx := 61) (j := 6) rfl (hW.s rfl) (by decide) (by decide) (by decide) rfl ?_
    refine ev_incv f_X12_tellsMinutes (nx := 64) (c := 1) (w := 1) (lo' := [(1, .int 1), (0, .ref 69)]) rfl rfl (by decide) (by decide) rfl rfl rfl ?_
    refine ev_jmp f_X12_tellsMinutes (nx := 35) rfl rfl rfl ?_
    refine ev_loc f_X12_tellsMinutes (nx := 36) rfl rfl rfl rfl ?_
    refine ev_bp f_X12_tellsMinutes (nx := 38) (v := 6) rfl (by decide) rfl ?_
    refine ev_f f_X12_tellsMinutes (t1 := 67) (t2 := 41) rfl rfl rfl (by decide) ?_
    refine ev_loc f_X12_tellsMinutes (nx := 42) rfl rfl rfl rfl ?_
    refine ev_getR f_X12_tellsMinutes (nx := 45) rfl (hW.s rfl) rfl rfl (hW.r rfl) rfl rfl ?_
    refine ev_bp f_X12_tellsMinutes (nx := 47) (v := 6) rfl (by decide) rfl ?_
    refine ev_loc f_X12_tellsMinutes (nx := 48) rfl rfl rfl rfl ?_
    refine ev_aluvI f_X12_tellsMinutes (nx := 49) (w := 7) rfl rfl rfl (by decide) rfl ?_
    refine ev_loc f_X12_tellsMinutes (nx := 50) rfl rfl rfl rfl ?_
    refine ev_getR f_X12_tellsMinutes (nx := 53) rfl (hW.s rfl) rfl rfl (hW.r rfl) rfl rfl ?_
    refine ev_bp f_X12_tellsMinutes (nx := 55) (v := 82) rfl (by decide) rfl ?_
    refine ev_ic f_X12_tellsMinutes (nx := 56) (v := 3) rfl (by decide) rfl ?_
    refine ev_loc f_X12_tellsMinutes (nx := 57) rfl rfl rfl rfl ?_
    refine ev_aluvI f_X12_tellsMinutes (nx := 58) (w := 3) rfl rfl rfl (by decide) rfl ?_
    refine ev_aluvI f_X12_tellsMinutes (nx := 59) (w := 85) rfl rfl rfl (by decide) rfl ?_
    refine ev_ialdv f_X12_tellsMinutes (nx := 60) (j := 85) (w := 0) rfl (hW.s rfl) (by decide) (by decide) (by decide) (wi_70_85 (gi := gi) hR) rfl ?_
    refine ev_iastv f_X12_tellsMinutes (nx := 61) (j := 7) rfl (hW.s rfl) (by decide) (by decide) (by decide) rfl ?_
    refine ev_incv f_X12_tellsMinutes (nx := 64) (c := 1) (w := 2) (lo' := [(1, .int 2), (0, .ref 69)]) rfl rfl (by decide) (by decide) rfl rfl rfl ?_
    refine ev_jmp f_X12_tellsMinutes (nx := 35) rfl rfl rfl ?_
    refine ev_loc f_X12_tellsMinutes (nx := 36) rfl rfl rfl rfl ?_
    refine ev_bp f_X12_tellsMinutes (nx := 38) (v := 6) rfl (by decide) rfl ?_
    refine ev_f f_X12_tellsMinutes (t1 := 67) (t2 := 41) rfl rfl rfl (by decide) ?_
    refine ev_loc f_X12_tellsMinutes (nx := 42) rfl rfl rfl rfl ?_
    refine ev_getR f_X12_tellsMinutes (nx := 45) rfl (hW.s rfl) rfl rfl (hW.r rfl) rfl rfl ?_
    refine ev_bp f_X12_tellsMinutes (nx := 47) (v := 6) rfl (by decide) rfl ?_
    refine ev_loc f_X12_tellsMinutes (nx := 48) rfl rfl rfl rfl ?_
    refine ev_aluvI f_X12_tellsMinutes (nx := 49) (w := 8) rfl rfl rfl (by decide) rfl ?_
    refine ev_loc f_X12_tellsMinutes (nx := 50) rfl rfl rfl rfl ?_
    refine ev_getR f_X12_tellsMinutes (nx := 53) rfl (hW.s rfl) rfl rfl (hW.r rfl) rfl rfl ?_
    refine ev_bp f_X12_tellsMinutes (nx := 55) (v := 82) rfl (by decide) rfl ?_
    refine ev_ic f_X12_tellsMinutes (nx := 56) (v := 3) rfl (by decide) rfl ?_
    refine ev_loc f_X12_tellsMinutes (nx := 57) rfl rfl rfl rfl ?_
    refine ev_aluvI f_X12_tellsMinutes (nx := 58) (w := 6) rfl rfl rfl (by decide) rfl ?_
    refine ev_aluvI f_X12_tellsMinutes (nx := 59) (w := 88) rfl rfl rfl (by decide) rfl ?_
    refine ev_ialdv f_X12_tellsMinutes (nx := 60) (j := 88) (w := 0) rfl (hW.s rfl) (by decide) (by decide) (by decide) (wi_70_88 (gi := gi) hR) rfl ?_
    refine ev_iastv f_X12_tellsMinutes (nx := 61) (j := 8) rfl (hW.s rfl) (by decide) (by decide) (by decide) rfl ?_
    refine ev_incv f_X12_tellsMinutes (nx := 64) (c := 1) (w := 3) (lo' := [(1, .int 3), (0, .ref 69)]) rfl rfl (by decide) (by decide) rfl rfl rfl ?_
    refine ev_jmp f_X12_tellsMinutes (nx := 35) rfl rfl rfl ?_
    refine ev_loc f_X12_tellsMinutes (nx := 36) rfl rfl rfl rfl ?_
    refine ev_bp f_X12_tellsMinutes (nx := 38) (v := 6) rfl (by decide) rfl ?_
    refine ev_f f_X12_tellsMinutes (t1 := 67) (t2 := 41) rfl rfl rfl (by decide) ?_
    refine ev_loc f_X12_tellsMinutes (nx := 42) rfl rfl rfl rfl ?_
    refine ev_getR f_X12_tellsMinutes (nx := 45) rfl (hW.s rfl) rfl rfl (hW.r rfl) rfl rfl ?_
    refine ev_bp f_X12_tellsMinutes (nx := 47) (v := 6) rfl (by decide) rfl ?_
    refine ev_loc f_X12_tellsMinutes (nx := 48) rfl rfl rfl rfl ?_
    refine ev_aluvI f_X12_tellsMinutes (nx := 49) (w := 9) rfl rfl rfl (by decide) rfl ?_
    refine ev_loc f_X12_tellsMinutes (nx := 50) rfl rfl rfl rfl ?_
    refine ev_getR f_X12_tellsMinutes (nx := 53) rfl (hW.s rfl) rfl rfl (hW.r rfl) rfl rfl ?_
    refine ev_bp f_X12_tellsMinutes (nx := 55) (v := 82) rfl (by decide) rfl ?_
    refine ev_ic f_X12_tellsMinutes (nx := 56) (v := 3) rfl (by decide) rfl ?_
    refine ev_loc f_X12_tellsMinutes (nx := 57) rfl rfl rfl rfl ?_
    refine ev_aluvI f_X12_tellsMinutes (nx := 58) (w := 9) rfl rfl rfl (by decide) rfl ?_
    refine ev_aluvI f_X12_tellsMinutes (nx := 59) (w := 91) rfl rfl rfl (by decide) rfl ?_
    refine ev_ialdv f_X12_tellsMinutes (nx := 60) (j := 91) (w := 0) rfl (hW.s rfl) (by decide) (by decide) (by decide) (wi_70_91 (gi := gi) hR) rfl ?_
    refine ev_iastv f_X12_tellsMinutes (nx := 61) (j := 9) rfl (hW.s rfl) (by decide) (by decide) (by decide) rfl ?_
    refine ev_incv f_X12_tellsMinutes (nx := 64) (c := 1) (w := 4) (lo' := [(1, .int 4), (0, .ref 69)]) rfl rfl (by decide) (by decide) rfl rfl rfl ?_
    refine ev_jmp f_X12_tellsMinutes (nx := 35) rfl rfl rfl ?_
    refine ev_loc f_X12_tellsMinutes (nx := 36) rfl rfl rfl rfl ?_
    refine ev_bp f_X12_tellsMinutes (nx := 38) (v := 6) rfl (by decide) rfl ?_
    refine ev_f f_X12_tellsMinutes (t1 := 67) (t2 := 41) rfl rfl rfl (by decide) ?_
    refine ev_loc f_X12_tellsMinutes (nx := 42) rfl rfl rfl rfl ?_
    refine ev_getR f_X12_tellsMinutes (nx := 45) rfl (hW.s rfl) rfl rfl (hW.r rfl) rfl rfl ?_
    refine ev_bp f_X12_tellsMinutes (nx := 47) (v := 6) rfl (by decide) rfl ?_
    refine ev_loc f_X12_tellsMinutes (nx := 48) rfl rfl rfl rfl ?_
    refine ev_aluvI f_X12_tellsMinutes (nx := 49) (w := 10) rfl rfl rfl (by decide) rfl ?_
    refine ev_loc f_X12_tellsMinutes (nx := 50) rfl rfl rfl rfl ?_
    refine ev_getR f_X12_tellsMinutes (nx := 53) rfl (hW.s rfl) rfl rfl (hW.r rfl) rfl rfl ?_
    refine ev_bp f_X12_tellsMinutes (nx := 55) (v := 82) rfl (by decide) rfl ?_
    refine ev_ic f_X12_tellsMinutes (nx := 56) (v := 3) rfl (by decide) rfl ?_
    refine ev_loc f_X12_tellsMinutes (nx := 57) rfl rfl rfl rfl ?_
    refine ev_aluvI f_X12_tellsMinutes (nx := 58) (w := 12) rfl rfl rfl (by decide) rfl ?_
    refine ev_aluvI f_X12_tellsMinutes (nx := 59) (w := 94) rfl rfl rfl (by decide) rfl ?_
    refine ev_ialdv f_X12_tellsMinutes (nx := 60) (j := 94) (w := 0) rfl (hW.s rfl) (by decide) (by decide) (by decide) (wi_70_94 (gi := gi) hR) rfl ?_
    refine ev_iastv f_X12_tellsMinutes (nx := 61) (j := 10) rfl (hW.s rfl) (by decide) (by decide) (by decide) rfl ?_
    refine ev_incv f_X12_tellsMinutes (nx := 64) (c := 1) (w := 5) (lo' := [(1, .int 5), (0, .ref 69)]) rfl rfl (by decide) (by decide) rfl rfl rfl ?_
    refine ev_jmp f_X12_tellsMinutes (nx := 35) rfl rfl rfl ?_
    refine ev_loc f_X12_tellsMinutes (nx := 36) rfl rfl rfl rfl ?_
    refine ev_bp f_X12_tellsMinutes (nx := 38) (v := 6) rfl (by decide) rfl ?_
    refine ev_f f_X12_tellsMinutes (t1 := 67) (t2 := 41) rfl rfl rfl (by decide) ?_
    refine ev_loc f_X12_tellsMinutes (nx := 42) rfl rfl rfl rfl ?_
    refine ev_getR f_X12_tellsMinutes (nx := 45) rfl (hW.s rfl) rfl rfl (hW.r rfl) rfl rfl ?_
    refine ev_bp f_X12_tellsMinutes (nx := 47) (v := 6) rfl (by decide) rfl ?_
    refine ev_loc f_X12_tellsMinutes (nx := 48) rfl rfl rfl rfl ?_
    refine ev_aluvI f_X12_tellsMinutes (nx := 49) (w := 11) rfl rfl rfl (by decide) rfl ?_
    refine ev_loc f_X12_tellsMinutes (nx := 50) rfl rfl rfl rfl ?_
    refine ev_getR f_X12_tellsMinutes (nx := 53) rfl (hW.s rfl) rfl rfl (hW.r rfl) rfl rfl ?_
    refine ev_bp f_X12_tellsMinutes (nx := 55) (v := 82) rfl (by decide) rfl ?_
    refine ev_ic f_X12_tellsMinutes (nx := 56) (v := 3) rfl (by decide) rfl ?_
    refine ev_loc f_X12_tellsMinutes (nx := 57) rfl rfl rfl rfl ?_
    refine ev_aluvI f_X12_tellsMinutes (nx := 58) (w := 15) rfl rfl rfl (by decide) rfl ?_
    refine ev_aluvI f_X12_tellsMinutes (nx := 59) (w := 97) rfl rfl rfl (by decide) rfl ?_
    refine ev_ialdv f_X12_tellsMinutes (nx := 60) (j := 97) (w := 0) rfl (hW.s rfl) (by decide) (by decide) (by decide) (wi_70_97 (gi := gi) hR) rfl ?_
    refine ev_iastv f_X12_tellsMinutes (nx := 61) (j := 11) rfl (hW.s rfl) (by decide) (by decide) (by decide) rfl ?_
    refine ev_incv f_X12_tellsMinutes (nx := 64) (c := 1) (w := 6) (lo' := [(1, .int 6), (0, .ref 69)]) rfl rfl (by decide) (by decide) rfl rfl rfl ?_
    refine ev_jmp f_X12_tellsMinutes (nx := 35) rfl rfl rfl ?_
    refine ev_loc f_X12_tellsMinutes (nx := 36) rfl rfl rfl rfl ?_
    refine ev_bp f_X12_tellsMinutes (nx := 38) (v := 6) rfl (by decide) rfl ?_
    refine ev_t f_X12_tellsMinutes (t1 := 67) (t2 := 41) rfl rfl rfl (by decide) ?_
    refine ev_retK0 f_X12_tellsMinutes rfl rfl rfl ?_
    refine ev_loc f_X12_nextShip (nx := 5) rfl rfl rfl rfl ?_
    refine ev_ic f_X12_nextShip (nx := 6) (v := 0) rfl (by decide) rfl ?_
    refine ev_inV2 f_X12_nextShip (nx := 9) (lo2 := [(0, .ref 69), (1, .int 0)]) rfl rfl rfl rfl f_X12_orders (hW.s rfl) rfl rfl rfl rfl rfl ?_
    refine ev_loc f_X12_orders (nx := 1) rfl rfl rfl rfl ?_
    refine ev_ic f_X12_orders (nx := 2) (v := 0) rfl (by decide) rfl ?_
    refine ev_putI f_X12_orders (nx := 5) rfl (hW.s rfl) rfl rfl rfl ?_
    refine ev_loc f_X12_orders (nx := 6) rfl rfl rfl rfl ?_
    refine ev_ic f_X12_orders (nx := 7) (v := 0) rfl (by decide) rfl ?_
    refine ev_putI f_X12_orders (nx := 10) rfl (hW.s rfl) rfl rfl rfl ?_
    refine ev_ic f_X12_orders (nx := 11) (v := 0) rfl (by decide) rfl ?_
    refine ev_loc f_X12_orders (nx := 12) (lo' := [(2, .int 0), (0, .ref 69), (1, .int 0)]) rfl rfl rfl rfl ?_
    refine ev_loc f_X12_orders (nx := 13) rfl rfl rfl rfl ?_
    refine ev_loc f_X12_orders (nx := 14) rfl rfl rfl rfl ?_
    refine ev_getR f_X12_orders (nx := 17) rfl (hW.s rfl) rfl rfl (hW.r rfl) rfl rfl ?_
    refine ev_ic f_X12_orders (nx := 18) (v := 1) rfl (by decide) rfl ?_
    refine ev_ialdv f_X12_orders (nx := 19) (j := 1) (w := 0) rfl (hW.s rfl) (by decide) (by decide) (by decide) (wi_70_1 (gi := gi) hR) rfl ?_
    refine ev_t f_X12_orders (t1 := 108) (t2 := 22) rfl rfl rfl (by decide) ?_
    refine ev_ic f_X12_orders (nx := 109) (v := 0) rfl (by decide) rfl ?_
    refine ev_loc f_X12_orders (nx := 110) (lo' := [(2, .int 0), (0, .ref 69), (1, .int 0)]) rfl rfl rfl rfl ?_
    refine ev_loc f_X12_orders (nx := 111) rfl rfl rfl rfl ?_
    refine ev_loc f_X12_orders (nx := 112) rfl rfl rfl rfl ?_
    refine ev_getR f_X12_orders (nx := 115) rfl (hW.s rfl) rfl rfl (hW.r rfl) rfl rfl ?_
    refine ev_ic f_X12_orders (nx := 116) (v := 2) rfl (by decide) rfl ?_
    refine ev_ialdv f_X12_orders (nx := 117) (j := 2) (w := 0) rfl (hW.s rfl) (by decide) (by decide) (by decide) (wi_70_2 (gi := gi) hR) rfl ?_
    refine ev_t f_X12_orders (t1 := 211) (t2 := 120) rfl rfl rfl (by decide) ?_
    refine ev_retK0 f_X12_orders rfl rfl rfl ?_
    refine ev_loc f_X12_nextShip (nx := 10) rfl rfl rfl rfl ?_
    refine ev_t f_X12_nextShip (t1 := 21) (t2 := 13) rfl rfl rfl (by rw [Int32.lt_iff_toInt_lt, (by decide : (0 : Int32).toInt = 0)]; omega) ?_
    refine ev_loc f_X12_nextShip (nx := 22) rfl rfl rfl rfl ?_
    refine ev_bp f_X12_nextShip (nx := 24) (v := 6) rfl (by decide) rfl ?_
    refine ev_inV2 f_X12_nextShip (nx := 27) (lo2 := [(0, .ref 69), (1, .int 6)]) rfl rfl rfl rfl f_X12_refuse (hW.s rfl) rfl rfl rfl rfl rfl ?_
    refine ev_loc f_X12_refuse (nx := 1) rfl rfl rfl rfl ?_
    refine ev_loc f_X12_refuse (nx := 2) rfl rfl rfl rfl ?_
    refine ev_putI f_X12_refuse (nx := 5) rfl (hW.s rfl) rfl rfl rfl ?_
    refine ev_ic f_X12_refuse (nx := 6) (v := -1) rfl (by decide) rfl ?_
    refine ev_retK1 f_X12_refuse rfl rfl rfl ?_
    refine ev_jmp f_X12_nextShip (nx := 40) rfl rfl rfl ?_
    refine ev_retK1 f_X12_nextShip rfl rfl rfl ?_
    refine ev_t f_L_law (t1 := 1628) (t2 := 740) rfl rfl rfl (by decide) ?_
    refine ev_incv f_L_law (nx := 1631) (c := 6) (w := 6) (lo' := [(3, .int 6), (2, .ref 69), (1, .ref 0), (0, .retAddr 30)]) rfl rfl (by decide) (by decide) rfl rfl rfl ?_
    refine ev_jmp f_L_law (nx := 18) rfl rfl rfl ?_
    refine ev_loc f_L_law (nx := 19) rfl rfl rfl rfl ?_
    refine ev_loc f_L_law (nx := 20) rfl rfl rfl rfl ?_
    refine ev_alenX f_L_law (nx := 21) rfl hX rfl ?_
    refine ev_bp f_L_law (nx := 23) (v := 6) rfl (by decide) rfl ?_
    refine ev_aluvI f_L_law (nx := 24) (w := 0) rfl rfl rfl (by decide) rfl ?_
    refine ev_t f_L_law (t1 := 1634) (t2 := 27) rfl rfl rfl (by decide) ?_
    refine ev_ic f_L_law (nx := 1635) (v := 1) rfl (by decide) rfl ?_
    refine ev_ret f_L_law rfl rfl rfl ?_
    exact ⟨rfl, hz⟩
  · have q12 := h12; rw [Int32.lt_iff_toInt_lt, (by decide : (0 : Int32).toInt = 0)] at q12
    refine ev_loc f_X11_isShip (nx := 5) rfl rfl rfl rfl ?_
    refine ev_loc f_X11_isShip (nx := 6) rfl rfl rfl rfl ?_
    refine ev_getR f_X11_isShip (nx := 9) rfl (hW.s rfl) rfl rfl (wr_0_6 (gr := gr) hR) rfl rfl ?_
    refine ev_getR f_X11_isShip (nx := 12) rfl (hW.s rfl) rfl rfl (hW.r rfl) rfl rfl ?_
    refine ev_gvI f_X11_isShip (nx := 15) (w := 0) rfl (hW.s rfl) rfl rfl (wi_6_0 (gi := gi) hR) rfl ?_
    refine ev_t f_X11_isShip (t1 := 22) (t2 := 18) rfl rfl rfl (by rw [Int32.le_iff_toInt_le, (by decide : (0 : Int32).toInt = 0)]; omega) ?_
    refine ev_ic f_X11_isShip (nx := 23) (v := 0) rfl (by decide) rfl ?_
    refine ev_retK1 f_X11_isShip rfl rfl rfl ?_
    refine ev_t f_X11_nextShip (t1 := 8) (t2 := 15) rfl rfl rfl (by decide) ?_
    refine ev_loc f_X11_nextShip (nx := 9) rfl rfl rfl rfl ?_
    refine ev_bp f_X11_nextShip (nx := 11) (v := 6) rfl (by decide) rfl ?_
    refine ev_inV2 f_X11_nextShip (nx := 14) (lo2 := [(0, .ref 0), (1, .int 6)]) rfl rfl rfl rfl f_X11_refuse (hW.s rfl) rfl rfl rfl rfl rfl ?_
    refine ev_loc f_X11_refuse (nx := 1) rfl rfl rfl rfl ?_
    refine ev_loc f_X11_refuse (nx := 2) rfl rfl rfl rfl ?_
    refine ev_putI f_X11_refuse (nx := 5) rfl (hW.s rfl) rfl rfl rfl ?_
    refine ev_ic f_X11_refuse (nx := 6) (v := -1) rfl (by decide) rfl ?_
    refine ev_retK1 f_X11_refuse rfl rfl rfl ?_
    refine ev_retK1 f_X11_nextShip rfl rfl rfl ?_
    refine ev_loc f_L_law (nx := 729) rfl rfl rfl rfl ?_
    refine ev_loc f_L_law (nx := 730) rfl rfl rfl rfl ?_
    refine ev_loc f_L_law (nx := 731) rfl rfl rfl rfl ?_
    refine ev_ic f_L_law (nx := 732) (v := 1) rfl (by decide) rfl ?_
    refine ev_aluvI f_L_law (nx := 733) (w := 1) rfl rfl rfl (by decide) rfl ?_
    refine ev_scr f_L_law (nx := 734) (j := 1) rfl hX (by decide) (by decide) (by decide) rfl ?_
    refine ev_inV2 f_L_law (nx := 737) (lo2 := [(0, .ref 69), (1, .int ((X.2 1)))]) rfl rfl rfl rfl f_X12_nextShip (hW.s rfl) rfl rfl rfl rfl rfl ?_
    refine ev_loc f_X12_nextShip (nx := 1) rfl rfl rfl rfl ?_
    refine ev_inV1 f_X12_nextShip (nx := 4) (lo2 := [(0, .ref 69)]) rfl rfl rfl rfl f_X12_tellsMinutes (hW.s rfl) rfl rfl rfl rfl rfl ?_
    refine ev_ic f_X12_tellsMinutes (nx := 1) (v := 0) rfl (by decide) rfl ?_
    refine ev_loc f_X12_tellsMinutes (nx := 2) (lo' := [(1, .int 0), (0, .ref 69)]) rfl rfl rfl rfl ?_
    refine ev_loc f_X12_tellsMinutes (nx := 3) rfl rfl rfl rfl ?_
    refine ev_bp f_X12_tellsMinutes (nx := 5) (v := 6) rfl (by decide) rfl ?_
    refine ev_f f_X12_tellsMinutes (t1 := 33) (t2 := 8) rfl rfl rfl (by decide) ?_
    refine ev_loc f_X12_tellsMinutes (nx := 9) rfl rfl rfl rfl ?_
    refine ev_getR f_X12_tellsMinutes (nx := 12) rfl (hW.s rfl) rfl rfl (hW.r rfl) rfl rfl ?_
    refine ev_loc f_X12_tellsMinutes (nx := 13) rfl rfl rfl rfl ?_
    refine ev_loc f_X12_tellsMinutes (nx := 14) rfl rfl rfl rfl ?_
    refine ev_getR f_X12_tellsMinutes (nx := 17) rfl (hW.s rfl) rfl rfl (hW.r rfl) rfl rfl ?_
    refine ev_bp f_X12_tellsMinutes (nx := 19) (v := 52) rfl (by decide) rfl ?_
    refine ev_ic f_X12_tellsMinutes (nx := 20) (v := 5) rfl (by decide) rfl ?_
    refine ev_loc f_X12_tellsMinutes (nx := 21) rfl rfl rfl rfl ?_
    refine ev_aluvI f_X12_tellsMinutes (nx := 22) (w := 0) rfl rfl rfl (by decide) rfl ?_
    refine ev_aluvI f_X12_tellsMinutes (nx := 23) (w := 52) rfl rfl rfl (by decide) rfl ?_
    refine ev_ic f_X12_tellsMinutes (nx := 24) (v := 1) rfl (by decide) rfl ?_
    refine ev_aluvI f_X12_tellsMinutes (nx := 25) (w := 53) rfl rfl rfl (by decide) rfl ?_
    refine ev_ialdv f_X12_tellsMinutes (nx := 26) (j := 53) (w := 0) rfl (hW.s rfl) (by decide) (by decide) (by decide) (wi_70_53 (gi := gi) hR) rfl ?_
    refine ev_iastv f_X12_tellsMinutes (nx := 27) (j := 0) rfl (hW.s rfl) (by decide) (by decide) (by decide) rfl ?_
    refine ev_incv f_X12_tellsMinutes (nx := 30) (c := 1) (w := 1) (lo' := [(1, .int 1), (0, .ref 69)]) rfl rfl (by decide) (by decide) rfl rfl rfl ?_
    refine ev_jmp f_X12_tellsMinutes (nx := 2) rfl rfl rfl ?_
    refine ev_loc f_X12_tellsMinutes (nx := 3) rfl rfl rfl rfl ?_
    refine ev_bp f_X12_tellsMinutes (nx := 5) (v := 6) rfl (by decide) rfl ?_
    refine ev_f f_X12_tellsMinutes (t1 := 33) (t2 := 8) rfl rfl rfl (by decide) ?_
    refine ev_loc f_X12_tellsMinutes (nx := 9) rfl rfl rfl rfl ?_
    refine ev_getR f_X12_tellsMinutes (nx := 12) rfl (hW.s rfl) rfl rfl (hW.r rfl) rfl rfl ?_
    refine ev_loc f_X12_tellsMinutes (nx := 13) rfl rfl rfl rfl ?_
    refine ev_loc f_X12_tellsMinutes (nx := 14) rfl rfl rfl rfl ?_
    refine ev_getR f_X12_tellsMinutes (nx := 17) rfl (hW.s rfl) rfl rfl (hW.r rfl) rfl rfl ?_
    refine ev_bp f_X12_tellsMinutes (nx := 19) (v := 52) rfl (by decide) rfl ?_
    refine ev_ic f_X12_tellsMinutes (nx := 20) (v := 5) rfl (by decide) rfl ?_
    refine ev_loc f_X12_tellsMinutes (nx := 21) rfl rfl rfl rfl ?_
    refine ev_aluvI f_X12_tellsMinutes (nx := 22) (w := 5) rfl rfl rfl (by decide) rfl ?_
    refine ev_aluvI f_X12_tellsMinutes (nx := 23) (w := 57) rfl rfl rfl (by decide) rfl ?_
    refine ev_ic f_X12_tellsMinutes (nx := 24) (v := 1) rfl (by decide) rfl ?_
    refine ev_aluvI f_X12_tellsMinutes (nx := 25) (w := 58) rfl rfl rfl (by decide) rfl ?_
    refine ev_ialdv f_X12_tellsMinutes (nx := 26) (j := 58) (w := 0) rfl (hW.s rfl) (by decide) (by decide) (by decide) (wi_70_58 (gi := gi) hR) rfl ?_
    refine ev_iastv f_X12_tellsMinutes (nx := 27) (j := 1) rfl (hW.s rfl) (by decide) (by decide) (by decide) rfl ?_
    refine ev_incv f_X12_tellsMinutes (nx := 30) (c := 1) (w := 2) (lo' := [(1, .int 2), (0, .ref 69)]) rfl rfl (by decide) (by decide) rfl rfl rfl ?_
    refine ev_jmp f_X12_tellsMinutes (nx := 2) rfl rfl rfl ?_
    refine ev_loc f_X12_tellsMinutes (nx := 3) rfl rfl rfl rfl ?_
    refine ev_bp f_X12_tellsMinutes (nx := 5) (v := 6) rfl (by decide) rfl ?_
    refine ev_f f_X12_tellsMinutes (t1 := 33) (t2 := 8) rfl rfl rfl (by decide) ?_
    refine ev_loc f_X12_tellsMinutes (nx := 9) rfl rfl rfl rfl ?_
    refine ev_getR f_X12_tellsMinutes (nx := 12) rfl (hW.s rfl) rfl rfl (hW.r rfl) rfl rfl ?_
    refine ev_loc f_X12_tellsMinutes (nx := 13) rfl rfl rfl rfl ?_
    refine ev_loc f_X12_tellsMinutes (nx := 14) rfl rfl rfl rfl ?_
    refine ev_getR f_X12_tellsMinutes (nx := 17) rfl (hW.s rfl) rfl rfl (hW.r rfl) rfl rfl ?_
    refine ev_bp f_X12_tellsMinutes (nx := 19) (v := 52) rfl (by decide) rfl ?_
    refine ev_ic f_X12_tellsMinutes (nx := 20) (v := 5) rfl (by decide) rfl ?_
    refine ev_loc f_X12_tellsMinutes (nx := 21) rfl rfl rfl rfl ?_
    refine ev_aluvI f_X12_tellsMinutes (nx := 22) (w := 10) rfl rfl rfl (by decide) rfl ?_
    refine ev_aluvI f_X12_tellsMinutes (nx := 23) (w := 62) rfl rfl rfl (by decide) rfl ?_
    refine ev_ic f_X12_tellsMinutes (nx := 24) (v := 1) rfl (by decide) rfl ?_
    refine ev_aluvI f_X12_tellsMinutes (nx := 25) (w := 63) rfl rfl rfl (by decide) rfl ?_
    refine ev_ialdv f_X12_tellsMinutes (nx := 26) (j := 63) (w := 0) rfl (hW.s rfl) (by decide) (by decide) (by decide) (wi_70_63 (gi := gi) hR) rfl ?_
    refine ev_iastv f_X12_tellsMinutes (nx := 27) (j := 2) rfl (hW.s rfl) (by decide) (by decide) (by decide) rfl ?_
    refine ev_incv f_X12_tellsMinutes (nx := 30) (c := 1) (w := 3) (lo' := [(1, .int 3), (0, .ref 69)]) rfl rfl (by decide) (by decide) rfl rfl rfl ?_
    refine ev_jmp f_X12_tellsMinutes (nx := 2) rfl rfl rfl ?_
    refine ev_loc f_X12_tellsMinutes (nx := 3) rfl rfl rfl rfl ?_
    refine ev_bp f_X12_tellsMinutes (nx := 5) (v := 6) rfl (by decide) rfl ?_
    refine ev_f f_X12_tellsMinutes (t1 := 33) (t2 := 8) rfl rfl rfl (by decide) ?_
    refine ev_loc f_X12_tellsMinutes (nx := 9) rfl rfl rfl rfl ?_
    refine ev_getR f_X12_tellsMinutes (nx := 12) rfl (hW.s rfl) rfl rfl (hW.r rfl) rfl rfl ?_
    refine ev_loc f_X12_tellsMinutes (nx := 13) rfl rfl rfl rfl ?_
    refine ev_loc f_X12_tellsMinutes (nx := 14) rfl rfl rfl rfl ?_
    refine ev_getR f_X12_tellsMinutes (nx := 17) rfl (hW.s rfl) rfl rfl (hW.r rfl) rfl rfl ?_
    refine ev_bp f_X12_tellsMinutes (nx := 19) (v := 52) rfl (by decide) rfl ?_
    refine ev_ic f_X12_tellsMinutes (nx := 20) (v := 5) rfl (by decide) rfl ?_
    refine ev_loc f_X12_tellsMinutes (nx := 21) rfl rfl rfl rfl ?_
    refine ev_aluvI f_X12_tellsMinutes (nx := 22) (w := 15) rfl rfl rfl (by decide) rfl ?_
    refine ev_aluvI f_X12_tellsMinutes (nx := 23) (w := 67) rfl rfl rfl (by decide) rfl ?_
    refine ev_ic f_X12_tellsMinutes (nx := 24) (v := 1) rfl (by decide) rfl ?_
    refine ev_aluvI f_X12_tellsMinutes (nx := 25) (w := 68) rfl rfl rfl (by decide) rfl ?_
    refine ev_ialdv f_X12_tellsMinutes (nx := 26) (j := 68) (w := 0) rfl (hW.s rfl) (by decide) (by decide) (by decide) (wi_70_68 (gi := gi) hR) rfl ?_
    refine ev_iastv f_X12_tellsMinutes (nx := 27) (j := 3) rfl (hW.s rfl) (by decide) (by decide) (by decide) rfl ?_
    refine ev_incv f_X12_tellsMinutes (nx := 30) (c := 1) (w := 4) (lo' := [(1, .int 4), (0, .ref 69)]) rfl rfl (by decide) (by decide) rfl rfl rfl ?_
    refine ev_jmp f_X12_tellsMinutes (nx := 2) rfl rfl rfl ?_
    refine ev_loc f_X12_tellsMinutes (nx := 3) rfl rfl rfl rfl ?_
    refine ev_bp f_X12_tellsMinutes (nx := 5) (v := 6) rfl (by decide) rfl ?_
    refine ev_f f_X12_tellsMinutes (t1 := 33) (t2 := 8) rfl rfl rfl (by decide) ?_
    refine ev_loc f_X12_tellsMinutes (nx := 9) rfl rfl rfl rfl ?_
    refine ev_getR f_X12_tellsMinutes (nx := 12) rfl (hW.s rfl) rfl rfl (hW.r rfl) rfl rfl ?_
    refine ev_loc f_X12_tellsMinutes (nx := 13) rfl rfl rfl rfl ?_
    refine ev_loc f_X12_tellsMinutes (nx := 14) rfl rfl rfl rfl ?_
    refine ev_getR f_X12_tellsMinutes (nx := 17) rfl (hW.s rfl) rfl rfl (hW.r rfl) rfl rfl ?_
    refine ev_bp f_X12_tellsMinutes (nx := 19) (v := 52) rfl (by decide) rfl ?_
    refine ev_ic f_X12_tellsMinutes (nx := 20) (v := 5) rfl (by decide) rfl ?_
    refine ev_loc f_X12_tellsMinutes (nx := 21) rfl rfl rfl rfl ?_
    refine ev_aluvI f_X12_tellsMinutes (nx := 22) (w := 20) rfl rfl rfl (by decide) rfl ?_
    refine ev_aluvI f_X12_tellsMinutes (nx := 23) (w := 72) rfl rfl rfl (by decide) rfl ?_
    refine ev_ic f_X12_tellsMinutes (nx := 24) (v := 1) rfl (by decide) rfl ?_
    refine ev_aluvI f_X12_tellsMinutes (nx := 25) (w := 73) rfl rfl rfl (by decide) rfl ?_
    refine ev_ialdv f_X12_tellsMinutes (nx := 26) (j := 73) (w := 0) rfl (hW.s rfl) (by decide) (by decide) (by decide) (wi_70_73 (gi := gi) hR) rfl ?_
    refine ev_iastv f_X12_tellsMinutes (nx := 27) (j := 4) rfl (hW.s rfl) (by decide) (by decide) (by decide) rfl ?_
    refine ev_incv f_X12_tellsMinutes (nx := 30) (c := 1) (w := 5) (lo' := [(1, .int 5), (0, .ref 69)]) rfl rfl (by decide) (by decide) rfl rfl rfl ?_
    refine ev_jmp f_X12_tellsMinutes (nx := 2) rfl rfl rfl ?_
    refine ev_loc f_X12_tellsMinutes (nx := 3) rfl rfl rfl rfl ?_
    refine ev_bp f_X12_tellsMinutes (nx := 5) (v := 6) rfl (by decide) rfl ?_
    refine ev_f f_X12_tellsMinutes (t1 := 33) (t2 := 8) rfl rfl rfl (by decide) ?_
    refine ev_loc f_X12_tellsMinutes (nx := 9) rfl rfl rfl rfl ?_
    refine ev_getR f_X12_tellsMinutes (nx := 12) rfl (hW.s rfl) rfl rfl (hW.r rfl) rfl rfl ?_
    refine ev_loc f_X12_tellsMinutes (nx := 13) rfl rfl rfl rfl ?_
    refine ev_loc f_X12_tellsMinutes (nx := 14) rfl rfl rfl rfl ?_
    refine ev_getR f_X12_tellsMinutes (nx := 17) rfl (hW.s rfl) rfl rfl (hW.r rfl) rfl rfl ?_
    refine ev_bp f_X12_tellsMinutes (nx := 19) (v := 52) rfl (by decide) rfl ?_
    refine ev_ic f_X12_tellsMinutes (nx := 20) (v := 5) rfl (by decide) rfl ?_
    refine ev_loc f_X12_tellsMinutes (nx := 21) rfl rfl rfl rfl ?_
    refine ev_aluvI f_X12_tellsMinutes (nx := 22) (w := 25) rfl rfl rfl (by decide) rfl ?_
    refine ev_aluvI f_X12_tellsMinutes (nx := 23) (w := 77) rfl rfl rfl (by decide) rfl ?_
    refine ev_ic f_X12_tellsMinutes (nx := 24) (v := 1) rfl (by decide) rfl ?_
    refine ev_aluvI f_X12_tellsMinutes (nx := 25) (w := 78) rfl rfl rfl (by decide) rfl ?_
    refine ev_ialdv f_X12_tellsMinutes (nx := 26) (j := 78) (w := 0) rfl (hW.s rfl) (by decide) (by decide) (by decide) (wi_70_78 (gi := gi) hR) rfl ?_
    refine ev_iastv f_X12_tellsMinutes (nx := 27) (j := 5) rfl (hW.s rfl) (by decide) (by decide) (by decide) rfl ?_
    refine ev_incv f_X12_tellsMinutes (nx := 30) (c := 1) (w := 6) (lo' := [(1, .int 6), (0, .ref 69)]) rfl rfl (by decide) (by decide) rfl rfl rfl ?_
    refine ev_jmp f_X12_tellsMinutes (nx := 2) rfl rfl rfl ?_
    refine ev_loc f_X12_tellsMinutes (nx := 3) rfl rfl rfl rfl ?_
    refine ev_bp f_X12_tellsMinutes (nx := 5) (v := 6) rfl (by decide) rfl ?_
    refine ev_t f_X12_tellsMinutes (t1 := 33) (t2 := 8) rfl rfl rfl (by decide) ?_
    refine ev_ic f_X12_tellsMinutes (nx := 34) (v := 0) rfl (by decide) rfl ?_
    refine ev_loc f_X12_tellsMinutes (nx := 35) (lo' := [(1, .int 0), (0, .ref 69)]) rfl rfl rfl rfl ?_
    refine ev_loc f_X12_tellsMinutes (nx := 36) rfl rfl rfl rfl ?_
    refine ev_bp f_X12_tellsMinutes (nx := 38) (v := 6) rfl (by decide) rfl ?_
    refine ev_f f_X12_tellsMinutes (t1 := 67) (t2 := 41) rfl rfl rfl (by decide) ?_
    refine ev_loc f_X12_tellsMinutes (nx := 42) rfl rfl rfl rfl ?_
    refine ev_getR f_X12_tellsMinutes (nx := 45) rfl (hW.s rfl) rfl rfl (hW.r rfl) rfl rfl ?_
    refine ev_bp f_X12_tellsMinutes (nx := 47) (v := 6) rfl (by decide) rfl ?_
    refine ev_loc f_X12_tellsMinutes (nx := 48) rfl rfl rfl rfl ?_
    refine ev_aluvI f_X12_tellsMinutes (nx := 49) (w := 6) rfl rfl rfl (by decide) rfl ?_
    refine ev_loc f_X12_tellsMinutes (nx := 50) rfl rfl rfl rfl ?_
    refine ev_getR f_X12_tellsMinutes (nx := 53) rfl (hW.s rfl) rfl rfl (hW.r rfl) rfl rfl ?_
    refine ev_bp f_X12_tellsMinutes (nx := 55) (v := 82) rfl (by decide) rfl ?_
    refine ev_ic f_X12_tellsMinutes (nx := 56) (v := 3) rfl (by decide) rfl ?_
    refine ev_loc f_X12_tellsMinutes (nx := 57) rfl rfl rfl rfl ?_
    refine ev_aluvI f_X12_tellsMinutes (nx := 58) (w := 0) rfl rfl rfl (by decide) rfl ?_
    refine ev_aluvI f_X12_tellsMinutes (nx := 59) (w := 82) rfl rfl rfl (by decide) rfl ?_
    refine ev_ialdv f_X12_tellsMinutes (nx := 60) (j := 82) (w := 0) rfl (hW.s rfl) (by decide) (by decide) (by decide) (wi_70_82 (gi := gi) hR) rfl ?_
    refine ev_iastv f_X12_tellsMinutes (nx := 61) (j := 6) rfl (hW.s rfl) (by decide) (by decide) (by decide) rfl ?_
    refine ev_incv f_X12_tellsMinutes (nx := 64) (c := 1) (w := 1) (lo' := [(1, .int 1), (0, .ref 69)]) rfl rfl (by decide) (by decide) rfl rfl rfl ?_
    refine ev_jmp f_X12_tellsMinutes (nx := 35) rfl rfl rfl ?_
    refine ev_loc f_X12_tellsMinutes (nx := 36) rfl rfl rfl rfl ?_
    refine ev_bp f_X12_tellsMinutes (nx := 38) (v := 6) rfl (by decide) rfl ?_
    refine ev_f f_X12_tellsMinutes (t1 := 67) (t2 := 41) rfl rfl rfl (by decide) ?_
    refine ev_loc f_X12_tellsMinutes (nx := 42) rfl rfl rfl rfl ?_
    refine ev_getR f_X12_tellsMinutes (nx := 45) rfl (hW.s rfl) rfl rfl (hW.r rfl) rfl rfl ?_
    refine ev_bp f_X12_tellsMinutes (nx := 47) (v := 6) rfl (by decide) rfl ?_
    refine ev_loc f_X12_tellsMinutes (nx := 48) rfl rfl rfl rfl ?_
    refine ev_aluvI f_X12_tellsMinutes (nx := 49) (w := 7) rfl rfl rfl (by decide) rfl ?_
    refine ev_loc f_X12_tellsMinutes (nx := 50) rfl rfl rfl rfl ?_
    refine ev_getR f_X12_tellsMinutes (nx := 53) rfl (hW.s rfl) rfl rfl (hW.r rfl) rfl rfl ?_
    refine ev_bp f_X12_tellsMinutes (nx := 55) (v := 82) rfl (by decide) rfl ?_
    refine ev_ic f_X12_tellsMinutes (nx := 56) (v := 3) rfl (by decide) rfl ?_
    refine ev_loc f_X12_tellsMinutes (nx := 57) rfl rfl rfl rfl ?_
    refine ev_aluvI f_X12_tellsMinutes (nx := 58) (w := 3) rfl rfl rfl (by decide) rfl ?_
    refine ev_aluvI f_X12_tellsMinutes (nx := 59) (w := 85) rfl rfl rfl (by decide) rfl ?_
    refine ev_ialdv f_X12_tellsMinutes (nx := 60) (j := 85) (w := 0) rfl (hW.s rfl) (by decide) (by decide) (by decide) (wi_70_85 (gi := gi) hR) rfl ?_
    refine ev_iastv f_X12_tellsMinutes (nx := 61) (j := 7) rfl (hW.s rfl) (by decide) (by decide) (by decide) rfl ?_
    refine ev_incv f_X12_tellsMinutes (nx := 64) (c := 1) (w := 2) (lo' := [(1, .int 2), (0, .ref 69)]) rfl rfl (by decide) (by decide) rfl rfl rfl ?_
    refine ev_jmp f_X12_tellsMinutes (nx := 35) rfl rfl rfl ?_
    refine ev_loc f_X12_tellsMinutes (nx := 36) rfl rfl rfl rfl ?_
    refine ev_bp f_X12_tellsMinutes (nx := 38) (v := 6) rfl (by decide) rfl ?_
    refine ev_f f_X12_tellsMinutes (t1 := 67) (t2 := 41) rfl rfl rfl (by decide) ?_
    refine ev_loc f_X12_tellsMinutes (nx := 42) rfl rfl rfl rfl ?_
    refine ev_getR f_X12_tellsMinutes (nx := 45) rfl (hW.s rfl) rfl rfl (hW.r rfl) rfl rfl ?_
    refine ev_bp f_X12_tellsMinutes (nx := 47) (v := 6) rfl (by decide) rfl ?_
    refine ev_loc f_X12_tellsMinutes (nx := 48) rfl rfl rfl rfl ?_
    refine ev_aluvI f_X12_tellsMinutes (nx := 49) (w := 8) rfl rfl rfl (by decide) rfl ?_
    refine ev_loc f_X12_tellsMinutes (nx := 50) rfl rfl rfl rfl ?_
    refine ev_getR f_X12_tellsMinutes (nx := 53) rfl (hW.s rfl) rfl rfl (hW.r rfl) rfl rfl ?_
    refine ev_bp f_X12_tellsMinutes (nx := 55) (v := 82) rfl (by decide) rfl ?_
    refine ev_ic f_X12_tellsMinutes (nx := 56) (v := 3) rfl (by decide) rfl ?_
    refine ev_loc f_X12_tellsMinutes (nx := 57) rfl rfl rfl rfl ?_
    refine ev_aluvI f_X12_tellsMinutes (nx := 58) (w := 6) rfl rfl rfl (by decide) rfl ?_
    refine ev_aluvI f_X12_tellsMinutes (nx := 59) (w := 88) rfl rfl rfl (by decide) rfl ?_
    refine ev_ialdv f_X12_tellsMinutes (nx := 60) (j := 88) (w := 0) rfl (hW.s rfl) (by decide) (by decide) (by decide) (wi_70_88 (gi := gi) hR) rfl ?_
    refine ev_iastv f_X12_tellsMinutes (nx := 61) (j := 8) rfl (hW.s rfl) (by decide) (by decide) (by decide) rfl ?_
    refine ev_incv f_X12_tellsMinutes (nx := 64) (c := 1) (w := 3) (lo' := [(1, .int 3), (0, .ref 69)]) rfl rfl (by decide) (by decide) rfl rfl rfl ?_
    refine ev_jmp f_X12_tellsMinutes (nx := 35) rfl rfl rfl ?_
    refine ev_loc f_X12_tellsMinutes (nx := 36) rfl rfl rfl rfl ?_
    refine ev_bp f_X12_tellsMinutes (nx := 38) (v := 6) rfl (by decide) rfl ?_
    refine ev_f f_X12_tellsMinutes (t1 := 67) (t2 := 41) rfl rfl rfl (by decide) ?_
    refine ev_loc f_X12_tellsMinutes (nx := 42) rfl rfl rfl rfl ?_
    refine ev_getR f_X12_tellsMinutes (nx := 45) rfl (hW.s rfl) rfl rfl (hW.r rfl) rfl rfl ?_
    refine ev_bp f_X12_tellsMinutes (nx := 47) (v := 6) rfl (by decide) rfl ?_
    refine ev_loc f_X12_tellsMinutes (nx := 48) rfl rfl rfl rfl ?_
    refine ev_aluvI f_X12_tellsMinutes (nx := 49) (w := 9) rfl rfl rfl (by decide) rfl ?_
    refine ev_loc f_X12_tellsMinutes (nx := 50) rfl rfl rfl rfl ?_
    refine ev_getR f_X12_tellsMinutes (nx := 53) rfl (hW.s rfl) rfl rfl (hW.r rfl) rfl rfl ?_
    refine ev_bp f_X12_tellsMinutes (nx := 55) (v := 82) rfl (by decide) rfl ?_
    refine ev_ic f_X12_tellsMinutes (nx := 56) (v := 3) rfl (by decide) rfl ?_
    refine ev_loc f_X12_tellsMinutes (nx := 57) rfl rfl rfl rfl ?_
    refine ev_aluvI f_X12_tellsMinutes (nx := 58) (w := 9) rfl rfl rfl (by decide) rfl ?_
    refine ev_aluvI f_X12_tellsMinutes (nx := 59) (w := 91) rfl rfl rfl (by decide) rfl ?_
    refine ev_ialdv f_X12_tellsMinutes (nx := 60) (j := 91) (w := 0) rfl (hW.s rfl) (by decide) (by decide) (by decide) (wi_70_91 (gi := gi) hR) rfl ?_
    refine ev_iastv f_X12_tellsMinutes (nx := 61) (j := 9) rfl (hW.s rfl) (by decide) (by decide) (by decide) rfl ?_
    refine ev_incv f_X12_tellsMinutes (nx := 64) (c := 1) (w := 4) (lo' := [(1, .int 4), (0, .ref 69)]) rfl rfl (by decide) (by decide) rfl rfl rfl ?_
    refine ev_jmp f_X12_tellsMinutes (nx := 35) rfl rfl rfl ?_
    refine ev_loc f_X12_tellsMinutes (nx := 36) rfl rfl rfl rfl ?_
    refine ev_bp f_X12_tellsMinutes (nx := 38) (v := 6) rfl (by decide) rfl ?_
    refine ev_f f_X12_tellsMinutes (t1 := 67) (t2 := 41) rfl rfl rfl (by decide) ?_
    refine ev_loc f_X12_tellsMinutes (nx := 42) rfl rfl rfl rfl ?_
    refine ev_getR f_X12_tellsMinutes (nx := 45) rfl (hW.s rfl) rfl rfl (hW.r rfl) rfl rfl ?_
    refine ev_bp f_X12_tellsMinutes (nx := 47) (v := 6) rfl (by decide) rfl ?_
    refine ev_loc f_X12_tellsMinutes (nx := 48) rfl rfl rfl rfl ?_
    refine ev_aluvI f_X12_tellsMinutes (nx := 49) (w := 10) rfl rfl rfl (by decide) rfl ?_
    refine ev_loc f_X12_tellsMinutes (nx := 50) rfl rfl rfl rfl ?_
    refine ev_getR f_X12_tellsMinutes (nx := 53) rfl (hW.s rfl) rfl rfl (hW.r rfl) rfl rfl ?_
    refine ev_bp f_X12_tellsMinutes (nx := 55) (v := 82) rfl (by decide) rfl ?_
    refine ev_ic f_X12_tellsMinutes (nx := 56) (v := 3) rfl (by decide) rfl ?_
    refine ev_loc f_X12_tellsMinutes (nx := 57) rfl rfl rfl rfl ?_
    refine ev_aluvI f_X12_tellsMinutes (nx := 58) (w := 12) rfl rfl rfl (by decide) rfl ?_
    refine ev_aluvI f_X12_tellsMinutes (nx := 59) (w := 94) rfl rfl rfl (by decide) rfl ?_
    refine ev_ialdv f_X12_tellsMinutes (nx := 60) (j := 94) (w := 0) rfl (hW.s rfl) (by decide) (by decide) (by decide) (wi_70_94 (gi := gi) hR) rfl ?_
    refine ev_iastv f_X12_tellsMinutes (nx := 61) (j := 10) rfl (hW.s rfl) (by decide) (by decide) (by decide) rfl ?_
    refine ev_incv f_X12_tellsMinutes (nx := 64) (c := 1) (w := 5) (lo' := [(1, .int 5), (0, .ref 69)]) rfl rfl (by decide) (by decide) rfl rfl rfl ?_
    refine ev_jmp f_X12_tellsMinutes (nx := 35) rfl rfl rfl ?_
    refine ev_loc f_X12_tellsMinutes (nx := 36) rfl rfl rfl rfl ?_
    refine ev_bp f_X12_tellsMinutes (nx := 38) (v := 6) rfl (by decide) rfl ?_
    refine ev_f f_X12_tellsMinutes (t1 := 67) (t2 := 41) rfl rfl rfl (by decide) ?_
    refine ev_loc f_X12_tellsMinutes (nx := 42) rfl rfl rfl rfl ?_
    refine ev_getR f_X12_tellsMinutes (nx := 45) rfl (hW.s rfl) rfl rfl (hW.r rfl) rfl rfl ?_
    refine ev_bp f_X12_tellsMinutes (nx := 47) (v := 6) rfl (by decide) rfl ?_
    refine ev_loc f_X12_tellsMinutes (nx := 48) rfl rfl rfl rfl ?_
    refine ev_aluvI f_X12_tellsMinutes (nx := 49) (w := 11) rfl rfl rfl (by decide) rfl ?_
    refine ev_loc f_X12_tellsMinutes (nx := 50) rfl rfl rfl rfl ?_
    refine ev_getR f_X12_tellsMinutes (nx := 53) rfl (hW.s rfl) rfl rfl (hW.r rfl) rfl rfl ?_
    refine ev_bp f_X12_tellsMinutes (nx := 55) (v := 82) rfl (by decide) rfl ?_
    refine ev_ic f_X12_tellsMinutes (nx := 56) (v := 3) rfl (by decide) rfl ?_
    refine ev_loc f_X12_tellsMinutes (nx := 57) rfl rfl rfl rfl ?_
    refine ev_aluvI f_X12_tellsMinutes (nx := 58) (w := 15) rfl rfl rfl (by decide) rfl ?_
    refine ev_aluvI f_X12_tellsMinutes (nx := 59) (w := 97) rfl rfl rfl (by decide) rfl ?_
    refine ev_ialdv f_X12_tellsMinutes (nx := 60) (j := 97) (w := 0) rfl (hW.s rfl) (by decide) (by decide) (by decide) (wi_70_97 (gi := gi) hR) rfl ?_
    refine ev_iastv f_X12_tellsMinutes (nx := 61) (j := 11) rfl (hW.s rfl) (by decide) (by decide) (by decide) rfl ?_
    refine ev_incv f_X12_tellsMinutes (nx := 64) (c := 1) (w := 6) (lo' := [(1, .int 6), (0, .ref 69)]) rfl rfl (by decide) (by decide) rfl rfl rfl ?_
    refine ev_jmp f_X12_tellsMinutes (nx := 35) rfl rfl rfl ?_
    refine ev_loc f_X12_tellsMinutes (nx := 36) rfl rfl rfl rfl ?_
    refine ev_bp f_X12_tellsMinutes (nx := 38) (v := 6) rfl (by decide) rfl ?_
    refine ev_t f_X12_tellsMinutes (t1 := 67) (t2 := 41) rfl rfl rfl (by decide) ?_
    refine ev_retK0 f_X12_tellsMinutes rfl rfl rfl ?_
    refine ev_loc f_X12_nextShip (nx := 5) rfl rfl rfl rfl ?_
    refine ev_ic f_X12_nextShip (nx := 6) (v := 0) rfl (by decide) rfl ?_
    refine ev_inV2 f_X12_nextShip (nx := 9) (lo2 := [(0, .ref 69), (1, .int 0)]) rfl rfl rfl rfl f_X12_orders (hW.s rfl) rfl rfl rfl rfl rfl ?_
    refine ev_loc f_X12_orders (nx := 1) rfl rfl rfl rfl ?_
    refine ev_ic f_X12_orders (nx := 2) (v := 0) rfl (by decide) rfl ?_
    refine ev_putI f_X12_orders (nx := 5) rfl (hW.s rfl) rfl rfl rfl ?_
    refine ev_loc f_X12_orders (nx := 6) rfl rfl rfl rfl ?_
    refine ev_ic f_X12_orders (nx := 7) (v := 0) rfl (by decide) rfl ?_
    refine ev_putI f_X12_orders (nx := 10) rfl (hW.s rfl) rfl rfl rfl ?_
    refine ev_ic f_X12_orders (nx := 11) (v := 0) rfl (by decide) rfl ?_
    refine ev_loc f_X12_orders (nx := 12) (lo' := [(2, .int 0), (0, .ref 69), (1, .int 0)]) rfl rfl rfl rfl ?_
    refine ev_loc f_X12_orders (nx := 13) rfl rfl rfl rfl ?_
    refine ev_loc f_X12_orders (nx := 14) rfl rfl rfl rfl ?_
    refine ev_getR f_X12_orders (nx := 17) rfl (hW.s rfl) rfl rfl (hW.r rfl) rfl rfl ?_
    refine ev_ic f_X12_orders (nx := 18) (v := 1) rfl (by decide) rfl ?_
    refine ev_ialdv f_X12_orders (nx := 19) (j := 1) (w := 0) rfl (hW.s rfl) (by decide) (by decide) (by decide) (wi_70_1 (gi := gi) hR) rfl ?_
    refine ev_t f_X12_orders (t1 := 108) (t2 := 22) rfl rfl rfl (by decide) ?_
    refine ev_ic f_X12_orders (nx := 109) (v := 0) rfl (by decide) rfl ?_
    refine ev_loc f_X12_orders (nx := 110) (lo' := [(2, .int 0), (0, .ref 69), (1, .int 0)]) rfl rfl rfl rfl ?_
    refine ev_loc f_X12_orders (nx := 111) rfl rfl rfl rfl ?_
    refine ev_loc f_X12_orders (nx := 112) rfl rfl rfl rfl ?_
    refine ev_getR f_X12_orders (nx := 115) rfl (hW.s rfl) rfl rfl (hW.r rfl) rfl rfl ?_
    refine ev_ic f_X12_orders (nx := 116) (v := 2) rfl (by decide) rfl ?_
    refine ev_ialdv f_X12_orders (nx := 117) (j := 2) (w := 0) rfl (hW.s rfl) (by decide) (by decide) (by decide) (wi_70_2 (gi := gi) hR) rfl ?_
    refine ev_t f_X12_orders (t1 := 211) (t2 := 120) rfl rfl rfl (by decide) ?_
    refine ev_retK0 f_X12_orders rfl rfl rfl ?_
    refine ev_loc f_X12_nextShip (nx := 10) rfl rfl rfl rfl ?_
    refine ev_f f_X12_nextShip (t1 := 21) (t2 := 13) rfl rfl rfl (by rw [Int32.lt_iff_toInt_lt, (by decide : (0 : Int32).toInt = 0)]; omega) ?_
    refine ev_loc f_X12_nextShip (nx := 14) rfl rfl rfl rfl ?_
    refine ev_loc f_X12_nextShip (nx := 15) rfl rfl rfl rfl ?_
    refine ev_gvI f_X12_nextShip (nx := 18) (w := 0) rfl (hW.s rfl) rfl rfl rfl rfl ?_
    refine ev_f f_X12_nextShip (t1 := 30) (t2 := 21) rfl rfl rfl (by rw [Int32.lt_iff_toInt_lt, (by decide : (0 : Int32).toInt = 0)]; omega) ?_
    refine ev_loc f_X12_nextShip (nx := 22) rfl rfl rfl rfl ?_
    refine ev_bp f_X12_nextShip (nx := 24) (v := 6) rfl (by decide) rfl ?_
    refine ev_inV2 f_X12_nextShip (nx := 27) (lo2 := [(0, .ref 69), (1, .int 6)]) rfl rfl rfl rfl f_X12_refuse (hW.s rfl) rfl rfl rfl rfl rfl ?_
    refine ev_loc f_X12_refuse (nx := 1) rfl rfl rfl rfl ?_
    refine ev_loc f_X12_refuse (nx := 2) rfl rfl rfl rfl ?_
    refine ev_putI f_X12_refuse (nx := 5) rfl (hW.s rfl) rfl rfl rfl ?_
    refine ev_ic f_X12_refuse (nx := 6) (v := -1) rfl (by decide) rfl ?_
    refine ev_retK1 f_X12_refuse rfl rfl rfl ?_
    refine ev_jmp f_X12_nextShip (nx := 40) rfl rfl rfl ?_
    refine ev_retK1 f_X12_nextShip rfl rfl rfl ?_
    refine ev_t f_L_law (t1 := 1628) (t2 := 740) rfl rfl rfl (by decide) ?_
    refine ev_incv f_L_law (nx := 1631) (c := 6) (w := 6) (lo' := [(3, .int 6), (2, .ref 69), (1, .ref 0), (0, .retAddr 30)]) rfl rfl (by decide) (by decide) rfl rfl rfl ?_
    refine ev_jmp f_L_law (nx := 18) rfl rfl rfl ?_
    refine ev_loc f_L_law (nx := 19) rfl rfl rfl rfl ?_
    refine ev_loc f_L_law (nx := 20) rfl rfl rfl rfl ?_
    refine ev_alenX f_L_law (nx := 21) rfl hX rfl ?_
    refine ev_bp f_L_law (nx := 23) (v := 6) rfl (by decide) rfl ?_
    refine ev_aluvI f_L_law (nx := 24) (w := 0) rfl rfl rfl (by decide) rfl ?_
    refine ev_t f_L_law (t1 := 1634) (t2 := 27) rfl rfl rfl (by decide) ?_
    refine ev_ic f_L_law (nx := 1635) (v := 1) rfl (by decide) rfl ?_
    refine ev_ret f_L_law rfl rfl rfl ?_
    exact ⟨rfl, hz⟩
end XC
