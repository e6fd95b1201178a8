/-! ===== printed by gen63.py: calls walked in place ===== -/
section XC
variable {X : x_Ext} {sh : List (Nat ⊕ (Nat × Nat))} {gi : Nat → Nat → Int32} {gl : Nat → Nat → Int64} {gr : Nat → Nat → Value}
set_option maxRecDepth 20000 in
theorem pc_46 (hR : x_R W1 (sh, gi, gl, gr)) (hX : X.1 = 6) : x_Ev X 1000 n_L_law 1569 [(3, .int 0), (2, .ref 69), (1, .ref 0), (0, .retAddr 30)] [] (sh, gi, gl, gr) x_P1 := by
  have hW := W1_WF hR
  have hz := W1_hz hR
  refine ev_loc f_L_law (nx := 1570) rfl rfl rfl rfl ?_
  refine ev_loc f_L_law (nx := 1571) rfl rfl rfl rfl ?_
  refine ev_loc f_L_law (nx := 1572) rfl rfl rfl rfl ?_
  refine ev_ic f_L_law (nx := 1573) (v := 1) rfl (by decide) rfl ?_
  refine ev_aluvI f_L_law (nx := 1574) (w := 1) rfl rfl rfl (by decide) rfl ?_
  refine ev_scr f_L_law (nx := 1575) (j := 1) rfl hX (by decide) (by decide) (by decide) rfl ?_
  refine ev_loc f_L_law (nx := 1576) rfl rfl rfl rfl ?_
  refine ev_loc f_L_law (nx := 1577) rfl rfl rfl rfl ?_
  refine ev_ic f_L_law (nx := 1578) (v := 2) rfl (by decide) rfl ?_
  refine ev_aluvI f_L_law (nx := 1579) (w := 2) rfl rfl rfl (by decide) rfl ?_
  refine ev_scr f_L_law (nx := 1580) (j := 2) rfl hX (by decide) (by decide) (by decide) rfl ?_
  refine ev_inV3 f_L_law (nx := 1583) (lo2 := [(0, .ref 0), (1, .int ((X.2 1))), (2, .int ((X.2 2)))]) rfl rfl rfl rfl f_X11_waits (hW.s rfl) rfl rfl rfl rfl rfl ?_
  refine ev_loc f_X11_waits (nx := 1) rfl rfl rfl rfl ?_
  refine ev_loc f_X11_waits (nx := 2) rfl rfl rfl rfl ?_
  refine ev_loc f_X11_waits (nx := 3) rfl rfl rfl rfl ?_
  refine ev_inV3 f_X11_waits (nx := 6) (lo2 := [(0, .ref 0), (1, .int ((X.2 1))), (2, .int ((X.2 2)))]) rfl rfl rfl rfl f_X11_wrongSeeds (hW.s rfl) rfl rfl rfl rfl rfl ?_
  refine ev_loc f_X11_wrongSeeds (nx := 1) rfl rfl rfl rfl ?_
  refine ev_if f_X11_wrongSeeds (t1 := 33) (t2 := 4) rfl rfl rfl (fun h18 => ?_) (fun h18 => ?_)
  · have q18 := h18; rw [Int32.lt_iff_toInt_lt, (by decide : (0 : Int32).toInt = 0)] at q18
    refine ev_ic f_X11_wrongSeeds (nx := 34) (v := 1) rfl (by decide) rfl ?_
    refine ev_retK1 f_X11_wrongSeeds rfl rfl rfl ?_
    refine ev_loc f_X11_waits (nx := 7) (lo' := [(3, .int 1), (0, .ref 0), (1, .int ((X.2 1))), (2, .int ((X.2 2)))]) rfl rfl rfl rfl ?_
    refine ev_loc f_X11_waits (nx := 8) rfl rfl rfl rfl ?_
    refine ev_f f_X11_waits (t1 := 17) (t2 := 11) rfl rfl rfl (by decide) ?_
    refine ev_loc f_X11_waits (nx := 12) rfl rfl rfl rfl ?_
    refine ev_loc f_X11_waits (nx := 13) rfl rfl rfl rfl ?_
    refine ev_inV2 f_X11_waits (nx := 16) (lo2 := [(0, .ref 0), (1, .int 1)]) rfl rfl rfl rfl f_X11_refuse (hW.s rfl) rfl rfl rfl rfl rfl ?_
    refine ev_loc f_X11_refuse (nx := 1) rfl rfl rfl rfl ?_
    refine ev_loc f_X11_refuse (nx := 2) rfl rfl rfl rfl ?_
    refine ev_putI f_X11_refuse (nx := 5) rfl (hW.s rfl) rfl rfl rfl ?_
    refine ev_ic f_X11_refuse (nx := 6) (v := -1) rfl (by decide) rfl ?_
    refine ev_retK1 f_X11_refuse rfl rfl rfl ?_
    refine ev_retK1 f_X11_waits rfl rfl rfl ?_
    refine ev_loc f_L_law (nx := 1584) rfl rfl rfl rfl ?_
    refine ev_loc f_L_law (nx := 1585) rfl rfl rfl rfl ?_
    refine ev_loc f_L_law (nx := 1586) rfl rfl rfl rfl ?_
    refine ev_ic f_L_law (nx := 1587) (v := 1) rfl (by decide) rfl ?_
    refine ev_aluvI f_L_law (nx := 1588) (w := 1) rfl rfl rfl (by decide) rfl ?_
    refine ev_scr f_L_law (nx := 1589) (j := 1) rfl hX (by decide) (by decide) (by decide) rfl ?_
    refine ev_loc f_L_law (nx := 1590) rfl rfl rfl rfl ?_
    refine ev_loc f_L_law (nx := 1591) rfl rfl rfl rfl ?_
    refine ev_ic f_L_law (nx := 1592) (v := 2) rfl (by decide) rfl ?_
    refine ev_aluvI f_L_law (nx := 1593) (w := 2) rfl rfl rfl (by decide) rfl ?_
    refine ev_scr f_L_law (nx := 1594) (j := 2) rfl hX (by decide) (by decide) (by decide) rfl ?_
    refine ev_inV3 f_L_law (nx := 1597) (lo2 := [(0, .ref 69), (1, .int ((X.2 1))), (2, .int ((X.2 2)))]) rfl rfl rfl rfl f_X12_waits (hW.s rfl) rfl rfl rfl rfl rfl ?_
    refine ev_loc f_X12_waits (nx := 1) rfl rfl rfl rfl ?_
    refine ev_loc f_X12_waits (nx := 2) rfl rfl rfl rfl ?_
    refine ev_loc f_X12_waits (nx := 3) rfl rfl rfl rfl ?_
    refine ev_inV3 f_X12_waits (nx := 6) (lo2 := [(0, .ref 69), (1, .int ((X.2 1))), (2, .int ((X.2 2)))]) rfl rfl rfl rfl f_X12_areSeeds (hW.s rfl) rfl rfl rfl rfl rfl ?_
    refine ev_loc f_X12_areSeeds (nx := 1) rfl rfl rfl rfl ?_
    refine ev_alu f_X12_areSeeds (nx := 2) rfl rfl rfl rfl ?_
    refine ev_lc f_X12_areSeeds (nx := 3) (v := 0) rfl (by decide) rfl ?_
    refine ev_ldL f_X12_areSeeds (nx := 6) (v := 9999) rfl (by decide) rfl ?_
    refine ev_inS3 f_X12_areSeeds (nx := 9) (lo2 := [(0, .long (((X.2 1) : Int32).toInt64)), (2, .long 0), (4, .long 9999)]) rfl rfl rfl rfl f_X12_isFrom rfl rfl rfl rfl ?_
    refine ev_loc f_X12_isFrom (nx := 1) rfl rfl rfl rfl ?_
    refine ev_loc f_X12_isFrom (nx := 2) rfl rfl rfl rfl ?_
    refine ev_alu f_X12_isFrom (nx := 3) rfl rfl rfl rfl ?_
    refine ev_t f_X12_isFrom (t1 := 17) (t2 := 6) rfl rfl rfl (by rw [lgc_lt (n := 0) (by decide)]; omega) ?_
    refine ev_ic f_X12_isFrom (nx := 18) (v := 0) rfl (by decide) rfl ?_
    refine ev_retK1 f_X12_isFrom rfl rfl rfl ?_
    refine ev_t f_X12_areSeeds (t1 := 39) (t2 := 12) rfl rfl rfl (by decide) ?_
    refine ev_ic f_X12_areSeeds (nx := 40) (v := 0) rfl (by decide) rfl ?_
    refine ev_retK1 f_X12_areSeeds rfl rfl rfl ?_
    refine ev_t f_X12_waits (t1 := 9) (t2 := 15) rfl rfl rfl (by decide) ?_
    refine ev_loc f_X12_waits (nx := 10) rfl rfl rfl rfl ?_
    refine ev_ic f_X12_waits (nx := 11) (v := 1) rfl (by decide) rfl ?_
    refine ev_inV2 f_X12_waits (nx := 14) (lo2 := [(0, .ref 69), (1, .int 1)]) rfl rfl rfl rfl f_X12_refuse (hW.s rfl) rfl rfl rfl rfl rfl ?_
    refine ev_loc f_X12_refuse (nx := 1) rfl rfl rfl rfl ?_
    refine ev_loc f_X12_refuse (nx := 2) rfl rfl rfl rfl ?_
    refine ev_putI f_X12_refuse (nx := 5) rfl (hW.s rfl) rfl rfl rfl ?_
    refine ev_ic f_X12_refuse (nx := 6) (v := -1) rfl (by decide) rfl ?_
    refine ev_retK1 f_X12_refuse rfl rfl rfl ?_
    refine ev_retK1 f_X12_waits rfl rfl rfl ?_
    refine ev_t f_L_law (t1 := 1628) (t2 := 1600) rfl rfl rfl (by decide) ?_
    refine ev_incv f_L_law (nx := 1631) (c := 6) (w := 6) (lo' := [(3, .int 6), (2, .ref 69), (1, .ref 0), (0, .retAddr 30)]) rfl rfl (by decide) (by decide) rfl rfl rfl ?_
    refine ev_jmp f_L_law (nx := 18) rfl rfl rfl ?_
    refine ev_loc f_L_law (nx := 19) rfl rfl rfl rfl ?_
    refine ev_loc f_L_law (nx := 20) rfl rfl rfl rfl ?_
    refine ev_alenX f_L_law (nx := 21) rfl hX rfl ?_
    refine ev_bp f_L_law (nx := 23) (v := 6) rfl (by decide) rfl ?_
    refine ev_aluvI f_L_law (nx := 24) (w := 0) rfl rfl rfl (by decide) rfl ?_
    refine ev_t f_L_law (t1 := 1634) (t2 := 27) rfl rfl rfl (by decide) ?_
    refine ev_ic f_L_law (nx := 1635) (v := 1) rfl (by decide) rfl ?_
    refine ev_ret f_L_law rfl rfl rfl ?_
    exact ⟨rfl, hz⟩
  · have q18 := h18; rw [Int32.lt_iff_toInt_lt, (by decide : (0 : Int32).toInt = 0)] at q18
    refine ev_loc f_X11_wrongSeeds (nx := 5) rfl rfl rfl rfl ?_
    refine ev_sp f_X11_wrongSeeds (nx := 8) (v := 9999) rfl (by decide) rfl ?_
    refine ev_if f_X11_wrongSeeds (t1 := 33) (t2 := 11) rfl rfl rfl (fun h86 => ?_) (fun h86 => ?_)
    · have q86 := h86; rw [Int32.lt_iff_toInt_lt, (by decide : (9999 : Int32).toInt = 9999)] at q86
      refine ev_ic f_X11_wrongSeeds (nx := 34) (v := 1) rfl (by decide) rfl ?_
      refine ev_retK1 f_X11_wrongSeeds rfl rfl rfl ?_
      refine ev_loc f_X11_waits (nx := 7) (lo' := [(3, .int 1), (0, .ref 0), (1, .int ((X.2 1))), (2, .int ((X.2 2)))]) rfl rfl rfl rfl ?_
      refine ev_loc f_X11_waits (nx := 8) rfl rfl rfl rfl ?_
      refine ev_f f_X11_waits (t1 := 17) (t2 := 11) rfl rfl rfl (by decide) ?_
      refine ev_loc f_X11_waits (nx := 12) rfl rfl rfl rfl ?_
      refine ev_loc f_X11_waits (nx := 13) rfl rfl rfl rfl ?_
      refine ev_inV2 f_X11_waits (nx := 16) (lo2 := [(0, .ref 0), (1, .int 1)]) rfl rfl rfl rfl f_X11_refuse (hW.s rfl) rfl rfl rfl rfl rfl ?_
      refine ev_loc f_X11_refuse (nx := 1) rfl rfl rfl rfl ?_
      refine ev_loc f_X11_refuse (nx := 2) rfl rfl rfl rfl ?_
      refine ev_putI f_X11_refuse (nx := 5) rfl (hW.s rfl) rfl rfl rfl ?_
      refine ev_ic f_X11_refuse (nx := 6) (v := -1) rfl (by decide) rfl ?_
      refine ev_retK1 f_X11_refuse rfl rfl rfl ?_
      refine ev_retK1 f_X11_waits rfl rfl rfl ?_
      refine ev_loc f_L_law (nx := 1584) rfl rfl rfl rfl ?_
      refine ev_loc f_L_law (nx := 1585) rfl rfl rfl rfl ?_
      refine ev_loc f_L_law (nx := 1586) rfl rfl rfl rfl ?_
      refine ev_ic f_L_law (nx := 1587) (v := 1) rfl (by decide) rfl ?_
      refine ev_aluvI f_L_law (nx := 1588) (w := 1) rfl rfl rfl (by decide) rfl ?_
      refine ev_scr f_L_law (nx := 1589) (j := 1) rfl hX (by decide) (by decide) (by decide) rfl ?_
      refine ev_loc f_L_law (nx := 1590) rfl rfl rfl rfl ?_
      refine ev_loc f_L_law (nx := 1591) rfl rfl rfl rfl ?_
      refine ev_ic f_L_law (nx := 1592) (v := 2) rfl (by decide) rfl ?_
      refine ev_aluvI f_L_law (nx := 1593) (w := 2) rfl rfl rfl (by decide) rfl ?_
      refine ev_scr f_L_law (nx := 1594) (j := 2) rfl hX (by decide) (by decide) (by decide) rfl ?_
      refine ev_inV3 f_L_law (nx := 1597) (lo2 := [(0, .ref 69), (1, .int ((X.2 1))), (2, .int ((X.2 2)))]) rfl rfl rfl rfl f_X12_waits (hW.s rfl) rfl rfl rfl rfl rfl ?_
      refine ev_loc f_X12_waits (nx := 1) rfl rfl rfl rfl ?_
      refine ev_loc f_X12_waits (nx := 2) rfl rfl rfl rfl ?_
      refine ev_loc f_X12_waits (nx := 3) rfl rfl rfl rfl ?_
      refine ev_inV3 f_X12_waits (nx := 6) (lo2 := [(0, .ref 69), (1, .int ((X.2 1))), (2, .int ((X.2 2)))]) rfl rfl rfl rfl f_X12_areSeeds (hW.s rfl) rfl rfl rfl rfl rfl ?_
      refine ev_loc f_X12_areSeeds (nx := 1) rfl rfl rfl rfl ?_
      refine ev_alu f_X12_areSeeds (nx := 2) rfl rfl rfl rfl ?_
      refine ev_lc f_X12_areSeeds (nx := 3) (v := 0) rfl (by decide) rfl ?_
      refine ev_ldL f_X12_areSeeds (nx := 6) (v := 9999) rfl (by decide) rfl ?_
      refine ev_inS3 f_X12_areSeeds (nx := 9) (lo2 := [(0, .long (((X.2 1) : Int32).toInt64)), (2, .long 0), (4, .long 9999)]) rfl rfl rfl rfl f_X12_isFrom rfl rfl rfl rfl ?_
      refine ev_loc f_X12_isFrom (nx := 1) rfl rfl rfl rfl ?_
      refine ev_loc f_X12_isFrom (nx := 2) rfl rfl rfl rfl ?_
      refine ev_alu f_X12_isFrom (nx := 3) rfl rfl rfl rfl ?_
      refine ev_f f_X12_isFrom (t1 := 17) (t2 := 6) rfl rfl rfl (by rw [lgc_lt (n := 0) (by decide)]; omega) ?_
      refine ev_loc f_X12_isFrom (nx := 7) rfl rfl rfl rfl ?_
      refine ev_loc f_X12_isFrom (nx := 9) rfl rfl rfl rfl ?_
      refine ev_alu f_X12_isFrom (nx := 10) rfl rfl rfl rfl ?_
      refine ev_t f_X12_isFrom (t1 := 17) (t2 := 13) rfl rfl rfl (by rw [lgc_gt (n := 9999) (by decide)]; omega) ?_
      refine ev_ic f_X12_isFrom (nx := 18) (v := 0) rfl (by decide) rfl ?_
      refine ev_retK1 f_X12_isFrom rfl rfl rfl ?_
      refine ev_t f_X12_areSeeds (t1 := 39) (t2 := 12) rfl rfl rfl (by decide) ?_
      refine ev_ic f_X12_areSeeds (nx := 40) (v := 0) rfl (by decide) rfl ?_
      refine ev_retK1 f_X12_areSeeds rfl rfl rfl ?_
      refine ev_t f_X12_waits (t1 := 9) (t2 := 15) rfl rfl rfl (by decide) ?_
      refine ev_loc f_X12_waits (nx := 10) rfl rfl rfl rfl ?_
      refine ev_ic f_X12_waits (nx := 11) (v := 1) rfl (by decide) rfl ?_
      refine ev_inV2 f_X12_waits (nx := 14) (lo2 := [(0, .ref 69), (1, .int 1)]) rfl rfl rfl rfl f_X12_refuse (hW.s rfl) rfl rfl rfl rfl rfl ?_
      refine ev_loc f_X12_refuse (nx := 1) rfl rfl rfl rfl ?_
      refine ev_loc f_X12_refuse (nx := 2) rfl rfl rfl rfl ?_
      refine ev_putI f_X12_refuse (nx := 5) rfl (hW.s rfl) rfl rfl rfl ?_
      refine ev_ic f_X12_refuse (nx := 6) (v := -1) rfl (by decide) rfl ?_
      refine ev_retK1 f_X12_refuse rfl rfl rfl ?_
      refine ev_retK1 f_X12_waits rfl rfl rfl ?_
      refine ev_t f_L_law (t1 := 1628) (t2 := 1600) rfl rfl rfl (by decide) ?_
      refine ev_incv f_L_law (nx := 1631) (c := 6) (w := 6) (lo' := [(3, .int 6), (2, .ref 69), (1, .ref 0), (0, .retAddr 30)]) rfl rfl (by decide) (by decide) rfl rfl rfl ?_
      refine ev_jmp f_L_law (nx := 18) rfl rfl rfl ?_
      refine ev_loc f_L_law (nx := 19) rfl rfl rfl rfl ?_
      refine ev_loc f_L_law (nx := 20) rfl rfl rfl rfl ?_
      refine ev_alenX f_L_law (nx := 21) rfl hX rfl ?_
      refine ev_bp f_L_law (nx := 23) (v := 6) rfl (by decide) rfl ?_
      refine ev_aluvI f_L_law (nx := 24) (w := 0) rfl rfl rfl (by decide) rfl ?_
      refine ev_t f_L_law (t1 := 1634) (t2 := 27) rfl rfl rfl (by decide) ?_
      refine ev_ic f_L_law (nx := 1635) (v := 1) rfl (by decide) rfl ?_
      refine ev_ret f_L_law rfl rfl rfl ?_
      exact ⟨rfl, hz⟩
    · have q86 := h86; rw [Int32.lt_iff_toInt_lt, (by decide : (9999 : Int32).toInt = 9999)] at q86
      refine ev_loc f_X11_wrongSeeds (nx := 12) rfl rfl rfl rfl ?_
      refine ev_ic f_X11_wrongSeeds (nx := 13) (v := 1) rfl (by decide) rfl ?_
      refine ev_if f_X11_wrongSeeds (t1 := 33) (t2 := 16) rfl rfl rfl (fun h158 => ?_) (fun h158 => ?_)
      · have q158 := h158; rw [Int32.lt_iff_toInt_lt, (by decide : (1 : Int32).toInt = 1)] at q158
        refine ev_ic f_X11_wrongSeeds (nx := 34) (v := 1) rfl (by decide) rfl ?_
        refine ev_retK1 f_X11_wrongSeeds rfl rfl rfl ?_
        refine ev_loc f_X11_waits (nx := 7) (lo' := [(3, .int 1), (0, .ref 0), (1, .int ((X.2 1))), (2, .int ((X.2 2)))]) rfl rfl rfl rfl ?_
        refine ev_loc f_X11_waits (nx := 8) rfl rfl rfl rfl ?_
        refine ev_f f_X11_waits (t1 := 17) (t2 := 11) rfl rfl rfl (by decide) ?_
        refine ev_loc f_X11_waits (nx := 12) rfl rfl rfl rfl ?_
        refine ev_loc f_X11_waits (nx := 13) rfl rfl rfl rfl ?_
        refine ev_inV2 f_X11_waits (nx := 16) (lo2 := [(0, .ref 0), (1, .int 1)]) rfl rfl rfl rfl f_X11_refuse (hW.s rfl) rfl rfl rfl rfl rfl ?_
        refine ev_loc f_X11_refuse (nx := 1) rfl rfl rfl rfl ?_
        refine ev_loc f_X11_refuse (nx := 2) rfl rfl rfl rfl ?_
        refine ev_putI f_X11_refuse (nx := 5) rfl (hW.s rfl) rfl rfl rfl ?_
        refine ev_ic f_X11_refuse (nx := 6) (v := -1) rfl (by decide) rfl ?_
        refine ev_retK1 f_X11_refuse rfl rfl rfl ?_
        refine ev_retK1 f_X11_waits rfl rfl rfl ?_
        refine ev_loc f_L_law (nx := 1584) rfl rfl rfl rfl ?_
        refine ev_loc f_L_law (nx := 1585) rfl rfl rfl rfl ?_
        refine ev_loc f_L_law (nx := 1586) rfl rfl rfl rfl ?_
        refine ev_ic f_L_law (nx := 1587) (v := 1) rfl (by decide) rfl ?_
        refine ev_aluvI f_L_law (nx := 1588) (w := 1) rfl rfl rfl (by decide) rfl ?_
        refine ev_scr f_L_law (nx := 1589) (j := 1) rfl hX (by decide) (by decide) (by decide) rfl ?_
        refine ev_loc f_L_law (nx := 1590) rfl rfl rfl rfl ?_
        refine ev_loc f_L_law (nx := 1591) rfl rfl rfl rfl ?_
        refine ev_ic f_L_law (nx := 1592) (v := 2) rfl (by decide) rfl ?_
        refine ev_aluvI f_L_law (nx := 1593) (w := 2) rfl rfl rfl (by decide) rfl ?_
        refine ev_scr f_L_law (nx := 1594) (j := 2) rfl hX (by decide) (by decide) (by decide) rfl ?_
        refine ev_inV3 f_L_law (nx := 1597) (lo2 := [(0, .ref 69), (1, .int ((X.2 1))), (2, .int ((X.2 2)))]) rfl rfl rfl rfl f_X12_waits (hW.s rfl) rfl rfl rfl rfl rfl ?_
        refine ev_loc f_X12_waits (nx := 1) rfl rfl rfl rfl ?_
        refine ev_loc f_X12_waits (nx := 2) rfl rfl rfl rfl ?_
        refine ev_loc f_X12_waits (nx := 3) rfl rfl rfl rfl ?_
        refine ev_inV3 f_X12_waits (nx := 6) (lo2 := [(0, .ref 69), (1, .int ((X.2 1))), (2, .int ((X.2 2)))]) rfl rfl rfl rfl f_X12_areSeeds (hW.s rfl) rfl rfl rfl rfl rfl ?_
        refine ev_loc f_X12_areSeeds (nx := 1) rfl rfl rfl rfl ?_
        refine ev_alu f_X12_areSeeds (nx := 2) rfl rfl rfl rfl ?_
        refine ev_lc f_X12_areSeeds (nx := 3) (v := 0) rfl (by decide) rfl ?_
        refine ev_ldL f_X12_areSeeds (nx := 6) (v := 9999) rfl (by decide) rfl ?_
        refine ev_inS3 f_X12_areSeeds (nx := 9) (lo2 := [(0, .long (((X.2 1) : Int32).toInt64)), (2, .long 0), (4, .long 9999)]) rfl rfl rfl rfl f_X12_isFrom rfl rfl rfl rfl ?_
        refine ev_loc f_X12_isFrom (nx := 1) rfl rfl rfl rfl ?_
        refine ev_loc f_X12_isFrom (nx := 2) rfl rfl rfl rfl ?_
        refine ev_alu f_X12_isFrom (nx := 3) rfl rfl rfl rfl ?_
        refine ev_f f_X12_isFrom (t1 := 17) (t2 := 6) rfl rfl rfl (by rw [lgc_lt (n := 0) (by decide)]; omega) ?_
        refine ev_loc f_X12_isFrom (nx := 7) rfl rfl rfl rfl ?_
        refine ev_loc f_X12_isFrom (nx := 9) rfl rfl rfl rfl ?_
        refine ev_alu f_X12_isFrom (nx := 10) rfl rfl rfl rfl ?_
        refine ev_f f_X12_isFrom (t1 := 17) (t2 := 13) rfl rfl rfl (by rw [lgc_gt (n := 9999) (by decide)]; omega) ?_
        refine ev_ic f_X12_isFrom (nx := 14) (v := 1) rfl (by decide) rfl ?_
        refine ev_jmp f_X12_isFrom (nx := 18) rfl rfl rfl ?_
        refine ev_retK1 f_X12_isFrom rfl rfl rfl ?_
        refine ev_f f_X12_areSeeds (t1 := 39) (t2 := 12) rfl rfl rfl (by decide) ?_
        refine ev_loc f_X12_areSeeds (nx := 13) rfl rfl rfl rfl ?_
        refine ev_alu f_X12_areSeeds (nx := 14) rfl rfl rfl rfl ?_
        refine ev_lc f_X12_areSeeds (nx := 15) (v := 1) rfl (by decide) rfl ?_
        refine ev_ldL f_X12_areSeeds (nx := 18) (v := 20) rfl (by decide) rfl ?_
        refine ev_inS3 f_X12_areSeeds (nx := 21) (lo2 := [(0, .long (((X.2 2) : Int32).toInt64)), (2, .long 1), (4, .long 20)]) rfl rfl rfl rfl f_X12_isFrom rfl rfl rfl rfl ?_
        refine ev_loc f_X12_isFrom (nx := 1) rfl rfl rfl rfl ?_
        refine ev_loc f_X12_isFrom (nx := 2) rfl rfl rfl rfl ?_
        refine ev_alu f_X12_isFrom (nx := 3) rfl rfl rfl rfl ?_
        refine ev_t f_X12_isFrom (t1 := 17) (t2 := 6) rfl rfl rfl (by rw [lgc_lt (n := 1) (by decide)]; omega) ?_
        refine ev_ic f_X12_isFrom (nx := 18) (v := 0) rfl (by decide) rfl ?_
        refine ev_retK1 f_X12_isFrom rfl rfl rfl ?_
        refine ev_t f_X12_areSeeds (t1 := 39) (t2 := 24) rfl rfl rfl (by decide) ?_
        refine ev_ic f_X12_areSeeds (nx := 40) (v := 0) rfl (by decide) rfl ?_
        refine ev_retK1 f_X12_areSeeds rfl rfl rfl ?_
        refine ev_t f_X12_waits (t1 := 9) (t2 := 15) rfl rfl rfl (by decide) ?_
        refine ev_loc f_X12_waits (nx := 10) rfl rfl rfl rfl ?_
        refine ev_ic f_X12_waits (nx := 11) (v := 1) rfl (by decide) rfl ?_
        refine ev_inV2 f_X12_waits (nx := 14) (lo2 := [(0, .ref 69), (1, .int 1)]) rfl rfl rfl rfl f_X12_refuse (hW.s rfl) rfl rfl rfl rfl rfl ?_
        refine ev_loc f_X12_refuse (nx := 1) rfl rfl rfl rfl ?_
        refine ev_loc f_X12_refuse (nx := 2) rfl rfl rfl rfl ?_
        refine ev_putI f_X12_refuse (nx := 5) rfl (hW.s rfl) rfl rfl rfl ?_
        refine ev_ic f_X12_refuse (nx := 6) (v := -1) rfl (by decide) rfl ?_
        refine ev_retK1 f_X12_refuse rfl rfl rfl ?_
        refine ev_retK1 f_X12_waits rfl rfl rfl ?_
        refine ev_t f_L_law (t1 := 1628) (t2 := 1600) rfl rfl rfl (by decide) ?_
        refine ev_incv f_L_law (nx := 1631) (c := 6) (w := 6) (lo' := [(3, .int 6), (2, .ref 69), (1, .ref 0), (0, .retAddr 30)]) rfl rfl (by decide) (by decide) rfl rfl rfl ?_
        refine ev_jmp f_L_law (nx := 18) rfl rfl rfl ?_
        refine ev_loc f_L_law (nx := 19) rfl rfl rfl rfl ?_
        refine ev_loc f_L_law (nx := 20) rfl rfl rfl rfl ?_
        refine ev_alenX f_L_law (nx := 21) rfl hX rfl ?_
        refine ev_bp f_L_law (nx := 23) (v := 6) rfl (by decide) rfl ?_
        refine ev_aluvI f_L_law (nx := 24) (w := 0) rfl rfl rfl (by decide) rfl ?_
        refine ev_t f_L_law (t1 := 1634) (t2 := 27) rfl rfl rfl (by decide) ?_
        refine ev_ic f_L_law (nx := 1635) (v := 1) rfl (by decide) rfl ?_
        refine ev_ret f_L_law rfl rfl rfl ?_
        exact ⟨rfl, hz⟩
      · have q158 := h158; rw [Int32.lt_iff_toInt_lt, (by decide : (1 : Int32).toInt = 1)] at q158
        refine ev_loc f_X11_wrongSeeds (nx := 17) rfl rfl rfl rfl ?_
        refine ev_bp f_X11_wrongSeeds (nx := 19) (v := 20) rfl (by decide) rfl ?_
        refine ev_if f_X11_wrongSeeds (t1 := 33) (t2 := 22) rfl rfl rfl (fun h243 => ?_) (fun h243 => ?_)
        · have q243 := h243; rw [Int32.lt_iff_toInt_lt, (by decide : (20 : Int32).toInt = 20)] at q243
          refine ev_ic f_X11_wrongSeeds (nx := 34) (v := 1) rfl (by decide) rfl ?_
          refine ev_retK1 f_X11_wrongSeeds rfl rfl rfl ?_
          refine ev_loc f_X11_waits (nx := 7) (lo' := [(3, .int 1), (0, .ref 0), (1, .int ((X.2 1))), (2, .int ((X.2 2)))]) rfl rfl rfl rfl ?_
          refine ev_loc f_X11_waits (nx := 8) rfl rfl rfl rfl ?_
          refine ev_f f_X11_waits (t1 := 17) (t2 := 11) rfl rfl rfl (by decide) ?_
          refine ev_loc f_X11_waits (nx := 12) rfl rfl rfl rfl ?_
          refine ev_loc f_X11_waits (nx := 13) rfl rfl rfl rfl ?_
          refine ev_inV2 f_X11_waits (nx := 16) (lo2 := [(0, .ref 0), (1, .int 1)]) rfl rfl rfl rfl f_X11_refuse (hW.s rfl) rfl rfl rfl rfl rfl ?_
          refine ev_loc f_X11_refuse (nx := 1) rfl rfl rfl rfl ?_
          refine ev_loc f_X11_refuse (nx := 2) rfl rfl rfl rfl ?_
          refine ev_putI f_X11_refuse (nx := 5) rfl (hW.s rfl) rfl rfl rfl ?_
          refine ev_ic f_X11_refuse (nx := 6) (v := -1) rfl (by decide) rfl ?_
          refine ev_retK1 f_X11_refuse rfl rfl rfl ?_
          refine ev_retK1 f_X11_waits rfl rfl rfl ?_
          refine ev_loc f_L_law (nx := 1584) rfl rfl rfl rfl ?_
          refine ev_loc f_L_law (nx := 1585) rfl rfl rfl rfl ?_
          refine ev_loc f_L_law (nx := 1586) rfl rfl rfl rfl ?_
          refine ev_ic f_L_law (nx := 1587) (v := 1) rfl (by decide) rfl ?_
          refine ev_aluvI f_L_law (nx := 1588) (w := 1) rfl rfl rfl (by decide) rfl ?_
          refine ev_scr f_L_law (nx := 1589) (j := 1) rfl hX (by decide) (by decide) (by decide) rfl ?_
          refine ev_loc f_L_law (nx := 1590) rfl rfl rfl rfl ?_
          refine ev_loc f_L_law (nx := 1591) rfl rfl rfl rfl ?_
          refine ev_ic f_L_law (nx := 1592) (v := 2) rfl (by decide) rfl ?_
          refine ev_aluvI f_L_law (nx := 1593) (w := 2) rfl rfl rfl (by decide) rfl ?_
          refine ev_scr f_L_law (nx := 1594) (j := 2) rfl hX (by decide) (by decide) (by decide) rfl ?_
          refine ev_inV3 f_L_law (nx := 1597) (lo2 := [(0, .ref 69), (1, .int ((X.2 1))), (2, .int ((X.2 2)))]) rfl rfl rfl rfl f_X12_waits (hW.s rfl) rfl rfl rfl rfl rfl ?_
          refine ev_loc f_X12_waits (nx := 1) rfl rfl rfl rfl ?_
          refine ev_loc f_X12_waits (nx := 2) rfl rfl rfl rfl ?_
          refine ev_loc f_X12_waits (nx := 3) rfl rfl rfl rfl ?_
          refine ev_inV3 f_X12_waits (nx := 6) (lo2 := [(0, .ref 69), (1, .int ((X.2 1))), (2, .int ((X.2 2)))]) rfl rfl rfl rfl f_X12_areSeeds (hW.s rfl) rfl rfl rfl rfl rfl ?_
          refine ev_loc f_X12_areSeeds (nx := 1) rfl rfl rfl rfl ?_
          refine ev_alu f_X12_areSeeds (nx := 2) rfl rfl rfl rfl ?_
          refine ev_lc f_X12_areSeeds (nx := 3) (v := 0) rfl (by decide) rfl ?_
          refine ev_ldL f_X12_areSeeds (nx := 6) (v := 9999) rfl (by decide) rfl ?_
          refine ev_inS3 f_X12_areSeeds (nx := 9) (lo2 := [(0, .long (((X.2 1) : Int32).toInt64)), (2, .long 0), (4, .long 9999)]) rfl rfl rfl rfl f_X12_isFrom rfl rfl rfl rfl ?_
          refine ev_loc f_X12_isFrom (nx := 1) rfl rfl rfl rfl ?_
          refine ev_loc f_X12_isFrom (nx := 2) rfl rfl rfl rfl ?_
          refine ev_alu f_X12_isFrom (nx := 3) rfl rfl rfl rfl ?_
          refine ev_f f_X12_isFrom (t1 := 17) (t2 := 6) rfl rfl rfl (by rw [lgc_lt (n := 0) (by decide)]; omega) ?_
          refine ev_loc f_X12_isFrom (nx := 7) rfl rfl rfl rfl ?_
          refine ev_loc f_X12_isFrom (nx := 9) rfl rfl rfl rfl ?_
          refine ev_alu f_X12_isFrom (nx := 10) rfl rfl rfl rfl ?_
          refine ev_f f_X12_isFrom (t1 := 17) (t2 := 13) rfl rfl rfl (by rw [lgc_gt (n := 9999) (by decide)]; omega) ?_
          refine ev_ic f_X12_isFrom (nx := 14) (v := 1) rfl (by decide) rfl ?_
          refine ev_jmp f_X12_isFrom (nx := 18) rfl rfl rfl ?_
          refine ev_retK1 f_X12_isFrom rfl rfl rfl ?_
          refine ev_f f_X12_areSeeds (t1 := 39) (t2 := 12) rfl rfl rfl (by decide) ?_
          refine ev_loc f_X12_areSeeds (nx := 13) rfl rfl rfl rfl ?_
          refine ev_alu f_X12_areSeeds (nx := 14) rfl rfl rfl rfl ?_
          refine ev_lc f_X12_areSeeds (nx := 15) (v := 1) rfl (by decide) rfl ?_
          refine ev_ldL f_X12_areSeeds (nx := 18) (v := 20) rfl (by decide) rfl ?_
          refine ev_inS3 f_X12_areSeeds (nx := 21) (lo2 := [(0, .long (((X.2 2) : Int32).toInt64)), (2, .long 1), (4, .long 20)]) rfl rfl rfl rfl f_X12_isFrom rfl rfl rfl rfl ?_
          refine ev_loc f_X12_isFrom (nx := 1) rfl rfl rfl rfl ?_
          refine ev_loc f_X12_isFrom (nx := 2) rfl rfl rfl rfl ?_
          refine ev_alu f_X12_isFrom (nx := 3) rfl rfl rfl rfl ?_
          refine ev_f f_X12_isFrom (t1 := 17) (t2 := 6) rfl rfl rfl (by rw [lgc_lt (n := 1) (by decide)]; omega) ?_
          refine ev_loc f_X12_isFrom (nx := 7) rfl rfl rfl rfl ?_
          refine ev_loc f_X12_isFrom (nx := 9) rfl rfl rfl rfl ?_
          refine ev_alu f_X12_isFrom (nx := 10) rfl rfl rfl rfl ?_
          refine ev_t f_X12_isFrom (t1 := 17) (t2 := 13) rfl rfl rfl (by rw [lgc_gt (n := 20) (by decide)]; omega) ?_
          refine ev_ic f_X12_isFrom (nx := 18) (v := 0) rfl (by decide) rfl ?_
          refine ev_retK1 f_X12_isFrom rfl rfl rfl ?_
          refine ev_t f_X12_areSeeds (t1 := 39) (t2 := 24) rfl rfl rfl (by decide) ?_
          refine ev_ic f_X12_areSeeds (nx := 40) (v := 0) rfl (by decide) rfl ?_
          refine ev_retK1 f_X12_areSeeds rfl rfl rfl ?_
          refine ev_t f_X12_waits (t1 := 9) (t2 := 15) rfl rfl rfl (by decide) ?_
          refine ev_loc f_X12_waits (nx := 10) rfl rfl rfl rfl ?_
          refine ev_ic f_X12_waits (nx := 11) (v := 1) rfl (by decide) rfl ?_
          refine ev_inV2 f_X12_waits (nx := 14) (lo2 := [(0, .ref 69), (1, .int 1)]) rfl rfl rfl rfl f_X12_refuse (hW.s rfl) rfl rfl rfl rfl rfl ?_
          refine ev_loc f_X12_refuse (nx := 1) rfl rfl rfl rfl ?_
          refine ev_loc f_X12_refuse (nx := 2) rfl rfl rfl rfl ?_
          refine ev_putI f_X12_refuse (nx := 5) rfl (hW.s rfl) rfl rfl rfl ?_
          refine ev_ic f_X12_refuse (nx := 6) (v := -1) rfl (by decide) rfl ?_
          refine ev_retK1 f_X12_refuse rfl rfl rfl ?_
          refine ev_retK1 f_X12_waits rfl rfl rfl ?_
          refine ev_t f_L_law (t1 := 1628) (t2 := 1600) rfl rfl rfl (by decide) ?_
          refine ev_incv f_L_law (nx := 1631) (c := 6) (w := 6) (lo' := [(3, .int 6), (2, .ref 69), (1, .ref 0), (0, .retAddr 30)]) rfl rfl (by decide) (by decide) rfl rfl rfl ?_
          refine ev_jmp f_L_law (nx := 18) rfl rfl rfl ?_
          refine ev_loc f_L_law (nx := 19) rfl rfl rfl rfl ?_
          refine ev_loc f_L_law (nx := 20) rfl rfl rfl rfl ?_
          refine ev_alenX f_L_law (nx := 21) rfl hX rfl ?_
          refine ev_bp f_L_law (nx := 23) (v := 6) rfl (by decide) rfl ?_
          refine ev_aluvI f_L_law (nx := 24) (w := 0) rfl rfl rfl (by decide) rfl ?_
          refine ev_t f_L_law (t1 := 1634) (t2 := 27) rfl rfl rfl (by decide) ?_
          refine ev_ic f_L_law (nx := 1635) (v := 1) rfl (by decide) rfl ?_
          refine ev_ret f_L_law rfl rfl rfl ?_
          exact ⟨rfl, hz⟩
        · have q243 := h243; rw [Int32.lt_iff_toInt_lt, (by decide : (20 : Int32).toInt = 20)] at q243
          refine ev_loc f_X11_wrongSeeds (nx := 23) rfl rfl rfl rfl ?_
          refine ev_loc f_X11_wrongSeeds (nx := 24) rfl rfl rfl rfl ?_
          refine ev_alu f_X11_wrongSeeds (nx := 25) rfl rfl rfl rfl ?_
          refine ev_ic f_X11_wrongSeeds (nx := 26) (v := 1) rfl (by decide) rfl ?_
          refine ev_alu f_X11_wrongSeeds (nx := 27) rfl rfl rfl rfl ?_
          refine ev_sp f_X11_wrongSeeds (nx := 30) (v := 9999) rfl (by decide) rfl ?_
          refine ev_if f_X11_wrongSeeds (t1 := 35) (t2 := 33) rfl rfl rfl (fun h336 => ?_) (fun h336 => ?_)
          · refine ev_loc f_X11_wrongSeeds (nx := 36) rfl rfl rfl rfl ?_
            refine ev_getR f_X11_wrongSeeds (nx := 39) rfl (hW.s rfl) rfl rfl (wr_0_7 (gr := gr) hR) rfl rfl ?_
            refine ev_jmp f_X11_wrongSeeds (nx := 42) rfl rfl rfl ?_
            refine ev_bp f_X11_wrongSeeds (nx := 44) (v := 6) rfl (by decide) rfl ?_
            refine ev_jmp f_X11_wrongSeeds (nx := 48) rfl rfl rfl ?_
            refine ev_retK1 f_X11_wrongSeeds rfl rfl rfl ?_
            refine ev_loc f_X11_waits (nx := 7) (lo' := [(3, .int 6), (0, .ref 0), (1, .int ((X.2 1))), (2, .int ((X.2 2)))]) rfl rfl rfl rfl ?_
            refine ev_loc f_X11_waits (nx := 8) rfl rfl rfl rfl ?_
            refine ev_f f_X11_waits (t1 := 17) (t2 := 11) rfl rfl rfl (by decide) ?_
            refine ev_loc f_X11_waits (nx := 12) rfl rfl rfl rfl ?_
            refine ev_loc f_X11_waits (nx := 13) rfl rfl rfl rfl ?_
            refine ev_inV2 f_X11_waits (nx := 16) (lo2 := [(0, .ref 0), (1, .int 6)]) rfl rfl rfl rfl f_X11_refuse (hW.s rfl) rfl rfl rfl rfl rfl ?_
            refine ev_loc f_X11_refuse (nx := 1) rfl rfl rfl rfl ?_
            refine ev_loc f_X11_refuse (nx := 2) rfl rfl rfl rfl ?_
            refine ev_putI f_X11_refuse (nx := 5) rfl (hW.s rfl) rfl rfl rfl ?_
            refine ev_ic f_X11_refuse (nx := 6) (v := -1) rfl (by decide) rfl ?_
            refine ev_retK1 f_X11_refuse rfl rfl rfl ?_
            refine ev_retK1 f_X11_waits rfl rfl rfl ?_
            refine ev_loc f_L_law (nx := 1584) rfl rfl rfl rfl ?_
            refine ev_loc f_L_law (nx := 1585) rfl rfl rfl rfl ?_
            refine ev_loc f_L_law (nx := 1586) rfl rfl rfl rfl ?_
            refine ev_ic f_L_law (nx := 1587) (v := 1) rfl (by decide) rfl ?_
            refine ev_aluvI f_L_law (nx := 1588) (w := 1) rfl rfl rfl (by decide) rfl ?_
            refine ev_scr f_L_law (nx := 1589) (j := 1) rfl hX (by decide) (by decide) (by decide) rfl ?_
            refine ev_loc f_L_law (nx := 1590) rfl rfl rfl rfl ?_
            refine ev_loc f_L_law (nx := 1591) rfl rfl rfl rfl ?_
            refine ev_ic f_L_law (nx := 1592) (v := 2) rfl (by decide) rfl ?_
            refine ev_aluvI f_L_law (nx := 1593) (w := 2) rfl rfl rfl (by decide) rfl ?_
            refine ev_scr f_L_law (nx := 1594) (j := 2) rfl hX (by decide) (by decide) (by decide) rfl ?_
            refine ev_inV3 f_L_law (nx := 1597) (lo2 := [(0, .ref 69), (1, .int ((X.2 1))), (2, .int ((X.2 2)))]) rfl rfl rfl rfl f_X12_waits (hW.s rfl) rfl rfl rfl rfl rfl ?_
            refine ev_loc f_X12_waits (nx := 1) rfl rfl rfl rfl ?_
            refine ev_loc f_X12_waits (nx := 2) rfl rfl rfl rfl ?_
            refine ev_loc f_X12_waits (nx := 3) rfl rfl rfl rfl ?_
            refine ev_inV3 f_X12_waits (nx := 6) (lo2 := [(0, .ref 69), (1, .int ((X.2 1))), (2, .int ((X.2 2)))]) rfl rfl rfl rfl f_X12_areSeeds (hW.s rfl) rfl rfl rfl rfl rfl ?_
            refine ev_loc f_X12_areSeeds (nx := 1) rfl rfl rfl rfl ?_
            refine ev_alu f_X12_areSeeds (nx := 2) rfl rfl rfl rfl ?_
            refine ev_lc f_X12_areSeeds (nx := 3) (v := 0) rfl (by decide) rfl ?_
            refine ev_ldL f_X12_areSeeds (nx := 6) (v := 9999) rfl (by decide) rfl ?_
            refine ev_inS3 f_X12_areSeeds (nx := 9) (lo2 := [(0, .long (((X.2 1) : Int32).toInt64)), (2, .long 0), (4, .long 9999)]) rfl rfl rfl rfl f_X12_isFrom rfl rfl rfl rfl ?_
            refine ev_loc f_X12_isFrom (nx := 1) rfl rfl rfl rfl ?_
            refine ev_loc f_X12_isFrom (nx := 2) rfl rfl rfl rfl ?_
            refine ev_alu f_X12_isFrom (nx := 3) rfl rfl rfl rfl ?_
            refine ev_f f_X12_isFrom (t1 := 17) (t2 := 6) rfl rfl rfl (by rw [lgc_lt (n := 0) (by decide)]; omega) ?_
            refine ev_loc f_X12_isFrom (nx := 7) rfl rfl rfl rfl ?_
            refine ev_loc f_X12_isFrom (nx := 9) rfl rfl rfl rfl ?_
            refine ev_alu f_X12_isFrom (nx := 10) rfl rfl rfl rfl ?_
            refine ev_f f_X12_isFrom (t1 := 17) (t2 := 13) rfl rfl rfl (by rw [lgc_gt (n := 9999) (by decide)]; omega) ?_
            refine ev_ic f_X12_isFrom (nx := 14) (v := 1) rfl (by decide) rfl ?_
            refine ev_jmp f_X12_isFrom (nx := 18) rfl rfl rfl ?_
            refine ev_retK1 f_X12_isFrom rfl rfl rfl ?_
            refine ev_f f_X12_areSeeds (t1 := 39) (t2 := 12) rfl rfl rfl (by decide) ?_
            refine ev_loc f_X12_areSeeds (nx := 13) rfl rfl rfl rfl ?_
            refine ev_alu f_X12_areSeeds (nx := 14) rfl rfl rfl rfl ?_
            refine ev_lc f_X12_areSeeds (nx := 15) (v := 1) rfl (by decide) rfl ?_
            refine ev_ldL f_X12_areSeeds (nx := 18) (v := 20) rfl (by decide) rfl ?_
            refine ev_inS3 f_X12_areSeeds (nx := 21) (lo2 := [(0, .long (((X.2 2) : Int32).toInt64)), (2, .long 1), (4, .long 20)]) rfl rfl rfl rfl f_X12_isFrom rfl rfl rfl rfl ?_
            refine ev_loc f_X12_isFrom (nx := 1) rfl rfl rfl rfl ?_
            refine ev_loc f_X12_isFrom (nx := 2) rfl rfl rfl rfl ?_
            refine ev_alu f_X12_isFrom (nx := 3) rfl rfl rfl rfl ?_
            refine ev_f f_X12_isFrom (t1 := 17) (t2 := 6) rfl rfl rfl (by rw [lgc_lt (n := 1) (by decide)]; omega) ?_
            refine ev_loc f_X12_isFrom (nx := 7) rfl rfl rfl rfl ?_
            refine ev_loc f_X12_isFrom (nx := 9) rfl rfl rfl rfl ?_
            refine ev_alu f_X12_isFrom (nx := 10) rfl rfl rfl rfl ?_
            refine ev_f f_X12_isFrom (t1 := 17) (t2 := 13) rfl rfl rfl (by rw [lgc_gt (n := 20) (by decide)]; omega) ?_
            refine ev_ic f_X12_isFrom (nx := 14) (v := 1) rfl (by decide) rfl ?_
            refine ev_jmp f_X12_isFrom (nx := 18) rfl rfl rfl ?_
            refine ev_retK1 f_X12_isFrom rfl rfl rfl ?_
            refine ev_f f_X12_areSeeds (t1 := 39) (t2 := 24) rfl rfl rfl (by decide) ?_
            refine ev_loc f_X12_areSeeds (nx := 25) rfl rfl rfl rfl ?_
            refine ev_loc f_X12_areSeeds (nx := 26) rfl rfl rfl rfl ?_
            refine ev_alu f_X12_areSeeds (nx := 27) rfl rfl rfl rfl ?_
            refine ev_ic f_X12_areSeeds (nx := 28) (v := 1) rfl (by decide) rfl ?_
            refine ev_alu f_X12_areSeeds (nx := 29) rfl rfl rfl rfl ?_
            refine ev_sp f_X12_areSeeds (nx := 32) (v := 9999) rfl (by decide) rfl ?_
            refine ev_f f_X12_areSeeds (t1 := 39) (t2 := 35) rfl rfl rfl (Int32.not_lt.mpr h336) ?_
            refine ev_ic f_X12_areSeeds (nx := 36) (v := 1) rfl (by decide) rfl ?_
            refine ev_jmp f_X12_areSeeds (nx := 40) rfl rfl rfl ?_
            refine ev_retK1 f_X12_areSeeds rfl rfl rfl ?_
            refine ev_f f_X12_waits (t1 := 9) (t2 := 15) rfl rfl rfl (by decide) ?_
            refine ev_loc f_X12_waits (nx := 16) rfl rfl rfl rfl ?_
            refine ev_getR f_X12_waits (nx := 19) rfl (hW.s rfl) rfl rfl (hW.r rfl) rfl rfl ?_
            refine ev_bp f_X12_waits (nx := 21) (v := 8) rfl (by decide) rfl ?_
            refine ev_ialdv f_X12_waits (nx := 22) (j := 8) (w := 0) rfl (hW.s rfl) (by decide) (by decide) (by decide) (wi_70_8 (gi := gi) hR) rfl ?_
            refine ev_t f_X12_waits (t1 := 25) (t2 := 32) rfl rfl rfl (by decide) ?_
            refine ev_loc f_X12_waits (nx := 26) rfl rfl rfl rfl ?_
            refine ev_bp f_X12_waits (nx := 28) (v := 6) rfl (by decide) rfl ?_
            refine ev_inV2 f_X12_waits (nx := 31) (lo2 := [(0, .ref 69), (1, .int 6)]) rfl rfl rfl rfl f_X12_refuse (hW.s rfl) rfl rfl rfl rfl rfl ?_
            refine ev_loc f_X12_refuse (nx := 1) rfl rfl rfl rfl ?_
            refine ev_loc f_X12_refuse (nx := 2) rfl rfl rfl rfl ?_
            refine ev_putI f_X12_refuse (nx := 5) rfl (hW.s rfl) rfl rfl rfl ?_
            refine ev_ic f_X12_refuse (nx := 6) (v := -1) rfl (by decide) rfl ?_
            refine ev_retK1 f_X12_refuse rfl rfl rfl ?_
            refine ev_retK1 f_X12_waits rfl rfl rfl ?_
            refine ev_t f_L_law (t1 := 1628) (t2 := 1600) rfl rfl rfl (by decide) ?_
            refine ev_incv f_L_law (nx := 1631) (c := 6) (w := 6) (lo' := [(3, .int 6), (2, .ref 69), (1, .ref 0), (0, .retAddr 30)]) rfl rfl (by decide) (by decide) rfl rfl rfl ?_
            refine ev_jmp f_L_law (nx := 18) rfl rfl rfl ?_
            refine ev_loc f_L_law (nx := 19) rfl rfl rfl rfl ?_
            refine ev_loc f_L_law (nx := 20) rfl rfl rfl rfl ?_
            refine ev_alenX f_L_law (nx := 21) rfl hX rfl ?_
            refine ev_bp f_L_law (nx := 23) (v := 6) rfl (by decide) rfl ?_
            refine ev_aluvI f_L_law (nx := 24) (w := 0) rfl rfl rfl (by decide) rfl ?_
            refine ev_t f_L_law (t1 := 1634) (t2 := 27) rfl rfl rfl (by decide) ?_
            refine ev_ic f_L_law (nx := 1635) (v := 1) rfl (by decide) rfl ?_
            refine ev_ret f_L_law rfl rfl rfl ?_
            exact ⟨rfl, hz⟩
          · refine ev_ic f_X11_wrongSeeds (nx := 34) (v := 1) rfl (by decide) rfl ?_
            refine ev_retK1 f_X11_wrongSeeds rfl rfl rfl ?_
            refine ev_loc f_X11_waits (nx := 7) (lo' := [(3, .int 1), (0, .ref 0), (1, .int ((X.2 1))), (2, .int ((X.2 2)))]) rfl rfl rfl rfl ?_
            refine ev_loc f_X11_waits (nx := 8) rfl rfl rfl rfl ?_
            refine ev_f f_X11_waits (t1 := 17) (t2 := 11) rfl rfl rfl (by decide) ?_
            refine ev_loc f_X11_waits (nx := 12) rfl rfl rfl rfl ?_
            refine ev_loc f_X11_waits (nx := 13) rfl rfl rfl rfl ?_
            refine ev_inV2 f_X11_waits (nx := 16) (lo2 := [(0, .ref 0), (1, .int 1)]) rfl rfl rfl rfl f_X11_refuse (hW.s rfl) rfl rfl rfl rfl rfl ?_
            refine ev_loc f_X11_refuse (nx := 1) rfl rfl rfl rfl ?_
            refine ev_loc f_X11_refuse (nx := 2) rfl rfl rfl rfl ?_
            refine ev_putI f_X11_refuse (nx := 5) rfl (hW.s rfl) rfl rfl rfl ?_
            refine ev_ic f_X11_refuse (nx := 6) (v := -1) rfl (by decide) rfl ?_
            refine ev_retK1 f_X11_refuse rfl rfl rfl ?_
            refine ev_retK1 f_X11_waits rfl rfl rfl ?_
            refine ev_loc f_L_law (nx := 1584) rfl rfl rfl rfl ?_
            refine ev_loc f_L_law (nx := 1585) rfl rfl rfl rfl ?_
            refine ev_loc f_L_law (nx := 1586) rfl rfl rfl rfl ?_
            refine ev_ic f_L_law (nx := 1587) (v := 1) rfl (by decide) rfl ?_
            refine ev_aluvI f_L_law (nx := 1588) (w := 1) rfl rfl rfl (by decide) rfl ?_
            refine ev_scr f_L_law (nx := 1589) (j := 1) rfl hX (by decide) (by decide) (by decide) rfl ?_
            refine ev_loc f_L_law (nx := 1590) rfl rfl rfl rfl ?_
            refine ev_loc f_L_law (nx := 1591) rfl rfl rfl rfl ?_
            refine ev_ic f_L_law (nx := 1592) (v := 2) rfl (by decide) rfl ?_
            refine ev_aluvI f_L_law (nx := 1593) (w := 2) rfl rfl rfl (by decide) rfl ?_
            refine ev_scr f_L_law (nx := 1594) (j := 2) rfl hX (by decide) (by decide) (by decide) rfl ?_
            refine ev_inV3 f_L_law (nx := 1597) (lo2 := [(0, .ref 69), (1, .int ((X.2 1))), (2, .int ((X.2 2)))]) rfl rfl rfl rfl f_X12_waits (hW.s rfl) rfl rfl rfl rfl rfl ?_
            refine ev_loc f_X12_waits (nx := 1) rfl rfl rfl rfl ?_
            refine ev_loc f_X12_waits (nx := 2) rfl rfl rfl rfl ?_
            refine ev_loc f_X12_waits (nx := 3) rfl rfl rfl rfl ?_
            refine ev_inV3 f_X12_waits (nx := 6) (lo2 := [(0, .ref 69), (1, .int ((X.2 1))), (2, .int ((X.2 2)))]) rfl rfl rfl rfl f_X12_areSeeds (hW.s rfl) rfl rfl rfl rfl rfl ?_
            refine ev_loc f_X12_areSeeds (nx := 1) rfl rfl rfl rfl ?_
            refine ev_alu f_X12_areSeeds (nx := 2) rfl rfl rfl rfl ?_
            refine ev_lc f_X12_areSeeds (nx := 3) (v := 0) rfl (by decide) rfl ?_
            refine ev_ldL f_X12_areSeeds (nx := 6) (v := 9999) rfl (by decide) rfl ?_
            refine ev_inS3 f_X12_areSeeds (nx := 9) (lo2 := [(0, .long (((X.2 1) : Int32).toInt64)), (2, .long 0), (4, .long 9999)]) rfl rfl rfl rfl f_X12_isFrom rfl rfl rfl rfl ?_
            refine ev_loc f_X12_isFrom (nx := 1) rfl rfl rfl rfl ?_
            refine ev_loc f_X12_isFrom (nx := 2) rfl rfl rfl rfl ?_
            refine ev_alu f_X12_isFrom (nx := 3) rfl rfl rfl rfl ?_
            refine ev_f f_X12_isFrom (t1 := 17) (t2 := 6) rfl rfl rfl (by rw [lgc_lt (n := 0) (by decide)]; omega) ?_
            refine ev_loc f_X12_isFrom (nx := 7) rfl rfl rfl rfl ?_
            refine ev_loc f_X12_isFrom (nx := 9) rfl rfl rfl rfl ?_
            refine ev_alu f_X12_isFrom (nx := 10) rfl rfl rfl rfl ?_
            refine ev_f f_X12_isFrom (t1 := 17) (t2 := 13) rfl rfl rfl (by rw [lgc_gt (n := 9999) (by decide)]; omega) ?_
            refine ev_ic f_X12_isFrom (nx := 14) (v := 1) rfl (by decide) rfl ?_
            refine ev_jmp f_X12_isFrom (nx := 18) rfl rfl rfl ?_
            refine ev_retK1 f_X12_isFrom rfl rfl rfl ?_
            refine ev_f f_X12_areSeeds (t1 := 39) (t2 := 12) rfl rfl rfl (by decide) ?_
            refine ev_loc f_X12_areSeeds (nx := 13) rfl rfl rfl rfl ?_
            refine ev_alu f_X12_areSeeds (nx := 14) rfl rfl rfl rfl ?_
            refine ev_lc f_X12_areSeeds (nx := 15) (v := 1) rfl (by decide) rfl ?_
            refine ev_ldL f_X12_areSeeds (nx := 18) (v := 20) rfl (by decide) rfl ?_
            refine ev_inS3 f_X12_areSeeds (nx := 21) (lo2 := [(0, .long (((X.2 2) : Int32).toInt64)), (2, .long 1), (4, .long 20)]) rfl rfl rfl rfl f_X12_isFrom rfl rfl rfl rfl ?_
            refine ev_loc f_X12_isFrom (nx := 1) rfl rfl rfl rfl ?_
            refine ev_loc f_X12_isFrom (nx := 2) rfl rfl rfl rfl ?_
            refine ev_alu f_X12_isFrom (nx := 3) rfl rfl rfl rfl ?_
            refine ev_f f_X12_isFrom (t1 := 17) (t2 := 6) rfl rfl rfl (by rw [lgc_lt (n := 1) (by decide)]; omega) ?_
            refine ev_loc f_X12_isFrom (nx := 7) rfl rfl rfl rfl ?_
            refine ev_loc f_X12_isFrom (nx := 9) rfl rfl rfl rfl ?_
            refine ev_alu f_X12_isFrom (nx := 10) rfl rfl rfl rfl ?_
            refine ev_f f_X12_isFrom (t1 := 17) (t2 := 13) rfl rfl rfl (by rw [lgc_gt (n := 20) (by decide)]; omega) ?_
            refine ev_ic f_X12_isFrom (nx := 14) (v := 1) rfl (by decide) rfl ?_
            refine ev_jmp f_X12_isFrom (nx := 18) rfl rfl rfl ?_
            refine ev_retK1 f_X12_isFrom rfl rfl rfl ?_
            refine ev_f f_X12_areSeeds (t1 := 39) (t2 := 24) rfl rfl rfl (by decide) ?_
            refine ev_loc f_X12_areSeeds (nx := 25) rfl rfl rfl rfl ?_
            refine ev_loc f_X12_areSeeds (nx := 26) rfl rfl rfl rfl ?_
            refine ev_alu f_X12_areSeeds (nx := 27) rfl rfl rfl rfl ?_
            refine ev_ic f_X12_areSeeds (nx := 28) (v := 1) rfl (by decide) rfl ?_
            refine ev_alu f_X12_areSeeds (nx := 29) rfl rfl rfl rfl ?_
            refine ev_sp f_X12_areSeeds (nx := 32) (v := 9999) rfl (by decide) rfl ?_
            refine ev_t f_X12_areSeeds (t1 := 39) (t2 := 35) rfl rfl rfl (Int32.not_le.mp h336) ?_
            refine ev_ic f_X12_areSeeds (nx := 40) (v := 0) rfl (by decide) rfl ?_
            refine ev_retK1 f_X12_areSeeds rfl rfl rfl ?_
            refine ev_t f_X12_waits (t1 := 9) (t2 := 15) rfl rfl rfl (by decide) ?_
            refine ev_loc f_X12_waits (nx := 10) rfl rfl rfl rfl ?_
            refine ev_ic f_X12_waits (nx := 11) (v := 1) rfl (by decide) rfl ?_
            refine ev_inV2 f_X12_waits (nx := 14) (lo2 := [(0, .ref 69), (1, .int 1)]) rfl rfl rfl rfl f_X12_refuse (hW.s rfl) rfl rfl rfl rfl rfl ?_
            refine ev_loc f_X12_refuse (nx := 1) rfl rfl rfl rfl ?_
            refine ev_loc f_X12_refuse (nx := 2) rfl rfl rfl rfl ?_
            refine ev_putI f_X12_refuse (nx := 5) rfl (hW.s rfl) rfl rfl rfl ?_
            refine ev_ic f_X12_refuse (nx := 6) (v := -1) rfl (by decide) rfl ?_
            refine ev_retK1 f_X12_refuse rfl rfl rfl ?_
            refine ev_retK1 f_X12_waits rfl rfl rfl ?_
            refine ev_t f_L_law (t1 := 1628) (t2 := 1600) rfl rfl rfl (by decide) ?_
            refine ev_incv f_L_law (nx := 1631) (c := 6) (w := 6) (lo' := [(3, .int 6), (2, .ref 69), (1, .ref 0), (0, .retAddr 30)]) rfl rfl (by decide) (by decide) rfl rfl rfl ?_
            refine ev_jmp f_L_law (nx := 18) rfl rfl rfl ?_
            refine ev_loc f_L_law (nx := 19) rfl rfl rfl rfl ?_
            refine ev_loc f_L_law (nx := 20) rfl rfl rfl rfl ?_
            refine ev_alenX f_L_law (nx := 21) rfl hX rfl ?_
            refine ev_bp f_L_law (nx := 23) (v := 6) rfl (by decide) rfl ?_
            refine ev_aluvI f_L_law (nx := 24) (w := 0) rfl rfl rfl (by decide) rfl ?_
            refine ev_t f_L_law (t1 := 1634) (t2 := 27) rfl rfl rfl (by decide) ?_
            refine ev_ic f_L_law (nx := 1635) (v := 1) rfl (by decide) rfl ?_
            refine ev_ret f_L_law rfl rfl rfl ?_
            exact ⟨rfl, hz⟩
set_option maxRecDepth 20000 in
theorem pc_48 (hR : x_R W1 (sh, gi, gl, gr)) (hX : X.1 = 6) : x_Ev X 1000 n_L_law 1615 [(3, .int 0), (2, .ref 69), (1, .ref 0), (0, .retAddr 30)] [] (sh, gi, gl, gr) x_P1 := by
  have hW := W1_WF hR
  have hz := W1_hz hR
  refine ev_loc f_L_law (nx := 1616) rfl rfl rfl rfl ?_
  refine ev_inV1 f_L_law (nx := 1619) (lo2 := [(0, .ref 0)]) rfl rfl rfl rfl f_X11_back (hW.s rfl) rfl rfl rfl rfl rfl ?_
  refine ev_loc f_X11_back (nx := 1) rfl rfl rfl rfl ?_
  refine ev_gvI f_X11_back (nx := 4) (w := 0) rfl (hW.s rfl) rfl rfl (wi_0_12 (gi := gi) hR) rfl ?_
  refine ev_ic f_X11_back (nx := 5) (v := 1) rfl (by decide) rfl ?_
  refine ev_t f_X11_back (t1 := 22) (t2 := 8) rfl rfl rfl (by decide) ?_
  refine ev_loc f_X11_back (nx := 23) rfl rfl rfl rfl ?_
  refine ev_bp f_X11_back (nx := 25) (v := 6) rfl (by decide) rfl ?_
  refine ev_inV2 f_X11_back (nx := 28) (lo2 := [(0, .ref 0), (1, .int 6)]) rfl rfl rfl rfl f_X11_refuse (hW.s rfl) rfl rfl rfl rfl rfl ?_
  refine ev_loc f_X11_refuse (nx := 1) rfl rfl rfl rfl ?_
  refine ev_loc f_X11_refuse (nx := 2) rfl rfl rfl rfl ?_
  refine ev_putI f_X11_refuse (nx := 5) rfl (hW.s rfl) rfl rfl rfl ?_
  refine ev_ic f_X11_refuse (nx := 6) (v := -1) rfl (by decide) rfl ?_
  refine ev_retK1 f_X11_refuse rfl rfl rfl ?_
  refine ev_retK1 f_X11_back rfl rfl rfl ?_
  refine ev_loc f_L_law (nx := 1620) rfl rfl rfl rfl ?_
  refine ev_inV1 f_L_law (nx := 1623) (lo2 := [(0, .ref 69)]) rfl rfl rfl rfl f_X12_back (hW.s rfl) rfl rfl rfl rfl rfl ?_
  refine ev_loc f_X12_back (nx := 1) rfl rfl rfl rfl ?_
  refine ev_gvI f_X12_back (nx := 4) (w := 0) rfl (hW.s rfl) rfl rfl (wi_69_75 (gi := gi) hR) rfl ?_
  refine ev_t f_X12_back (t1 := 7) (t2 := 14) rfl rfl rfl (by decide) ?_
  refine ev_loc f_X12_back (nx := 8) rfl rfl rfl rfl ?_
  refine ev_bp f_X12_back (nx := 10) (v := 6) rfl (by decide) rfl ?_
  refine ev_inV2 f_X12_back (nx := 13) (lo2 := [(0, .ref 69), (1, .int 6)]) rfl rfl rfl rfl f_X12_refuse (hW.s rfl) rfl rfl rfl rfl rfl ?_
  refine ev_loc f_X12_refuse (nx := 1) rfl rfl rfl rfl ?_
  refine ev_loc f_X12_refuse (nx := 2) rfl rfl rfl rfl ?_
  refine ev_putI f_X12_refuse (nx := 5) rfl (hW.s rfl) rfl rfl rfl ?_
  refine ev_ic f_X12_refuse (nx := 6) (v := -1) rfl (by decide) rfl ?_
  refine ev_retK1 f_X12_refuse rfl rfl rfl ?_
  refine ev_retK1 f_X12_back rfl rfl rfl ?_
  refine ev_t f_L_law (t1 := 1628) (t2 := 1626) rfl rfl rfl (by decide) ?_
  refine ev_incv f_L_law (nx := 1631) (c := 6) (w := 6) (lo' := [(3, .int 6), (2, .ref 69), (1, .ref 0), (0, .retAddr 30)]) rfl rfl (by decide) (by decide) rfl rfl rfl ?_
  refine ev_jmp f_L_law (nx := 18) rfl rfl rfl ?_
  refine ev_loc f_L_law (nx := 19) rfl rfl rfl rfl ?_
  refine ev_loc f_L_law (nx := 20) rfl rfl rfl rfl ?_
  refine ev_alenX f_L_law (nx := 21) rfl hX rfl ?_
  refine ev_bp f_L_law (nx := 23) (v := 6) rfl (by decide) rfl ?_
  refine ev_aluvI f_L_law (nx := 24) (w := 0) rfl rfl rfl (by decide) rfl ?_
  refine ev_t f_L_law (t1 := 1634) (t2 := 27) rfl rfl rfl (by decide) ?_
  refine ev_ic f_L_law (nx := 1635) (v := 1) rfl (by decide) rfl ?_
  refine ev_ret f_L_law rfl rfl rfl ?_
  exact ⟨rfl, hz⟩
end XC
