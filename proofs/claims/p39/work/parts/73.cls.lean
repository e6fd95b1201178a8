/-! ===== printed by cls.py: typed contracts of the class ===== -/
noncomputable def wl_r_readCart : List (Nat × Nat) := [(6, 0), (7, 9999), (8, 9999), (9, 9999), (10, 9999), (11, 9999), (12, 9999), (13, 0), (14, 9999), (15, 9999), (16, 9999), (17, 9999), (18, 9999), (29, 0), (30, 9999), (31, 9999), (32, 9999), (33, 9999), (34, 9999), (35, 0), (36, 9999), (37, 9999), (38, 9999), (39, 9999), (40, 9999), (43, 9999), (44, 9999), (46, 0), (47, 9999), (48, 9999), (49, 9999), (50, 9999), (51, 9999), (52, 0), (53, 9999), (54, 9999), (55, 9999), (56, 9999), (57, 9999), (58, 9999), (59, 9999), (113, 0), (115, 4), (118, 2), (118, 3), (118, 4), (118, 5), (118, 6), (118, 7), (118, 8), (118, 9), (118, 10), (118, 11), (130, 9999), (131, 9999), (133, 9999)]
theorem c_r_readCart {X : x_Ext} {d : Nat} {sh : List (Nat ⊕ (Nat × Nat))} {gi : Nat → Nat → Int32} {gl : Nat → Nat → Int64} {gr : Nat → Nat → Value} (hI : t_I sh gi gr) (ar0 : Nat) (p_a0 : t_RR sh gr ar0) : x_Me X (d + 5) n_X6_readCart [.ref ar0] (sh, gi, gl, gr) (t_P wl_r_readCart sh gi gl gr (t_Ri 0 1)) := by
  have hX : t_X wl_r_readCart sh gi gl gr gi gl gr := t_X.rf
  refine me_i f_X6_readCart p_a0.1 rfl rfl rfl ?_
  refine ev_loc f_X6_readCart (nx := 1) rfl rfl rfl rfl ?_
  obtain ⟨a1, e1, p1⟩ := p_a0.2.2.1
  refine ev_getR f_X6_readCart (nx := 4) rfl p_a0.1 rfl rfl e1 rfl rfl ?_
  obtain ⟨a2, e2, p2⟩ := p1.2.2.2.2.2
  refine ev_getR f_X6_readCart (nx := 7) rfl p1.1 rfl rfl e2 rfl rfl ?_
  refine ev_getI f_X6_readCart (nx := 10) rfl p2.1 rfl rfl rfl ?_
  obtain ⟨l3, u3⟩ := hI.b p2.1 (t_bdK rfl : t_bd 3 0 = some (0, 6))
  refine ev_bp f_X6_readCart (nx := 12) (v := 6) rfl (by decide) rfl ?_
  refine ev_if f_X6_readCart (t1 := 25) (t2 := 15) rfl rfl rfl (fun h4 => ?_) (fun h4 => ?_)
  · have u5 : (gi a2 0).toInt ≤ 5 := t_ltu h4 (by decide : (6:Int32).toInt ≤ (6:Int)) rfl
    refine ev_loc f_X6_readCart (nx := 26) rfl rfl rfl rfl ?_
    obtain ⟨a6, e6, p6⟩ := p_a0.2.1
    refine ev_getR f_X6_readCart (nx := 29) rfl p_a0.1 rfl rfl e6 rfl rfl ?_
    refine ev_c0 f_X6_readCart (nx := 32) (r := []) rfl rfl rfl rfl rfl rfl rfl (c_step hI (a6) p6) rfl hX rfl (fun gi7 gl7 gr7 hI hX hC7 => ?_)
    replace p_a0 := p_a0.ext hC7.2
    replace p1 := p1.ext hC7.2
    replace p2 := p2.ext hC7.2
    replace p6 := p6.ext hC7.2
    refine ev_loc f_X6_readCart (nx := 33) rfl rfl rfl rfl ?_
    refine ev_cI f_X6_readCart (nx := 36) (r := []) rfl rfl rfl rfl rfl rfl rfl (c_takeNewName hI (ar0) p_a0) rfl hX rfl (fun w8 gi8 gl8 gr8 l8 u8 hI hX hC8 => ?_)
    replace p_a0 := p_a0.ext hC8.2
    replace p1 := p1.ext hC8.2
    replace p2 := p2.ext hC8.2
    replace p6 := p6.ext hC8.2
    refine ev_if f_X6_readCart (t1 := 57) (t2 := 39) rfl rfl rfl (fun h9 => ?_) (fun h9 => ?_)
    · have u10 : w8.toInt ≤ 0 := t_equ h9 (by decide : (0:Int32).toInt ≤ (0:Int))
      refine ev_ic f_X6_readCart (nx := 58) (v := 0) rfl (by decide) rfl ?_
      exact ev_ret f_X6_readCart rfl rfl rfl ⟨_, _, _, rfl, hI, hX, ⟨_, rfl, (by decide : (0:Int) ≤ (0:Int32).toInt), (Int.le_trans (by decide : (0:Int32).toInt ≤ (0:Int)) (by decide : (0:Int) ≤ 1))⟩⟩
    · have l11 : 1 ≤ w8.toInt := t_nel h9 l8 rfl rfl
      refine ev_loc f_X6_readCart (nx := 40) rfl rfl rfl rfl ?_
      refine ev_loc f_X6_readCart (nx := 41) rfl rfl rfl rfl ?_
      refine ev_getR f_X6_readCart (nx := 44) (v := .ref a1) rfl p_a0.1 rfl rfl ((hC8.1 ar0 1 (t_ninO hI.wf p_a0.1 (t_outO hI.wf p_a0.1 rfl) rfl)).2.2.trans ((hC7.1 ar0 1 (t_ninO hI.wf p_a0.1 (t_outO hI.wf p_a0.1 rfl) rfl)).2.2.trans e1)) rfl rfl ?_
      refine ev_getR f_X6_readCart (nx := 47) (v := .ref a2) rfl p1.1 rfl rfl ((hC8.1 a1 9 (t_ninO hI.wf p1.1 (t_outO hI.wf p1.1 rfl) rfl)).2.2.trans ((hC7.1 a1 9 (t_ninO hI.wf p1.1 (t_outO hI.wf p1.1 rfl) rfl)).2.2.trans e2)) rfl rfl ?_
      refine ev_inV2 f_X6_readCart (nx := 50) (lo2 := [(0, .ref ar0), (1, .ref a2)]) rfl rfl rfl rfl f_X6_readComing p_a0.1 rfl rfl rfl rfl rfl ?_
      refine ev_loc f_X6_readComing (nx := 1) rfl rfl rfl rfl ?_
      refine ev_getR f_X6_readComing (nx := 4) (v := .ref a6) rfl p_a0.1 rfl rfl ((hC8.1 ar0 0 (t_ninO hI.wf p_a0.1 (t_outO hI.wf p_a0.1 rfl) rfl)).2.2.trans ((hC7.1 ar0 0 (t_ninO hI.wf p_a0.1 (t_outO hI.wf p_a0.1 rfl) rfl)).2.2.trans e6)) rfl rfl ?_
      refine ev_heap f_X6_readComing (nx := 7) rfl rfl rfl rfl ?_
      refine ev_inV2 f_X6_readComing (nx := 10) (lo2 := [(0, .ref a6), (1, .retAddr 8)]) rfl rfl rfl rfl f_X9_takeKeyword p6.1 rfl rfl rfl rfl rfl ?_
      refine ev_loc f_X9_takeKeyword (nx := 1) rfl rfl rfl rfl ?_
      have k12 := hI.2.2.2.1.2.2.2.2.2 a6 p6.1
      obtain ⟨v12, e12⟩ : ∃ v, gr8 a6 7 = v := ⟨_, rfl⟩
      rw [e12] at k12
      refine ev_getR f_X9_takeKeyword (nx := 4) rfl p6.1 rfl rfl e12 (t_KwR k12) rfl ?_
      refine ev_loc f_X9_takeKeyword (nx := 5) rfl rfl rfl rfl ?_
      refine ev_ack f_X9_takeKeyword (t1 := 14) (t2 := 8) rfl rfl rfl (t_knw k12) rfl (fun h13 => ?_) (fun h13 => ?_)
      · refine ev_loc f_X9_takeKeyword (nx := 15) rfl rfl rfl rfl ?_
        refine ev_c0 f_X9_takeKeyword (nx := 18) (r := []) rfl rfl rfl rfl rfl rfl rfl (c_step hI (a6) p6) rfl hX rfl (fun gi14 gl14 gr14 hI hX hC14 => ?_)
        replace p_a0 := p_a0.ext hC14.2
        replace p2 := p2.ext hC14.2
        replace p6 := p6.ext hC14.2
        replace p1 := p1.ext hC14.2
        refine ev_ic f_X9_takeKeyword (nx := 19) (v := 1) rfl (by decide) rfl ?_
        refine ev_retK1 f_X9_takeKeyword rfl rfl rfl ?_
        refine ev_f f_X6_readComing (t1 := 13) (t2 := 15) rfl rfl rfl (by decide) ?_
        refine ev_loc f_X6_readComing (nx := 16) rfl rfl rfl rfl ?_
        refine ev_getR f_X6_readComing (nx := 19) (v := .ref a6) rfl p_a0.1 rfl rfl ((hC14.1 ar0 0 (t_ninO hI.wf p_a0.1 (t_outO hI.wf p_a0.1 rfl) rfl)).2.2.trans ((hC8.1 ar0 0 (t_ninO hI.wf p_a0.1 (t_outO hI.wf p_a0.1 rfl) rfl)).2.2.trans ((hC7.1 ar0 0 (t_ninO hI.wf p_a0.1 (t_outO hI.wf p_a0.1 rfl) rfl)).2.2.trans e6))) rfl rfl ?_
        refine ev_getI f_X6_readComing (nx := 22) rfl p6.1 rfl rfl rfl ?_
        refine ev_loc f_X6_readComing (nx := 23) (lo' := [(2, .int (gi14 a6 8)), (0, .ref ar0), (1, .ref a2)]) rfl rfl rfl rfl ?_
        refine ev_loc f_X6_readComing (nx := 24) rfl rfl rfl rfl ?_
        refine ev_getR f_X6_readComing (nx := 27) (v := .ref a6) rfl p_a0.1 rfl rfl ((hC14.1 ar0 0 (t_ninO hI.wf p_a0.1 (t_outO hI.wf p_a0.1 rfl) rfl)).2.2.trans ((hC8.1 ar0 0 (t_ninO hI.wf p_a0.1 (t_outO hI.wf p_a0.1 rfl) rfl)).2.2.trans ((hC7.1 ar0 0 (t_ninO hI.wf p_a0.1 (t_outO hI.wf p_a0.1 rfl) rfl)).2.2.trans e6))) rfl rfl ?_
        refine ev_ic f_X6_readComing (nx := 28) (v := 0) rfl (by decide) rfl ?_
        refine ev_bp f_X6_readComing (nx := 30) (v := 120) rfl (by decide) rfl ?_
        refine ev_inV3 f_X6_readComing (nx := 33) (lo2 := [(0, .ref a6), (1, .int 0), (2, .int 120)]) rfl rfl rfl rfl f_X9_takeNumber p6.1 rfl rfl rfl rfl rfl ?_
        refine ev_loc f_X9_takeNumber (nx := 1) rfl rfl rfl rfl ?_
        refine ev_getI f_X9_takeNumber (nx := 4) rfl p6.1 rfl rfl rfl ?_
        refine ev_ic f_X9_takeNumber (nx := 5) (v := 1) rfl (by decide) rfl ?_
        refine ev_if f_X9_takeNumber (t1 := 14) (t2 := 8) rfl rfl rfl (fun h15 => ?_) (fun h15 => ?_)
        · have u16 : (gi14 a6 3).toInt ≤ 1 := t_equ h15 (by decide : (1:Int32).toInt ≤ (1:Int))
          have l17 : 1 ≤ (gi14 a6 3).toInt := t_eql h15 (by decide : (1:Int) ≤ (1:Int32).toInt)
          refine ev_loc f_X9_takeNumber (nx := 15) rfl rfl rfl rfl ?_
          refine ev_gvI f_X9_takeNumber (nx := 18) (w := (gi14 a6 8)) rfl p6.1 rfl rfl rfl rfl ?_
          refine ev_loc f_X9_takeNumber (nx := 19) rfl rfl rfl rfl ?_
          refine ev_if f_X9_takeNumber (t1 := 30) (t2 := 22) rfl rfl rfl (fun h18 => ?_) (fun h18 => ?_)
          · have u19 : (gi14 a6 8).toInt ≤ (-1) := t_ltu h18 (by decide : (0:Int32).toInt ≤ (0:Int)) rfl
            refine ev_loc f_X9_takeNumber (nx := 31) rfl rfl rfl rfl ?_
            refine ev_ic f_X9_takeNumber (nx := 32) (v := 4) rfl (by decide) rfl ?_
            refine ev_inV2 f_X9_takeNumber (nx := 35) (lo2 := [(0, .ref a6), (1, .int 4)]) rfl rfl rfl rfl f_X9_refuseToken p6.1 rfl rfl rfl rfl rfl ?_
            refine ev_loc f_X9_refuseToken (nx := 1) rfl rfl rfl rfl ?_
            refine ev_loc f_X9_refuseToken (nx := 2) rfl rfl rfl rfl ?_
            refine ev_gvI f_X9_refuseToken (nx := 5) (w := (gi14 a6 3)) rfl p6.1 rfl rfl rfl rfl ?_
            refine ev_ic f_X9_refuseToken (nx := 6) (v := 4) rfl (by decide) rfl ?_
            refine ev_f f_X9_refuseToken (t1 := 9) (t2 := 13) rfl rfl rfl (t_neT u16 (by decide : (4:Int) ≤ (4:Int32).toInt) (by decide)) ?_
            refine ev_loc f_X9_refuseToken (nx := 14) rfl rfl rfl rfl ?_
            refine ev_putIT f_X9_refuseToken (nx := 17) rfl p6.1 rfl rfl rfl (hI.put0 p6.1 rfl rfl) (hX.upI (t_inO hI.wf p6.1 (t_outO hI.wf p6.1 rfl) rfl)) (fun g20 e20 hI hX => ?_)
            refine ev_loc f_X9_refuseToken (nx := 18) rfl rfl rfl rfl ?_
            refine ev_loc f_X9_refuseToken (nx := 19) rfl rfl rfl rfl ?_
            refine ev_getI f_X9_refuseToken (nx := 22) rfl p6.1 rfl rfl rfl ?_
            obtain ⟨l21, u21⟩ := hI.b p6.1 (t_bdK rfl : t_bd 8 4 = some (0, 900))
            refine ev_putIT f_X9_refuseToken (nx := 25) rfl p6.1 rfl rfl rfl (hI.put0 p6.1 rfl rfl) (hX.upI (t_inO hI.wf p6.1 (t_outO hI.wf p6.1 rfl) rfl)) (fun g22 e22 hI hX => ?_)
            refine ev_ic f_X9_refuseToken (nx := 26) (v := 0) rfl (by decide) rfl ?_
            refine ev_retK1 f_X9_refuseToken rfl rfl rfl ?_
            refine ev_retK1 f_X9_takeNumber rfl rfl rfl ?_
            refine ev_t f_X6_readComing (t1 := 49) (t2 := 36) rfl rfl rfl (by decide) ?_
            refine ev_ic f_X6_readComing (nx := 50) (v := 0) rfl (by decide) rfl ?_
            refine ev_retK1 f_X6_readComing rfl rfl rfl ?_
            refine ev_t f_X6_readCart (t1 := 57) (t2 := 53) rfl rfl rfl (by decide) ?_
            refine ev_ic f_X6_readCart (nx := 58) (v := 0) rfl (by decide) rfl ?_
            exact ev_ret f_X6_readCart rfl rfl rfl ⟨_, _, _, rfl, hI, hX, ⟨_, rfl, (by decide : (0:Int) ≤ (0:Int32).toInt), (Int.le_trans (by decide : (0:Int32).toInt ≤ (0:Int)) (by decide : (0:Int) ≤ 1))⟩⟩
          · have l23 : 0 ≤ (gi14 a6 8).toInt := t_lel (t_nlt h18) (by decide : (0:Int) ≤ (0:Int32).toInt)
            refine ev_loc f_X9_takeNumber (nx := 23) rfl rfl rfl rfl ?_
            refine ev_gvI f_X9_takeNumber (nx := 26) (w := (gi14 a6 8)) rfl p6.1 rfl rfl rfl rfl ?_
            refine ev_loc f_X9_takeNumber (nx := 27) rfl rfl rfl rfl ?_
            refine ev_if f_X9_takeNumber (t1 := 36) (t2 := 30) rfl rfl rfl (fun h24 => ?_) (fun h24 => ?_)
            · have u25 : (gi14 a6 8).toInt ≤ 120 := t_leu h24 (by decide : (120:Int32).toInt ≤ (120:Int))
              refine ev_loc f_X9_takeNumber (nx := 37) rfl rfl rfl rfl ?_
              refine ev_c0 f_X9_takeNumber (nx := 40) (r := []) rfl rfl rfl rfl rfl rfl rfl (c_step hI (a6) p6) rfl hX rfl (fun gi26 gl26 gr26 hI hX hC26 => ?_)
              replace p_a0 := p_a0.ext hC26.2
              replace p2 := p2.ext hC26.2
              replace p6 := p6.ext hC26.2
              replace p1 := p1.ext hC26.2
              refine ev_ic f_X9_takeNumber (nx := 41) (v := 1) rfl (by decide) rfl ?_
              refine ev_retK1 f_X9_takeNumber rfl rfl rfl ?_
              refine ev_f f_X6_readComing (t1 := 49) (t2 := 36) rfl rfl rfl (by decide) ?_
              refine ev_loc f_X6_readComing (nx := 37) rfl rfl rfl rfl ?_
              refine ev_getR f_X6_readComing (nx := 40) (v := .ref a6) rfl p_a0.1 rfl rfl ((hC26.1 ar0 0 (t_ninO hI.wf p_a0.1 (t_outO hI.wf p_a0.1 rfl) rfl)).2.2.trans ((hC14.1 ar0 0 (t_ninO hI.wf p_a0.1 (t_outO hI.wf p_a0.1 rfl) rfl)).2.2.trans ((hC8.1 ar0 0 (t_ninO hI.wf p_a0.1 (t_outO hI.wf p_a0.1 rfl) rfl)).2.2.trans ((hC7.1 ar0 0 (t_ninO hI.wf p_a0.1 (t_outO hI.wf p_a0.1 rfl) rfl)).2.2.trans e6)))) rfl rfl ?_
              refine ev_heap f_X6_readComing (nx := 43) rfl rfl rfl rfl ?_
              refine ev_inV2 f_X6_readComing (nx := 46) (lo2 := [(0, .ref a6), (1, .retAddr 9)]) rfl rfl rfl rfl f_X9_takeKeyword p6.1 rfl rfl rfl rfl rfl ?_
              refine ev_loc f_X9_takeKeyword (nx := 1) rfl rfl rfl rfl ?_
              have k27 := hI.2.2.2.1.2.2.2.2.2 a6 p6.1
              obtain ⟨v27, e27⟩ : ∃ v, gr26 a6 7 = v := ⟨_, rfl⟩
              rw [e27] at k27
              refine ev_getR f_X9_takeKeyword (nx := 4) rfl p6.1 rfl rfl e27 (t_KwR k27) rfl ?_
              refine ev_loc f_X9_takeKeyword (nx := 5) rfl rfl rfl rfl ?_
              refine ev_ack f_X9_takeKeyword (t1 := 14) (t2 := 8) rfl rfl rfl (t_knw k27) rfl (fun h28 => ?_) (fun h28 => ?_)
              · refine ev_loc f_X9_takeKeyword (nx := 15) rfl rfl rfl rfl ?_
                refine ev_c0 f_X9_takeKeyword (nx := 18) (r := []) rfl rfl rfl rfl rfl rfl rfl (c_step hI (a6) p6) rfl hX rfl (fun gi29 gl29 gr29 hI hX hC29 => ?_)
                replace p_a0 := p_a0.ext hC29.2
                replace p2 := p2.ext hC29.2
                replace p6 := p6.ext hC29.2
                replace p1 := p1.ext hC29.2
                refine ev_ic f_X9_takeKeyword (nx := 19) (v := 1) rfl (by decide) rfl ?_
                refine ev_retK1 f_X9_takeKeyword rfl rfl rfl ?_
                refine ev_f f_X6_readComing (t1 := 49) (t2 := 51) rfl rfl rfl (by decide) ?_
                refine ev_loc f_X6_readComing (nx := 52) rfl rfl rfl rfl ?_
                refine ev_getR f_X6_readComing (nx := 55) (v := .ref a6) rfl p_a0.1 rfl rfl ((hC29.1 ar0 0 (t_ninO hI.wf p_a0.1 (t_outO hI.wf p_a0.1 rfl) rfl)).2.2.trans ((hC26.1 ar0 0 (t_ninO hI.wf p_a0.1 (t_outO hI.wf p_a0.1 rfl) rfl)).2.2.trans ((hC14.1 ar0 0 (t_ninO hI.wf p_a0.1 (t_outO hI.wf p_a0.1 rfl) rfl)).2.2.trans ((hC8.1 ar0 0 (t_ninO hI.wf p_a0.1 (t_outO hI.wf p_a0.1 rfl) rfl)).2.2.trans ((hC7.1 ar0 0 (t_ninO hI.wf p_a0.1 (t_outO hI.wf p_a0.1 rfl) rfl)).2.2.trans e6))))) rfl rfl ?_
                refine ev_getI f_X6_readComing (nx := 58) rfl p6.1 rfl rfl rfl ?_
                refine ev_loc f_X6_readComing (nx := 59) (lo' := [(3, .int (gi29 a6 8)), (2, .int (gi14 a6 8)), (0, .ref ar0), (1, .ref a2)]) rfl rfl rfl rfl ?_
                refine ev_loc f_X6_readComing (nx := 60) rfl rfl rfl rfl ?_
                refine ev_getR f_X6_readComing (nx := 63) (v := .ref a6) rfl p_a0.1 rfl rfl ((hC29.1 ar0 0 (t_ninO hI.wf p_a0.1 (t_outO hI.wf p_a0.1 rfl) rfl)).2.2.trans ((hC26.1 ar0 0 (t_ninO hI.wf p_a0.1 (t_outO hI.wf p_a0.1 rfl) rfl)).2.2.trans ((hC14.1 ar0 0 (t_ninO hI.wf p_a0.1 (t_outO hI.wf p_a0.1 rfl) rfl)).2.2.trans ((hC8.1 ar0 0 (t_ninO hI.wf p_a0.1 (t_outO hI.wf p_a0.1 rfl) rfl)).2.2.trans ((hC7.1 ar0 0 (t_ninO hI.wf p_a0.1 (t_outO hI.wf p_a0.1 rfl) rfl)).2.2.trans e6))))) rfl rfl ?_
                refine ev_ic f_X6_readComing (nx := 64) (v := 1) rfl (by decide) rfl ?_
                refine ev_bp f_X6_readComing (nx := 66) (v := 20) rfl (by decide) rfl ?_
                refine ev_inV3 f_X6_readComing (nx := 69) (lo2 := [(0, .ref a6), (1, .int 1), (2, .int 20)]) rfl rfl rfl rfl f_X9_takeNumber p6.1 rfl rfl rfl rfl rfl ?_
                refine ev_loc f_X9_takeNumber (nx := 1) rfl rfl rfl rfl ?_
                refine ev_getI f_X9_takeNumber (nx := 4) rfl p6.1 rfl rfl rfl ?_
                refine ev_ic f_X9_takeNumber (nx := 5) (v := 1) rfl (by decide) rfl ?_
                refine ev_if f_X9_takeNumber (t1 := 14) (t2 := 8) rfl rfl rfl (fun h30 => ?_) (fun h30 => ?_)
                · have u31 : (gi29 a6 3).toInt ≤ 1 := t_equ h30 (by decide : (1:Int32).toInt ≤ (1:Int))
                  have l32 : 1 ≤ (gi29 a6 3).toInt := t_eql h30 (by decide : (1:Int) ≤ (1:Int32).toInt)
                  refine ev_loc f_X9_takeNumber (nx := 15) rfl rfl rfl rfl ?_
                  refine ev_gvI f_X9_takeNumber (nx := 18) (w := (gi29 a6 8)) rfl p6.1 rfl rfl rfl rfl ?_
                  refine ev_loc f_X9_takeNumber (nx := 19) rfl rfl rfl rfl ?_
                  refine ev_if f_X9_takeNumber (t1 := 30) (t2 := 22) rfl rfl rfl (fun h33 => ?_) (fun h33 => ?_)
                  · have u34 : (gi29 a6 8).toInt ≤ 0 := t_ltu h33 (by decide : (1:Int32).toInt ≤ (1:Int)) rfl
                    refine ev_loc f_X9_takeNumber (nx := 31) rfl rfl rfl rfl ?_
                    refine ev_ic f_X9_takeNumber (nx := 32) (v := 4) rfl (by decide) rfl ?_
                    refine ev_inV2 f_X9_takeNumber (nx := 35) (lo2 := [(0, .ref a6), (1, .int 4)]) rfl rfl rfl rfl f_X9_refuseToken p6.1 rfl rfl rfl rfl rfl ?_
                    refine ev_loc f_X9_refuseToken (nx := 1) rfl rfl rfl rfl ?_
                    refine ev_loc f_X9_refuseToken (nx := 2) rfl rfl rfl rfl ?_
                    refine ev_gvI f_X9_refuseToken (nx := 5) (w := (gi29 a6 3)) rfl p6.1 rfl rfl rfl rfl ?_
                    refine ev_ic f_X9_refuseToken (nx := 6) (v := 4) rfl (by decide) rfl ?_
                    refine ev_f f_X9_refuseToken (t1 := 9) (t2 := 13) rfl rfl rfl (t_neT u31 (by decide : (4:Int) ≤ (4:Int32).toInt) (by decide)) ?_
                    refine ev_loc f_X9_refuseToken (nx := 14) rfl rfl rfl rfl ?_
                    refine ev_putIT f_X9_refuseToken (nx := 17) rfl p6.1 rfl rfl rfl (hI.put0 p6.1 rfl rfl) (hX.upI (t_inO hI.wf p6.1 (t_outO hI.wf p6.1 rfl) rfl)) (fun g35 e35 hI hX => ?_)
                    refine ev_loc f_X9_refuseToken (nx := 18) rfl rfl rfl rfl ?_
                    refine ev_loc f_X9_refuseToken (nx := 19) rfl rfl rfl rfl ?_
                    refine ev_getI f_X9_refuseToken (nx := 22) rfl p6.1 rfl rfl rfl ?_
                    obtain ⟨l36, u36⟩ := hI.b p6.1 (t_bdK rfl : t_bd 8 4 = some (0, 900))
                    refine ev_putIT f_X9_refuseToken (nx := 25) rfl p6.1 rfl rfl rfl (hI.put0 p6.1 rfl rfl) (hX.upI (t_inO hI.wf p6.1 (t_outO hI.wf p6.1 rfl) rfl)) (fun g37 e37 hI hX => ?_)
                    refine ev_ic f_X9_refuseToken (nx := 26) (v := 0) rfl (by decide) rfl ?_
                    refine ev_retK1 f_X9_refuseToken rfl rfl rfl ?_
                    refine ev_retK1 f_X9_takeNumber rfl rfl rfl ?_
                    refine ev_t f_X6_readComing (t1 := 85) (t2 := 72) rfl rfl rfl (by decide) ?_
                    refine ev_ic f_X6_readComing (nx := 86) (v := 0) rfl (by decide) rfl ?_
                    refine ev_retK1 f_X6_readComing rfl rfl rfl ?_
                    refine ev_t f_X6_readCart (t1 := 57) (t2 := 53) rfl rfl rfl (by decide) ?_
                    refine ev_ic f_X6_readCart (nx := 58) (v := 0) rfl (by decide) rfl ?_
                    exact ev_ret f_X6_readCart rfl rfl rfl ⟨_, _, _, rfl, hI, hX, ⟨_, rfl, (by decide : (0:Int) ≤ (0:Int32).toInt), (Int.le_trans (by decide : (0:Int32).toInt ≤ (0:Int)) (by decide : (0:Int) ≤ 1))⟩⟩
                  · have l38 : 1 ≤ (gi29 a6 8).toInt := t_lel (t_nlt h33) (by decide : (1:Int) ≤ (1:Int32).toInt)
                    refine ev_loc f_X9_takeNumber (nx := 23) rfl rfl rfl rfl ?_
                    refine ev_gvI f_X9_takeNumber (nx := 26) (w := (gi29 a6 8)) rfl p6.1 rfl rfl rfl rfl ?_
                    refine ev_loc f_X9_takeNumber (nx := 27) rfl rfl rfl rfl ?_
                    refine ev_if f_X9_takeNumber (t1 := 36) (t2 := 30) rfl rfl rfl (fun h39 => ?_) (fun h39 => ?_)
                    · have u40 : (gi29 a6 8).toInt ≤ 20 := t_leu h39 (by decide : (20:Int32).toInt ≤ (20:Int))
                      refine ev_loc f_X9_takeNumber (nx := 37) rfl rfl rfl rfl ?_
                      refine ev_c0 f_X9_takeNumber (nx := 40) (r := []) rfl rfl rfl rfl rfl rfl rfl (c_step hI (a6) p6) rfl hX rfl (fun gi41 gl41 gr41 hI hX hC41 => ?_)
                      replace p_a0 := p_a0.ext hC41.2
                      replace p2 := p2.ext hC41.2
                      replace p6 := p6.ext hC41.2
                      replace p1 := p1.ext hC41.2
                      refine ev_ic f_X9_takeNumber (nx := 41) (v := 1) rfl (by decide) rfl ?_
                      refine ev_retK1 f_X9_takeNumber rfl rfl rfl ?_
                      refine ev_f f_X6_readComing (t1 := 85) (t2 := 72) rfl rfl rfl (by decide) ?_
                      refine ev_loc f_X6_readComing (nx := 73) rfl rfl rfl rfl ?_
                      refine ev_getR f_X6_readComing (nx := 76) (v := .ref a6) rfl p_a0.1 rfl rfl ((hC41.1 ar0 0 (t_ninO hI.wf p_a0.1 (t_outO hI.wf p_a0.1 rfl) rfl)).2.2.trans ((hC29.1 ar0 0 (t_ninO hI.wf p_a0.1 (t_outO hI.wf p_a0.1 rfl) rfl)).2.2.trans ((hC26.1 ar0 0 (t_ninO hI.wf p_a0.1 (t_outO hI.wf p_a0.1 rfl) rfl)).2.2.trans ((hC14.1 ar0 0 (t_ninO hI.wf p_a0.1 (t_outO hI.wf p_a0.1 rfl) rfl)).2.2.trans ((hC8.1 ar0 0 (t_ninO hI.wf p_a0.1 (t_outO hI.wf p_a0.1 rfl) rfl)).2.2.trans ((hC7.1 ar0 0 (t_ninO hI.wf p_a0.1 (t_outO hI.wf p_a0.1 rfl) rfl)).2.2.trans e6)))))) rfl rfl ?_
                      refine ev_heap f_X6_readComing (nx := 79) rfl rfl rfl rfl ?_
                      refine ev_inV2 f_X6_readComing (nx := 82) (lo2 := [(0, .ref a6), (1, .retAddr 10)]) rfl rfl rfl rfl f_X9_takeKeyword p6.1 rfl rfl rfl rfl rfl ?_
                      refine ev_loc f_X9_takeKeyword (nx := 1) rfl rfl rfl rfl ?_
                      have k42 := hI.2.2.2.1.2.2.2.2.2 a6 p6.1
                      obtain ⟨v42, e42⟩ : ∃ v, gr41 a6 7 = v := ⟨_, rfl⟩
                      rw [e42] at k42
                      refine ev_getR f_X9_takeKeyword (nx := 4) rfl p6.1 rfl rfl e42 (t_KwR k42) rfl ?_
                      refine ev_loc f_X9_takeKeyword (nx := 5) rfl rfl rfl rfl ?_
                      refine ev_ack f_X9_takeKeyword (t1 := 14) (t2 := 8) rfl rfl rfl (t_knw k42) rfl (fun h43 => ?_) (fun h43 => ?_)
                      · refine ev_loc f_X9_takeKeyword (nx := 15) rfl rfl rfl rfl ?_
                        refine ev_c0 f_X9_takeKeyword (nx := 18) (r := []) rfl rfl rfl rfl rfl rfl rfl (c_step hI (a6) p6) rfl hX rfl (fun gi44 gl44 gr44 hI hX hC44 => ?_)
                        replace p_a0 := p_a0.ext hC44.2
                        replace p2 := p2.ext hC44.2
                        replace p6 := p6.ext hC44.2
                        replace p1 := p1.ext hC44.2
                        refine ev_ic f_X9_takeKeyword (nx := 19) (v := 1) rfl (by decide) rfl ?_
                        refine ev_retK1 f_X9_takeKeyword rfl rfl rfl ?_
                        refine ev_f f_X6_readComing (t1 := 85) (t2 := 87) rfl rfl rfl (by decide) ?_
                        refine ev_loc f_X6_readComing (nx := 88) rfl rfl rfl rfl ?_
                        refine ev_getR f_X6_readComing (nx := 91) (v := .ref a6) rfl p_a0.1 rfl rfl ((hC44.1 ar0 0 (t_ninO hI.wf p_a0.1 (t_outO hI.wf p_a0.1 rfl) rfl)).2.2.trans ((hC41.1 ar0 0 (t_ninO hI.wf p_a0.1 (t_outO hI.wf p_a0.1 rfl) rfl)).2.2.trans ((hC29.1 ar0 0 (t_ninO hI.wf p_a0.1 (t_outO hI.wf p_a0.1 rfl) rfl)).2.2.trans ((hC26.1 ar0 0 (t_ninO hI.wf p_a0.1 (t_outO hI.wf p_a0.1 rfl) rfl)).2.2.trans ((hC14.1 ar0 0 (t_ninO hI.wf p_a0.1 (t_outO hI.wf p_a0.1 rfl) rfl)).2.2.trans ((hC8.1 ar0 0 (t_ninO hI.wf p_a0.1 (t_outO hI.wf p_a0.1 rfl) rfl)).2.2.trans ((hC7.1 ar0 0 (t_ninO hI.wf p_a0.1 (t_outO hI.wf p_a0.1 rfl) rfl)).2.2.trans e6))))))) rfl rfl ?_
                        refine ev_getI f_X6_readComing (nx := 94) rfl p6.1 rfl rfl rfl ?_
                        refine ev_loc f_X6_readComing (nx := 96) (lo' := [(4, .int (gi44 a6 8)), (3, .int (gi29 a6 8)), (2, .int (gi14 a6 8)), (0, .ref ar0), (1, .ref a2)]) rfl rfl rfl rfl ?_
                        refine ev_loc f_X6_readComing (nx := 97) rfl rfl rfl rfl ?_
                        refine ev_getR f_X6_readComing (nx := 100) (v := .ref a6) rfl p_a0.1 rfl rfl ((hC44.1 ar0 0 (t_ninO hI.wf p_a0.1 (t_outO hI.wf p_a0.1 rfl) rfl)).2.2.trans ((hC41.1 ar0 0 (t_ninO hI.wf p_a0.1 (t_outO hI.wf p_a0.1 rfl) rfl)).2.2.trans ((hC29.1 ar0 0 (t_ninO hI.wf p_a0.1 (t_outO hI.wf p_a0.1 rfl) rfl)).2.2.trans ((hC26.1 ar0 0 (t_ninO hI.wf p_a0.1 (t_outO hI.wf p_a0.1 rfl) rfl)).2.2.trans ((hC14.1 ar0 0 (t_ninO hI.wf p_a0.1 (t_outO hI.wf p_a0.1 rfl) rfl)).2.2.trans ((hC8.1 ar0 0 (t_ninO hI.wf p_a0.1 (t_outO hI.wf p_a0.1 rfl) rfl)).2.2.trans ((hC7.1 ar0 0 (t_ninO hI.wf p_a0.1 (t_outO hI.wf p_a0.1 rfl) rfl)).2.2.trans e6))))))) rfl rfl ?_
                        refine ev_ic f_X6_readComing (nx := 101) (v := 0) rfl (by decide) rfl ?_
                        refine ev_bp f_X6_readComing (nx := 103) (v := 99) rfl (by decide) rfl ?_
                        refine ev_inV3 f_X6_readComing (nx := 106) (lo2 := [(0, .ref a6), (1, .int 0), (2, .int 99)]) rfl rfl rfl rfl f_X9_takeNumber p6.1 rfl rfl rfl rfl rfl ?_
                        refine ev_loc f_X9_takeNumber (nx := 1) rfl rfl rfl rfl ?_
                        refine ev_getI f_X9_takeNumber (nx := 4) rfl p6.1 rfl rfl rfl ?_
                        refine ev_ic f_X9_takeNumber (nx := 5) (v := 1) rfl (by decide) rfl ?_
                        refine ev_if f_X9_takeNumber (t1 := 14) (t2 := 8) rfl rfl rfl (fun h45 => ?_) (fun h45 => ?_)
                        · have u46 : (gi44 a6 3).toInt ≤ 1 := t_equ h45 (by decide : (1:Int32).toInt ≤ (1:Int))
                          have l47 : 1 ≤ (gi44 a6 3).toInt := t_eql h45 (by decide : (1:Int) ≤ (1:Int32).toInt)
                          refine ev_loc f_X9_takeNumber (nx := 15) rfl rfl rfl rfl ?_
                          refine ev_gvI f_X9_takeNumber (nx := 18) (w := (gi44 a6 8)) rfl p6.1 rfl rfl rfl rfl ?_
                          refine ev_loc f_X9_takeNumber (nx := 19) rfl rfl rfl rfl ?_
                          refine ev_if f_X9_takeNumber (t1 := 30) (t2 := 22) rfl rfl rfl (fun h48 => ?_) (fun h48 => ?_)
                          · have u49 : (gi44 a6 8).toInt ≤ (-1) := t_ltu h48 (by decide : (0:Int32).toInt ≤ (0:Int)) rfl
                            refine ev_loc f_X9_takeNumber (nx := 31) rfl rfl rfl rfl ?_
                            refine ev_ic f_X9_takeNumber (nx := 32) (v := 4) rfl (by decide) rfl ?_
                            refine ev_inV2 f_X9_takeNumber (nx := 35) (lo2 := [(0, .ref a6), (1, .int 4)]) rfl rfl rfl rfl f_X9_refuseToken p6.1 rfl rfl rfl rfl rfl ?_
                            refine ev_loc f_X9_refuseToken (nx := 1) rfl rfl rfl rfl ?_
                            refine ev_loc f_X9_refuseToken (nx := 2) rfl rfl rfl rfl ?_
                            refine ev_gvI f_X9_refuseToken (nx := 5) (w := (gi44 a6 3)) rfl p6.1 rfl rfl rfl rfl ?_
                            refine ev_ic f_X9_refuseToken (nx := 6) (v := 4) rfl (by decide) rfl ?_
                            refine ev_f f_X9_refuseToken (t1 := 9) (t2 := 13) rfl rfl rfl (t_neT u46 (by decide : (4:Int) ≤ (4:Int32).toInt) (by decide)) ?_
                            refine ev_loc f_X9_refuseToken (nx := 14) rfl rfl rfl rfl ?_
                            refine ev_putIT f_X9_refuseToken (nx := 17) rfl p6.1 rfl rfl rfl (hI.put0 p6.1 rfl rfl) (hX.upI (t_inO hI.wf p6.1 (t_outO hI.wf p6.1 rfl) rfl)) (fun g50 e50 hI hX => ?_)
                            refine ev_loc f_X9_refuseToken (nx := 18) rfl rfl rfl rfl ?_
                            refine ev_loc f_X9_refuseToken (nx := 19) rfl rfl rfl rfl ?_
                            refine ev_getI f_X9_refuseToken (nx := 22) rfl p6.1 rfl rfl rfl ?_
                            obtain ⟨l51, u51⟩ := hI.b p6.1 (t_bdK rfl : t_bd 8 4 = some (0, 900))
                            refine ev_putIT f_X9_refuseToken (nx := 25) rfl p6.1 rfl rfl rfl (hI.put0 p6.1 rfl rfl) (hX.upI (t_inO hI.wf p6.1 (t_outO hI.wf p6.1 rfl) rfl)) (fun g52 e52 hI hX => ?_)
                            refine ev_ic f_X9_refuseToken (nx := 26) (v := 0) rfl (by decide) rfl ?_
                            refine ev_retK1 f_X9_refuseToken rfl rfl rfl ?_
                            refine ev_retK1 f_X9_takeNumber rfl rfl rfl ?_
                            refine ev_t f_X6_readComing (t1 := 109) (t2 := 111) rfl rfl rfl (by decide) ?_
                            refine ev_ic f_X6_readComing (nx := 110) (v := 0) rfl (by decide) rfl ?_
                            refine ev_retK1 f_X6_readComing rfl rfl rfl ?_
                            refine ev_t f_X6_readCart (t1 := 57) (t2 := 53) rfl rfl rfl (by decide) ?_
                            refine ev_ic f_X6_readCart (nx := 58) (v := 0) rfl (by decide) rfl ?_
                            exact ev_ret f_X6_readCart rfl rfl rfl ⟨_, _, _, rfl, hI, hX, ⟨_, rfl, (by decide : (0:Int) ≤ (0:Int32).toInt), (Int.le_trans (by decide : (0:Int32).toInt ≤ (0:Int)) (by decide : (0:Int) ≤ 1))⟩⟩
                          · have l53 : 0 ≤ (gi44 a6 8).toInt := t_lel (t_nlt h48) (by decide : (0:Int) ≤ (0:Int32).toInt)
                            refine ev_loc f_X9_takeNumber (nx := 23) rfl rfl rfl rfl ?_
                            refine ev_gvI f_X9_takeNumber (nx := 26) (w := (gi44 a6 8)) rfl p6.1 rfl rfl rfl rfl ?_
                            refine ev_loc f_X9_takeNumber (nx := 27) rfl rfl rfl rfl ?_
                            refine ev_if f_X9_takeNumber (t1 := 36) (t2 := 30) rfl rfl rfl (fun h54 => ?_) (fun h54 => ?_)
                            · have u55 : (gi44 a6 8).toInt ≤ 99 := t_leu h54 (by decide : (99:Int32).toInt ≤ (99:Int))
                              refine ev_loc f_X9_takeNumber (nx := 37) rfl rfl rfl rfl ?_
                              refine ev_c0 f_X9_takeNumber (nx := 40) (r := []) rfl rfl rfl rfl rfl rfl rfl (c_step hI (a6) p6) rfl hX rfl (fun gi56 gl56 gr56 hI hX hC56 => ?_)
                              replace p_a0 := p_a0.ext hC56.2
                              replace p2 := p2.ext hC56.2
                              replace p6 := p6.ext hC56.2
                              replace p1 := p1.ext hC56.2
                              refine ev_ic f_X9_takeNumber (nx := 41) (v := 1) rfl (by decide) rfl ?_
                              refine ev_retK1 f_X9_takeNumber rfl rfl rfl ?_
                              refine ev_f f_X6_readComing (t1 := 109) (t2 := 111) rfl rfl rfl (by decide) ?_
                              refine ev_loc f_X6_readComing (nx := 112) rfl rfl rfl rfl ?_
                              refine ev_loc f_X6_readComing (nx := 113) rfl rfl rfl rfl ?_
                              refine ev_gvI f_X6_readComing (nx := 116) (w := (gi a2 0)) rfl p2.1 rfl rfl ((hC56.1 a2 0 (t_ninO hI.wf p2.1 (t_outO hI.wf p2.1 rfl) rfl)).1.trans ((hC44.1 a2 0 (t_ninO hI.wf p2.1 (t_outO hI.wf p2.1 rfl) rfl)).1.trans ((hC41.1 a2 0 (t_ninO hI.wf p2.1 (t_outO hI.wf p2.1 rfl) rfl)).1.trans ((hC29.1 a2 0 (t_ninO hI.wf p2.1 (t_outO hI.wf p2.1 rfl) rfl)).1.trans ((hC26.1 a2 0 (t_ninO hI.wf p2.1 (t_outO hI.wf p2.1 rfl) rfl)).1.trans ((hC14.1 a2 0 (t_ninO hI.wf p2.1 (t_outO hI.wf p2.1 rfl) rfl)).1.trans ((hC8.1 a2 0 (t_ninO hI.wf p2.1 (t_outO hI.wf p2.1 rfl) rfl)).1.trans ((hC7.1 a2 0 (t_ninO hI.wf p2.1 (t_outO hI.wf p2.1 rfl) rfl)).1.trans rfl)))))))) rfl ?_
                              refine ev_loc f_X6_readComing (nx := 117) rfl rfl rfl rfl ?_
                              refine ev_gvI f_X6_readComing (nx := 120) (w := (gi a2 0)) rfl p2.1 rfl rfl ((hC56.1 a2 0 (t_ninO hI.wf p2.1 (t_outO hI.wf p2.1 rfl) rfl)).1.trans ((hC44.1 a2 0 (t_ninO hI.wf p2.1 (t_outO hI.wf p2.1 rfl) rfl)).1.trans ((hC41.1 a2 0 (t_ninO hI.wf p2.1 (t_outO hI.wf p2.1 rfl) rfl)).1.trans ((hC29.1 a2 0 (t_ninO hI.wf p2.1 (t_outO hI.wf p2.1 rfl) rfl)).1.trans ((hC26.1 a2 0 (t_ninO hI.wf p2.1 (t_outO hI.wf p2.1 rfl) rfl)).1.trans ((hC14.1 a2 0 (t_ninO hI.wf p2.1 (t_outO hI.wf p2.1 rfl) rfl)).1.trans ((hC8.1 a2 0 (t_ninO hI.wf p2.1 (t_outO hI.wf p2.1 rfl) rfl)).1.trans ((hC7.1 a2 0 (t_ninO hI.wf p2.1 (t_outO hI.wf p2.1 rfl) rfl)).1.trans rfl)))))))) rfl ?_
                              refine ev_loc f_X6_readComing (nx := 121) rfl rfl rfl rfl ?_
                              refine ev_loc f_X6_readComing (nx := 122) rfl rfl rfl rfl ?_
                              refine ev_loc f_X6_readComing (nx := 124) rfl rfl rfl rfl ?_
                              refine ev_ic f_X6_readComing (nx := 125) (v := 0) rfl (by decide) rfl ?_
                              refine ev_c0 f_X6_readComing (nx := 128) (r := []) rfl rfl rfl rfl rfl rfl rfl (c_put hI (a2) p2 ((gi a2 0)) ((gi a2 0)) ((gi14 a6 8)) ((gi29 a6 8)) ((gi44 a6 8)) (0)) rfl hX rfl (fun gi57 gl57 gr57 hI hX hC57 => ?_)
                              replace p_a0 := p_a0.ext hC57.2
                              replace p2 := p2.ext hC57.2
                              replace p1 := p1.ext hC57.2
                              replace p6 := p6.ext hC57.2
                              refine ev_loc f_X6_readComing (nx := 129) rfl rfl rfl rfl ?_
                              refine ev_alu f_X6_readComing (nx := 130) rfl rfl rfl rfl ?_
                              refine ev_gvI f_X6_readComing (nx := 133) (w := (gi a2 0)) rfl p2.1 rfl rfl ((hC57.1 a2 0 (t_ninO hI.wf p2.1 (t_outO hI.wf p2.1 rfl) rfl)).1.trans ((hC56.1 a2 0 (t_ninO hI.wf p2.1 (t_outO hI.wf p2.1 rfl) rfl)).1.trans ((hC44.1 a2 0 (t_ninO hI.wf p2.1 (t_outO hI.wf p2.1 rfl) rfl)).1.trans ((hC41.1 a2 0 (t_ninO hI.wf p2.1 (t_outO hI.wf p2.1 rfl) rfl)).1.trans ((hC29.1 a2 0 (t_ninO hI.wf p2.1 (t_outO hI.wf p2.1 rfl) rfl)).1.trans ((hC26.1 a2 0 (t_ninO hI.wf p2.1 (t_outO hI.wf p2.1 rfl) rfl)).1.trans ((hC14.1 a2 0 (t_ninO hI.wf p2.1 (t_outO hI.wf p2.1 rfl) rfl)).1.trans ((hC8.1 a2 0 (t_ninO hI.wf p2.1 (t_outO hI.wf p2.1 rfl) rfl)).1.trans ((hC7.1 a2 0 (t_ninO hI.wf p2.1 (t_outO hI.wf p2.1 rfl) rfl)).1.trans rfl))))))))) rfl ?_
                              refine ev_ic f_X6_readComing (nx := 134) (v := 1) rfl (by decide) rfl ?_
                              refine ev_addC f_X6_readComing (nx := 135) (c := 1) (l := 1) (u := 6) rfl (by decide) l3 u5 rfl rfl (by decide) (by decide) rfl (fun z58 e58 l58 u58 => ?_)
                              refine ev_putIT f_X6_readComing (nx := 138) rfl p2.1 rfl rfl rfl (hI.putB p2.1 rfl rfl l58 (by decide) u58 (by decide)) (hX.upI (t_inO hI.wf p2.1 (t_outO hI.wf p2.1 rfl) rfl)) (fun g59 e59 hI hX => ?_)
                              refine ev_ic f_X6_readComing (nx := 139) (v := 1) rfl (by decide) rfl ?_
                              refine ev_retK1 f_X6_readComing rfl rfl rfl ?_
                              refine ev_f f_X6_readCart (t1 := 57) (t2 := 53) rfl rfl rfl (by decide) ?_
                              refine ev_ic f_X6_readCart (nx := 54) (v := 1) rfl (by decide) rfl ?_
                              refine ev_jmp f_X6_readCart (nx := 58) rfl rfl rfl ?_
                              exact ev_ret f_X6_readCart rfl rfl rfl ⟨_, _, _, rfl, hI, hX, ⟨_, rfl, (Int.le_trans (by decide : (0:Int) ≤ 1) (by decide : (1:Int) ≤ (1:Int32).toInt)), (by decide : (1:Int32).toInt ≤ (1:Int))⟩⟩
                            · have l60 : 100 ≤ (gi44 a6 8).toInt := t_ltl (t_nle h54) (by decide : (99:Int) ≤ (99:Int32).toInt) rfl
                              refine ev_loc f_X9_takeNumber (nx := 31) rfl rfl rfl rfl ?_
                              refine ev_ic f_X9_takeNumber (nx := 32) (v := 4) rfl (by decide) rfl ?_
                              refine ev_inV2 f_X9_takeNumber (nx := 35) (lo2 := [(0, .ref a6), (1, .int 4)]) rfl rfl rfl rfl f_X9_refuseToken p6.1 rfl rfl rfl rfl rfl ?_
                              refine ev_loc f_X9_refuseToken (nx := 1) rfl rfl rfl rfl ?_
                              refine ev_loc f_X9_refuseToken (nx := 2) rfl rfl rfl rfl ?_
                              refine ev_gvI f_X9_refuseToken (nx := 5) (w := (gi44 a6 3)) rfl p6.1 rfl rfl rfl rfl ?_
                              refine ev_ic f_X9_refuseToken (nx := 6) (v := 4) rfl (by decide) rfl ?_
                              refine ev_f f_X9_refuseToken (t1 := 9) (t2 := 13) rfl rfl rfl (t_neT u46 (by decide : (4:Int) ≤ (4:Int32).toInt) (by decide)) ?_
                              refine ev_loc f_X9_refuseToken (nx := 14) rfl rfl rfl rfl ?_
                              refine ev_putIT f_X9_refuseToken (nx := 17) rfl p6.1 rfl rfl rfl (hI.put0 p6.1 rfl rfl) (hX.upI (t_inO hI.wf p6.1 (t_outO hI.wf p6.1 rfl) rfl)) (fun g61 e61 hI hX => ?_)
                              refine ev_loc f_X9_refuseToken (nx := 18) rfl rfl rfl rfl ?_
                              refine ev_loc f_X9_refuseToken (nx := 19) rfl rfl rfl rfl ?_
                              refine ev_getI f_X9_refuseToken (nx := 22) rfl p6.1 rfl rfl rfl ?_
                              obtain ⟨l62, u62⟩ := hI.b p6.1 (t_bdK rfl : t_bd 8 4 = some (0, 900))
                              refine ev_putIT f_X9_refuseToken (nx := 25) rfl p6.1 rfl rfl rfl (hI.put0 p6.1 rfl rfl) (hX.upI (t_inO hI.wf p6.1 (t_outO hI.wf p6.1 rfl) rfl)) (fun g63 e63 hI hX => ?_)
                              refine ev_ic f_X9_refuseToken (nx := 26) (v := 0) rfl (by decide) rfl ?_
                              refine ev_retK1 f_X9_refuseToken rfl rfl rfl ?_
                              refine ev_retK1 f_X9_takeNumber rfl rfl rfl ?_
                              refine ev_t f_X6_readComing (t1 := 109) (t2 := 111) rfl rfl rfl (by decide) ?_
                              refine ev_ic f_X6_readComing (nx := 110) (v := 0) rfl (by decide) rfl ?_
                              refine ev_retK1 f_X6_readComing rfl rfl rfl ?_
                              refine ev_t f_X6_readCart (t1 := 57) (t2 := 53) rfl rfl rfl (by decide) ?_
                              refine ev_ic f_X6_readCart (nx := 58) (v := 0) rfl (by decide) rfl ?_
                              exact ev_ret f_X6_readCart rfl rfl rfl ⟨_, _, _, rfl, hI, hX, ⟨_, rfl, (by decide : (0:Int) ≤ (0:Int32).toInt), (Int.le_trans (by decide : (0:Int32).toInt ≤ (0:Int)) (by decide : (0:Int) ≤ 1))⟩⟩
                        · refine ev_loc f_X9_takeNumber (nx := 9) rfl rfl rfl rfl ?_
                          refine ev_ic f_X9_takeNumber (nx := 10) (v := 2) rfl (by decide) rfl ?_
                          refine ev_inV2 f_X9_takeNumber (nx := 13) (lo2 := [(0, .ref a6), (1, .int 2)]) rfl rfl rfl rfl f_X9_refuseToken p6.1 rfl rfl rfl rfl rfl ?_
                          refine ev_loc f_X9_refuseToken (nx := 1) rfl rfl rfl rfl ?_
                          refine ev_loc f_X9_refuseToken (nx := 2) rfl rfl rfl rfl ?_
                          refine ev_gvI f_X9_refuseToken (nx := 5) (w := (gi44 a6 3)) rfl p6.1 rfl rfl rfl rfl ?_
                          refine ev_ic f_X9_refuseToken (nx := 6) (v := 4) rfl (by decide) rfl ?_
                          refine ev_if f_X9_refuseToken (t1 := 9) (t2 := 13) rfl rfl rfl (fun h64 => ?_) (fun h64 => ?_)
                          · have u65 : (gi44 a6 3).toInt ≤ 4 := t_equ h64 (by decide : (4:Int32).toInt ≤ (4:Int))
                            have l66 : 4 ≤ (gi44 a6 3).toInt := t_eql h64 (by decide : (4:Int) ≤ (4:Int32).toInt)
                            refine ev_ic f_X9_refuseToken (nx := 10) (v := 1) rfl (by decide) rfl ?_
                            refine ev_jmp f_X9_refuseToken (nx := 14) rfl rfl rfl ?_
                            refine ev_putIT f_X9_refuseToken (nx := 17) rfl p6.1 rfl rfl rfl (hI.put0 p6.1 rfl rfl) (hX.upI (t_inO hI.wf p6.1 (t_outO hI.wf p6.1 rfl) rfl)) (fun g67 e67 hI hX => ?_)
                            refine ev_loc f_X9_refuseToken (nx := 18) rfl rfl rfl rfl ?_
                            refine ev_loc f_X9_refuseToken (nx := 19) rfl rfl rfl rfl ?_
                            refine ev_getI f_X9_refuseToken (nx := 22) rfl p6.1 rfl rfl rfl ?_
                            obtain ⟨l68, u68⟩ := hI.b p6.1 (t_bdK rfl : t_bd 8 4 = some (0, 900))
                            refine ev_putIT f_X9_refuseToken (nx := 25) rfl p6.1 rfl rfl rfl (hI.put0 p6.1 rfl rfl) (hX.upI (t_inO hI.wf p6.1 (t_outO hI.wf p6.1 rfl) rfl)) (fun g69 e69 hI hX => ?_)
                            refine ev_ic f_X9_refuseToken (nx := 26) (v := 0) rfl (by decide) rfl ?_
                            refine ev_retK1 f_X9_refuseToken rfl rfl rfl ?_
                            refine ev_retK1 f_X9_takeNumber rfl rfl rfl ?_
                            refine ev_t f_X6_readComing (t1 := 109) (t2 := 111) rfl rfl rfl (by decide) ?_
                            refine ev_ic f_X6_readComing (nx := 110) (v := 0) rfl (by decide) rfl ?_
                            refine ev_retK1 f_X6_readComing rfl rfl rfl ?_
                            refine ev_t f_X6_readCart (t1 := 57) (t2 := 53) rfl rfl rfl (by decide) ?_
                            refine ev_ic f_X6_readCart (nx := 58) (v := 0) rfl (by decide) rfl ?_
                            exact ev_ret f_X6_readCart rfl rfl rfl ⟨_, _, _, rfl, hI, hX, ⟨_, rfl, (by decide : (0:Int) ≤ (0:Int32).toInt), (Int.le_trans (by decide : (0:Int32).toInt ≤ (0:Int)) (by decide : (0:Int) ≤ 1))⟩⟩
                          · refine ev_loc f_X9_refuseToken (nx := 14) rfl rfl rfl rfl ?_
                            refine ev_putIT f_X9_refuseToken (nx := 17) rfl p6.1 rfl rfl rfl (hI.put0 p6.1 rfl rfl) (hX.upI (t_inO hI.wf p6.1 (t_outO hI.wf p6.1 rfl) rfl)) (fun g70 e70 hI hX => ?_)
                            refine ev_loc f_X9_refuseToken (nx := 18) rfl rfl rfl rfl ?_
                            refine ev_loc f_X9_refuseToken (nx := 19) rfl rfl rfl rfl ?_
                            refine ev_getI f_X9_refuseToken (nx := 22) rfl p6.1 rfl rfl rfl ?_
                            obtain ⟨l71, u71⟩ := hI.b p6.1 (t_bdK rfl : t_bd 8 4 = some (0, 900))
                            refine ev_putIT f_X9_refuseToken (nx := 25) rfl p6.1 rfl rfl rfl (hI.put0 p6.1 rfl rfl) (hX.upI (t_inO hI.wf p6.1 (t_outO hI.wf p6.1 rfl) rfl)) (fun g72 e72 hI hX => ?_)
                            refine ev_ic f_X9_refuseToken (nx := 26) (v := 0) rfl (by decide) rfl ?_
                            refine ev_retK1 f_X9_refuseToken rfl rfl rfl ?_
                            refine ev_retK1 f_X9_takeNumber rfl rfl rfl ?_
                            refine ev_t f_X6_readComing (t1 := 109) (t2 := 111) rfl rfl rfl (by decide) ?_
                            refine ev_ic f_X6_readComing (nx := 110) (v := 0) rfl (by decide) rfl ?_
                            refine ev_retK1 f_X6_readComing rfl rfl rfl ?_
                            refine ev_t f_X6_readCart (t1 := 57) (t2 := 53) rfl rfl rfl (by decide) ?_
                            refine ev_ic f_X6_readCart (nx := 58) (v := 0) rfl (by decide) rfl ?_
                            exact ev_ret f_X6_readCart rfl rfl rfl ⟨_, _, _, rfl, hI, hX, ⟨_, rfl, (by decide : (0:Int) ≤ (0:Int32).toInt), (Int.le_trans (by decide : (0:Int32).toInt ≤ (0:Int)) (by decide : (0:Int) ≤ 1))⟩⟩
                      · refine ev_loc f_X9_takeKeyword (nx := 9) rfl rfl rfl rfl ?_
                        refine ev_ic f_X9_takeKeyword (nx := 10) (v := 2) rfl (by decide) rfl ?_
                        refine ev_inV2 f_X9_takeKeyword (nx := 13) (lo2 := [(0, .ref a6), (1, .int 2)]) rfl rfl rfl rfl f_X9_refuseToken p6.1 rfl rfl rfl rfl rfl ?_
                        refine ev_loc f_X9_refuseToken (nx := 1) rfl rfl rfl rfl ?_
                        refine ev_loc f_X9_refuseToken (nx := 2) rfl rfl rfl rfl ?_
                        refine ev_getI f_X9_refuseToken (nx := 5) rfl p6.1 rfl rfl rfl ?_
                        refine ev_ic f_X9_refuseToken (nx := 6) (v := 4) rfl (by decide) rfl ?_
                        refine ev_if f_X9_refuseToken (t1 := 9) (t2 := 13) rfl rfl rfl (fun h73 => ?_) (fun h73 => ?_)
                        · have u74 : (gi41 a6 3).toInt ≤ 4 := t_equ h73 (by decide : (4:Int32).toInt ≤ (4:Int))
                          have l75 : 4 ≤ (gi41 a6 3).toInt := t_eql h73 (by decide : (4:Int) ≤ (4:Int32).toInt)
                          refine ev_ic f_X9_refuseToken (nx := 10) (v := 1) rfl (by decide) rfl ?_
                          refine ev_jmp f_X9_refuseToken (nx := 14) rfl rfl rfl ?_
                          refine ev_putIT f_X9_refuseToken (nx := 17) rfl p6.1 rfl rfl rfl (hI.put0 p6.1 rfl rfl) (hX.upI (t_inO hI.wf p6.1 (t_outO hI.wf p6.1 rfl) rfl)) (fun g76 e76 hI hX => ?_)
                          refine ev_loc f_X9_refuseToken (nx := 18) rfl rfl rfl rfl ?_
                          refine ev_loc f_X9_refuseToken (nx := 19) rfl rfl rfl rfl ?_
                          refine ev_getI f_X9_refuseToken (nx := 22) rfl p6.1 rfl rfl rfl ?_
                          obtain ⟨l77, u77⟩ := hI.b p6.1 (t_bdK rfl : t_bd 8 4 = some (0, 900))
                          refine ev_putIT f_X9_refuseToken (nx := 25) rfl p6.1 rfl rfl rfl (hI.put0 p6.1 rfl rfl) (hX.upI (t_inO hI.wf p6.1 (t_outO hI.wf p6.1 rfl) rfl)) (fun g78 e78 hI hX => ?_)
                          refine ev_ic f_X9_refuseToken (nx := 26) (v := 0) rfl (by decide) rfl ?_
                          refine ev_retK1 f_X9_refuseToken rfl rfl rfl ?_
                          refine ev_retK1 f_X9_takeKeyword rfl rfl rfl ?_
                          refine ev_t f_X6_readComing (t1 := 85) (t2 := 87) rfl rfl rfl (by decide) ?_
                          refine ev_ic f_X6_readComing (nx := 86) (v := 0) rfl (by decide) rfl ?_
                          refine ev_retK1 f_X6_readComing rfl rfl rfl ?_
                          refine ev_t f_X6_readCart (t1 := 57) (t2 := 53) rfl rfl rfl (by decide) ?_
                          refine ev_ic f_X6_readCart (nx := 58) (v := 0) rfl (by decide) rfl ?_
                          exact ev_ret f_X6_readCart rfl rfl rfl ⟨_, _, _, rfl, hI, hX, ⟨_, rfl, (by decide : (0:Int) ≤ (0:Int32).toInt), (Int.le_trans (by decide : (0:Int32).toInt ≤ (0:Int)) (by decide : (0:Int) ≤ 1))⟩⟩
                        · refine ev_loc f_X9_refuseToken (nx := 14) rfl rfl rfl rfl ?_
                          refine ev_putIT f_X9_refuseToken (nx := 17) rfl p6.1 rfl rfl rfl (hI.put0 p6.1 rfl rfl) (hX.upI (t_inO hI.wf p6.1 (t_outO hI.wf p6.1 rfl) rfl)) (fun g79 e79 hI hX => ?_)
                          refine ev_loc f_X9_refuseToken (nx := 18) rfl rfl rfl rfl ?_
                          refine ev_loc f_X9_refuseToken (nx := 19) rfl rfl rfl rfl ?_
                          refine ev_getI f_X9_refuseToken (nx := 22) rfl p6.1 rfl rfl rfl ?_
                          obtain ⟨l80, u80⟩ := hI.b p6.1 (t_bdK rfl : t_bd 8 4 = some (0, 900))
                          refine ev_putIT f_X9_refuseToken (nx := 25) rfl p6.1 rfl rfl rfl (hI.put0 p6.1 rfl rfl) (hX.upI (t_inO hI.wf p6.1 (t_outO hI.wf p6.1 rfl) rfl)) (fun g81 e81 hI hX => ?_)
                          refine ev_ic f_X9_refuseToken (nx := 26) (v := 0) rfl (by decide) rfl ?_
                          refine ev_retK1 f_X9_refuseToken rfl rfl rfl ?_
                          refine ev_retK1 f_X9_takeKeyword rfl rfl rfl ?_
                          refine ev_t f_X6_readComing (t1 := 85) (t2 := 87) rfl rfl rfl (by decide) ?_
                          refine ev_ic f_X6_readComing (nx := 86) (v := 0) rfl (by decide) rfl ?_
                          refine ev_retK1 f_X6_readComing rfl rfl rfl ?_
                          refine ev_t f_X6_readCart (t1 := 57) (t2 := 53) rfl rfl rfl (by decide) ?_
                          refine ev_ic f_X6_readCart (nx := 58) (v := 0) rfl (by decide) rfl ?_
                          exact ev_ret f_X6_readCart rfl rfl rfl ⟨_, _, _, rfl, hI, hX, ⟨_, rfl, (by decide : (0:Int) ≤ (0:Int32).toInt), (Int.le_trans (by decide : (0:Int32).toInt ≤ (0:Int)) (by decide : (0:Int) ≤ 1))⟩⟩
                    · have l82 : 21 ≤ (gi29 a6 8).toInt := t_ltl (t_nle h39) (by decide : (20:Int) ≤ (20:Int32).toInt) rfl
                      refine ev_loc f_X9_takeNumber (nx := 31) rfl rfl rfl rfl ?_
                      refine ev_ic f_X9_takeNumber (nx := 32) (v := 4) rfl (by decide) rfl ?_
                      refine ev_inV2 f_X9_takeNumber (nx := 35) (lo2 := [(0, .ref a6), (1, .int 4)]) rfl rfl rfl rfl f_X9_refuseToken p6.1 rfl rfl rfl rfl rfl ?_
                      refine ev_loc f_X9_refuseToken (nx := 1) rfl rfl rfl rfl ?_
                      refine ev_loc f_X9_refuseToken (nx := 2) rfl rfl rfl rfl ?_
                      refine ev_gvI f_X9_refuseToken (nx := 5) (w := (gi29 a6 3)) rfl p6.1 rfl rfl rfl rfl ?_
                      refine ev_ic f_X9_refuseToken (nx := 6) (v := 4) rfl (by decide) rfl ?_
                      refine ev_f f_X9_refuseToken (t1 := 9) (t2 := 13) rfl rfl rfl (t_neT u31 (by decide : (4:Int) ≤ (4:Int32).toInt) (by decide)) ?_
                      refine ev_loc f_X9_refuseToken (nx := 14) rfl rfl rfl rfl ?_
                      refine ev_putIT f_X9_refuseToken (nx := 17) rfl p6.1 rfl rfl rfl (hI.put0 p6.1 rfl rfl) (hX.upI (t_inO hI.wf p6.1 (t_outO hI.wf p6.1 rfl) rfl)) (fun g83 e83 hI hX => ?_)
                      refine ev_loc f_X9_refuseToken (nx := 18) rfl rfl rfl rfl ?_
                      refine ev_loc f_X9_refuseToken (nx := 19) rfl rfl rfl rfl ?_
                      refine ev_getI f_X9_refuseToken (nx := 22) rfl p6.1 rfl rfl rfl ?_
                      obtain ⟨l84, u84⟩ := hI.b p6.1 (t_bdK rfl : t_bd 8 4 = some (0, 900))
                      refine ev_putIT f_X9_refuseToken (nx := 25) rfl p6.1 rfl rfl rfl (hI.put0 p6.1 rfl rfl) (hX.upI (t_inO hI.wf p6.1 (t_outO hI.wf p6.1 rfl) rfl)) (fun g85 e85 hI hX => ?_)
                      refine ev_ic f_X9_refuseToken (nx := 26) (v := 0) rfl (by decide) rfl ?_
                      refine ev_retK1 f_X9_refuseToken rfl rfl rfl ?_
                      refine ev_retK1 f_X9_takeNumber rfl rfl rfl ?_
                      refine ev_t f_X6_readComing (t1 := 85) (t2 := 72) rfl rfl rfl (by decide) ?_
                      refine ev_ic f_X6_readComing (nx := 86) (v := 0) rfl (by decide) rfl ?_
                      refine ev_retK1 f_X6_readComing rfl rfl rfl ?_
                      refine ev_t f_X6_readCart (t1 := 57) (t2 := 53) rfl rfl rfl (by decide) ?_
                      refine ev_ic f_X6_readCart (nx := 58) (v := 0) rfl (by decide) rfl ?_
                      exact ev_ret f_X6_readCart rfl rfl rfl ⟨_, _, _, rfl, hI, hX, ⟨_, rfl, (by decide : (0:Int) ≤ (0:Int32).toInt), (Int.le_trans (by decide : (0:Int32).toInt ≤ (0:Int)) (by decide : (0:Int) ≤ 1))⟩⟩
                · refine ev_loc f_X9_takeNumber (nx := 9) rfl rfl rfl rfl ?_
                  refine ev_ic f_X9_takeNumber (nx := 10) (v := 2) rfl (by decide) rfl ?_
                  refine ev_inV2 f_X9_takeNumber (nx := 13) (lo2 := [(0, .ref a6), (1, .int 2)]) rfl rfl rfl rfl f_X9_refuseToken p6.1 rfl rfl rfl rfl rfl ?_
                  refine ev_loc f_X9_refuseToken (nx := 1) rfl rfl rfl rfl ?_
                  refine ev_loc f_X9_refuseToken (nx := 2) rfl rfl rfl rfl ?_
                  refine ev_gvI f_X9_refuseToken (nx := 5) (w := (gi29 a6 3)) rfl p6.1 rfl rfl rfl rfl ?_
                  refine ev_ic f_X9_refuseToken (nx := 6) (v := 4) rfl (by decide) rfl ?_
                  refine ev_if f_X9_refuseToken (t1 := 9) (t2 := 13) rfl rfl rfl (fun h86 => ?_) (fun h86 => ?_)
                  · have u87 : (gi29 a6 3).toInt ≤ 4 := t_equ h86 (by decide : (4:Int32).toInt ≤ (4:Int))
                    have l88 : 4 ≤ (gi29 a6 3).toInt := t_eql h86 (by decide : (4:Int) ≤ (4:Int32).toInt)
                    refine ev_ic f_X9_refuseToken (nx := 10) (v := 1) rfl (by decide) rfl ?_
                    refine ev_jmp f_X9_refuseToken (nx := 14) rfl rfl rfl ?_
                    refine ev_putIT f_X9_refuseToken (nx := 17) rfl p6.1 rfl rfl rfl (hI.put0 p6.1 rfl rfl) (hX.upI (t_inO hI.wf p6.1 (t_outO hI.wf p6.1 rfl) rfl)) (fun g89 e89 hI hX => ?_)
                    refine ev_loc f_X9_refuseToken (nx := 18) rfl rfl rfl rfl ?_
                    refine ev_loc f_X9_refuseToken (nx := 19) rfl rfl rfl rfl ?_
                    refine ev_getI f_X9_refuseToken (nx := 22) rfl p6.1 rfl rfl rfl ?_
                    obtain ⟨l90, u90⟩ := hI.b p6.1 (t_bdK rfl : t_bd 8 4 = some (0, 900))
                    refine ev_putIT f_X9_refuseToken (nx := 25) rfl p6.1 rfl rfl rfl (hI.put0 p6.1 rfl rfl) (hX.upI (t_inO hI.wf p6.1 (t_outO hI.wf p6.1 rfl) rfl)) (fun g91 e91 hI hX => ?_)
                    refine ev_ic f_X9_refuseToken (nx := 26) (v := 0) rfl (by decide) rfl ?_
                    refine ev_retK1 f_X9_refuseToken rfl rfl rfl ?_
                    refine ev_retK1 f_X9_takeNumber rfl rfl rfl ?_
                    refine ev_t f_X6_readComing (t1 := 85) (t2 := 72) rfl rfl rfl (by decide) ?_
                    refine ev_ic f_X6_readComing (nx := 86) (v := 0) rfl (by decide) rfl ?_
                    refine ev_retK1 f_X6_readComing rfl rfl rfl ?_
                    refine ev_t f_X6_readCart (t1 := 57) (t2 := 53) rfl rfl rfl (by decide) ?_
                    refine ev_ic f_X6_readCart (nx := 58) (v := 0) rfl (by decide) rfl ?_
                    exact ev_ret f_X6_readCart rfl rfl rfl ⟨_, _, _, rfl, hI, hX, ⟨_, rfl, (by decide : (0:Int) ≤ (0:Int32).toInt), (Int.le_trans (by decide : (0:Int32).toInt ≤ (0:Int)) (by decide : (0:Int) ≤ 1))⟩⟩
                  · refine ev_loc f_X9_refuseToken (nx := 14) rfl rfl rfl rfl ?_
                    refine ev_putIT f_X9_refuseToken (nx := 17) rfl p6.1 rfl rfl rfl (hI.put0 p6.1 rfl rfl) (hX.upI (t_inO hI.wf p6.1 (t_outO hI.wf p6.1 rfl) rfl)) (fun g92 e92 hI hX => ?_)
                    refine ev_loc f_X9_refuseToken (nx := 18) rfl rfl rfl rfl ?_
                    refine ev_loc f_X9_refuseToken (nx := 19) rfl rfl rfl rfl ?_
                    refine ev_getI f_X9_refuseToken (nx := 22) rfl p6.1 rfl rfl rfl ?_
                    obtain ⟨l93, u93⟩ := hI.b p6.1 (t_bdK rfl : t_bd 8 4 = some (0, 900))
                    refine ev_putIT f_X9_refuseToken (nx := 25) rfl p6.1 rfl rfl rfl (hI.put0 p6.1 rfl rfl) (hX.upI (t_inO hI.wf p6.1 (t_outO hI.wf p6.1 rfl) rfl)) (fun g94 e94 hI hX => ?_)
                    refine ev_ic f_X9_refuseToken (nx := 26) (v := 0) rfl (by decide) rfl ?_
                    refine ev_retK1 f_X9_refuseToken rfl rfl rfl ?_
                    refine ev_retK1 f_X9_takeNumber rfl rfl rfl ?_
                    refine ev_t f_X6_readComing (t1 := 85) (t2 := 72) rfl rfl rfl (by decide) ?_
                    refine ev_ic f_X6_readComing (nx := 86) (v := 0) rfl (by decide) rfl ?_
                    refine ev_retK1 f_X6_readComing rfl rfl rfl ?_
                    refine ev_t f_X6_readCart (t1 := 57) (t2 := 53) rfl rfl rfl (by decide) ?_
                    refine ev_ic f_X6_readCart (nx := 58) (v := 0) rfl (by decide) rfl ?_
                    exact ev_ret f_X6_readCart rfl rfl rfl ⟨_, _, _, rfl, hI, hX, ⟨_, rfl, (by decide : (0:Int) ≤ (0:Int32).toInt), (Int.le_trans (by decide : (0:Int32).toInt ≤ (0:Int)) (by decide : (0:Int) ≤ 1))⟩⟩
              · refine ev_loc f_X9_takeKeyword (nx := 9) rfl rfl rfl rfl ?_
                refine ev_ic f_X9_takeKeyword (nx := 10) (v := 2) rfl (by decide) rfl ?_
                refine ev_inV2 f_X9_takeKeyword (nx := 13) (lo2 := [(0, .ref a6), (1, .int 2)]) rfl rfl rfl rfl f_X9_refuseToken p6.1 rfl rfl rfl rfl rfl ?_
                refine ev_loc f_X9_refuseToken (nx := 1) rfl rfl rfl rfl ?_
                refine ev_loc f_X9_refuseToken (nx := 2) rfl rfl rfl rfl ?_
                refine ev_getI f_X9_refuseToken (nx := 5) rfl p6.1 rfl rfl rfl ?_
                refine ev_ic f_X9_refuseToken (nx := 6) (v := 4) rfl (by decide) rfl ?_
                refine ev_if f_X9_refuseToken (t1 := 9) (t2 := 13) rfl rfl rfl (fun h95 => ?_) (fun h95 => ?_)
                · have u96 : (gi26 a6 3).toInt ≤ 4 := t_equ h95 (by decide : (4:Int32).toInt ≤ (4:Int))
                  have l97 : 4 ≤ (gi26 a6 3).toInt := t_eql h95 (by decide : (4:Int) ≤ (4:Int32).toInt)
                  refine ev_ic f_X9_refuseToken (nx := 10) (v := 1) rfl (by decide) rfl ?_
                  refine ev_jmp f_X9_refuseToken (nx := 14) rfl rfl rfl ?_
                  refine ev_putIT f_X9_refuseToken (nx := 17) rfl p6.1 rfl rfl rfl (hI.put0 p6.1 rfl rfl) (hX.upI (t_inO hI.wf p6.1 (t_outO hI.wf p6.1 rfl) rfl)) (fun g98 e98 hI hX => ?_)
                  refine ev_loc f_X9_refuseToken (nx := 18) rfl rfl rfl rfl ?_
                  refine ev_loc f_X9_refuseToken (nx := 19) rfl rfl rfl rfl ?_
                  refine ev_getI f_X9_refuseToken (nx := 22) rfl p6.1 rfl rfl rfl ?_
                  obtain ⟨l99, u99⟩ := hI.b p6.1 (t_bdK rfl : t_bd 8 4 = some (0, 900))
                  refine ev_putIT f_X9_refuseToken (nx := 25) rfl p6.1 rfl rfl rfl (hI.put0 p6.1 rfl rfl) (hX.upI (t_inO hI.wf p6.1 (t_outO hI.wf p6.1 rfl) rfl)) (fun g100 e100 hI hX => ?_)
                  refine ev_ic f_X9_refuseToken (nx := 26) (v := 0) rfl (by decide) rfl ?_
                  refine ev_retK1 f_X9_refuseToken rfl rfl rfl ?_
                  refine ev_retK1 f_X9_takeKeyword rfl rfl rfl ?_
                  refine ev_t f_X6_readComing (t1 := 49) (t2 := 51) rfl rfl rfl (by decide) ?_
                  refine ev_ic f_X6_readComing (nx := 50) (v := 0) rfl (by decide) rfl ?_
                  refine ev_retK1 f_X6_readComing rfl rfl rfl ?_
                  refine ev_t f_X6_readCart (t1 := 57) (t2 := 53) rfl rfl rfl (by decide) ?_
                  refine ev_ic f_X6_readCart (nx := 58) (v := 0) rfl (by decide) rfl ?_
                  exact ev_ret f_X6_readCart rfl rfl rfl ⟨_, _, _, rfl, hI, hX, ⟨_, rfl, (by decide : (0:Int) ≤ (0:Int32).toInt), (Int.le_trans (by decide : (0:Int32).toInt ≤ (0:Int)) (by decide : (0:Int) ≤ 1))⟩⟩
                · refine ev_loc f_X9_refuseToken (nx := 14) rfl rfl rfl rfl ?_
                  refine ev_putIT f_X9_refuseToken (nx := 17) rfl p6.1 rfl rfl rfl (hI.put0 p6.1 rfl rfl) (hX.upI (t_inO hI.wf p6.1 (t_outO hI.wf p6.1 rfl) rfl)) (fun g101 e101 hI hX => ?_)
                  refine ev_loc f_X9_refuseToken (nx := 18) rfl rfl rfl rfl ?_
                  refine ev_loc f_X9_refuseToken (nx := 19) rfl rfl rfl rfl ?_
                  refine ev_getI f_X9_refuseToken (nx := 22) rfl p6.1 rfl rfl rfl ?_
                  obtain ⟨l102, u102⟩ := hI.b p6.1 (t_bdK rfl : t_bd 8 4 = some (0, 900))
                  refine ev_putIT f_X9_refuseToken (nx := 25) rfl p6.1 rfl rfl rfl (hI.put0 p6.1 rfl rfl) (hX.upI (t_inO hI.wf p6.1 (t_outO hI.wf p6.1 rfl) rfl)) (fun g103 e103 hI hX => ?_)
                  refine ev_ic f_X9_refuseToken (nx := 26) (v := 0) rfl (by decide) rfl ?_
                  refine ev_retK1 f_X9_refuseToken rfl rfl rfl ?_
                  refine ev_retK1 f_X9_takeKeyword rfl rfl rfl ?_
                  refine ev_t f_X6_readComing (t1 := 49) (t2 := 51) rfl rfl rfl (by decide) ?_
                  refine ev_ic f_X6_readComing (nx := 50) (v := 0) rfl (by decide) rfl ?_
                  refine ev_retK1 f_X6_readComing rfl rfl rfl ?_
                  refine ev_t f_X6_readCart (t1 := 57) (t2 := 53) rfl rfl rfl (by decide) ?_
                  refine ev_ic f_X6_readCart (nx := 58) (v := 0) rfl (by decide) rfl ?_
                  exact ev_ret f_X6_readCart rfl rfl rfl ⟨_, _, _, rfl, hI, hX, ⟨_, rfl, (by decide : (0:Int) ≤ (0:Int32).toInt), (Int.le_trans (by decide : (0:Int32).toInt ≤ (0:Int)) (by decide : (0:Int) ≤ 1))⟩⟩
            · have l104 : 121 ≤ (gi14 a6 8).toInt := t_ltl (t_nle h24) (by decide : (120:Int) ≤ (120:Int32).toInt) rfl
              refine ev_loc f_X9_takeNumber (nx := 31) rfl rfl rfl rfl ?_
              refine ev_ic f_X9_takeNumber (nx := 32) (v := 4) rfl (by decide) rfl ?_
              refine ev_inV2 f_X9_takeNumber (nx := 35) (lo2 := [(0, .ref a6), (1, .int 4)]) rfl rfl rfl rfl f_X9_refuseToken p6.1 rfl rfl rfl rfl rfl ?_
              refine ev_loc f_X9_refuseToken (nx := 1) rfl rfl rfl rfl ?_
              refine ev_loc f_X9_refuseToken (nx := 2) rfl rfl rfl rfl ?_
              refine ev_gvI f_X9_refuseToken (nx := 5) (w := (gi14 a6 3)) rfl p6.1 rfl rfl rfl rfl ?_
              refine ev_ic f_X9_refuseToken (nx := 6) (v := 4) rfl (by decide) rfl ?_
              refine ev_f f_X9_refuseToken (t1 := 9) (t2 := 13) rfl rfl rfl (t_neT u16 (by decide : (4:Int) ≤ (4:Int32).toInt) (by decide)) ?_
              refine ev_loc f_X9_refuseToken (nx := 14) rfl rfl rfl rfl ?_
              refine ev_putIT f_X9_refuseToken (nx := 17) rfl p6.1 rfl rfl rfl (hI.put0 p6.1 rfl rfl) (hX.upI (t_inO hI.wf p6.1 (t_outO hI.wf p6.1 rfl) rfl)) (fun g105 e105 hI hX => ?_)
              refine ev_loc f_X9_refuseToken (nx := 18) rfl rfl rfl rfl ?_
              refine ev_loc f_X9_refuseToken (nx := 19) rfl rfl rfl rfl ?_
              refine ev_getI f_X9_refuseToken (nx := 22) rfl p6.1 rfl rfl rfl ?_
              obtain ⟨l106, u106⟩ := hI.b p6.1 (t_bdK rfl : t_bd 8 4 = some (0, 900))
              refine ev_putIT f_X9_refuseToken (nx := 25) rfl p6.1 rfl rfl rfl (hI.put0 p6.1 rfl rfl) (hX.upI (t_inO hI.wf p6.1 (t_outO hI.wf p6.1 rfl) rfl)) (fun g107 e107 hI hX => ?_)
              refine ev_ic f_X9_refuseToken (nx := 26) (v := 0) rfl (by decide) rfl ?_
              refine ev_retK1 f_X9_refuseToken rfl rfl rfl ?_
              refine ev_retK1 f_X9_takeNumber rfl rfl rfl ?_
              refine ev_t f_X6_readComing (t1 := 49) (t2 := 36) rfl rfl rfl (by decide) ?_
              refine ev_ic f_X6_readComing (nx := 50) (v := 0) rfl (by decide) rfl ?_
              refine ev_retK1 f_X6_readComing rfl rfl rfl ?_
              refine ev_t f_X6_readCart (t1 := 57) (t2 := 53) rfl rfl rfl (by decide) ?_
              refine ev_ic f_X6_readCart (nx := 58) (v := 0) rfl (by decide) rfl ?_
              exact ev_ret f_X6_readCart rfl rfl rfl ⟨_, _, _, rfl, hI, hX, ⟨_, rfl, (by decide : (0:Int) ≤ (0:Int32).toInt), (Int.le_trans (by decide : (0:Int32).toInt ≤ (0:Int)) (by decide : (0:Int) ≤ 1))⟩⟩
        · refine ev_loc f_X9_takeNumber (nx := 9) rfl rfl rfl rfl ?_
          refine ev_ic f_X9_takeNumber (nx := 10) (v := 2) rfl (by decide) rfl ?_
          refine ev_inV2 f_X9_takeNumber (nx := 13) (lo2 := [(0, .ref a6), (1, .int 2)]) rfl rfl rfl rfl f_X9_refuseToken p6.1 rfl rfl rfl rfl rfl ?_
          refine ev_loc f_X9_refuseToken (nx := 1) rfl rfl rfl rfl ?_
          refine ev_loc f_X9_refuseToken (nx := 2) rfl rfl rfl rfl ?_
          refine ev_gvI f_X9_refuseToken (nx := 5) (w := (gi14 a6 3)) rfl p6.1 rfl rfl rfl rfl ?_
          refine ev_ic f_X9_refuseToken (nx := 6) (v := 4) rfl (by decide) rfl ?_
          refine ev_if f_X9_refuseToken (t1 := 9) (t2 := 13) rfl rfl rfl (fun h108 => ?_) (fun h108 => ?_)
          · have u109 : (gi14 a6 3).toInt ≤ 4 := t_equ h108 (by decide : (4:Int32).toInt ≤ (4:Int))
            have l110 : 4 ≤ (gi14 a6 3).toInt := t_eql h108 (by decide : (4:Int) ≤ (4:Int32).toInt)
            refine ev_ic f_X9_refuseToken (nx := 10) (v := 1) rfl (by decide) rfl ?_
            refine ev_jmp f_X9_refuseToken (nx := 14) rfl rfl rfl ?_
            refine ev_putIT f_X9_refuseToken (nx := 17) rfl p6.1 rfl rfl rfl (hI.put0 p6.1 rfl rfl) (hX.upI (t_inO hI.wf p6.1 (t_outO hI.wf p6.1 rfl) rfl)) (fun g111 e111 hI hX => ?_)
            refine ev_loc f_X9_refuseToken (nx := 18) rfl rfl rfl rfl ?_
            refine ev_loc f_X9_refuseToken (nx := 19) rfl rfl rfl rfl ?_
            refine ev_getI f_X9_refuseToken (nx := 22) rfl p6.1 rfl rfl rfl ?_
            obtain ⟨l112, u112⟩ := hI.b p6.1 (t_bdK rfl : t_bd 8 4 = some (0, 900))
            refine ev_putIT f_X9_refuseToken (nx := 25) rfl p6.1 rfl rfl rfl (hI.put0 p6.1 rfl rfl) (hX.upI (t_inO hI.wf p6.1 (t_outO hI.wf p6.1 rfl) rfl)) (fun g113 e113 hI hX => ?_)
            refine ev_ic f_X9_refuseToken (nx := 26) (v := 0) rfl (by decide) rfl ?_
            refine ev_retK1 f_X9_refuseToken rfl rfl rfl ?_
            refine ev_retK1 f_X9_takeNumber rfl rfl rfl ?_
            refine ev_t f_X6_readComing (t1 := 49) (t2 := 36) rfl rfl rfl (by decide) ?_
            refine ev_ic f_X6_readComing (nx := 50) (v := 0) rfl (by decide) rfl ?_
            refine ev_retK1 f_X6_readComing rfl rfl rfl ?_
            refine ev_t f_X6_readCart (t1 := 57) (t2 := 53) rfl rfl rfl (by decide) ?_
            refine ev_ic f_X6_readCart (nx := 58) (v := 0) rfl (by decide) rfl ?_
            exact ev_ret f_X6_readCart rfl rfl rfl ⟨_, _, _, rfl, hI, hX, ⟨_, rfl, (by decide : (0:Int) ≤ (0:Int32).toInt), (Int.le_trans (by decide : (0:Int32).toInt ≤ (0:Int)) (by decide : (0:Int) ≤ 1))⟩⟩
          · refine ev_loc f_X9_refuseToken (nx := 14) rfl rfl rfl rfl ?_
            refine ev_putIT f_X9_refuseToken (nx := 17) rfl p6.1 rfl rfl rfl (hI.put0 p6.1 rfl rfl) (hX.upI (t_inO hI.wf p6.1 (t_outO hI.wf p6.1 rfl) rfl)) (fun g114 e114 hI hX => ?_)
            refine ev_loc f_X9_refuseToken (nx := 18) rfl rfl rfl rfl ?_
            refine ev_loc f_X9_refuseToken (nx := 19) rfl rfl rfl rfl ?_
            refine ev_getI f_X9_refuseToken (nx := 22) rfl p6.1 rfl rfl rfl ?_
            obtain ⟨l115, u115⟩ := hI.b p6.1 (t_bdK rfl : t_bd 8 4 = some (0, 900))
            refine ev_putIT f_X9_refuseToken (nx := 25) rfl p6.1 rfl rfl rfl (hI.put0 p6.1 rfl rfl) (hX.upI (t_inO hI.wf p6.1 (t_outO hI.wf p6.1 rfl) rfl)) (fun g116 e116 hI hX => ?_)
            refine ev_ic f_X9_refuseToken (nx := 26) (v := 0) rfl (by decide) rfl ?_
            refine ev_retK1 f_X9_refuseToken rfl rfl rfl ?_
            refine ev_retK1 f_X9_takeNumber rfl rfl rfl ?_
            refine ev_t f_X6_readComing (t1 := 49) (t2 := 36) rfl rfl rfl (by decide) ?_
            refine ev_ic f_X6_readComing (nx := 50) (v := 0) rfl (by decide) rfl ?_
            refine ev_retK1 f_X6_readComing rfl rfl rfl ?_
            refine ev_t f_X6_readCart (t1 := 57) (t2 := 53) rfl rfl rfl (by decide) ?_
            refine ev_ic f_X6_readCart (nx := 58) (v := 0) rfl (by decide) rfl ?_
            exact ev_ret f_X6_readCart rfl rfl rfl ⟨_, _, _, rfl, hI, hX, ⟨_, rfl, (by decide : (0:Int) ≤ (0:Int32).toInt), (Int.le_trans (by decide : (0:Int32).toInt ≤ (0:Int)) (by decide : (0:Int) ≤ 1))⟩⟩
      · refine ev_loc f_X9_takeKeyword (nx := 9) rfl rfl rfl rfl ?_
        refine ev_ic f_X9_takeKeyword (nx := 10) (v := 2) rfl (by decide) rfl ?_
        refine ev_inV2 f_X9_takeKeyword (nx := 13) (lo2 := [(0, .ref a6), (1, .int 2)]) rfl rfl rfl rfl f_X9_refuseToken p6.1 rfl rfl rfl rfl rfl ?_
        refine ev_loc f_X9_refuseToken (nx := 1) rfl rfl rfl rfl ?_
        refine ev_loc f_X9_refuseToken (nx := 2) rfl rfl rfl rfl ?_
        refine ev_getI f_X9_refuseToken (nx := 5) rfl p6.1 rfl rfl rfl ?_
        refine ev_ic f_X9_refuseToken (nx := 6) (v := 4) rfl (by decide) rfl ?_
        refine ev_if f_X9_refuseToken (t1 := 9) (t2 := 13) rfl rfl rfl (fun h117 => ?_) (fun h117 => ?_)
        · have u118 : (gi8 a6 3).toInt ≤ 4 := t_equ h117 (by decide : (4:Int32).toInt ≤ (4:Int))
          have l119 : 4 ≤ (gi8 a6 3).toInt := t_eql h117 (by decide : (4:Int) ≤ (4:Int32).toInt)
          refine ev_ic f_X9_refuseToken (nx := 10) (v := 1) rfl (by decide) rfl ?_
          refine ev_jmp f_X9_refuseToken (nx := 14) rfl rfl rfl ?_
          refine ev_putIT f_X9_refuseToken (nx := 17) rfl p6.1 rfl rfl rfl (hI.put0 p6.1 rfl rfl) (hX.upI (t_inO hI.wf p6.1 (t_outO hI.wf p6.1 rfl) rfl)) (fun g120 e120 hI hX => ?_)
          refine ev_loc f_X9_refuseToken (nx := 18) rfl rfl rfl rfl ?_
          refine ev_loc f_X9_refuseToken (nx := 19) rfl rfl rfl rfl ?_
          refine ev_getI f_X9_refuseToken (nx := 22) rfl p6.1 rfl rfl rfl ?_
          obtain ⟨l121, u121⟩ := hI.b p6.1 (t_bdK rfl : t_bd 8 4 = some (0, 900))
          refine ev_putIT f_X9_refuseToken (nx := 25) rfl p6.1 rfl rfl rfl (hI.put0 p6.1 rfl rfl) (hX.upI (t_inO hI.wf p6.1 (t_outO hI.wf p6.1 rfl) rfl)) (fun g122 e122 hI hX => ?_)
          refine ev_ic f_X9_refuseToken (nx := 26) (v := 0) rfl (by decide) rfl ?_
          refine ev_retK1 f_X9_refuseToken rfl rfl rfl ?_
          refine ev_retK1 f_X9_takeKeyword rfl rfl rfl ?_
          refine ev_t f_X6_readComing (t1 := 13) (t2 := 15) rfl rfl rfl (by decide) ?_
          refine ev_ic f_X6_readComing (nx := 14) (v := 0) rfl (by decide) rfl ?_
          refine ev_retK1 f_X6_readComing rfl rfl rfl ?_
          refine ev_t f_X6_readCart (t1 := 57) (t2 := 53) rfl rfl rfl (by decide) ?_
          refine ev_ic f_X6_readCart (nx := 58) (v := 0) rfl (by decide) rfl ?_
          exact ev_ret f_X6_readCart rfl rfl rfl ⟨_, _, _, rfl, hI, hX, ⟨_, rfl, (by decide : (0:Int) ≤ (0:Int32).toInt), (Int.le_trans (by decide : (0:Int32).toInt ≤ (0:Int)) (by decide : (0:Int) ≤ 1))⟩⟩
        · refine ev_loc f_X9_refuseToken (nx := 14) rfl rfl rfl rfl ?_
          refine ev_putIT f_X9_refuseToken (nx := 17) rfl p6.1 rfl rfl rfl (hI.put0 p6.1 rfl rfl) (hX.upI (t_inO hI.wf p6.1 (t_outO hI.wf p6.1 rfl) rfl)) (fun g123 e123 hI hX => ?_)
          refine ev_loc f_X9_refuseToken (nx := 18) rfl rfl rfl rfl ?_
          refine ev_loc f_X9_refuseToken (nx := 19) rfl rfl rfl rfl ?_
          refine ev_getI f_X9_refuseToken (nx := 22) rfl p6.1 rfl rfl rfl ?_
          obtain ⟨l124, u124⟩ := hI.b p6.1 (t_bdK rfl : t_bd 8 4 = some (0, 900))
          refine ev_putIT f_X9_refuseToken (nx := 25) rfl p6.1 rfl rfl rfl (hI.put0 p6.1 rfl rfl) (hX.upI (t_inO hI.wf p6.1 (t_outO hI.wf p6.1 rfl) rfl)) (fun g125 e125 hI hX => ?_)
          refine ev_ic f_X9_refuseToken (nx := 26) (v := 0) rfl (by decide) rfl ?_
          refine ev_retK1 f_X9_refuseToken rfl rfl rfl ?_
          refine ev_retK1 f_X9_takeKeyword rfl rfl rfl ?_
          refine ev_t f_X6_readComing (t1 := 13) (t2 := 15) rfl rfl rfl (by decide) ?_
          refine ev_ic f_X6_readComing (nx := 14) (v := 0) rfl (by decide) rfl ?_
          refine ev_retK1 f_X6_readComing rfl rfl rfl ?_
          refine ev_t f_X6_readCart (t1 := 57) (t2 := 53) rfl rfl rfl (by decide) ?_
          refine ev_ic f_X6_readCart (nx := 58) (v := 0) rfl (by decide) rfl ?_
          exact ev_ret f_X6_readCart rfl rfl rfl ⟨_, _, _, rfl, hI, hX, ⟨_, rfl, (by decide : (0:Int) ≤ (0:Int32).toInt), (Int.le_trans (by decide : (0:Int32).toInt ≤ (0:Int)) (by decide : (0:Int) ≤ 1))⟩⟩
  · have l126 : 6 ≤ (gi a2 0).toInt := t_lel (t_nlt h4) (by decide : (6:Int) ≤ (6:Int32).toInt)
    refine ev_loc f_X6_readCart (nx := 16) rfl rfl rfl rfl ?_
    obtain ⟨a127, e127, p127⟩ := p_a0.2.1
    refine ev_getR f_X6_readCart (nx := 19) rfl p_a0.1 rfl rfl e127 rfl rfl ?_
    refine ev_bp f_X6_readCart (nx := 21) (v := 6) rfl (by decide) rfl ?_
    refine ev_inV2 f_X6_readCart (nx := 24) (lo2 := [(0, .ref a127), (1, .int 6)]) rfl rfl rfl rfl f_X9_refuseToken p127.1 rfl rfl rfl rfl rfl ?_
    refine ev_loc f_X9_refuseToken (nx := 1) rfl rfl rfl rfl ?_
    refine ev_loc f_X9_refuseToken (nx := 2) rfl rfl rfl rfl ?_
    refine ev_getI f_X9_refuseToken (nx := 5) rfl p127.1 rfl rfl rfl ?_
    refine ev_ic f_X9_refuseToken (nx := 6) (v := 4) rfl (by decide) rfl ?_
    refine ev_if f_X9_refuseToken (t1 := 9) (t2 := 13) rfl rfl rfl (fun h128 => ?_) (fun h128 => ?_)
    · have u129 : (gi a127 3).toInt ≤ 4 := t_equ h128 (by decide : (4:Int32).toInt ≤ (4:Int))
      have l130 : 4 ≤ (gi a127 3).toInt := t_eql h128 (by decide : (4:Int) ≤ (4:Int32).toInt)
      refine ev_ic f_X9_refuseToken (nx := 10) (v := 1) rfl (by decide) rfl ?_
      refine ev_jmp f_X9_refuseToken (nx := 14) rfl rfl rfl ?_
      refine ev_putIT f_X9_refuseToken (nx := 17) rfl p127.1 rfl rfl rfl (hI.put0 p127.1 rfl rfl) (hX.upI (t_inO hI.wf p127.1 (t_outO hI.wf p127.1 rfl) rfl)) (fun g131 e131 hI hX => ?_)
      refine ev_loc f_X9_refuseToken (nx := 18) rfl rfl rfl rfl ?_
      refine ev_loc f_X9_refuseToken (nx := 19) rfl rfl rfl rfl ?_
      refine ev_getI f_X9_refuseToken (nx := 22) rfl p127.1 rfl rfl rfl ?_
      obtain ⟨l132, u132⟩ := hI.b p127.1 (t_bdK rfl : t_bd 8 4 = some (0, 900))
      refine ev_putIT f_X9_refuseToken (nx := 25) rfl p127.1 rfl rfl rfl (hI.put0 p127.1 rfl rfl) (hX.upI (t_inO hI.wf p127.1 (t_outO hI.wf p127.1 rfl) rfl)) (fun g133 e133 hI hX => ?_)
      refine ev_ic f_X9_refuseToken (nx := 26) (v := 0) rfl (by decide) rfl ?_
      refine ev_retK1 f_X9_refuseToken rfl rfl rfl ?_
      exact ev_ret f_X6_readCart rfl rfl rfl ⟨_, _, _, rfl, hI, hX, ⟨_, rfl, (by decide : (0:Int) ≤ (0:Int32).toInt), (Int.le_trans (by decide : (0:Int32).toInt ≤ (0:Int)) (by decide : (0:Int) ≤ 1))⟩⟩
    · refine ev_loc f_X9_refuseToken (nx := 14) rfl rfl rfl rfl ?_
      refine ev_putIT f_X9_refuseToken (nx := 17) rfl p127.1 rfl rfl rfl (hI.put0 p127.1 rfl rfl) (hX.upI (t_inO hI.wf p127.1 (t_outO hI.wf p127.1 rfl) rfl)) (fun g134 e134 hI hX => ?_)
      refine ev_loc f_X9_refuseToken (nx := 18) rfl rfl rfl rfl ?_
      refine ev_loc f_X9_refuseToken (nx := 19) rfl rfl rfl rfl ?_
      refine ev_getI f_X9_refuseToken (nx := 22) rfl p127.1 rfl rfl rfl ?_
      obtain ⟨l135, u135⟩ := hI.b p127.1 (t_bdK rfl : t_bd 8 4 = some (0, 900))
      refine ev_putIT f_X9_refuseToken (nx := 25) rfl p127.1 rfl rfl rfl (hI.put0 p127.1 rfl rfl) (hX.upI (t_inO hI.wf p127.1 (t_outO hI.wf p127.1 rfl) rfl)) (fun g136 e136 hI hX => ?_)
      refine ev_ic f_X9_refuseToken (nx := 26) (v := 0) rfl (by decide) rfl ?_
      refine ev_retK1 f_X9_refuseToken rfl rfl rfl ?_
      exact ev_ret f_X6_readCart rfl rfl rfl ⟨_, _, _, rfl, hI, hX, ⟨_, rfl, (by decide : (0:Int) ≤ (0:Int32).toInt), (Int.le_trans (by decide : (0:Int32).toInt ≤ (0:Int)) (by decide : (0:Int) ≤ 1))⟩⟩
noncomputable def wl_r_readAll : List (Nat × Nat) := [(3, 0), (3, 3), (3, 4), (3, 5), (3, 6), (4, 9999), (5, 9999), (6, 0), (7, 9999), (8, 9999), (9, 9999), (10, 9999), (11, 9999), (12, 9999), (13, 0), (14, 9999), (15, 9999), (16, 9999), (17, 9999), (18, 9999), (29, 0), (30, 9999), (31, 9999), (32, 9999), (33, 9999), (34, 9999), (35, 0), (36, 9999), (37, 9999), (38, 9999), (39, 9999), (40, 9999), (43, 9999), (44, 9999), (46, 0), (47, 9999), (48, 9999), (49, 9999), (50, 9999), (51, 9999), (52, 0), (53, 9999), (54, 9999), (55, 9999), (56, 9999), (57, 9999), (58, 9999), (59, 9999), (113, 0), (114, 0), (114, 3), (114, 4), (114, 5), (114, 6), (115, 4), (115, 5), (115, 6), (115, 7), (118, 2), (118, 3), (118, 4), (118, 5), (118, 6), (118, 7), (118, 8), (118, 9), (118, 10), (118, 11), (130, 9999), (131, 9999), (133, 9999)]
theorem c_r_readAll {X : x_Ext} {d : Nat} {sh : List (Nat ⊕ (Nat × Nat))} {gi : Nat → Nat → Int32} {gl : Nat → Nat → Int64} {gr : Nat → Nat → Value} (hI : t_I sh gi gr) (ar0 : Nat) (p_a0 : t_RR sh gr ar0) : x_Me X (d + 6) n_X6_readAll [.ref ar0] (sh, gi, gl, gr) (t_P wl_r_readAll sh gi gl gr (t_Ri 0 1)) := by
  have hX : t_X wl_r_readAll sh gi gl gr gi gl gr := t_X.rf
  refine me_i f_X6_readAll p_a0.1 rfl rfl rfl ?_
  refine ev_ic f_X6_readAll (nx := 1) (v := 0) rfl (by decide) rfl ?_
  refine ev_loc f_X6_readAll (nx := 2) (lo' := [(1, .int 0), (0, .ref ar0)]) rfl rfl rfl rfl ?_
  have L1 : ∀ (m1 : Nat) (gi1 : Nat → Nat → Int32) (gl1 : Nat → Nat → Int64) (gr1 : Nat → Nat → Value) (y1_1 : Int32), t_I sh gi1 gr1 → t_X wl_r_readAll sh gi gl gr gi1 gl1 gr1 → t_RR sh gr1 ar0 → 0 ≤ y1_1.toInt → y1_1.toInt ≤ 901 → (901 - y1_1.toInt).toNat = m1 → x_Ev X (d + 6) n_X6_readAll 2 [(1, .int y1_1), (0, .ref ar0)] [] (sh, gi1, gl1, gr1) (t_P wl_r_readAll sh gi gl gr (t_Ri 0 1)) := by
    intro m1
    induction m1 using Nat.strongRecOn with
    | _ m1 ih1 =>
    intro gi1 gl1 gr1 y1_1 hI hX p_a0 l1_1 u1_1 hm1
    refine ev_loc f_X6_readAll (nx := 3) rfl rfl rfl rfl ?_
    refine ev_sp f_X6_readAll (nx := 6) (v := 900) rfl (by decide) rfl ?_
    refine ev_if f_X6_readAll (t1 := 181) (t2 := 9) rfl rfl rfl (fun h2 => ?_) (fun h2 => ?_)
    · have l3 : 901 ≤ y1_1.toInt := t_ltl h2 (by decide : (900:Int) ≤ (900:Int32).toInt) rfl
      refine ev_ic f_X6_readAll (nx := 182) (v := 1) rfl (by decide) rfl ?_
      exact ev_ret f_X6_readAll rfl rfl rfl ⟨_, _, _, rfl, hI, hX, ⟨_, rfl, (Int.le_trans (by decide : (0:Int) ≤ 1) (by decide : (1:Int) ≤ (1:Int32).toInt)), (by decide : (1:Int32).toInt ≤ (1:Int))⟩⟩
    · have u4 : y1_1.toInt ≤ 900 := t_leu (t_nlt h2) (by decide : (900:Int32).toInt ≤ (900:Int))
      refine ev_loc f_X6_readAll (nx := 10) rfl rfl rfl rfl ?_
      obtain ⟨a5, e5, p5⟩ := p_a0.2.1
      refine ev_getR f_X6_readAll (nx := 13) rfl p_a0.1 rfl rfl e5 rfl rfl ?_
      refine ev_getI f_X6_readAll (nx := 16) rfl p5.1 rfl rfl rfl ?_
      refine ev_ic f_X6_readAll (nx := 17) (v := 3) rfl (by decide) rfl ?_
      refine ev_if f_X6_readAll (t1 := 181) (t2 := 20) rfl rfl rfl (fun h6 => ?_) (fun h6 => ?_)
      · have u7 : (gi1 a5 3).toInt ≤ 3 := t_equ h6 (by decide : (3:Int32).toInt ≤ (3:Int))
        have l8 : 3 ≤ (gi1 a5 3).toInt := t_eql h6 (by decide : (3:Int) ≤ (3:Int32).toInt)
        refine ev_ic f_X6_readAll (nx := 182) (v := 1) rfl (by decide) rfl ?_
        exact ev_ret f_X6_readAll rfl rfl rfl ⟨_, _, _, rfl, hI, hX, ⟨_, rfl, (Int.le_trans (by decide : (0:Int) ≤ 1) (by decide : (1:Int) ≤ (1:Int32).toInt)), (by decide : (1:Int32).toInt ≤ (1:Int))⟩⟩
      · refine ev_ic f_X6_readAll (nx := 21) (v := 0) rfl (by decide) rfl ?_
        refine ev_loc f_X6_readAll (nx := 22) (lo' := [(2, .int 0), (1, .int y1_1), (0, .ref ar0)]) rfl rfl rfl rfl ?_
        refine ev_loc f_X6_readAll (nx := 23) rfl rfl rfl rfl ?_
        refine ev_getR f_X6_readAll (nx := 26) (v := .ref a5) rfl p_a0.1 rfl rfl e5 rfl rfl ?_
        have k9 := hI.2.2.2.1.2.2.2.2.2 a5 p5.1
        obtain ⟨v9, e9⟩ : ∃ v, gr1 a5 7 = v := ⟨_, rfl⟩
        rw [e9] at k9
        refine ev_getR f_X6_readAll (nx := 29) rfl p5.1 rfl rfl e9 (t_KwR k9) rfl ?_
        refine ev_heap f_X6_readAll (nx := 32) rfl rfl rfl rfl ?_
        refine ev_ack f_X6_readAll (t1 := 35) (t2 := 43) rfl rfl rfl (t_knw k9) rfl (fun h10 => ?_) (fun h10 => ?_)
        · refine ev_loc f_X6_readAll (nx := 36) rfl rfl rfl rfl ?_
          refine ev_cI f_X6_readAll (nx := 39) (r := []) rfl rfl rfl rfl rfl rfl rfl (c_r_readPort hI (ar0) p_a0) rfl hX rfl (fun w11 gi11 gl11 gr11 l11 u11 hI hX hC11 => ?_)
          replace p_a0 := p_a0.ext hC11.2
          replace p5 := p5.ext hC11.2
          refine ev_loc f_X6_readAll (nx := 40) (lo' := [(2, .int w11), (1, .int y1_1), (0, .ref ar0)]) rfl rfl rfl rfl ?_
          refine ev_jmp f_X6_readAll (nx := 157) rfl rfl rfl ?_
          refine ev_loc f_X6_readAll (nx := 158) rfl rfl rfl rfl ?_
          refine ev_if f_X6_readAll (t1 := 173) (t2 := 161) rfl rfl rfl (fun h12 => ?_) (fun h12 => ?_)
          · have u13 : w11.toInt ≤ 0 := t_equ h12 (by decide : (0:Int32).toInt ≤ (0:Int))
            refine ev_ic f_X6_readAll (nx := 174) (v := 0) rfl (by decide) rfl ?_
            exact ev_ret f_X6_readAll rfl rfl rfl ⟨_, _, _, rfl, hI, hX, ⟨_, rfl, (by decide : (0:Int) ≤ (0:Int32).toInt), (Int.le_trans (by decide : (0:Int32).toInt ≤ (0:Int)) (by decide : (0:Int) ≤ 1))⟩⟩
          · have l14 : 1 ≤ w11.toInt := t_nel h12 l11 rfl rfl
            refine ev_loc f_X6_readAll (nx := 162) rfl rfl rfl rfl ?_
            refine ev_getR f_X6_readAll (nx := 165) (v := .ref a5) rfl p_a0.1 rfl rfl ((hC11.1 ar0 0 (t_ninO hI.wf p_a0.1 (t_outO hI.wf p_a0.1 rfl) rfl)).2.2.trans e5) rfl rfl ?_
            refine ev_bp f_X6_readAll (nx := 167) (v := 59) rfl (by decide) rfl ?_
            refine ev_inV2 f_X6_readAll (nx := 170) (lo2 := [(0, .ref a5), (1, .int 59)]) rfl rfl rfl rfl f_X9_takeSign p5.1 rfl rfl rfl rfl rfl ?_
            refine ev_loc f_X9_takeSign (nx := 1) rfl rfl rfl rfl ?_
            refine ev_loc f_X9_takeSign (nx := 2) rfl rfl rfl rfl ?_
            refine ev_inV2 f_X9_takeSign (nx := 5) (lo2 := [(0, .ref a5), (1, .int 59)]) rfl rfl rfl rfl f_X9_isSignOf p5.1 rfl rfl rfl rfl rfl ?_
            refine ev_loc f_X9_isSignOf (nx := 1) rfl rfl rfl rfl ?_
            refine ev_getI f_X9_isSignOf (nx := 4) rfl p5.1 rfl rfl rfl ?_
            refine ev_ic f_X9_isSignOf (nx := 5) (v := 2) rfl (by decide) rfl ?_
            refine ev_if f_X9_isSignOf (t1 := 8) (t2 := 20) rfl rfl rfl (fun h15 => ?_) (fun h15 => ?_)
            · have u16 : (gi11 a5 3).toInt ≤ 2 := t_equ h15 (by decide : (2:Int32).toInt ≤ (2:Int))
              have l17 : 2 ≤ (gi11 a5 3).toInt := t_eql h15 (by decide : (2:Int) ≤ (2:Int32).toInt)
              refine ev_loc f_X9_isSignOf (nx := 9) rfl rfl rfl rfl ?_
              refine ev_getI f_X9_isSignOf (nx := 12) rfl p5.1 rfl rfl rfl ?_
              refine ev_loc f_X9_isSignOf (nx := 13) rfl rfl rfl rfl ?_
              refine ev_if f_X9_isSignOf (t1 := 16) (t2 := 20) rfl rfl rfl (fun h18 => ?_) (fun h18 => ?_)
              · have u19 : (gi11 a5 9).toInt ≤ 59 := t_equ h18 (by decide : (59:Int32).toInt ≤ (59:Int))
                have l20 : 59 ≤ (gi11 a5 9).toInt := t_eql h18 (by decide : (59:Int) ≤ (59:Int32).toInt)
                refine ev_ic f_X9_isSignOf (nx := 17) (v := 1) rfl (by decide) rfl ?_
                refine ev_jmp f_X9_isSignOf (nx := 21) rfl rfl rfl ?_
                refine ev_retK1 f_X9_isSignOf rfl rfl rfl ?_
                refine ev_f f_X9_takeSign (t1 := 8) (t2 := 14) rfl rfl rfl (by decide) ?_
                refine ev_loc f_X9_takeSign (nx := 15) rfl rfl rfl rfl ?_
                refine ev_c0 f_X9_takeSign (nx := 18) (r := []) rfl rfl rfl rfl rfl rfl rfl (c_step hI (a5) p5) rfl hX rfl (fun gi21 gl21 gr21 hI hX hC21 => ?_)
                replace p_a0 := p_a0.ext hC21.2
                replace p5 := p5.ext hC21.2
                refine ev_ic f_X9_takeSign (nx := 19) (v := 1) rfl (by decide) rfl ?_
                refine ev_retK1 f_X9_takeSign rfl rfl rfl ?_
                refine ev_f f_X6_readAll (t1 := 173) (t2 := 175) rfl rfl rfl (by decide) ?_
                refine ev_incR f_X6_readAll (nx := 178) (c := 1) (l := 1) (u := 901) rfl rfl (by decide) (by decide) l1_1 u4 rfl rfl (by decide) (by decide) rfl (fun z22 e22 l22 u22 => ?_)
                refine ev_jmp f_X6_readAll (nx := 2) rfl rfl rfl ?_
                refine ev_sub (lo := [(1, .int z22), (0, .ref ar0)]) rfl (t_sc rfl (t_sc rfl t_sn)) ?_
                exact ih1 _ (by omega) gi21 gl21 gr21 (z22) hI hX p_a0 (Int.le_trans (by decide : (0:Int) ≤ 1) l22) u22 rfl
              · refine ev_ic f_X9_isSignOf (nx := 21) (v := 0) rfl (by decide) rfl ?_
                refine ev_retK1 f_X9_isSignOf rfl rfl rfl ?_
                refine ev_t f_X9_takeSign (t1 := 8) (t2 := 14) rfl rfl rfl (by decide) ?_
                refine ev_loc f_X9_takeSign (nx := 9) rfl rfl rfl rfl ?_
                refine ev_ic f_X9_takeSign (nx := 10) (v := 2) rfl (by decide) rfl ?_
                refine ev_inV2 f_X9_takeSign (nx := 13) (lo2 := [(0, .ref a5), (1, .int 2)]) rfl rfl rfl rfl f_X9_refuseToken p5.1 rfl rfl rfl rfl rfl ?_
                refine ev_loc f_X9_refuseToken (nx := 1) rfl rfl rfl rfl ?_
                refine ev_loc f_X9_refuseToken (nx := 2) rfl rfl rfl rfl ?_
                refine ev_gvI f_X9_refuseToken (nx := 5) (w := (gi11 a5 3)) rfl p5.1 rfl rfl rfl rfl ?_
                refine ev_ic f_X9_refuseToken (nx := 6) (v := 4) rfl (by decide) rfl ?_
                refine ev_f f_X9_refuseToken (t1 := 9) (t2 := 13) rfl rfl rfl (t_neT u16 (by decide : (4:Int) ≤ (4:Int32).toInt) (by decide)) ?_
                refine ev_loc f_X9_refuseToken (nx := 14) rfl rfl rfl rfl ?_
                refine ev_putIT f_X9_refuseToken (nx := 17) rfl p5.1 rfl rfl rfl (hI.put0 p5.1 rfl rfl) (hX.upI (t_inO hI.wf p5.1 (t_outO hI.wf p5.1 rfl) rfl)) (fun g23 e23 hI hX => ?_)
                refine ev_loc f_X9_refuseToken (nx := 18) rfl rfl rfl rfl ?_
                refine ev_loc f_X9_refuseToken (nx := 19) rfl rfl rfl rfl ?_
                refine ev_getI f_X9_refuseToken (nx := 22) rfl p5.1 rfl rfl rfl ?_
                obtain ⟨l24, u24⟩ := hI.b p5.1 (t_bdK rfl : t_bd 8 4 = some (0, 900))
                refine ev_putIT f_X9_refuseToken (nx := 25) rfl p5.1 rfl rfl rfl (hI.put0 p5.1 rfl rfl) (hX.upI (t_inO hI.wf p5.1 (t_outO hI.wf p5.1 rfl) rfl)) (fun g25 e25 hI hX => ?_)
                refine ev_ic f_X9_refuseToken (nx := 26) (v := 0) rfl (by decide) rfl ?_
                refine ev_retK1 f_X9_refuseToken rfl rfl rfl ?_
                refine ev_retK1 f_X9_takeSign rfl rfl rfl ?_
                refine ev_t f_X6_readAll (t1 := 173) (t2 := 175) rfl rfl rfl (by decide) ?_
                refine ev_ic f_X6_readAll (nx := 174) (v := 0) rfl (by decide) rfl ?_
                exact ev_ret f_X6_readAll rfl rfl rfl ⟨_, _, _, rfl, hI, hX, ⟨_, rfl, (by decide : (0:Int) ≤ (0:Int32).toInt), (Int.le_trans (by decide : (0:Int32).toInt ≤ (0:Int)) (by decide : (0:Int) ≤ 1))⟩⟩
            · refine ev_ic f_X9_isSignOf (nx := 21) (v := 0) rfl (by decide) rfl ?_
              refine ev_retK1 f_X9_isSignOf rfl rfl rfl ?_
              refine ev_t f_X9_takeSign (t1 := 8) (t2 := 14) rfl rfl rfl (by decide) ?_
              refine ev_loc f_X9_takeSign (nx := 9) rfl rfl rfl rfl ?_
              refine ev_ic f_X9_takeSign (nx := 10) (v := 2) rfl (by decide) rfl ?_
              refine ev_inV2 f_X9_takeSign (nx := 13) (lo2 := [(0, .ref a5), (1, .int 2)]) rfl rfl rfl rfl f_X9_refuseToken p5.1 rfl rfl rfl rfl rfl ?_
              refine ev_loc f_X9_refuseToken (nx := 1) rfl rfl rfl rfl ?_
              refine ev_loc f_X9_refuseToken (nx := 2) rfl rfl rfl rfl ?_
              refine ev_gvI f_X9_refuseToken (nx := 5) (w := (gi11 a5 3)) rfl p5.1 rfl rfl rfl rfl ?_
              refine ev_ic f_X9_refuseToken (nx := 6) (v := 4) rfl (by decide) rfl ?_
              refine ev_if f_X9_refuseToken (t1 := 9) (t2 := 13) rfl rfl rfl (fun h26 => ?_) (fun h26 => ?_)
              · have u27 : (gi11 a5 3).toInt ≤ 4 := t_equ h26 (by decide : (4:Int32).toInt ≤ (4:Int))
                have l28 : 4 ≤ (gi11 a5 3).toInt := t_eql h26 (by decide : (4:Int) ≤ (4:Int32).toInt)
                refine ev_ic f_X9_refuseToken (nx := 10) (v := 1) rfl (by decide) rfl ?_
                refine ev_jmp f_X9_refuseToken (nx := 14) rfl rfl rfl ?_
                refine ev_putIT f_X9_refuseToken (nx := 17) rfl p5.1 rfl rfl rfl (hI.put0 p5.1 rfl rfl) (hX.upI (t_inO hI.wf p5.1 (t_outO hI.wf p5.1 rfl) rfl)) (fun g29 e29 hI hX => ?_)
                refine ev_loc f_X9_refuseToken (nx := 18) rfl rfl rfl rfl ?_
                refine ev_loc f_X9_refuseToken (nx := 19) rfl rfl rfl rfl ?_
                refine ev_getI f_X9_refuseToken (nx := 22) rfl p5.1 rfl rfl rfl ?_
                obtain ⟨l30, u30⟩ := hI.b p5.1 (t_bdK rfl : t_bd 8 4 = some (0, 900))
                refine ev_putIT f_X9_refuseToken (nx := 25) rfl p5.1 rfl rfl rfl (hI.put0 p5.1 rfl rfl) (hX.upI (t_inO hI.wf p5.1 (t_outO hI.wf p5.1 rfl) rfl)) (fun g31 e31 hI hX => ?_)
                refine ev_ic f_X9_refuseToken (nx := 26) (v := 0) rfl (by decide) rfl ?_
                refine ev_retK1 f_X9_refuseToken rfl rfl rfl ?_
                refine ev_retK1 f_X9_takeSign rfl rfl rfl ?_
                refine ev_t f_X6_readAll (t1 := 173) (t2 := 175) rfl rfl rfl (by decide) ?_
                refine ev_ic f_X6_readAll (nx := 174) (v := 0) rfl (by decide) rfl ?_
                exact ev_ret f_X6_readAll rfl rfl rfl ⟨_, _, _, rfl, hI, hX, ⟨_, rfl, (by decide : (0:Int) ≤ (0:Int32).toInt), (Int.le_trans (by decide : (0:Int32).toInt ≤ (0:Int)) (by decide : (0:Int) ≤ 1))⟩⟩
              · refine ev_loc f_X9_refuseToken (nx := 14) rfl rfl rfl rfl ?_
                refine ev_putIT f_X9_refuseToken (nx := 17) rfl p5.1 rfl rfl rfl (hI.put0 p5.1 rfl rfl) (hX.upI (t_inO hI.wf p5.1 (t_outO hI.wf p5.1 rfl) rfl)) (fun g32 e32 hI hX => ?_)
                refine ev_loc f_X9_refuseToken (nx := 18) rfl rfl rfl rfl ?_
                refine ev_loc f_X9_refuseToken (nx := 19) rfl rfl rfl rfl ?_
                refine ev_getI f_X9_refuseToken (nx := 22) rfl p5.1 rfl rfl rfl ?_
                obtain ⟨l33, u33⟩ := hI.b p5.1 (t_bdK rfl : t_bd 8 4 = some (0, 900))
                refine ev_putIT f_X9_refuseToken (nx := 25) rfl p5.1 rfl rfl rfl (hI.put0 p5.1 rfl rfl) (hX.upI (t_inO hI.wf p5.1 (t_outO hI.wf p5.1 rfl) rfl)) (fun g34 e34 hI hX => ?_)
                refine ev_ic f_X9_refuseToken (nx := 26) (v := 0) rfl (by decide) rfl ?_
                refine ev_retK1 f_X9_refuseToken rfl rfl rfl ?_
                refine ev_retK1 f_X9_takeSign rfl rfl rfl ?_
                refine ev_t f_X6_readAll (t1 := 173) (t2 := 175) rfl rfl rfl (by decide) ?_
                refine ev_ic f_X6_readAll (nx := 174) (v := 0) rfl (by decide) rfl ?_
                exact ev_ret f_X6_readAll rfl rfl rfl ⟨_, _, _, rfl, hI, hX, ⟨_, rfl, (by decide : (0:Int) ≤ (0:Int32).toInt), (Int.le_trans (by decide : (0:Int32).toInt ≤ (0:Int)) (by decide : (0:Int) ≤ 1))⟩⟩
        · refine ev_loc f_X6_readAll (nx := 44) rfl rfl rfl rfl ?_
          refine ev_getR f_X6_readAll (nx := 47) (v := .ref a5) rfl p_a0.1 rfl rfl e5 rfl rfl ?_
          refine ev_getR f_X6_readAll (nx := 50) (v := v9) rfl p5.1 rfl rfl e9 (t_KwR k9) rfl ?_
          refine ev_heap f_X6_readAll (nx := 53) rfl rfl rfl rfl ?_
          refine ev_ack f_X6_readAll (t1 := 56) (t2 := 64) rfl rfl rfl (t_knw k9) rfl (fun h35 => ?_) (fun h35 => ?_)
          · refine ev_loc f_X6_readAll (nx := 57) rfl rfl rfl rfl ?_
            refine ev_cI f_X6_readAll (nx := 60) (r := []) rfl rfl rfl rfl rfl rfl rfl (c_r_readTurns hI (ar0) p_a0) rfl hX rfl (fun w36 gi36 gl36 gr36 l36 u36 hI hX hC36 => ?_)
            replace p_a0 := p_a0.ext hC36.2
            replace p5 := p5.ext hC36.2
            refine ev_loc f_X6_readAll (nx := 61) (lo' := [(2, .int w36), (1, .int y1_1), (0, .ref ar0)]) rfl rfl rfl rfl ?_
            refine ev_jmp f_X6_readAll (nx := 157) rfl rfl rfl ?_
            refine ev_loc f_X6_readAll (nx := 158) rfl rfl rfl rfl ?_
            refine ev_if f_X6_readAll (t1 := 173) (t2 := 161) rfl rfl rfl (fun h37 => ?_) (fun h37 => ?_)
            · have u38 : w36.toInt ≤ 0 := t_equ h37 (by decide : (0:Int32).toInt ≤ (0:Int))
              refine ev_ic f_X6_readAll (nx := 174) (v := 0) rfl (by decide) rfl ?_
              exact ev_ret f_X6_readAll rfl rfl rfl ⟨_, _, _, rfl, hI, hX, ⟨_, rfl, (by decide : (0:Int) ≤ (0:Int32).toInt), (Int.le_trans (by decide : (0:Int32).toInt ≤ (0:Int)) (by decide : (0:Int) ≤ 1))⟩⟩
            · have l39 : 1 ≤ w36.toInt := t_nel h37 l36 rfl rfl
              refine ev_loc f_X6_readAll (nx := 162) rfl rfl rfl rfl ?_
              refine ev_getR f_X6_readAll (nx := 165) (v := .ref a5) rfl p_a0.1 rfl rfl ((hC36.1 ar0 0 (t_ninO hI.wf p_a0.1 (t_outO hI.wf p_a0.1 rfl) rfl)).2.2.trans e5) rfl rfl ?_
              refine ev_bp f_X6_readAll (nx := 167) (v := 59) rfl (by decide) rfl ?_
              refine ev_inV2 f_X6_readAll (nx := 170) (lo2 := [(0, .ref a5), (1, .int 59)]) rfl rfl rfl rfl f_X9_takeSign p5.1 rfl rfl rfl rfl rfl ?_
              refine ev_loc f_X9_takeSign (nx := 1) rfl rfl rfl rfl ?_
              refine ev_loc f_X9_takeSign (nx := 2) rfl rfl rfl rfl ?_
              refine ev_inV2 f_X9_takeSign (nx := 5) (lo2 := [(0, .ref a5), (1, .int 59)]) rfl rfl rfl rfl f_X9_isSignOf p5.1 rfl rfl rfl rfl rfl ?_
              refine ev_loc f_X9_isSignOf (nx := 1) rfl rfl rfl rfl ?_
              refine ev_getI f_X9_isSignOf (nx := 4) rfl p5.1 rfl rfl rfl ?_
              refine ev_ic f_X9_isSignOf (nx := 5) (v := 2) rfl (by decide) rfl ?_
              refine ev_if f_X9_isSignOf (t1 := 8) (t2 := 20) rfl rfl rfl (fun h40 => ?_) (fun h40 => ?_)
              · have u41 : (gi36 a5 3).toInt ≤ 2 := t_equ h40 (by decide : (2:Int32).toInt ≤ (2:Int))
                have l42 : 2 ≤ (gi36 a5 3).toInt := t_eql h40 (by decide : (2:Int) ≤ (2:Int32).toInt)
                refine ev_loc f_X9_isSignOf (nx := 9) rfl rfl rfl rfl ?_
                refine ev_getI f_X9_isSignOf (nx := 12) rfl p5.1 rfl rfl rfl ?_
                refine ev_loc f_X9_isSignOf (nx := 13) rfl rfl rfl rfl ?_
                refine ev_if f_X9_isSignOf (t1 := 16) (t2 := 20) rfl rfl rfl (fun h43 => ?_) (fun h43 => ?_)
                · have u44 : (gi36 a5 9).toInt ≤ 59 := t_equ h43 (by decide : (59:Int32).toInt ≤ (59:Int))
                  have l45 : 59 ≤ (gi36 a5 9).toInt := t_eql h43 (by decide : (59:Int) ≤ (59:Int32).toInt)
                  refine ev_ic f_X9_isSignOf (nx := 17) (v := 1) rfl (by decide) rfl ?_
                  refine ev_jmp f_X9_isSignOf (nx := 21) rfl rfl rfl ?_
                  refine ev_retK1 f_X9_isSignOf rfl rfl rfl ?_
                  refine ev_f f_X9_takeSign (t1 := 8) (t2 := 14) rfl rfl rfl (by decide) ?_
                  refine ev_loc f_X9_takeSign (nx := 15) rfl rfl rfl rfl ?_
                  refine ev_c0 f_X9_takeSign (nx := 18) (r := []) rfl rfl rfl rfl rfl rfl rfl (c_step hI (a5) p5) rfl hX rfl (fun gi46 gl46 gr46 hI hX hC46 => ?_)
                  replace p_a0 := p_a0.ext hC46.2
                  replace p5 := p5.ext hC46.2
                  refine ev_ic f_X9_takeSign (nx := 19) (v := 1) rfl (by decide) rfl ?_
                  refine ev_retK1 f_X9_takeSign rfl rfl rfl ?_
                  refine ev_f f_X6_readAll (t1 := 173) (t2 := 175) rfl rfl rfl (by decide) ?_
                  refine ev_incR f_X6_readAll (nx := 178) (c := 1) (l := 1) (u := 901) rfl rfl (by decide) (by decide) l1_1 u4 rfl rfl (by decide) (by decide) rfl (fun z47 e47 l47 u47 => ?_)
                  refine ev_jmp f_X6_readAll (nx := 2) rfl rfl rfl ?_
                  refine ev_sub (lo := [(1, .int z47), (0, .ref ar0)]) rfl (t_sc rfl (t_sc rfl t_sn)) ?_
                  exact ih1 _ (by omega) gi46 gl46 gr46 (z47) hI hX p_a0 (Int.le_trans (by decide : (0:Int) ≤ 1) l47) u47 rfl
                · refine ev_ic f_X9_isSignOf (nx := 21) (v := 0) rfl (by decide) rfl ?_
                  refine ev_retK1 f_X9_isSignOf rfl rfl rfl ?_
                  refine ev_t f_X9_takeSign (t1 := 8) (t2 := 14) rfl rfl rfl (by decide) ?_
                  refine ev_loc f_X9_takeSign (nx := 9) rfl rfl rfl rfl ?_
                  refine ev_ic f_X9_takeSign (nx := 10) (v := 2) rfl (by decide) rfl ?_
                  refine ev_inV2 f_X9_takeSign (nx := 13) (lo2 := [(0, .ref a5), (1, .int 2)]) rfl rfl rfl rfl f_X9_refuseToken p5.1 rfl rfl rfl rfl rfl ?_
                  refine ev_loc f_X9_refuseToken (nx := 1) rfl rfl rfl rfl ?_
                  refine ev_loc f_X9_refuseToken (nx := 2) rfl rfl rfl rfl ?_
                  refine ev_gvI f_X9_refuseToken (nx := 5) (w := (gi36 a5 3)) rfl p5.1 rfl rfl rfl rfl ?_
                  refine ev_ic f_X9_refuseToken (nx := 6) (v := 4) rfl (by decide) rfl ?_
                  refine ev_f f_X9_refuseToken (t1 := 9) (t2 := 13) rfl rfl rfl (t_neT u41 (by decide : (4:Int) ≤ (4:Int32).toInt) (by decide)) ?_
                  refine ev_loc f_X9_refuseToken (nx := 14) rfl rfl rfl rfl ?_
                  refine ev_putIT f_X9_refuseToken (nx := 17) rfl p5.1 rfl rfl rfl (hI.put0 p5.1 rfl rfl) (hX.upI (t_inO hI.wf p5.1 (t_outO hI.wf p5.1 rfl) rfl)) (fun g48 e48 hI hX => ?_)
                  refine ev_loc f_X9_refuseToken (nx := 18) rfl rfl rfl rfl ?_
                  refine ev_loc f_X9_refuseToken (nx := 19) rfl rfl rfl rfl ?_
                  refine ev_getI f_X9_refuseToken (nx := 22) rfl p5.1 rfl rfl rfl ?_
                  obtain ⟨l49, u49⟩ := hI.b p5.1 (t_bdK rfl : t_bd 8 4 = some (0, 900))
                  refine ev_putIT f_X9_refuseToken (nx := 25) rfl p5.1 rfl rfl rfl (hI.put0 p5.1 rfl rfl) (hX.upI (t_inO hI.wf p5.1 (t_outO hI.wf p5.1 rfl) rfl)) (fun g50 e50 hI hX => ?_)
                  refine ev_ic f_X9_refuseToken (nx := 26) (v := 0) rfl (by decide) rfl ?_
                  refine ev_retK1 f_X9_refuseToken rfl rfl rfl ?_
                  refine ev_retK1 f_X9_takeSign rfl rfl rfl ?_
                  refine ev_t f_X6_readAll (t1 := 173) (t2 := 175) rfl rfl rfl (by decide) ?_
                  refine ev_ic f_X6_readAll (nx := 174) (v := 0) rfl (by decide) rfl ?_
                  exact ev_ret f_X6_readAll rfl rfl rfl ⟨_, _, _, rfl, hI, hX, ⟨_, rfl, (by decide : (0:Int) ≤ (0:Int32).toInt), (Int.le_trans (by decide : (0:Int32).toInt ≤ (0:Int)) (by decide : (0:Int) ≤ 1))⟩⟩
              · refine ev_ic f_X9_isSignOf (nx := 21) (v := 0) rfl (by decide) rfl ?_
                refine ev_retK1 f_X9_isSignOf rfl rfl rfl ?_
                refine ev_t f_X9_takeSign (t1 := 8) (t2 := 14) rfl rfl rfl (by decide) ?_
                refine ev_loc f_X9_takeSign (nx := 9) rfl rfl rfl rfl ?_
                refine ev_ic f_X9_takeSign (nx := 10) (v := 2) rfl (by decide) rfl ?_
                refine ev_inV2 f_X9_takeSign (nx := 13) (lo2 := [(0, .ref a5), (1, .int 2)]) rfl rfl rfl rfl f_X9_refuseToken p5.1 rfl rfl rfl rfl rfl ?_
                refine ev_loc f_X9_refuseToken (nx := 1) rfl rfl rfl rfl ?_
                refine ev_loc f_X9_refuseToken (nx := 2) rfl rfl rfl rfl ?_
                refine ev_gvI f_X9_refuseToken (nx := 5) (w := (gi36 a5 3)) rfl p5.1 rfl rfl rfl rfl ?_
                refine ev_ic f_X9_refuseToken (nx := 6) (v := 4) rfl (by decide) rfl ?_
                refine ev_if f_X9_refuseToken (t1 := 9) (t2 := 13) rfl rfl rfl (fun h51 => ?_) (fun h51 => ?_)
                · have u52 : (gi36 a5 3).toInt ≤ 4 := t_equ h51 (by decide : (4:Int32).toInt ≤ (4:Int))
                  have l53 : 4 ≤ (gi36 a5 3).toInt := t_eql h51 (by decide : (4:Int) ≤ (4:Int32).toInt)
                  refine ev_ic f_X9_refuseToken (nx := 10) (v := 1) rfl (by decide) rfl ?_
                  refine ev_jmp f_X9_refuseToken (nx := 14) rfl rfl rfl ?_
                  refine ev_putIT f_X9_refuseToken (nx := 17) rfl p5.1 rfl rfl rfl (hI.put0 p5.1 rfl rfl) (hX.upI (t_inO hI.wf p5.1 (t_outO hI.wf p5.1 rfl) rfl)) (fun g54 e54 hI hX => ?_)
                  refine ev_loc f_X9_refuseToken (nx := 18) rfl rfl rfl rfl ?_
                  refine ev_loc f_X9_refuseToken (nx := 19) rfl rfl rfl rfl ?_
                  refine ev_getI f_X9_refuseToken (nx := 22) rfl p5.1 rfl rfl rfl ?_
                  obtain ⟨l55, u55⟩ := hI.b p5.1 (t_bdK rfl : t_bd 8 4 = some (0, 900))
                  refine ev_putIT f_X9_refuseToken (nx := 25) rfl p5.1 rfl rfl rfl (hI.put0 p5.1 rfl rfl) (hX.upI (t_inO hI.wf p5.1 (t_outO hI.wf p5.1 rfl) rfl)) (fun g56 e56 hI hX => ?_)
                  refine ev_ic f_X9_refuseToken (nx := 26) (v := 0) rfl (by decide) rfl ?_
                  refine ev_retK1 f_X9_refuseToken rfl rfl rfl ?_
                  refine ev_retK1 f_X9_takeSign rfl rfl rfl ?_
                  refine ev_t f_X6_readAll (t1 := 173) (t2 := 175) rfl rfl rfl (by decide) ?_
                  refine ev_ic f_X6_readAll (nx := 174) (v := 0) rfl (by decide) rfl ?_
                  exact ev_ret f_X6_readAll rfl rfl rfl ⟨_, _, _, rfl, hI, hX, ⟨_, rfl, (by decide : (0:Int) ≤ (0:Int32).toInt), (Int.le_trans (by decide : (0:Int32).toInt ≤ (0:Int)) (by decide : (0:Int) ≤ 1))⟩⟩
                · refine ev_loc f_X9_refuseToken (nx := 14) rfl rfl rfl rfl ?_
                  refine ev_putIT f_X9_refuseToken (nx := 17) rfl p5.1 rfl rfl rfl (hI.put0 p5.1 rfl rfl) (hX.upI (t_inO hI.wf p5.1 (t_outO hI.wf p5.1 rfl) rfl)) (fun g57 e57 hI hX => ?_)
                  refine ev_loc f_X9_refuseToken (nx := 18) rfl rfl rfl rfl ?_
                  refine ev_loc f_X9_refuseToken (nx := 19) rfl rfl rfl rfl ?_
                  refine ev_getI f_X9_refuseToken (nx := 22) rfl p5.1 rfl rfl rfl ?_
                  obtain ⟨l58, u58⟩ := hI.b p5.1 (t_bdK rfl : t_bd 8 4 = some (0, 900))
                  refine ev_putIT f_X9_refuseToken (nx := 25) rfl p5.1 rfl rfl rfl (hI.put0 p5.1 rfl rfl) (hX.upI (t_inO hI.wf p5.1 (t_outO hI.wf p5.1 rfl) rfl)) (fun g59 e59 hI hX => ?_)
                  refine ev_ic f_X9_refuseToken (nx := 26) (v := 0) rfl (by decide) rfl ?_
                  refine ev_retK1 f_X9_refuseToken rfl rfl rfl ?_
                  refine ev_retK1 f_X9_takeSign rfl rfl rfl ?_
                  refine ev_t f_X6_readAll (t1 := 173) (t2 := 175) rfl rfl rfl (by decide) ?_
                  refine ev_ic f_X6_readAll (nx := 174) (v := 0) rfl (by decide) rfl ?_
                  exact ev_ret f_X6_readAll rfl rfl rfl ⟨_, _, _, rfl, hI, hX, ⟨_, rfl, (by decide : (0:Int) ≤ (0:Int32).toInt), (Int.le_trans (by decide : (0:Int32).toInt ≤ (0:Int)) (by decide : (0:Int) ≤ 1))⟩⟩
          · refine ev_loc f_X6_readAll (nx := 65) rfl rfl rfl rfl ?_
            refine ev_getR f_X6_readAll (nx := 68) (v := .ref a5) rfl p_a0.1 rfl rfl e5 rfl rfl ?_
            refine ev_getR f_X6_readAll (nx := 71) (v := v9) rfl p5.1 rfl rfl e9 (t_KwR k9) rfl ?_
            refine ev_heap f_X6_readAll (nx := 74) rfl rfl rfl rfl ?_
            refine ev_ack f_X6_readAll (t1 := 77) (t2 := 85) rfl rfl rfl (t_knw k9) rfl (fun h60 => ?_) (fun h60 => ?_)
            · refine ev_loc f_X6_readAll (nx := 78) rfl rfl rfl rfl ?_
              refine ev_cI f_X6_readAll (nx := 81) (r := []) rfl rfl rfl rfl rfl rfl rfl (c_r_readFrost hI (ar0) p_a0) rfl hX rfl (fun w61 gi61 gl61 gr61 l61 u61 hI hX hC61 => ?_)
              replace p_a0 := p_a0.ext hC61.2
              replace p5 := p5.ext hC61.2
              refine ev_loc f_X6_readAll (nx := 82) (lo' := [(2, .int w61), (1, .int y1_1), (0, .ref ar0)]) rfl rfl rfl rfl ?_
              refine ev_jmp f_X6_readAll (nx := 157) rfl rfl rfl ?_
              refine ev_loc f_X6_readAll (nx := 158) rfl rfl rfl rfl ?_
              refine ev_if f_X6_readAll (t1 := 173) (t2 := 161) rfl rfl rfl (fun h62 => ?_) (fun h62 => ?_)
              · have u63 : w61.toInt ≤ 0 := t_equ h62 (by decide : (0:Int32).toInt ≤ (0:Int))
                refine ev_ic f_X6_readAll (nx := 174) (v := 0) rfl (by decide) rfl ?_
                exact ev_ret f_X6_readAll rfl rfl rfl ⟨_, _, _, rfl, hI, hX, ⟨_, rfl, (by decide : (0:Int) ≤ (0:Int32).toInt), (Int.le_trans (by decide : (0:Int32).toInt ≤ (0:Int)) (by decide : (0:Int) ≤ 1))⟩⟩
              · have l64 : 1 ≤ w61.toInt := t_nel h62 l61 rfl rfl
                refine ev_loc f_X6_readAll (nx := 162) rfl rfl rfl rfl ?_
                refine ev_getR f_X6_readAll (nx := 165) (v := .ref a5) rfl p_a0.1 rfl rfl ((hC61.1 ar0 0 (t_ninO hI.wf p_a0.1 (t_outO hI.wf p_a0.1 rfl) rfl)).2.2.trans e5) rfl rfl ?_
                refine ev_bp f_X6_readAll (nx := 167) (v := 59) rfl (by decide) rfl ?_
                refine ev_inV2 f_X6_readAll (nx := 170) (lo2 := [(0, .ref a5), (1, .int 59)]) rfl rfl rfl rfl f_X9_takeSign p5.1 rfl rfl rfl rfl rfl ?_
                refine ev_loc f_X9_takeSign (nx := 1) rfl rfl rfl rfl ?_
                refine ev_loc f_X9_takeSign (nx := 2) rfl rfl rfl rfl ?_
                refine ev_inV2 f_X9_takeSign (nx := 5) (lo2 := [(0, .ref a5), (1, .int 59)]) rfl rfl rfl rfl f_X9_isSignOf p5.1 rfl rfl rfl rfl rfl ?_
                refine ev_loc f_X9_isSignOf (nx := 1) rfl rfl rfl rfl ?_
                refine ev_getI f_X9_isSignOf (nx := 4) rfl p5.1 rfl rfl rfl ?_
                refine ev_ic f_X9_isSignOf (nx := 5) (v := 2) rfl (by decide) rfl ?_
                refine ev_if f_X9_isSignOf (t1 := 8) (t2 := 20) rfl rfl rfl (fun h65 => ?_) (fun h65 => ?_)
                · have u66 : (gi61 a5 3).toInt ≤ 2 := t_equ h65 (by decide : (2:Int32).toInt ≤ (2:Int))
                  have l67 : 2 ≤ (gi61 a5 3).toInt := t_eql h65 (by decide : (2:Int) ≤ (2:Int32).toInt)
                  refine ev_loc f_X9_isSignOf (nx := 9) rfl rfl rfl rfl ?_
                  refine ev_getI f_X9_isSignOf (nx := 12) rfl p5.1 rfl rfl rfl ?_
                  refine ev_loc f_X9_isSignOf (nx := 13) rfl rfl rfl rfl ?_
                  refine ev_if f_X9_isSignOf (t1 := 16) (t2 := 20) rfl rfl rfl (fun h68 => ?_) (fun h68 => ?_)
                  · have u69 : (gi61 a5 9).toInt ≤ 59 := t_equ h68 (by decide : (59:Int32).toInt ≤ (59:Int))
                    have l70 : 59 ≤ (gi61 a5 9).toInt := t_eql h68 (by decide : (59:Int) ≤ (59:Int32).toInt)
                    refine ev_ic f_X9_isSignOf (nx := 17) (v := 1) rfl (by decide) rfl ?_
                    refine ev_jmp f_X9_isSignOf (nx := 21) rfl rfl rfl ?_
                    refine ev_retK1 f_X9_isSignOf rfl rfl rfl ?_
                    refine ev_f f_X9_takeSign (t1 := 8) (t2 := 14) rfl rfl rfl (by decide) ?_
                    refine ev_loc f_X9_takeSign (nx := 15) rfl rfl rfl rfl ?_
                    refine ev_c0 f_X9_takeSign (nx := 18) (r := []) rfl rfl rfl rfl rfl rfl rfl (c_step hI (a5) p5) rfl hX rfl (fun gi71 gl71 gr71 hI hX hC71 => ?_)
                    replace p_a0 := p_a0.ext hC71.2
                    replace p5 := p5.ext hC71.2
                    refine ev_ic f_X9_takeSign (nx := 19) (v := 1) rfl (by decide) rfl ?_
                    refine ev_retK1 f_X9_takeSign rfl rfl rfl ?_
                    refine ev_f f_X6_readAll (t1 := 173) (t2 := 175) rfl rfl rfl (by decide) ?_
                    refine ev_incR f_X6_readAll (nx := 178) (c := 1) (l := 1) (u := 901) rfl rfl (by decide) (by decide) l1_1 u4 rfl rfl (by decide) (by decide) rfl (fun z72 e72 l72 u72 => ?_)
                    refine ev_jmp f_X6_readAll (nx := 2) rfl rfl rfl ?_
                    refine ev_sub (lo := [(1, .int z72), (0, .ref ar0)]) rfl (t_sc rfl (t_sc rfl t_sn)) ?_
                    exact ih1 _ (by omega) gi71 gl71 gr71 (z72) hI hX p_a0 (Int.le_trans (by decide : (0:Int) ≤ 1) l72) u72 rfl
                  · refine ev_ic f_X9_isSignOf (nx := 21) (v := 0) rfl (by decide) rfl ?_
                    refine ev_retK1 f_X9_isSignOf rfl rfl rfl ?_
                    refine ev_t f_X9_takeSign (t1 := 8) (t2 := 14) rfl rfl rfl (by decide) ?_
                    refine ev_loc f_X9_takeSign (nx := 9) rfl rfl rfl rfl ?_
                    refine ev_ic f_X9_takeSign (nx := 10) (v := 2) rfl (by decide) rfl ?_
                    refine ev_inV2 f_X9_takeSign (nx := 13) (lo2 := [(0, .ref a5), (1, .int 2)]) rfl rfl rfl rfl f_X9_refuseToken p5.1 rfl rfl rfl rfl rfl ?_
                    refine ev_loc f_X9_refuseToken (nx := 1) rfl rfl rfl rfl ?_
                    refine ev_loc f_X9_refuseToken (nx := 2) rfl rfl rfl rfl ?_
                    refine ev_gvI f_X9_refuseToken (nx := 5) (w := (gi61 a5 3)) rfl p5.1 rfl rfl rfl rfl ?_
                    refine ev_ic f_X9_refuseToken (nx := 6) (v := 4) rfl (by decide) rfl ?_
                    refine ev_f f_X9_refuseToken (t1 := 9) (t2 := 13) rfl rfl rfl (t_neT u66 (by decide : (4:Int) ≤ (4:Int32).toInt) (by decide)) ?_
                    refine ev_loc f_X9_refuseToken (nx := 14) rfl rfl rfl rfl ?_
                    refine ev_putIT f_X9_refuseToken (nx := 17) rfl p5.1 rfl rfl rfl (hI.put0 p5.1 rfl rfl) (hX.upI (t_inO hI.wf p5.1 (t_outO hI.wf p5.1 rfl) rfl)) (fun g73 e73 hI hX => ?_)
                    refine ev_loc f_X9_refuseToken (nx := 18) rfl rfl rfl rfl ?_
                    refine ev_loc f_X9_refuseToken (nx := 19) rfl rfl rfl rfl ?_
                    refine ev_getI f_X9_refuseToken (nx := 22) rfl p5.1 rfl rfl rfl ?_
                    obtain ⟨l74, u74⟩ := hI.b p5.1 (t_bdK rfl : t_bd 8 4 = some (0, 900))
                    refine ev_putIT f_X9_refuseToken (nx := 25) rfl p5.1 rfl rfl rfl (hI.put0 p5.1 rfl rfl) (hX.upI (t_inO hI.wf p5.1 (t_outO hI.wf p5.1 rfl) rfl)) (fun g75 e75 hI hX => ?_)
                    refine ev_ic f_X9_refuseToken (nx := 26) (v := 0) rfl (by decide) rfl ?_
                    refine ev_retK1 f_X9_refuseToken rfl rfl rfl ?_
                    refine ev_retK1 f_X9_takeSign rfl rfl rfl ?_
                    refine ev_t f_X6_readAll (t1 := 173) (t2 := 175) rfl rfl rfl (by decide) ?_
                    refine ev_ic f_X6_readAll (nx := 174) (v := 0) rfl (by decide) rfl ?_
                    exact ev_ret f_X6_readAll rfl rfl rfl ⟨_, _, _, rfl, hI, hX, ⟨_, rfl, (by decide : (0:Int) ≤ (0:Int32).toInt), (Int.le_trans (by decide : (0:Int32).toInt ≤ (0:Int)) (by decide : (0:Int) ≤ 1))⟩⟩
                · refine ev_ic f_X9_isSignOf (nx := 21) (v := 0) rfl (by decide) rfl ?_
                  refine ev_retK1 f_X9_isSignOf rfl rfl rfl ?_
                  refine ev_t f_X9_takeSign (t1 := 8) (t2 := 14) rfl rfl rfl (by decide) ?_
                  refine ev_loc f_X9_takeSign (nx := 9) rfl rfl rfl rfl ?_
                  refine ev_ic f_X9_takeSign (nx := 10) (v := 2) rfl (by decide) rfl ?_
                  refine ev_inV2 f_X9_takeSign (nx := 13) (lo2 := [(0, .ref a5), (1, .int 2)]) rfl rfl rfl rfl f_X9_refuseToken p5.1 rfl rfl rfl rfl rfl ?_
                  refine ev_loc f_X9_refuseToken (nx := 1) rfl rfl rfl rfl ?_
                  refine ev_loc f_X9_refuseToken (nx := 2) rfl rfl rfl rfl ?_
                  refine ev_gvI f_X9_refuseToken (nx := 5) (w := (gi61 a5 3)) rfl p5.1 rfl rfl rfl rfl ?_
                  refine ev_ic f_X9_refuseToken (nx := 6) (v := 4) rfl (by decide) rfl ?_
                  refine ev_if f_X9_refuseToken (t1 := 9) (t2 := 13) rfl rfl rfl (fun h76 => ?_) (fun h76 => ?_)
                  · have u77 : (gi61 a5 3).toInt ≤ 4 := t_equ h76 (by decide : (4:Int32).toInt ≤ (4:Int))
                    have l78 : 4 ≤ (gi61 a5 3).toInt := t_eql h76 (by decide : (4:Int) ≤ (4:Int32).toInt)
                    refine ev_ic f_X9_refuseToken (nx := 10) (v := 1) rfl (by decide) rfl ?_
                    refine ev_jmp f_X9_refuseToken (nx := 14) rfl rfl rfl ?_
                    refine ev_putIT f_X9_refuseToken (nx := 17) rfl p5.1 rfl rfl rfl (hI.put0 p5.1 rfl rfl) (hX.upI (t_inO hI.wf p5.1 (t_outO hI.wf p5.1 rfl) rfl)) (fun g79 e79 hI hX => ?_)
                    refine ev_loc f_X9_refuseToken (nx := 18) rfl rfl rfl rfl ?_
                    refine ev_loc f_X9_refuseToken (nx := 19) rfl rfl rfl rfl ?_
                    refine ev_getI f_X9_refuseToken (nx := 22) rfl p5.1 rfl rfl rfl ?_
                    obtain ⟨l80, u80⟩ := hI.b p5.1 (t_bdK rfl : t_bd 8 4 = some (0, 900))
                    refine ev_putIT f_X9_refuseToken (nx := 25) rfl p5.1 rfl rfl rfl (hI.put0 p5.1 rfl rfl) (hX.upI (t_inO hI.wf p5.1 (t_outO hI.wf p5.1 rfl) rfl)) (fun g81 e81 hI hX => ?_)
                    refine ev_ic f_X9_refuseToken (nx := 26) (v := 0) rfl (by decide) rfl ?_
                    refine ev_retK1 f_X9_refuseToken rfl rfl rfl ?_
                    refine ev_retK1 f_X9_takeSign rfl rfl rfl ?_
                    refine ev_t f_X6_readAll (t1 := 173) (t2 := 175) rfl rfl rfl (by decide) ?_
                    refine ev_ic f_X6_readAll (nx := 174) (v := 0) rfl (by decide) rfl ?_
                    exact ev_ret f_X6_readAll rfl rfl rfl ⟨_, _, _, rfl, hI, hX, ⟨_, rfl, (by decide : (0:Int) ≤ (0:Int32).toInt), (Int.le_trans (by decide : (0:Int32).toInt ≤ (0:Int)) (by decide : (0:Int) ≤ 1))⟩⟩
                  · refine ev_loc f_X9_refuseToken (nx := 14) rfl rfl rfl rfl ?_
                    refine ev_putIT f_X9_refuseToken (nx := 17) rfl p5.1 rfl rfl rfl (hI.put0 p5.1 rfl rfl) (hX.upI (t_inO hI.wf p5.1 (t_outO hI.wf p5.1 rfl) rfl)) (fun g82 e82 hI hX => ?_)
                    refine ev_loc f_X9_refuseToken (nx := 18) rfl rfl rfl rfl ?_
                    refine ev_loc f_X9_refuseToken (nx := 19) rfl rfl rfl rfl ?_
                    refine ev_getI f_X9_refuseToken (nx := 22) rfl p5.1 rfl rfl rfl ?_
                    obtain ⟨l83, u83⟩ := hI.b p5.1 (t_bdK rfl : t_bd 8 4 = some (0, 900))
                    refine ev_putIT f_X9_refuseToken (nx := 25) rfl p5.1 rfl rfl rfl (hI.put0 p5.1 rfl rfl) (hX.upI (t_inO hI.wf p5.1 (t_outO hI.wf p5.1 rfl) rfl)) (fun g84 e84 hI hX => ?_)
                    refine ev_ic f_X9_refuseToken (nx := 26) (v := 0) rfl (by decide) rfl ?_
                    refine ev_retK1 f_X9_refuseToken rfl rfl rfl ?_
                    refine ev_retK1 f_X9_takeSign rfl rfl rfl ?_
                    refine ev_t f_X6_readAll (t1 := 173) (t2 := 175) rfl rfl rfl (by decide) ?_
                    refine ev_ic f_X6_readAll (nx := 174) (v := 0) rfl (by decide) rfl ?_
                    exact ev_ret f_X6_readAll rfl rfl rfl ⟨_, _, _, rfl, hI, hX, ⟨_, rfl, (by decide : (0:Int) ≤ (0:Int32).toInt), (Int.le_trans (by decide : (0:Int32).toInt ≤ (0:Int)) (by decide : (0:Int) ≤ 1))⟩⟩
            · refine ev_loc f_X6_readAll (nx := 86) rfl rfl rfl rfl ?_
              refine ev_getR f_X6_readAll (nx := 89) (v := .ref a5) rfl p_a0.1 rfl rfl e5 rfl rfl ?_
              refine ev_getR f_X6_readAll (nx := 92) (v := v9) rfl p5.1 rfl rfl e9 (t_KwR k9) rfl ?_
              refine ev_heap f_X6_readAll (nx := 95) rfl rfl rfl rfl ?_
              refine ev_ack f_X6_readAll (t1 := 98) (t2 := 106) rfl rfl rfl (t_knw k9) rfl (fun h85 => ?_) (fun h85 => ?_)
              · refine ev_loc f_X6_readAll (nx := 99) rfl rfl rfl rfl ?_
                refine ev_cI f_X6_readAll (nx := 102) (r := []) rfl rfl rfl rfl rfl rfl rfl (c_r_readEcho hI (ar0) p_a0) rfl hX rfl (fun w86 gi86 gl86 gr86 l86 u86 hI hX hC86 => ?_)
                replace p_a0 := p_a0.ext hC86.2
                replace p5 := p5.ext hC86.2
                refine ev_loc f_X6_readAll (nx := 103) (lo' := [(2, .int w86), (1, .int y1_1), (0, .ref ar0)]) rfl rfl rfl rfl ?_
                refine ev_jmp f_X6_readAll (nx := 157) rfl rfl rfl ?_
                refine ev_loc f_X6_readAll (nx := 158) rfl rfl rfl rfl ?_
                refine ev_if f_X6_readAll (t1 := 173) (t2 := 161) rfl rfl rfl (fun h87 => ?_) (fun h87 => ?_)
                · have u88 : w86.toInt ≤ 0 := t_equ h87 (by decide : (0:Int32).toInt ≤ (0:Int))
                  refine ev_ic f_X6_readAll (nx := 174) (v := 0) rfl (by decide) rfl ?_
                  exact ev_ret f_X6_readAll rfl rfl rfl ⟨_, _, _, rfl, hI, hX, ⟨_, rfl, (by decide : (0:Int) ≤ (0:Int32).toInt), (Int.le_trans (by decide : (0:Int32).toInt ≤ (0:Int)) (by decide : (0:Int) ≤ 1))⟩⟩
                · have l89 : 1 ≤ w86.toInt := t_nel h87 l86 rfl rfl
                  refine ev_loc f_X6_readAll (nx := 162) rfl rfl rfl rfl ?_
                  refine ev_getR f_X6_readAll (nx := 165) (v := .ref a5) rfl p_a0.1 rfl rfl ((hC86.1 ar0 0 (t_ninO hI.wf p_a0.1 (t_outO hI.wf p_a0.1 rfl) rfl)).2.2.trans e5) rfl rfl ?_
                  refine ev_bp f_X6_readAll (nx := 167) (v := 59) rfl (by decide) rfl ?_
                  refine ev_inV2 f_X6_readAll (nx := 170) (lo2 := [(0, .ref a5), (1, .int 59)]) rfl rfl rfl rfl f_X9_takeSign p5.1 rfl rfl rfl rfl rfl ?_
                  refine ev_loc f_X9_takeSign (nx := 1) rfl rfl rfl rfl ?_
                  refine ev_loc f_X9_takeSign (nx := 2) rfl rfl rfl rfl ?_
                  refine ev_inV2 f_X9_takeSign (nx := 5) (lo2 := [(0, .ref a5), (1, .int 59)]) rfl rfl rfl rfl f_X9_isSignOf p5.1 rfl rfl rfl rfl rfl ?_
                  refine ev_loc f_X9_isSignOf (nx := 1) rfl rfl rfl rfl ?_
                  refine ev_getI f_X9_isSignOf (nx := 4) rfl p5.1 rfl rfl rfl ?_
                  refine ev_ic f_X9_isSignOf (nx := 5) (v := 2) rfl (by decide) rfl ?_
                  refine ev_if f_X9_isSignOf (t1 := 8) (t2 := 20) rfl rfl rfl (fun h90 => ?_) (fun h90 => ?_)
                  · have u91 : (gi86 a5 3).toInt ≤ 2 := t_equ h90 (by decide : (2:Int32).toInt ≤ (2:Int))
                    have l92 : 2 ≤ (gi86 a5 3).toInt := t_eql h90 (by decide : (2:Int) ≤ (2:Int32).toInt)
                    refine ev_loc f_X9_isSignOf (nx := 9) rfl rfl rfl rfl ?_
                    refine ev_getI f_X9_isSignOf (nx := 12) rfl p5.1 rfl rfl rfl ?_
                    refine ev_loc f_X9_isSignOf (nx := 13) rfl rfl rfl rfl ?_
                    refine ev_if f_X9_isSignOf (t1 := 16) (t2 := 20) rfl rfl rfl (fun h93 => ?_) (fun h93 => ?_)
                    · have u94 : (gi86 a5 9).toInt ≤ 59 := t_equ h93 (by decide : (59:Int32).toInt ≤ (59:Int))
                      have l95 : 59 ≤ (gi86 a5 9).toInt := t_eql h93 (by decide : (59:Int) ≤ (59:Int32).toInt)
                      refine ev_ic f_X9_isSignOf (nx := 17) (v := 1) rfl (by decide) rfl ?_
                      refine ev_jmp f_X9_isSignOf (nx := 21) rfl rfl rfl ?_
                      refine ev_retK1 f_X9_isSignOf rfl rfl rfl ?_
                      refine ev_f f_X9_takeSign (t1 := 8) (t2 := 14) rfl rfl rfl (by decide) ?_
                      refine ev_loc f_X9_takeSign (nx := 15) rfl rfl rfl rfl ?_
                      refine ev_c0 f_X9_takeSign (nx := 18) (r := []) rfl rfl rfl rfl rfl rfl rfl (c_step hI (a5) p5) rfl hX rfl (fun gi96 gl96 gr96 hI hX hC96 => ?_)
                      replace p_a0 := p_a0.ext hC96.2
                      replace p5 := p5.ext hC96.2
                      refine ev_ic f_X9_takeSign (nx := 19) (v := 1) rfl (by decide) rfl ?_
                      refine ev_retK1 f_X9_takeSign rfl rfl rfl ?_
                      refine ev_f f_X6_readAll (t1 := 173) (t2 := 175) rfl rfl rfl (by decide) ?_
                      refine ev_incR f_X6_readAll (nx := 178) (c := 1) (l := 1) (u := 901) rfl rfl (by decide) (by decide) l1_1 u4 rfl rfl (by decide) (by decide) rfl (fun z97 e97 l97 u97 => ?_)
                      refine ev_jmp f_X6_readAll (nx := 2) rfl rfl rfl ?_
                      refine ev_sub (lo := [(1, .int z97), (0, .ref ar0)]) rfl (t_sc rfl (t_sc rfl t_sn)) ?_
                      exact ih1 _ (by omega) gi96 gl96 gr96 (z97) hI hX p_a0 (Int.le_trans (by decide : (0:Int) ≤ 1) l97) u97 rfl
                    · refine ev_ic f_X9_isSignOf (nx := 21) (v := 0) rfl (by decide) rfl ?_
                      refine ev_retK1 f_X9_isSignOf rfl rfl rfl ?_
                      refine ev_t f_X9_takeSign (t1 := 8) (t2 := 14) rfl rfl rfl (by decide) ?_
                      refine ev_loc f_X9_takeSign (nx := 9) rfl rfl rfl rfl ?_
                      refine ev_ic f_X9_takeSign (nx := 10) (v := 2) rfl (by decide) rfl ?_
                      refine ev_inV2 f_X9_takeSign (nx := 13) (lo2 := [(0, .ref a5), (1, .int 2)]) rfl rfl rfl rfl f_X9_refuseToken p5.1 rfl rfl rfl rfl rfl ?_
                      refine ev_loc f_X9_refuseToken (nx := 1) rfl rfl rfl rfl ?_
                      refine ev_loc f_X9_refuseToken (nx := 2) rfl rfl rfl rfl ?_
                      refine ev_gvI f_X9_refuseToken (nx := 5) (w := (gi86 a5 3)) rfl p5.1 rfl rfl rfl rfl ?_
                      refine ev_ic f_X9_refuseToken (nx := 6) (v := 4) rfl (by decide) rfl ?_
                      refine ev_f f_X9_refuseToken (t1 := 9) (t2 := 13) rfl rfl rfl (t_neT u91 (by decide : (4:Int) ≤ (4:Int32).toInt) (by decide)) ?_
                      refine ev_loc f_X9_refuseToken (nx := 14) rfl rfl rfl rfl ?_
                      refine ev_putIT f_X9_refuseToken (nx := 17) rfl p5.1 rfl rfl rfl (hI.put0 p5.1 rfl rfl) (hX.upI (t_inO hI.wf p5.1 (t_outO hI.wf p5.1 rfl) rfl)) (fun g98 e98 hI hX => ?_)
                      refine ev_loc f_X9_refuseToken (nx := 18) rfl rfl rfl rfl ?_
                      refine ev_loc f_X9_refuseToken (nx := 19) rfl rfl rfl rfl ?_
                      refine ev_getI f_X9_refuseToken (nx := 22) rfl p5.1 rfl rfl rfl ?_
                      obtain ⟨l99, u99⟩ := hI.b p5.1 (t_bdK rfl : t_bd 8 4 = some (0, 900))
                      refine ev_putIT f_X9_refuseToken (nx := 25) rfl p5.1 rfl rfl rfl (hI.put0 p5.1 rfl rfl) (hX.upI (t_inO hI.wf p5.1 (t_outO hI.wf p5.1 rfl) rfl)) (fun g100 e100 hI hX => ?_)
                      refine ev_ic f_X9_refuseToken (nx := 26) (v := 0) rfl (by decide) rfl ?_
                      refine ev_retK1 f_X9_refuseToken rfl rfl rfl ?_
                      refine ev_retK1 f_X9_takeSign rfl rfl rfl ?_
                      refine ev_t f_X6_readAll (t1 := 173) (t2 := 175) rfl rfl rfl (by decide) ?_
                      refine ev_ic f_X6_readAll (nx := 174) (v := 0) rfl (by decide) rfl ?_
                      exact ev_ret f_X6_readAll rfl rfl rfl ⟨_, _, _, rfl, hI, hX, ⟨_, rfl, (by decide : (0:Int) ≤ (0:Int32).toInt), (Int.le_trans (by decide : (0:Int32).toInt ≤ (0:Int)) (by decide : (0:Int) ≤ 1))⟩⟩
                  · refine ev_ic f_X9_isSignOf (nx := 21) (v := 0) rfl (by decide) rfl ?_
                    refine ev_retK1 f_X9_isSignOf rfl rfl rfl ?_
                    refine ev_t f_X9_takeSign (t1 := 8) (t2 := 14) rfl rfl rfl (by decide) ?_
                    refine ev_loc f_X9_takeSign (nx := 9) rfl rfl rfl rfl ?_
                    refine ev_ic f_X9_takeSign (nx := 10) (v := 2) rfl (by decide) rfl ?_
                    refine ev_inV2 f_X9_takeSign (nx := 13) (lo2 := [(0, .ref a5), (1, .int 2)]) rfl rfl rfl rfl f_X9_refuseToken p5.1 rfl rfl rfl rfl rfl ?_
                    refine ev_loc f_X9_refuseToken (nx := 1) rfl rfl rfl rfl ?_
                    refine ev_loc f_X9_refuseToken (nx := 2) rfl rfl rfl rfl ?_
                    refine ev_gvI f_X9_refuseToken (nx := 5) (w := (gi86 a5 3)) rfl p5.1 rfl rfl rfl rfl ?_
                    refine ev_ic f_X9_refuseToken (nx := 6) (v := 4) rfl (by decide) rfl ?_
                    refine ev_if f_X9_refuseToken (t1 := 9) (t2 := 13) rfl rfl rfl (fun h101 => ?_) (fun h101 => ?_)
                    · have u102 : (gi86 a5 3).toInt ≤ 4 := t_equ h101 (by decide : (4:Int32).toInt ≤ (4:Int))
                      have l103 : 4 ≤ (gi86 a5 3).toInt := t_eql h101 (by decide : (4:Int) ≤ (4:Int32).toInt)
                      refine ev_ic f_X9_refuseToken (nx := 10) (v := 1) rfl (by decide) rfl ?_
                      refine ev_jmp f_X9_refuseToken (nx := 14) rfl rfl rfl ?_
                      refine ev_putIT f_X9_refuseToken (nx := 17) rfl p5.1 rfl rfl rfl (hI.put0 p5.1 rfl rfl) (hX.upI (t_inO hI.wf p5.1 (t_outO hI.wf p5.1 rfl) rfl)) (fun g104 e104 hI hX => ?_)
                      refine ev_loc f_X9_refuseToken (nx := 18) rfl rfl rfl rfl ?_
                      refine ev_loc f_X9_refuseToken (nx := 19) rfl rfl rfl rfl ?_
                      refine ev_getI f_X9_refuseToken (nx := 22) rfl p5.1 rfl rfl rfl ?_
                      obtain ⟨l105, u105⟩ := hI.b p5.1 (t_bdK rfl : t_bd 8 4 = some (0, 900))
                      refine ev_putIT f_X9_refuseToken (nx := 25) rfl p5.1 rfl rfl rfl (hI.put0 p5.1 rfl rfl) (hX.upI (t_inO hI.wf p5.1 (t_outO hI.wf p5.1 rfl) rfl)) (fun g106 e106 hI hX => ?_)
                      refine ev_ic f_X9_refuseToken (nx := 26) (v := 0) rfl (by decide) rfl ?_
                      refine ev_retK1 f_X9_refuseToken rfl rfl rfl ?_
                      refine ev_retK1 f_X9_takeSign rfl rfl rfl ?_
                      refine ev_t f_X6_readAll (t1 := 173) (t2 := 175) rfl rfl rfl (by decide) ?_
                      refine ev_ic f_X6_readAll (nx := 174) (v := 0) rfl (by decide) rfl ?_
                      exact ev_ret f_X6_readAll rfl rfl rfl ⟨_, _, _, rfl, hI, hX, ⟨_, rfl, (by decide : (0:Int) ≤ (0:Int32).toInt), (Int.le_trans (by decide : (0:Int32).toInt ≤ (0:Int)) (by decide : (0:Int) ≤ 1))⟩⟩
                    · refine ev_loc f_X9_refuseToken (nx := 14) rfl rfl rfl rfl ?_
                      refine ev_putIT f_X9_refuseToken (nx := 17) rfl p5.1 rfl rfl rfl (hI.put0 p5.1 rfl rfl) (hX.upI (t_inO hI.wf p5.1 (t_outO hI.wf p5.1 rfl) rfl)) (fun g107 e107 hI hX => ?_)
                      refine ev_loc f_X9_refuseToken (nx := 18) rfl rfl rfl rfl ?_
                      refine ev_loc f_X9_refuseToken (nx := 19) rfl rfl rfl rfl ?_
                      refine ev_getI f_X9_refuseToken (nx := 22) rfl p5.1 rfl rfl rfl ?_
                      obtain ⟨l108, u108⟩ := hI.b p5.1 (t_bdK rfl : t_bd 8 4 = some (0, 900))
                      refine ev_putIT f_X9_refuseToken (nx := 25) rfl p5.1 rfl rfl rfl (hI.put0 p5.1 rfl rfl) (hX.upI (t_inO hI.wf p5.1 (t_outO hI.wf p5.1 rfl) rfl)) (fun g109 e109 hI hX => ?_)
                      refine ev_ic f_X9_refuseToken (nx := 26) (v := 0) rfl (by decide) rfl ?_
                      refine ev_retK1 f_X9_refuseToken rfl rfl rfl ?_
                      refine ev_retK1 f_X9_takeSign rfl rfl rfl ?_
                      refine ev_t f_X6_readAll (t1 := 173) (t2 := 175) rfl rfl rfl (by decide) ?_
                      refine ev_ic f_X6_readAll (nx := 174) (v := 0) rfl (by decide) rfl ?_
                      exact ev_ret f_X6_readAll rfl rfl rfl ⟨_, _, _, rfl, hI, hX, ⟨_, rfl, (by decide : (0:Int) ≤ (0:Int32).toInt), (Int.le_trans (by decide : (0:Int32).toInt ≤ (0:Int)) (by decide : (0:Int) ≤ 1))⟩⟩
              · refine ev_loc f_X6_readAll (nx := 107) rfl rfl rfl rfl ?_
                refine ev_getR f_X6_readAll (nx := 110) (v := .ref a5) rfl p_a0.1 rfl rfl e5 rfl rfl ?_
                refine ev_getR f_X6_readAll (nx := 113) (v := v9) rfl p5.1 rfl rfl e9 (t_KwR k9) rfl ?_
                refine ev_heap f_X6_readAll (nx := 116) rfl rfl rfl rfl ?_
                refine ev_ack f_X6_readAll (t1 := 119) (t2 := 127) rfl rfl rfl (t_knw k9) rfl (fun h110 => ?_) (fun h110 => ?_)
                · refine ev_loc f_X6_readAll (nx := 120) rfl rfl rfl rfl ?_
                  refine ev_cI f_X6_readAll (nx := 123) (r := []) rfl rfl rfl rfl rfl rfl rfl (c_r_readShip hI (ar0) p_a0) rfl hX rfl (fun w111 gi111 gl111 gr111 l111 u111 hI hX hC111 => ?_)
                  replace p_a0 := p_a0.ext hC111.2
                  replace p5 := p5.ext hC111.2
                  refine ev_loc f_X6_readAll (nx := 124) (lo' := [(2, .int w111), (1, .int y1_1), (0, .ref ar0)]) rfl rfl rfl rfl ?_
                  refine ev_jmp f_X6_readAll (nx := 157) rfl rfl rfl ?_
                  refine ev_loc f_X6_readAll (nx := 158) rfl rfl rfl rfl ?_
                  refine ev_if f_X6_readAll (t1 := 173) (t2 := 161) rfl rfl rfl (fun h112 => ?_) (fun h112 => ?_)
                  · have u113 : w111.toInt ≤ 0 := t_equ h112 (by decide : (0:Int32).toInt ≤ (0:Int))
                    refine ev_ic f_X6_readAll (nx := 174) (v := 0) rfl (by decide) rfl ?_
                    exact ev_ret f_X6_readAll rfl rfl rfl ⟨_, _, _, rfl, hI, hX, ⟨_, rfl, (by decide : (0:Int) ≤ (0:Int32).toInt), (Int.le_trans (by decide : (0:Int32).toInt ≤ (0:Int)) (by decide : (0:Int) ≤ 1))⟩⟩
                  · have l114 : 1 ≤ w111.toInt := t_nel h112 l111 rfl rfl
                    refine ev_loc f_X6_readAll (nx := 162) rfl rfl rfl rfl ?_
                    refine ev_getR f_X6_readAll (nx := 165) (v := .ref a5) rfl p_a0.1 rfl rfl ((hC111.1 ar0 0 (t_ninO hI.wf p_a0.1 (t_outO hI.wf p_a0.1 rfl) rfl)).2.2.trans e5) rfl rfl ?_
                    refine ev_bp f_X6_readAll (nx := 167) (v := 59) rfl (by decide) rfl ?_
                    refine ev_inV2 f_X6_readAll (nx := 170) (lo2 := [(0, .ref a5), (1, .int 59)]) rfl rfl rfl rfl f_X9_takeSign p5.1 rfl rfl rfl rfl rfl ?_
                    refine ev_loc f_X9_takeSign (nx := 1) rfl rfl rfl rfl ?_
                    refine ev_loc f_X9_takeSign (nx := 2) rfl rfl rfl rfl ?_
                    refine ev_inV2 f_X9_takeSign (nx := 5) (lo2 := [(0, .ref a5), (1, .int 59)]) rfl rfl rfl rfl f_X9_isSignOf p5.1 rfl rfl rfl rfl rfl ?_
                    refine ev_loc f_X9_isSignOf (nx := 1) rfl rfl rfl rfl ?_
                    refine ev_getI f_X9_isSignOf (nx := 4) rfl p5.1 rfl rfl rfl ?_
                    refine ev_ic f_X9_isSignOf (nx := 5) (v := 2) rfl (by decide) rfl ?_
                    refine ev_if f_X9_isSignOf (t1 := 8) (t2 := 20) rfl rfl rfl (fun h115 => ?_) (fun h115 => ?_)
                    · have u116 : (gi111 a5 3).toInt ≤ 2 := t_equ h115 (by decide : (2:Int32).toInt ≤ (2:Int))
                      have l117 : 2 ≤ (gi111 a5 3).toInt := t_eql h115 (by decide : (2:Int) ≤ (2:Int32).toInt)
                      refine ev_loc f_X9_isSignOf (nx := 9) rfl rfl rfl rfl ?_
                      refine ev_getI f_X9_isSignOf (nx := 12) rfl p5.1 rfl rfl rfl ?_
                      refine ev_loc f_X9_isSignOf (nx := 13) rfl rfl rfl rfl ?_
                      refine ev_if f_X9_isSignOf (t1 := 16) (t2 := 20) rfl rfl rfl (fun h118 => ?_) (fun h118 => ?_)
                      · have u119 : (gi111 a5 9).toInt ≤ 59 := t_equ h118 (by decide : (59:Int32).toInt ≤ (59:Int))
                        have l120 : 59 ≤ (gi111 a5 9).toInt := t_eql h118 (by decide : (59:Int) ≤ (59:Int32).toInt)
                        refine ev_ic f_X9_isSignOf (nx := 17) (v := 1) rfl (by decide) rfl ?_
                        refine ev_jmp f_X9_isSignOf (nx := 21) rfl rfl rfl ?_
                        refine ev_retK1 f_X9_isSignOf rfl rfl rfl ?_
                        refine ev_f f_X9_takeSign (t1 := 8) (t2 := 14) rfl rfl rfl (by decide) ?_
                        refine ev_loc f_X9_takeSign (nx := 15) rfl rfl rfl rfl ?_
                        refine ev_c0 f_X9_takeSign (nx := 18) (r := []) rfl rfl rfl rfl rfl rfl rfl (c_step hI (a5) p5) rfl hX rfl (fun gi121 gl121 gr121 hI hX hC121 => ?_)
                        replace p_a0 := p_a0.ext hC121.2
                        replace p5 := p5.ext hC121.2
                        refine ev_ic f_X9_takeSign (nx := 19) (v := 1) rfl (by decide) rfl ?_
                        refine ev_retK1 f_X9_takeSign rfl rfl rfl ?_
                        refine ev_f f_X6_readAll (t1 := 173) (t2 := 175) rfl rfl rfl (by decide) ?_
                        refine ev_incR f_X6_readAll (nx := 178) (c := 1) (l := 1) (u := 901) rfl rfl (by decide) (by decide) l1_1 u4 rfl rfl (by decide) (by decide) rfl (fun z122 e122 l122 u122 => ?_)
                        refine ev_jmp f_X6_readAll (nx := 2) rfl rfl rfl ?_
                        refine ev_sub (lo := [(1, .int z122), (0, .ref ar0)]) rfl (t_sc rfl (t_sc rfl t_sn)) ?_
                        exact ih1 _ (by omega) gi121 gl121 gr121 (z122) hI hX p_a0 (Int.le_trans (by decide : (0:Int) ≤ 1) l122) u122 rfl
                      · refine ev_ic f_X9_isSignOf (nx := 21) (v := 0) rfl (by decide) rfl ?_
                        refine ev_retK1 f_X9_isSignOf rfl rfl rfl ?_
                        refine ev_t f_X9_takeSign (t1 := 8) (t2 := 14) rfl rfl rfl (by decide) ?_
                        refine ev_loc f_X9_takeSign (nx := 9) rfl rfl rfl rfl ?_
                        refine ev_ic f_X9_takeSign (nx := 10) (v := 2) rfl (by decide) rfl ?_
                        refine ev_inV2 f_X9_takeSign (nx := 13) (lo2 := [(0, .ref a5), (1, .int 2)]) rfl rfl rfl rfl f_X9_refuseToken p5.1 rfl rfl rfl rfl rfl ?_
                        refine ev_loc f_X9_refuseToken (nx := 1) rfl rfl rfl rfl ?_
                        refine ev_loc f_X9_refuseToken (nx := 2) rfl rfl rfl rfl ?_
                        refine ev_gvI f_X9_refuseToken (nx := 5) (w := (gi111 a5 3)) rfl p5.1 rfl rfl rfl rfl ?_
                        refine ev_ic f_X9_refuseToken (nx := 6) (v := 4) rfl (by decide) rfl ?_
                        refine ev_f f_X9_refuseToken (t1 := 9) (t2 := 13) rfl rfl rfl (t_neT u116 (by decide : (4:Int) ≤ (4:Int32).toInt) (by decide)) ?_
                        refine ev_loc f_X9_refuseToken (nx := 14) rfl rfl rfl rfl ?_
                        refine ev_putIT f_X9_refuseToken (nx := 17) rfl p5.1 rfl rfl rfl (hI.put0 p5.1 rfl rfl) (hX.upI (t_inO hI.wf p5.1 (t_outO hI.wf p5.1 rfl) rfl)) (fun g123 e123 hI hX => ?_)
                        refine ev_loc f_X9_refuseToken (nx := 18) rfl rfl rfl rfl ?_
                        refine ev_loc f_X9_refuseToken (nx := 19) rfl rfl rfl rfl ?_
                        refine ev_getI f_X9_refuseToken (nx := 22) rfl p5.1 rfl rfl rfl ?_
                        obtain ⟨l124, u124⟩ := hI.b p5.1 (t_bdK rfl : t_bd 8 4 = some (0, 900))
                        refine ev_putIT f_X9_refuseToken (nx := 25) rfl p5.1 rfl rfl rfl (hI.put0 p5.1 rfl rfl) (hX.upI (t_inO hI.wf p5.1 (t_outO hI.wf p5.1 rfl) rfl)) (fun g125 e125 hI hX => ?_)
                        refine ev_ic f_X9_refuseToken (nx := 26) (v := 0) rfl (by decide) rfl ?_
                        refine ev_retK1 f_X9_refuseToken rfl rfl rfl ?_
                        refine ev_retK1 f_X9_takeSign rfl rfl rfl ?_
                        refine ev_t f_X6_readAll (t1 := 173) (t2 := 175) rfl rfl rfl (by decide) ?_
                        refine ev_ic f_X6_readAll (nx := 174) (v := 0) rfl (by decide) rfl ?_
                        exact ev_ret f_X6_readAll rfl rfl rfl ⟨_, _, _, rfl, hI, hX, ⟨_, rfl, (by decide : (0:Int) ≤ (0:Int32).toInt), (Int.le_trans (by decide : (0:Int32).toInt ≤ (0:Int)) (by decide : (0:Int) ≤ 1))⟩⟩
                    · refine ev_ic f_X9_isSignOf (nx := 21) (v := 0) rfl (by decide) rfl ?_
                      refine ev_retK1 f_X9_isSignOf rfl rfl rfl ?_
                      refine ev_t f_X9_takeSign (t1 := 8) (t2 := 14) rfl rfl rfl (by decide) ?_
                      refine ev_loc f_X9_takeSign (nx := 9) rfl rfl rfl rfl ?_
                      refine ev_ic f_X9_takeSign (nx := 10) (v := 2) rfl (by decide) rfl ?_
                      refine ev_inV2 f_X9_takeSign (nx := 13) (lo2 := [(0, .ref a5), (1, .int 2)]) rfl rfl rfl rfl f_X9_refuseToken p5.1 rfl rfl rfl rfl rfl ?_
                      refine ev_loc f_X9_refuseToken (nx := 1) rfl rfl rfl rfl ?_
                      refine ev_loc f_X9_refuseToken (nx := 2) rfl rfl rfl rfl ?_
                      refine ev_gvI f_X9_refuseToken (nx := 5) (w := (gi111 a5 3)) rfl p5.1 rfl rfl rfl rfl ?_
                      refine ev_ic f_X9_refuseToken (nx := 6) (v := 4) rfl (by decide) rfl ?_
                      refine ev_if f_X9_refuseToken (t1 := 9) (t2 := 13) rfl rfl rfl (fun h126 => ?_) (fun h126 => ?_)
                      · have u127 : (gi111 a5 3).toInt ≤ 4 := t_equ h126 (by decide : (4:Int32).toInt ≤ (4:Int))
                        have l128 : 4 ≤ (gi111 a5 3).toInt := t_eql h126 (by decide : (4:Int) ≤ (4:Int32).toInt)
                        refine ev_ic f_X9_refuseToken (nx := 10) (v := 1) rfl (by decide) rfl ?_
                        refine ev_jmp f_X9_refuseToken (nx := 14) rfl rfl rfl ?_
                        refine ev_putIT f_X9_refuseToken (nx := 17) rfl p5.1 rfl rfl rfl (hI.put0 p5.1 rfl rfl) (hX.upI (t_inO hI.wf p5.1 (t_outO hI.wf p5.1 rfl) rfl)) (fun g129 e129 hI hX => ?_)
                        refine ev_loc f_X9_refuseToken (nx := 18) rfl rfl rfl rfl ?_
                        refine ev_loc f_X9_refuseToken (nx := 19) rfl rfl rfl rfl ?_
                        refine ev_getI f_X9_refuseToken (nx := 22) rfl p5.1 rfl rfl rfl ?_
                        obtain ⟨l130, u130⟩ := hI.b p5.1 (t_bdK rfl : t_bd 8 4 = some (0, 900))
                        refine ev_putIT f_X9_refuseToken (nx := 25) rfl p5.1 rfl rfl rfl (hI.put0 p5.1 rfl rfl) (hX.upI (t_inO hI.wf p5.1 (t_outO hI.wf p5.1 rfl) rfl)) (fun g131 e131 hI hX => ?_)
                        refine ev_ic f_X9_refuseToken (nx := 26) (v := 0) rfl (by decide) rfl ?_
                        refine ev_retK1 f_X9_refuseToken rfl rfl rfl ?_
                        refine ev_retK1 f_X9_takeSign rfl rfl rfl ?_
                        refine ev_t f_X6_readAll (t1 := 173) (t2 := 175) rfl rfl rfl (by decide) ?_
                        refine ev_ic f_X6_readAll (nx := 174) (v := 0) rfl (by decide) rfl ?_
                        exact ev_ret f_X6_readAll rfl rfl rfl ⟨_, _, _, rfl, hI, hX, ⟨_, rfl, (by decide : (0:Int) ≤ (0:Int32).toInt), (Int.le_trans (by decide : (0:Int32).toInt ≤ (0:Int)) (by decide : (0:Int) ≤ 1))⟩⟩
                      · refine ev_loc f_X9_refuseToken (nx := 14) rfl rfl rfl rfl ?_
                        refine ev_putIT f_X9_refuseToken (nx := 17) rfl p5.1 rfl rfl rfl (hI.put0 p5.1 rfl rfl) (hX.upI (t_inO hI.wf p5.1 (t_outO hI.wf p5.1 rfl) rfl)) (fun g132 e132 hI hX => ?_)
                        refine ev_loc f_X9_refuseToken (nx := 18) rfl rfl rfl rfl ?_
                        refine ev_loc f_X9_refuseToken (nx := 19) rfl rfl rfl rfl ?_
                        refine ev_getI f_X9_refuseToken (nx := 22) rfl p5.1 rfl rfl rfl ?_
                        obtain ⟨l133, u133⟩ := hI.b p5.1 (t_bdK rfl : t_bd 8 4 = some (0, 900))
                        refine ev_putIT f_X9_refuseToken (nx := 25) rfl p5.1 rfl rfl rfl (hI.put0 p5.1 rfl rfl) (hX.upI (t_inO hI.wf p5.1 (t_outO hI.wf p5.1 rfl) rfl)) (fun g134 e134 hI hX => ?_)
                        refine ev_ic f_X9_refuseToken (nx := 26) (v := 0) rfl (by decide) rfl ?_
                        refine ev_retK1 f_X9_refuseToken rfl rfl rfl ?_
                        refine ev_retK1 f_X9_takeSign rfl rfl rfl ?_
                        refine ev_t f_X6_readAll (t1 := 173) (t2 := 175) rfl rfl rfl (by decide) ?_
                        refine ev_ic f_X6_readAll (nx := 174) (v := 0) rfl (by decide) rfl ?_
                        exact ev_ret f_X6_readAll rfl rfl rfl ⟨_, _, _, rfl, hI, hX, ⟨_, rfl, (by decide : (0:Int) ≤ (0:Int32).toInt), (Int.le_trans (by decide : (0:Int32).toInt ≤ (0:Int)) (by decide : (0:Int) ≤ 1))⟩⟩
                · refine ev_loc f_X6_readAll (nx := 128) rfl rfl rfl rfl ?_
                  refine ev_getR f_X6_readAll (nx := 131) (v := .ref a5) rfl p_a0.1 rfl rfl e5 rfl rfl ?_
                  refine ev_getR f_X6_readAll (nx := 134) (v := v9) rfl p5.1 rfl rfl e9 (t_KwR k9) rfl ?_
                  refine ev_heap f_X6_readAll (nx := 137) rfl rfl rfl rfl ?_
                  refine ev_ack f_X6_readAll (t1 := 140) (t2 := 148) rfl rfl rfl (t_knw k9) rfl (fun h135 => ?_) (fun h135 => ?_)
                  · refine ev_loc f_X6_readAll (nx := 141) rfl rfl rfl rfl ?_
                    refine ev_cI f_X6_readAll (nx := 144) (r := []) rfl rfl rfl rfl rfl rfl rfl (c_r_readCart hI (ar0) p_a0) rfl hX rfl (fun w136 gi136 gl136 gr136 l136 u136 hI hX hC136 => ?_)
                    replace p_a0 := p_a0.ext hC136.2
                    replace p5 := p5.ext hC136.2
                    refine ev_loc f_X6_readAll (nx := 145) (lo' := [(2, .int w136), (1, .int y1_1), (0, .ref ar0)]) rfl rfl rfl rfl ?_
                    refine ev_jmp f_X6_readAll (nx := 157) rfl rfl rfl ?_
                    refine ev_loc f_X6_readAll (nx := 158) rfl rfl rfl rfl ?_
                    refine ev_if f_X6_readAll (t1 := 173) (t2 := 161) rfl rfl rfl (fun h137 => ?_) (fun h137 => ?_)
                    · have u138 : w136.toInt ≤ 0 := t_equ h137 (by decide : (0:Int32).toInt ≤ (0:Int))
                      refine ev_ic f_X6_readAll (nx := 174) (v := 0) rfl (by decide) rfl ?_
                      exact ev_ret f_X6_readAll rfl rfl rfl ⟨_, _, _, rfl, hI, hX, ⟨_, rfl, (by decide : (0:Int) ≤ (0:Int32).toInt), (Int.le_trans (by decide : (0:Int32).toInt ≤ (0:Int)) (by decide : (0:Int) ≤ 1))⟩⟩
                    · have l139 : 1 ≤ w136.toInt := t_nel h137 l136 rfl rfl
                      refine ev_loc f_X6_readAll (nx := 162) rfl rfl rfl rfl ?_
                      refine ev_getR f_X6_readAll (nx := 165) (v := .ref a5) rfl p_a0.1 rfl rfl ((hC136.1 ar0 0 (t_ninO hI.wf p_a0.1 (t_outO hI.wf p_a0.1 rfl) rfl)).2.2.trans e5) rfl rfl ?_
                      refine ev_bp f_X6_readAll (nx := 167) (v := 59) rfl (by decide) rfl ?_
                      refine ev_inV2 f_X6_readAll (nx := 170) (lo2 := [(0, .ref a5), (1, .int 59)]) rfl rfl rfl rfl f_X9_takeSign p5.1 rfl rfl rfl rfl rfl ?_
                      refine ev_loc f_X9_takeSign (nx := 1) rfl rfl rfl rfl ?_
                      refine ev_loc f_X9_takeSign (nx := 2) rfl rfl rfl rfl ?_
                      refine ev_inV2 f_X9_takeSign (nx := 5) (lo2 := [(0, .ref a5), (1, .int 59)]) rfl rfl rfl rfl f_X9_isSignOf p5.1 rfl rfl rfl rfl rfl ?_
                      refine ev_loc f_X9_isSignOf (nx := 1) rfl rfl rfl rfl ?_
                      refine ev_getI f_X9_isSignOf (nx := 4) rfl p5.1 rfl rfl rfl ?_
                      refine ev_ic f_X9_isSignOf (nx := 5) (v := 2) rfl (by decide) rfl ?_
                      refine ev_if f_X9_isSignOf (t1 := 8) (t2 := 20) rfl rfl rfl (fun h140 => ?_) (fun h140 => ?_)
                      · have u141 : (gi136 a5 3).toInt ≤ 2 := t_equ h140 (by decide : (2:Int32).toInt ≤ (2:Int))
                        have l142 : 2 ≤ (gi136 a5 3).toInt := t_eql h140 (by decide : (2:Int) ≤ (2:Int32).toInt)
                        refine ev_loc f_X9_isSignOf (nx := 9) rfl rfl rfl rfl ?_
                        refine ev_getI f_X9_isSignOf (nx := 12) rfl p5.1 rfl rfl rfl ?_
                        refine ev_loc f_X9_isSignOf (nx := 13) rfl rfl rfl rfl ?_
                        refine ev_if f_X9_isSignOf (t1 := 16) (t2 := 20) rfl rfl rfl (fun h143 => ?_) (fun h143 => ?_)
                        · have u144 : (gi136 a5 9).toInt ≤ 59 := t_equ h143 (by decide : (59:Int32).toInt ≤ (59:Int))
                          have l145 : 59 ≤ (gi136 a5 9).toInt := t_eql h143 (by decide : (59:Int) ≤ (59:Int32).toInt)
                          refine ev_ic f_X9_isSignOf (nx := 17) (v := 1) rfl (by decide) rfl ?_
                          refine ev_jmp f_X9_isSignOf (nx := 21) rfl rfl rfl ?_
                          refine ev_retK1 f_X9_isSignOf rfl rfl rfl ?_
                          refine ev_f f_X9_takeSign (t1 := 8) (t2 := 14) rfl rfl rfl (by decide) ?_
                          refine ev_loc f_X9_takeSign (nx := 15) rfl rfl rfl rfl ?_
                          refine ev_c0 f_X9_takeSign (nx := 18) (r := []) rfl rfl rfl rfl rfl rfl rfl (c_step hI (a5) p5) rfl hX rfl (fun gi146 gl146 gr146 hI hX hC146 => ?_)
                          replace p_a0 := p_a0.ext hC146.2
                          replace p5 := p5.ext hC146.2
                          refine ev_ic f_X9_takeSign (nx := 19) (v := 1) rfl (by decide) rfl ?_
                          refine ev_retK1 f_X9_takeSign rfl rfl rfl ?_
                          refine ev_f f_X6_readAll (t1 := 173) (t2 := 175) rfl rfl rfl (by decide) ?_
                          refine ev_incR f_X6_readAll (nx := 178) (c := 1) (l := 1) (u := 901) rfl rfl (by decide) (by decide) l1_1 u4 rfl rfl (by decide) (by decide) rfl (fun z147 e147 l147 u147 => ?_)
                          refine ev_jmp f_X6_readAll (nx := 2) rfl rfl rfl ?_
                          refine ev_sub (lo := [(1, .int z147), (0, .ref ar0)]) rfl (t_sc rfl (t_sc rfl t_sn)) ?_
                          exact ih1 _ (by omega) gi146 gl146 gr146 (z147) hI hX p_a0 (Int.le_trans (by decide : (0:Int) ≤ 1) l147) u147 rfl
                        · refine ev_ic f_X9_isSignOf (nx := 21) (v := 0) rfl (by decide) rfl ?_
                          refine ev_retK1 f_X9_isSignOf rfl rfl rfl ?_
                          refine ev_t f_X9_takeSign (t1 := 8) (t2 := 14) rfl rfl rfl (by decide) ?_
                          refine ev_loc f_X9_takeSign (nx := 9) rfl rfl rfl rfl ?_
                          refine ev_ic f_X9_takeSign (nx := 10) (v := 2) rfl (by decide) rfl ?_
                          refine ev_inV2 f_X9_takeSign (nx := 13) (lo2 := [(0, .ref a5), (1, .int 2)]) rfl rfl rfl rfl f_X9_refuseToken p5.1 rfl rfl rfl rfl rfl ?_
                          refine ev_loc f_X9_refuseToken (nx := 1) rfl rfl rfl rfl ?_
                          refine ev_loc f_X9_refuseToken (nx := 2) rfl rfl rfl rfl ?_
                          refine ev_gvI f_X9_refuseToken (nx := 5) (w := (gi136 a5 3)) rfl p5.1 rfl rfl rfl rfl ?_
                          refine ev_ic f_X9_refuseToken (nx := 6) (v := 4) rfl (by decide) rfl ?_
                          refine ev_f f_X9_refuseToken (t1 := 9) (t2 := 13) rfl rfl rfl (t_neT u141 (by decide : (4:Int) ≤ (4:Int32).toInt) (by decide)) ?_
                          refine ev_loc f_X9_refuseToken (nx := 14) rfl rfl rfl rfl ?_
                          refine ev_putIT f_X9_refuseToken (nx := 17) rfl p5.1 rfl rfl rfl (hI.put0 p5.1 rfl rfl) (hX.upI (t_inO hI.wf p5.1 (t_outO hI.wf p5.1 rfl) rfl)) (fun g148 e148 hI hX => ?_)
                          refine ev_loc f_X9_refuseToken (nx := 18) rfl rfl rfl rfl ?_
                          refine ev_loc f_X9_refuseToken (nx := 19) rfl rfl rfl rfl ?_
                          refine ev_getI f_X9_refuseToken (nx := 22) rfl p5.1 rfl rfl rfl ?_
                          obtain ⟨l149, u149⟩ := hI.b p5.1 (t_bdK rfl : t_bd 8 4 = some (0, 900))
                          refine ev_putIT f_X9_refuseToken (nx := 25) rfl p5.1 rfl rfl rfl (hI.put0 p5.1 rfl rfl) (hX.upI (t_inO hI.wf p5.1 (t_outO hI.wf p5.1 rfl) rfl)) (fun g150 e150 hI hX => ?_)
                          refine ev_ic f_X9_refuseToken (nx := 26) (v := 0) rfl (by decide) rfl ?_
                          refine ev_retK1 f_X9_refuseToken rfl rfl rfl ?_
                          refine ev_retK1 f_X9_takeSign rfl rfl rfl ?_
                          refine ev_t f_X6_readAll (t1 := 173) (t2 := 175) rfl rfl rfl (by decide) ?_
                          refine ev_ic f_X6_readAll (nx := 174) (v := 0) rfl (by decide) rfl ?_
                          exact ev_ret f_X6_readAll rfl rfl rfl ⟨_, _, _, rfl, hI, hX, ⟨_, rfl, (by decide : (0:Int) ≤ (0:Int32).toInt), (Int.le_trans (by decide : (0:Int32).toInt ≤ (0:Int)) (by decide : (0:Int) ≤ 1))⟩⟩
                      · refine ev_ic f_X9_isSignOf (nx := 21) (v := 0) rfl (by decide) rfl ?_
                        refine ev_retK1 f_X9_isSignOf rfl rfl rfl ?_
                        refine ev_t f_X9_takeSign (t1 := 8) (t2 := 14) rfl rfl rfl (by decide) ?_
                        refine ev_loc f_X9_takeSign (nx := 9) rfl rfl rfl rfl ?_
                        refine ev_ic f_X9_takeSign (nx := 10) (v := 2) rfl (by decide) rfl ?_
                        refine ev_inV2 f_X9_takeSign (nx := 13) (lo2 := [(0, .ref a5), (1, .int 2)]) rfl rfl rfl rfl f_X9_refuseToken p5.1 rfl rfl rfl rfl rfl ?_
                        refine ev_loc f_X9_refuseToken (nx := 1) rfl rfl rfl rfl ?_
                        refine ev_loc f_X9_refuseToken (nx := 2) rfl rfl rfl rfl ?_
                        refine ev_gvI f_X9_refuseToken (nx := 5) (w := (gi136 a5 3)) rfl p5.1 rfl rfl rfl rfl ?_
                        refine ev_ic f_X9_refuseToken (nx := 6) (v := 4) rfl (by decide) rfl ?_
                        refine ev_if f_X9_refuseToken (t1 := 9) (t2 := 13) rfl rfl rfl (fun h151 => ?_) (fun h151 => ?_)
                        · have u152 : (gi136 a5 3).toInt ≤ 4 := t_equ h151 (by decide : (4:Int32).toInt ≤ (4:Int))
                          have l153 : 4 ≤ (gi136 a5 3).toInt := t_eql h151 (by decide : (4:Int) ≤ (4:Int32).toInt)
                          refine ev_ic f_X9_refuseToken (nx := 10) (v := 1) rfl (by decide) rfl ?_
                          refine ev_jmp f_X9_refuseToken (nx := 14) rfl rfl rfl ?_
                          refine ev_putIT f_X9_refuseToken (nx := 17) rfl p5.1 rfl rfl rfl (hI.put0 p5.1 rfl rfl) (hX.upI (t_inO hI.wf p5.1 (t_outO hI.wf p5.1 rfl) rfl)) (fun g154 e154 hI hX => ?_)
                          refine ev_loc f_X9_refuseToken (nx := 18) rfl rfl rfl rfl ?_
                          refine ev_loc f_X9_refuseToken (nx := 19) rfl rfl rfl rfl ?_
                          refine ev_getI f_X9_refuseToken (nx := 22) rfl p5.1 rfl rfl rfl ?_
                          obtain ⟨l155, u155⟩ := hI.b p5.1 (t_bdK rfl : t_bd 8 4 = some (0, 900))
                          refine ev_putIT f_X9_refuseToken (nx := 25) rfl p5.1 rfl rfl rfl (hI.put0 p5.1 rfl rfl) (hX.upI (t_inO hI.wf p5.1 (t_outO hI.wf p5.1 rfl) rfl)) (fun g156 e156 hI hX => ?_)
                          refine ev_ic f_X9_refuseToken (nx := 26) (v := 0) rfl (by decide) rfl ?_
                          refine ev_retK1 f_X9_refuseToken rfl rfl rfl ?_
                          refine ev_retK1 f_X9_takeSign rfl rfl rfl ?_
                          refine ev_t f_X6_readAll (t1 := 173) (t2 := 175) rfl rfl rfl (by decide) ?_
                          refine ev_ic f_X6_readAll (nx := 174) (v := 0) rfl (by decide) rfl ?_
                          exact ev_ret f_X6_readAll rfl rfl rfl ⟨_, _, _, rfl, hI, hX, ⟨_, rfl, (by decide : (0:Int) ≤ (0:Int32).toInt), (Int.le_trans (by decide : (0:Int32).toInt ≤ (0:Int)) (by decide : (0:Int) ≤ 1))⟩⟩
                        · refine ev_loc f_X9_refuseToken (nx := 14) rfl rfl rfl rfl ?_
                          refine ev_putIT f_X9_refuseToken (nx := 17) rfl p5.1 rfl rfl rfl (hI.put0 p5.1 rfl rfl) (hX.upI (t_inO hI.wf p5.1 (t_outO hI.wf p5.1 rfl) rfl)) (fun g157 e157 hI hX => ?_)
                          refine ev_loc f_X9_refuseToken (nx := 18) rfl rfl rfl rfl ?_
                          refine ev_loc f_X9_refuseToken (nx := 19) rfl rfl rfl rfl ?_
                          refine ev_getI f_X9_refuseToken (nx := 22) rfl p5.1 rfl rfl rfl ?_
                          obtain ⟨l158, u158⟩ := hI.b p5.1 (t_bdK rfl : t_bd 8 4 = some (0, 900))
                          refine ev_putIT f_X9_refuseToken (nx := 25) rfl p5.1 rfl rfl rfl (hI.put0 p5.1 rfl rfl) (hX.upI (t_inO hI.wf p5.1 (t_outO hI.wf p5.1 rfl) rfl)) (fun g159 e159 hI hX => ?_)
                          refine ev_ic f_X9_refuseToken (nx := 26) (v := 0) rfl (by decide) rfl ?_
                          refine ev_retK1 f_X9_refuseToken rfl rfl rfl ?_
                          refine ev_retK1 f_X9_takeSign rfl rfl rfl ?_
                          refine ev_t f_X6_readAll (t1 := 173) (t2 := 175) rfl rfl rfl (by decide) ?_
                          refine ev_ic f_X6_readAll (nx := 174) (v := 0) rfl (by decide) rfl ?_
                          exact ev_ret f_X6_readAll rfl rfl rfl ⟨_, _, _, rfl, hI, hX, ⟨_, rfl, (by decide : (0:Int) ≤ (0:Int32).toInt), (Int.le_trans (by decide : (0:Int32).toInt ≤ (0:Int)) (by decide : (0:Int) ≤ 1))⟩⟩
                  · refine ev_loc f_X6_readAll (nx := 149) rfl rfl rfl rfl ?_
                    refine ev_getR f_X6_readAll (nx := 152) (v := .ref a5) rfl p_a0.1 rfl rfl e5 rfl rfl ?_
                    refine ev_ic f_X6_readAll (nx := 153) (v := 2) rfl (by decide) rfl ?_
                    refine ev_inV2 f_X6_readAll (nx := 156) (lo2 := [(0, .ref a5), (1, .int 2)]) rfl rfl rfl rfl f_X9_refuseToken p5.1 rfl rfl rfl rfl rfl ?_
                    refine ev_loc f_X9_refuseToken (nx := 1) rfl rfl rfl rfl ?_
                    refine ev_loc f_X9_refuseToken (nx := 2) rfl rfl rfl rfl ?_
                    refine ev_gvI f_X9_refuseToken (nx := 5) (w := (gi1 a5 3)) rfl p5.1 rfl rfl rfl rfl ?_
                    refine ev_ic f_X9_refuseToken (nx := 6) (v := 4) rfl (by decide) rfl ?_
                    refine ev_if f_X9_refuseToken (t1 := 9) (t2 := 13) rfl rfl rfl (fun h160 => ?_) (fun h160 => ?_)
                    · have u161 : (gi1 a5 3).toInt ≤ 4 := t_equ h160 (by decide : (4:Int32).toInt ≤ (4:Int))
                      have l162 : 4 ≤ (gi1 a5 3).toInt := t_eql h160 (by decide : (4:Int) ≤ (4:Int32).toInt)
                      refine ev_ic f_X9_refuseToken (nx := 10) (v := 1) rfl (by decide) rfl ?_
                      refine ev_jmp f_X9_refuseToken (nx := 14) rfl rfl rfl ?_
                      refine ev_putIT f_X9_refuseToken (nx := 17) rfl p5.1 rfl rfl rfl (hI.put0 p5.1 rfl rfl) (hX.upI (t_inO hI.wf p5.1 (t_outO hI.wf p5.1 rfl) rfl)) (fun g163 e163 hI hX => ?_)
                      refine ev_loc f_X9_refuseToken (nx := 18) rfl rfl rfl rfl ?_
                      refine ev_loc f_X9_refuseToken (nx := 19) rfl rfl rfl rfl ?_
                      refine ev_getI f_X9_refuseToken (nx := 22) rfl p5.1 rfl rfl rfl ?_
                      obtain ⟨l164, u164⟩ := hI.b p5.1 (t_bdK rfl : t_bd 8 4 = some (0, 900))
                      refine ev_putIT f_X9_refuseToken (nx := 25) rfl p5.1 rfl rfl rfl (hI.put0 p5.1 rfl rfl) (hX.upI (t_inO hI.wf p5.1 (t_outO hI.wf p5.1 rfl) rfl)) (fun g165 e165 hI hX => ?_)
                      refine ev_ic f_X9_refuseToken (nx := 26) (v := 0) rfl (by decide) rfl ?_
                      refine ev_retK1 f_X9_refuseToken rfl rfl rfl ?_
                      refine ev_alu f_X6_readAll (nx := 157) rfl rfl rfl rfl ?_
                      refine ev_loc f_X6_readAll (nx := 158) rfl rfl rfl rfl ?_
                      refine ev_t f_X6_readAll (t1 := 173) (t2 := 161) rfl rfl rfl (by decide) ?_
                      refine ev_ic f_X6_readAll (nx := 174) (v := 0) rfl (by decide) rfl ?_
                      exact ev_ret f_X6_readAll rfl rfl rfl ⟨_, _, _, rfl, hI, hX, ⟨_, rfl, (by decide : (0:Int) ≤ (0:Int32).toInt), (Int.le_trans (by decide : (0:Int32).toInt ≤ (0:Int)) (by decide : (0:Int) ≤ 1))⟩⟩
                    · refine ev_loc f_X9_refuseToken (nx := 14) rfl rfl rfl rfl ?_
                      refine ev_putIT f_X9_refuseToken (nx := 17) rfl p5.1 rfl rfl rfl (hI.put0 p5.1 rfl rfl) (hX.upI (t_inO hI.wf p5.1 (t_outO hI.wf p5.1 rfl) rfl)) (fun g166 e166 hI hX => ?_)
                      refine ev_loc f_X9_refuseToken (nx := 18) rfl rfl rfl rfl ?_
                      refine ev_loc f_X9_refuseToken (nx := 19) rfl rfl rfl rfl ?_
                      refine ev_getI f_X9_refuseToken (nx := 22) rfl p5.1 rfl rfl rfl ?_
                      obtain ⟨l167, u167⟩ := hI.b p5.1 (t_bdK rfl : t_bd 8 4 = some (0, 900))
                      refine ev_putIT f_X9_refuseToken (nx := 25) rfl p5.1 rfl rfl rfl (hI.put0 p5.1 rfl rfl) (hX.upI (t_inO hI.wf p5.1 (t_outO hI.wf p5.1 rfl) rfl)) (fun g168 e168 hI hX => ?_)
                      refine ev_ic f_X9_refuseToken (nx := 26) (v := 0) rfl (by decide) rfl ?_
                      refine ev_retK1 f_X9_refuseToken rfl rfl rfl ?_
                      refine ev_alu f_X6_readAll (nx := 157) rfl rfl rfl rfl ?_
                      refine ev_loc f_X6_readAll (nx := 158) rfl rfl rfl rfl ?_
                      refine ev_t f_X6_readAll (t1 := 173) (t2 := 161) rfl rfl rfl (by decide) ?_
                      refine ev_ic f_X6_readAll (nx := 174) (v := 0) rfl (by decide) rfl ?_
                      exact ev_ret f_X6_readAll rfl rfl rfl ⟨_, _, _, rfl, hI, hX, ⟨_, rfl, (by decide : (0:Int) ≤ (0:Int32).toInt), (Int.le_trans (by decide : (0:Int32).toInt ≤ (0:Int)) (by decide : (0:Int) ≤ 1))⟩⟩
  refine ev_sub (lo := [(1, .int 0), (0, .ref ar0)]) rfl (t_sc rfl (t_sc rfl t_sn)) ?_
  exact L1 _ gi gl gr (0) hI hX p_a0 (by decide : (0:Int) ≤ (0:Int32).toInt) (Int.le_trans (by decide : (0:Int32).toInt ≤ (0:Int)) (by decide : (0:Int) ≤ 901)) rfl
