/-! ===== printed by cls.py: typed contracts of the class ===== -/
noncomputable def wl_r_readTurns : List (Nat × Nat) := [(3, 3), (114, 3), (115, 5), (118, 2), (118, 3), (118, 4), (118, 5), (118, 6), (118, 7), (118, 8), (118, 9), (118, 10), (118, 11)]
theorem c_r_readTurns {X : x_Ext} {d : Nat} {sh : List (Nat ⊕ (Nat × Nat))} {gi : Nat → Nat → Int32} {gl : Nat → Nat → Int64} {gr : Nat → Nat → Value} (hI : t_I sh gi gr) (ar0 : Nat) (p_a0 : t_RR sh gr ar0) : x_Me X (d + 4) n_X6_readTurns [.ref ar0] (sh, gi, gl, gr) (t_P wl_r_readTurns sh gi gl gr (t_Ri 0 1)) := by
  have hX : t_X wl_r_readTurns sh gi gl gr gi gl gr := t_X.rf
  refine me_i f_X6_readTurns p_a0.1 rfl rfl rfl ?_
  refine ev_loc f_X6_readTurns (nx := 1) rfl rfl rfl rfl ?_
  refine ev_getI f_X6_readTurns (nx := 4) rfl p_a0.1 rfl rfl rfl ?_
  refine ev_if f_X6_readTurns (t1 := 16) (t2 := 7) rfl rfl rfl (fun h1 => ?_) (fun h1 => ?_)
  · have u2 : (gi ar0 5).toInt ≤ 0 := t_equ h1 (by decide : (0:Int32).toInt ≤ (0:Int))
    have l3 : 0 ≤ (gi ar0 5).toInt := t_eql h1 (by decide : (0:Int) ≤ (0:Int32).toInt)
    refine ev_loc f_X6_readTurns (nx := 17) rfl rfl rfl rfl ?_
    refine ev_ic f_X6_readTurns (nx := 18) (v := 1) rfl (by decide) rfl ?_
    refine ev_putZT f_X6_readTurns (nx := 21) rfl p_a0.1 rfl rfl (Int.le_trans (by decide : (0:Int) ≤ 1) (by decide : (1:Int) ≤ (1:Int32).toInt)) (by decide : (1:Int32).toInt ≤ (1:Int)) rfl (hI.put0 p_a0.1 rfl rfl) (hX.upI (t_inO hI.wf p_a0.1 (t_outO hI.wf p_a0.1 rfl) rfl)) (fun g4 e4 hI hX => ?_)
    refine ev_loc f_X6_readTurns (nx := 22) rfl rfl rfl rfl ?_
    obtain ⟨a5, e5, p5⟩ := p_a0.2.1
    refine ev_getR f_X6_readTurns (nx := 25) rfl p_a0.1 rfl rfl e5 rfl rfl ?_
    refine ev_c0 f_X6_readTurns (nx := 28) (r := []) rfl rfl rfl rfl rfl rfl rfl (c_step hI (a5) p5) rfl hX rfl (fun gi6 gl6 gr6 hI hX hC6 => ?_)
    replace p_a0 := p_a0.ext hC6.2
    replace p5 := p5.ext hC6.2
    refine ev_loc f_X6_readTurns (nx := 29) rfl rfl rfl rfl ?_
    obtain ⟨a7, e7, p7⟩ := p_a0.2.2.1
    refine ev_getR f_X6_readTurns (nx := 32) rfl p_a0.1 rfl rfl e7 rfl rfl ?_
    refine ev_loc f_X6_readTurns (nx := 33) rfl rfl rfl rfl ?_
    refine ev_getR f_X6_readTurns (nx := 36) (v := .ref a5) rfl p_a0.1 rfl rfl ((hC6.1 ar0 0 (t_ninO hI.wf p_a0.1 (t_outO hI.wf p_a0.1 rfl) rfl)).2.2.trans e5) rfl rfl ?_
    refine ev_getI f_X6_readTurns (nx := 39) rfl p5.1 rfl rfl rfl ?_
    refine ev_putIT f_X6_readTurns (nx := 42) rfl p7.1 rfl rfl rfl (hI.put0 p7.1 rfl rfl) (hX.upI (t_inO hI.wf p7.1 (t_outO hI.wf p7.1 rfl) rfl)) (fun g8 e8 hI hX => ?_)
    refine ev_loc f_X6_readTurns (nx := 43) rfl rfl rfl rfl ?_
    refine ev_getR f_X6_readTurns (nx := 46) (v := .ref a5) rfl p_a0.1 rfl rfl ((hC6.1 ar0 0 (t_ninO hI.wf p_a0.1 (t_outO hI.wf p_a0.1 rfl) rfl)).2.2.trans e5) rfl rfl ?_
    refine ev_ic f_X6_readTurns (nx := 47) (v := 1) rfl (by decide) rfl ?_
    refine ev_bp f_X6_readTurns (nx := 49) (v := 20) rfl (by decide) rfl ?_
    refine ev_inV3 f_X6_readTurns (nx := 52) (lo2 := [(0, .ref a5), (1, .int 1), (2, .int 20)]) rfl rfl rfl rfl f_X9_takeNumber p5.1 rfl rfl rfl rfl rfl ?_
    refine ev_loc f_X9_takeNumber (nx := 1) rfl rfl rfl rfl ?_
    refine ev_getI f_X9_takeNumber (nx := 4) rfl p5.1 rfl rfl rfl ?_
    refine ev_ic f_X9_takeNumber (nx := 5) (v := 1) rfl (by decide) rfl ?_
    refine ev_if f_X9_takeNumber (t1 := 14) (t2 := 8) rfl rfl rfl (fun h9 => ?_) (fun h9 => ?_)
    · have u10 : (g8 a5 3).toInt ≤ 1 := t_equ h9 (by decide : (1:Int32).toInt ≤ (1:Int))
      have l11 : 1 ≤ (g8 a5 3).toInt := t_eql h9 (by decide : (1:Int) ≤ (1:Int32).toInt)
      refine ev_loc f_X9_takeNumber (nx := 15) rfl rfl rfl rfl ?_
      refine ev_gvI f_X9_takeNumber (nx := 18) (w := (gi6 a5 8)) rfl p5.1 rfl rfl ((by rw [e8]; exact x_up2_off (Or.inr (by decide)) : g8 a5 8 = gi6 a5 8).trans rfl) rfl ?_
      refine ev_loc f_X9_takeNumber (nx := 19) rfl rfl rfl rfl ?_
      refine ev_if f_X9_takeNumber (t1 := 30) (t2 := 22) rfl rfl rfl (fun h12 => ?_) (fun h12 => ?_)
      · have u13 : (gi6 a5 8).toInt ≤ 0 := t_ltu h12 (by decide : (1:Int32).toInt ≤ (1:Int)) rfl
        refine ev_loc f_X9_takeNumber (nx := 31) rfl rfl rfl rfl ?_
        refine ev_ic f_X9_takeNumber (nx := 32) (v := 4) rfl (by decide) rfl ?_
        refine ev_inV2 f_X9_takeNumber (nx := 35) (lo2 := [(0, .ref a5), (1, .int 4)]) rfl rfl rfl rfl f_X9_refuseToken p5.1 rfl rfl rfl rfl rfl ?_
        refine ev_loc f_X9_refuseToken (nx := 1) rfl rfl rfl rfl ?_
        refine ev_loc f_X9_refuseToken (nx := 2) rfl rfl rfl rfl ?_
        refine ev_gvI f_X9_refuseToken (nx := 5) (w := (g8 a5 3)) rfl p5.1 rfl rfl rfl rfl ?_
        refine ev_ic f_X9_refuseToken (nx := 6) (v := 4) rfl (by decide) rfl ?_
        refine ev_f f_X9_refuseToken (t1 := 9) (t2 := 13) rfl rfl rfl (t_neT u10 (by decide : (4:Int) ≤ (4:Int32).toInt) (by decide)) ?_
        refine ev_loc f_X9_refuseToken (nx := 14) rfl rfl rfl rfl ?_
        refine ev_putIT f_X9_refuseToken (nx := 17) rfl p5.1 rfl rfl rfl (hI.put0 p5.1 rfl rfl) (hX.upI (t_inO hI.wf p5.1 (t_outO hI.wf p5.1 rfl) rfl)) (fun g14 e14 hI hX => ?_)
        refine ev_loc f_X9_refuseToken (nx := 18) rfl rfl rfl rfl ?_
        refine ev_loc f_X9_refuseToken (nx := 19) rfl rfl rfl rfl ?_
        refine ev_getI f_X9_refuseToken (nx := 22) rfl p5.1 rfl rfl rfl ?_
        obtain ⟨l15, u15⟩ := hI.b p5.1 (t_bdK rfl : t_bd 8 4 = some (0, 900))
        refine ev_putIT f_X9_refuseToken (nx := 25) rfl p5.1 rfl rfl rfl (hI.put0 p5.1 rfl rfl) (hX.upI (t_inO hI.wf p5.1 (t_outO hI.wf p5.1 rfl) rfl)) (fun g16 e16 hI hX => ?_)
        refine ev_ic f_X9_refuseToken (nx := 26) (v := 0) rfl (by decide) rfl ?_
        refine ev_retK1 f_X9_refuseToken rfl rfl rfl ?_
        refine ev_retK1 f_X9_takeNumber rfl rfl rfl ?_
        exact ev_ret f_X6_readTurns rfl rfl rfl ⟨_, _, _, rfl, hI, hX, ⟨_, rfl, (by decide : (0:Int) ≤ (0:Int32).toInt), (Int.le_trans (by decide : (0:Int32).toInt ≤ (0:Int)) (by decide : (0:Int) ≤ 1))⟩⟩
      · have l17 : 1 ≤ (gi6 a5 8).toInt := t_lel (t_nlt h12) (by decide : (1:Int) ≤ (1:Int32).toInt)
        refine ev_loc f_X9_takeNumber (nx := 23) rfl rfl rfl rfl ?_
        refine ev_gvI f_X9_takeNumber (nx := 26) (w := (gi6 a5 8)) rfl p5.1 rfl rfl ((by rw [e8]; exact x_up2_off (Or.inr (by decide)) : g8 a5 8 = gi6 a5 8).trans rfl) rfl ?_
        refine ev_loc f_X9_takeNumber (nx := 27) rfl rfl rfl rfl ?_
        refine ev_if f_X9_takeNumber (t1 := 36) (t2 := 30) rfl rfl rfl (fun h18 => ?_) (fun h18 => ?_)
        · have u19 : (gi6 a5 8).toInt ≤ 20 := t_leu h18 (by decide : (20:Int32).toInt ≤ (20:Int))
          refine ev_loc f_X9_takeNumber (nx := 37) rfl rfl rfl rfl ?_
          refine ev_c0 f_X9_takeNumber (nx := 40) (r := []) rfl rfl rfl rfl rfl rfl rfl (c_step hI (a5) p5) rfl hX rfl (fun gi20 gl20 gr20 hI hX hC20 => ?_)
          replace p_a0 := p_a0.ext hC20.2
          replace p5 := p5.ext hC20.2
          replace p7 := p7.ext hC20.2
          refine ev_ic f_X9_takeNumber (nx := 41) (v := 1) rfl (by decide) rfl ?_
          refine ev_retK1 f_X9_takeNumber rfl rfl rfl ?_
          exact ev_ret f_X6_readTurns rfl rfl rfl ⟨_, _, _, rfl, hI, hX, ⟨_, rfl, (Int.le_trans (by decide : (0:Int) ≤ 1) (by decide : (1:Int) ≤ (1:Int32).toInt)), (by decide : (1:Int32).toInt ≤ (1:Int))⟩⟩
        · have l21 : 21 ≤ (gi6 a5 8).toInt := t_ltl (t_nle h18) (by decide : (20:Int) ≤ (20:Int32).toInt) rfl
          refine ev_loc f_X9_takeNumber (nx := 31) rfl rfl rfl rfl ?_
          refine ev_ic f_X9_takeNumber (nx := 32) (v := 4) rfl (by decide) rfl ?_
          refine ev_inV2 f_X9_takeNumber (nx := 35) (lo2 := [(0, .ref a5), (1, .int 4)]) rfl rfl rfl rfl f_X9_refuseToken p5.1 rfl rfl rfl rfl rfl ?_
          refine ev_loc f_X9_refuseToken (nx := 1) rfl rfl rfl rfl ?_
          refine ev_loc f_X9_refuseToken (nx := 2) rfl rfl rfl rfl ?_
          refine ev_gvI f_X9_refuseToken (nx := 5) (w := (g8 a5 3)) rfl p5.1 rfl rfl rfl rfl ?_
          refine ev_ic f_X9_refuseToken (nx := 6) (v := 4) rfl (by decide) rfl ?_
          refine ev_f f_X9_refuseToken (t1 := 9) (t2 := 13) rfl rfl rfl (t_neT u10 (by decide : (4:Int) ≤ (4:Int32).toInt) (by decide)) ?_
          refine ev_loc f_X9_refuseToken (nx := 14) rfl rfl rfl rfl ?_
          refine ev_putIT f_X9_refuseToken (nx := 17) rfl p5.1 rfl rfl rfl (hI.put0 p5.1 rfl rfl) (hX.upI (t_inO hI.wf p5.1 (t_outO hI.wf p5.1 rfl) rfl)) (fun g22 e22 hI hX => ?_)
          refine ev_loc f_X9_refuseToken (nx := 18) rfl rfl rfl rfl ?_
          refine ev_loc f_X9_refuseToken (nx := 19) rfl rfl rfl rfl ?_
          refine ev_getI f_X9_refuseToken (nx := 22) rfl p5.1 rfl rfl rfl ?_
          obtain ⟨l23, u23⟩ := hI.b p5.1 (t_bdK rfl : t_bd 8 4 = some (0, 900))
          refine ev_putIT f_X9_refuseToken (nx := 25) rfl p5.1 rfl rfl rfl (hI.put0 p5.1 rfl rfl) (hX.upI (t_inO hI.wf p5.1 (t_outO hI.wf p5.1 rfl) rfl)) (fun g24 e24 hI hX => ?_)
          refine ev_ic f_X9_refuseToken (nx := 26) (v := 0) rfl (by decide) rfl ?_
          refine ev_retK1 f_X9_refuseToken rfl rfl rfl ?_
          refine ev_retK1 f_X9_takeNumber rfl rfl rfl ?_
          exact ev_ret f_X6_readTurns rfl rfl rfl ⟨_, _, _, rfl, hI, hX, ⟨_, rfl, (by decide : (0:Int) ≤ (0:Int32).toInt), (Int.le_trans (by decide : (0:Int32).toInt ≤ (0:Int)) (by decide : (0:Int) ≤ 1))⟩⟩
    · refine ev_loc f_X9_takeNumber (nx := 9) rfl rfl rfl rfl ?_
      refine ev_ic f_X9_takeNumber (nx := 10) (v := 2) rfl (by decide) rfl ?_
      refine ev_inV2 f_X9_takeNumber (nx := 13) (lo2 := [(0, .ref a5), (1, .int 2)]) rfl rfl rfl rfl f_X9_refuseToken p5.1 rfl rfl rfl rfl rfl ?_
      refine ev_loc f_X9_refuseToken (nx := 1) rfl rfl rfl rfl ?_
      refine ev_loc f_X9_refuseToken (nx := 2) rfl rfl rfl rfl ?_
      refine ev_gvI f_X9_refuseToken (nx := 5) (w := (g8 a5 3)) rfl p5.1 rfl rfl rfl rfl ?_
      refine ev_ic f_X9_refuseToken (nx := 6) (v := 4) rfl (by decide) rfl ?_
      refine ev_if f_X9_refuseToken (t1 := 9) (t2 := 13) rfl rfl rfl (fun h25 => ?_) (fun h25 => ?_)
      · have u26 : (g8 a5 3).toInt ≤ 4 := t_equ h25 (by decide : (4:Int32).toInt ≤ (4:Int))
        have l27 : 4 ≤ (g8 a5 3).toInt := t_eql h25 (by decide : (4:Int) ≤ (4:Int32).toInt)
        refine ev_ic f_X9_refuseToken (nx := 10) (v := 1) rfl (by decide) rfl ?_
        refine ev_jmp f_X9_refuseToken (nx := 14) rfl rfl rfl ?_
        refine ev_putIT f_X9_refuseToken (nx := 17) rfl p5.1 rfl rfl rfl (hI.put0 p5.1 rfl rfl) (hX.upI (t_inO hI.wf p5.1 (t_outO hI.wf p5.1 rfl) rfl)) (fun g28 e28 hI hX => ?_)
        refine ev_loc f_X9_refuseToken (nx := 18) rfl rfl rfl rfl ?_
        refine ev_loc f_X9_refuseToken (nx := 19) rfl rfl rfl rfl ?_
        refine ev_getI f_X9_refuseToken (nx := 22) rfl p5.1 rfl rfl rfl ?_
        obtain ⟨l29, u29⟩ := hI.b p5.1 (t_bdK rfl : t_bd 8 4 = some (0, 900))
        refine ev_putIT f_X9_refuseToken (nx := 25) rfl p5.1 rfl rfl rfl (hI.put0 p5.1 rfl rfl) (hX.upI (t_inO hI.wf p5.1 (t_outO hI.wf p5.1 rfl) rfl)) (fun g30 e30 hI hX => ?_)
        refine ev_ic f_X9_refuseToken (nx := 26) (v := 0) rfl (by decide) rfl ?_
        refine ev_retK1 f_X9_refuseToken rfl rfl rfl ?_
        refine ev_retK1 f_X9_takeNumber rfl rfl rfl ?_
        exact ev_ret f_X6_readTurns rfl rfl rfl ⟨_, _, _, rfl, hI, hX, ⟨_, rfl, (by decide : (0:Int) ≤ (0:Int32).toInt), (Int.le_trans (by decide : (0:Int32).toInt ≤ (0:Int)) (by decide : (0:Int) ≤ 1))⟩⟩
      · refine ev_loc f_X9_refuseToken (nx := 14) rfl rfl rfl rfl ?_
        refine ev_putIT f_X9_refuseToken (nx := 17) rfl p5.1 rfl rfl rfl (hI.put0 p5.1 rfl rfl) (hX.upI (t_inO hI.wf p5.1 (t_outO hI.wf p5.1 rfl) rfl)) (fun g31 e31 hI hX => ?_)
        refine ev_loc f_X9_refuseToken (nx := 18) rfl rfl rfl rfl ?_
        refine ev_loc f_X9_refuseToken (nx := 19) rfl rfl rfl rfl ?_
        refine ev_getI f_X9_refuseToken (nx := 22) rfl p5.1 rfl rfl rfl ?_
        obtain ⟨l32, u32⟩ := hI.b p5.1 (t_bdK rfl : t_bd 8 4 = some (0, 900))
        refine ev_putIT f_X9_refuseToken (nx := 25) rfl p5.1 rfl rfl rfl (hI.put0 p5.1 rfl rfl) (hX.upI (t_inO hI.wf p5.1 (t_outO hI.wf p5.1 rfl) rfl)) (fun g33 e33 hI hX => ?_)
        refine ev_ic f_X9_refuseToken (nx := 26) (v := 0) rfl (by decide) rfl ?_
        refine ev_retK1 f_X9_refuseToken rfl rfl rfl ?_
        refine ev_retK1 f_X9_takeNumber rfl rfl rfl ?_
        exact ev_ret f_X6_readTurns rfl rfl rfl ⟨_, _, _, rfl, hI, hX, ⟨_, rfl, (by decide : (0:Int) ≤ (0:Int32).toInt), (Int.le_trans (by decide : (0:Int32).toInt ≤ (0:Int)) (by decide : (0:Int) ≤ 1))⟩⟩
  · refine ev_loc f_X6_readTurns (nx := 8) rfl rfl rfl rfl ?_
    obtain ⟨a34, e34, p34⟩ := p_a0.2.1
    refine ev_getR f_X6_readTurns (nx := 11) rfl p_a0.1 rfl rfl e34 rfl rfl ?_
    refine ev_ic f_X6_readTurns (nx := 12) (v := 5) rfl (by decide) rfl ?_
    refine ev_inV2 f_X6_readTurns (nx := 15) (lo2 := [(0, .ref a34), (1, .int 5)]) rfl rfl rfl rfl f_X9_refuseToken p34.1 rfl rfl rfl rfl rfl ?_
    refine ev_loc f_X9_refuseToken (nx := 1) rfl rfl rfl rfl ?_
    refine ev_loc f_X9_refuseToken (nx := 2) rfl rfl rfl rfl ?_
    refine ev_getI f_X9_refuseToken (nx := 5) rfl p34.1 rfl rfl rfl ?_
    refine ev_ic f_X9_refuseToken (nx := 6) (v := 4) rfl (by decide) rfl ?_
    refine ev_if f_X9_refuseToken (t1 := 9) (t2 := 13) rfl rfl rfl (fun h35 => ?_) (fun h35 => ?_)
    · have u36 : (gi a34 3).toInt ≤ 4 := t_equ h35 (by decide : (4:Int32).toInt ≤ (4:Int))
      have l37 : 4 ≤ (gi a34 3).toInt := t_eql h35 (by decide : (4:Int) ≤ (4:Int32).toInt)
      refine ev_ic f_X9_refuseToken (nx := 10) (v := 1) rfl (by decide) rfl ?_
      refine ev_jmp f_X9_refuseToken (nx := 14) rfl rfl rfl ?_
      refine ev_putIT f_X9_refuseToken (nx := 17) rfl p34.1 rfl rfl rfl (hI.put0 p34.1 rfl rfl) (hX.upI (t_inO hI.wf p34.1 (t_outO hI.wf p34.1 rfl) rfl)) (fun g38 e38 hI hX => ?_)
      refine ev_loc f_X9_refuseToken (nx := 18) rfl rfl rfl rfl ?_
      refine ev_loc f_X9_refuseToken (nx := 19) rfl rfl rfl rfl ?_
      refine ev_getI f_X9_refuseToken (nx := 22) rfl p34.1 rfl rfl rfl ?_
      obtain ⟨l39, u39⟩ := hI.b p34.1 (t_bdK rfl : t_bd 8 4 = some (0, 900))
      refine ev_putIT f_X9_refuseToken (nx := 25) rfl p34.1 rfl rfl rfl (hI.put0 p34.1 rfl rfl) (hX.upI (t_inO hI.wf p34.1 (t_outO hI.wf p34.1 rfl) rfl)) (fun g40 e40 hI hX => ?_)
      refine ev_ic f_X9_refuseToken (nx := 26) (v := 0) rfl (by decide) rfl ?_
      refine ev_retK1 f_X9_refuseToken rfl rfl rfl ?_
      exact ev_ret f_X6_readTurns rfl rfl rfl ⟨_, _, _, rfl, hI, hX, ⟨_, rfl, (by decide : (0:Int) ≤ (0:Int32).toInt), (Int.le_trans (by decide : (0:Int32).toInt ≤ (0:Int)) (by decide : (0:Int) ≤ 1))⟩⟩
    · refine ev_loc f_X9_refuseToken (nx := 14) rfl rfl rfl rfl ?_
      refine ev_putIT f_X9_refuseToken (nx := 17) rfl p34.1 rfl rfl rfl (hI.put0 p34.1 rfl rfl) (hX.upI (t_inO hI.wf p34.1 (t_outO hI.wf p34.1 rfl) rfl)) (fun g41 e41 hI hX => ?_)
      refine ev_loc f_X9_refuseToken (nx := 18) rfl rfl rfl rfl ?_
      refine ev_loc f_X9_refuseToken (nx := 19) rfl rfl rfl rfl ?_
      refine ev_getI f_X9_refuseToken (nx := 22) rfl p34.1 rfl rfl rfl ?_
      obtain ⟨l42, u42⟩ := hI.b p34.1 (t_bdK rfl : t_bd 8 4 = some (0, 900))
      refine ev_putIT f_X9_refuseToken (nx := 25) rfl p34.1 rfl rfl rfl (hI.put0 p34.1 rfl rfl) (hX.upI (t_inO hI.wf p34.1 (t_outO hI.wf p34.1 rfl) rfl)) (fun g43 e43 hI hX => ?_)
      refine ev_ic f_X9_refuseToken (nx := 26) (v := 0) rfl (by decide) rfl ?_
      refine ev_retK1 f_X9_refuseToken rfl rfl rfl ?_
      exact ev_ret f_X6_readTurns rfl rfl rfl ⟨_, _, _, rfl, hI, hX, ⟨_, rfl, (by decide : (0:Int) ≤ (0:Int32).toInt), (Int.le_trans (by decide : (0:Int32).toInt ≤ (0:Int)) (by decide : (0:Int) ≤ 1))⟩⟩
noncomputable def wl_r_readFrost : List (Nat × Nat) := [(3, 4), (3, 5), (114, 4), (114, 5), (115, 6), (118, 2), (118, 3), (118, 4), (118, 5), (118, 6), (118, 7), (118, 8), (118, 9), (118, 10), (118, 11)]
theorem c_r_readFrost {X : x_Ext} {d : Nat} {sh : List (Nat ⊕ (Nat × Nat))} {gi : Nat → Nat → Int32} {gl : Nat → Nat → Int64} {gr : Nat → Nat → Value} (hI : t_I sh gi gr) (ar0 : Nat) (p_a0 : t_RR sh gr ar0) : x_Me X (d + 4) n_X6_readFrost [.ref ar0] (sh, gi, gl, gr) (t_P wl_r_readFrost sh gi gl gr (t_Ri 0 1)) := by
  have hX : t_X wl_r_readFrost sh gi gl gr gi gl gr := t_X.rf
  refine me_i f_X6_readFrost p_a0.1 rfl rfl rfl ?_
  refine ev_loc f_X6_readFrost (nx := 1) rfl rfl rfl rfl ?_
  refine ev_getI f_X6_readFrost (nx := 4) rfl p_a0.1 rfl rfl rfl ?_
  refine ev_if f_X6_readFrost (t1 := 16) (t2 := 7) rfl rfl rfl (fun h1 => ?_) (fun h1 => ?_)
  · have u2 : (gi ar0 6).toInt ≤ 0 := t_equ h1 (by decide : (0:Int32).toInt ≤ (0:Int))
    have l3 : 0 ≤ (gi ar0 6).toInt := t_eql h1 (by decide : (0:Int) ≤ (0:Int32).toInt)
    refine ev_loc f_X6_readFrost (nx := 17) rfl rfl rfl rfl ?_
    refine ev_ic f_X6_readFrost (nx := 18) (v := 1) rfl (by decide) rfl ?_
    refine ev_putZT f_X6_readFrost (nx := 21) rfl p_a0.1 rfl rfl (Int.le_trans (by decide : (0:Int) ≤ 1) (by decide : (1:Int) ≤ (1:Int32).toInt)) (by decide : (1:Int32).toInt ≤ (1:Int)) rfl (hI.put0 p_a0.1 rfl rfl) (hX.upI (t_inO hI.wf p_a0.1 (t_outO hI.wf p_a0.1 rfl) rfl)) (fun g4 e4 hI hX => ?_)
    refine ev_loc f_X6_readFrost (nx := 22) rfl rfl rfl rfl ?_
    obtain ⟨a5, e5, p5⟩ := p_a0.2.1
    refine ev_getR f_X6_readFrost (nx := 25) rfl p_a0.1 rfl rfl e5 rfl rfl ?_
    refine ev_c0 f_X6_readFrost (nx := 28) (r := []) rfl rfl rfl rfl rfl rfl rfl (c_step hI (a5) p5) rfl hX rfl (fun gi6 gl6 gr6 hI hX hC6 => ?_)
    replace p_a0 := p_a0.ext hC6.2
    replace p5 := p5.ext hC6.2
    refine ev_loc f_X6_readFrost (nx := 29) rfl rfl rfl rfl ?_
    obtain ⟨a7, e7, p7⟩ := p_a0.2.2.1
    refine ev_getR f_X6_readFrost (nx := 32) rfl p_a0.1 rfl rfl e7 rfl rfl ?_
    refine ev_loc f_X6_readFrost (nx := 33) rfl rfl rfl rfl ?_
    refine ev_getR f_X6_readFrost (nx := 36) (v := .ref a5) rfl p_a0.1 rfl rfl ((hC6.1 ar0 0 (t_ninO hI.wf p_a0.1 (t_outO hI.wf p_a0.1 rfl) rfl)).2.2.trans e5) rfl rfl ?_
    refine ev_getI f_X6_readFrost (nx := 39) rfl p5.1 rfl rfl rfl ?_
    refine ev_putIT f_X6_readFrost (nx := 42) rfl p7.1 rfl rfl rfl (hI.put0 p7.1 rfl rfl) (hX.upI (t_inO hI.wf p7.1 (t_outO hI.wf p7.1 rfl) rfl)) (fun g8 e8 hI hX => ?_)
    refine ev_loc f_X6_readFrost (nx := 43) rfl rfl rfl rfl ?_
    refine ev_getR f_X6_readFrost (nx := 46) (v := .ref a5) rfl p_a0.1 rfl rfl ((hC6.1 ar0 0 (t_ninO hI.wf p_a0.1 (t_outO hI.wf p_a0.1 rfl) rfl)).2.2.trans e5) rfl rfl ?_
    refine ev_ic f_X6_readFrost (nx := 47) (v := 0) rfl (by decide) rfl ?_
    refine ev_bp f_X6_readFrost (nx := 49) (v := 20) rfl (by decide) rfl ?_
    refine ev_inV3 f_X6_readFrost (nx := 52) (lo2 := [(0, .ref a5), (1, .int 0), (2, .int 20)]) rfl rfl rfl rfl f_X9_takeNumber p5.1 rfl rfl rfl rfl rfl ?_
    refine ev_loc f_X9_takeNumber (nx := 1) rfl rfl rfl rfl ?_
    refine ev_getI f_X9_takeNumber (nx := 4) rfl p5.1 rfl rfl rfl ?_
    refine ev_ic f_X9_takeNumber (nx := 5) (v := 1) rfl (by decide) rfl ?_
    refine ev_if f_X9_takeNumber (t1 := 14) (t2 := 8) rfl rfl rfl (fun h9 => ?_) (fun h9 => ?_)
    · have u10 : (g8 a5 3).toInt ≤ 1 := t_equ h9 (by decide : (1:Int32).toInt ≤ (1:Int))
      have l11 : 1 ≤ (g8 a5 3).toInt := t_eql h9 (by decide : (1:Int) ≤ (1:Int32).toInt)
      refine ev_loc f_X9_takeNumber (nx := 15) rfl rfl rfl rfl ?_
      refine ev_gvI f_X9_takeNumber (nx := 18) (w := (gi6 a5 8)) rfl p5.1 rfl rfl ((by rw [e8]; exact x_up2_off (Or.inr (by decide)) : g8 a5 8 = gi6 a5 8).trans rfl) rfl ?_
      refine ev_loc f_X9_takeNumber (nx := 19) rfl rfl rfl rfl ?_
      refine ev_if f_X9_takeNumber (t1 := 30) (t2 := 22) rfl rfl rfl (fun h12 => ?_) (fun h12 => ?_)
      · have u13 : (gi6 a5 8).toInt ≤ (-1) := t_ltu h12 (by decide : (0:Int32).toInt ≤ (0:Int)) rfl
        refine ev_loc f_X9_takeNumber (nx := 31) rfl rfl rfl rfl ?_
        refine ev_ic f_X9_takeNumber (nx := 32) (v := 4) rfl (by decide) rfl ?_
        refine ev_inV2 f_X9_takeNumber (nx := 35) (lo2 := [(0, .ref a5), (1, .int 4)]) rfl rfl rfl rfl f_X9_refuseToken p5.1 rfl rfl rfl rfl rfl ?_
        refine ev_loc f_X9_refuseToken (nx := 1) rfl rfl rfl rfl ?_
        refine ev_loc f_X9_refuseToken (nx := 2) rfl rfl rfl rfl ?_
        refine ev_gvI f_X9_refuseToken (nx := 5) (w := (g8 a5 3)) rfl p5.1 rfl rfl rfl rfl ?_
        refine ev_ic f_X9_refuseToken (nx := 6) (v := 4) rfl (by decide) rfl ?_
        refine ev_f f_X9_refuseToken (t1 := 9) (t2 := 13) rfl rfl rfl (t_neT u10 (by decide : (4:Int) ≤ (4:Int32).toInt) (by decide)) ?_
        refine ev_loc f_X9_refuseToken (nx := 14) rfl rfl rfl rfl ?_
        refine ev_putIT f_X9_refuseToken (nx := 17) rfl p5.1 rfl rfl rfl (hI.put0 p5.1 rfl rfl) (hX.upI (t_inO hI.wf p5.1 (t_outO hI.wf p5.1 rfl) rfl)) (fun g14 e14 hI hX => ?_)
        refine ev_loc f_X9_refuseToken (nx := 18) rfl rfl rfl rfl ?_
        refine ev_loc f_X9_refuseToken (nx := 19) rfl rfl rfl rfl ?_
        refine ev_getI f_X9_refuseToken (nx := 22) rfl p5.1 rfl rfl rfl ?_
        obtain ⟨l15, u15⟩ := hI.b p5.1 (t_bdK rfl : t_bd 8 4 = some (0, 900))
        refine ev_putIT f_X9_refuseToken (nx := 25) rfl p5.1 rfl rfl rfl (hI.put0 p5.1 rfl rfl) (hX.upI (t_inO hI.wf p5.1 (t_outO hI.wf p5.1 rfl) rfl)) (fun g16 e16 hI hX => ?_)
        refine ev_ic f_X9_refuseToken (nx := 26) (v := 0) rfl (by decide) rfl ?_
        refine ev_retK1 f_X9_refuseToken rfl rfl rfl ?_
        refine ev_retK1 f_X9_takeNumber rfl rfl rfl ?_
        refine ev_t f_X6_readFrost (t1 := 68) (t2 := 55) rfl rfl rfl (by decide) ?_
        refine ev_ic f_X6_readFrost (nx := 69) (v := 0) rfl (by decide) rfl ?_
        exact ev_ret f_X6_readFrost rfl rfl rfl ⟨_, _, _, rfl, hI, hX, ⟨_, rfl, (by decide : (0:Int) ≤ (0:Int32).toInt), (Int.le_trans (by decide : (0:Int32).toInt ≤ (0:Int)) (by decide : (0:Int) ≤ 1))⟩⟩
      · have l17 : 0 ≤ (gi6 a5 8).toInt := t_lel (t_nlt h12) (by decide : (0:Int) ≤ (0:Int32).toInt)
        refine ev_loc f_X9_takeNumber (nx := 23) rfl rfl rfl rfl ?_
        refine ev_gvI f_X9_takeNumber (nx := 26) (w := (gi6 a5 8)) rfl p5.1 rfl rfl ((by rw [e8]; exact x_up2_off (Or.inr (by decide)) : g8 a5 8 = gi6 a5 8).trans rfl) rfl ?_
        refine ev_loc f_X9_takeNumber (nx := 27) rfl rfl rfl rfl ?_
        refine ev_if f_X9_takeNumber (t1 := 36) (t2 := 30) rfl rfl rfl (fun h18 => ?_) (fun h18 => ?_)
        · have u19 : (gi6 a5 8).toInt ≤ 20 := t_leu h18 (by decide : (20:Int32).toInt ≤ (20:Int))
          refine ev_loc f_X9_takeNumber (nx := 37) rfl rfl rfl rfl ?_
          refine ev_c0 f_X9_takeNumber (nx := 40) (r := []) rfl rfl rfl rfl rfl rfl rfl (c_step hI (a5) p5) rfl hX rfl (fun gi20 gl20 gr20 hI hX hC20 => ?_)
          replace p_a0 := p_a0.ext hC20.2
          replace p5 := p5.ext hC20.2
          replace p7 := p7.ext hC20.2
          refine ev_ic f_X9_takeNumber (nx := 41) (v := 1) rfl (by decide) rfl ?_
          refine ev_retK1 f_X9_takeNumber rfl rfl rfl ?_
          refine ev_f f_X6_readFrost (t1 := 68) (t2 := 55) rfl rfl rfl (by decide) ?_
          refine ev_loc f_X6_readFrost (nx := 56) rfl rfl rfl rfl ?_
          refine ev_getR f_X6_readFrost (nx := 59) (v := .ref a5) rfl p_a0.1 rfl rfl ((hC20.1 ar0 0 (t_ninO hI.wf p_a0.1 (t_outO hI.wf p_a0.1 rfl) rfl)).2.2.trans ((hC6.1 ar0 0 (t_ninO hI.wf p_a0.1 (t_outO hI.wf p_a0.1 rfl) rfl)).2.2.trans e5)) rfl rfl ?_
          refine ev_heap f_X6_readFrost (nx := 62) rfl rfl rfl rfl ?_
          refine ev_inV2 f_X6_readFrost (nx := 65) (lo2 := [(0, .ref a5), (1, .retAddr 4)]) rfl rfl rfl rfl f_X9_takeKeyword p5.1 rfl rfl rfl rfl rfl ?_
          refine ev_loc f_X9_takeKeyword (nx := 1) rfl rfl rfl rfl ?_
          have k21 := hI.2.2.2.1.2.2.2.2.2 a5 p5.1
          obtain ⟨v21, e21⟩ : ∃ v, gr20 a5 7 = v := ⟨_, rfl⟩
          rw [e21] at k21
          refine ev_getR f_X9_takeKeyword (nx := 4) rfl p5.1 rfl rfl e21 (t_KwR k21) rfl ?_
          refine ev_loc f_X9_takeKeyword (nx := 5) rfl rfl rfl rfl ?_
          refine ev_ack f_X9_takeKeyword (t1 := 14) (t2 := 8) rfl rfl rfl (t_knw k21) rfl (fun h22 => ?_) (fun h22 => ?_)
          · refine ev_loc f_X9_takeKeyword (nx := 15) rfl rfl rfl rfl ?_
            refine ev_c0 f_X9_takeKeyword (nx := 18) (r := []) rfl rfl rfl rfl rfl rfl rfl (c_step hI (a5) p5) rfl hX rfl (fun gi23 gl23 gr23 hI hX hC23 => ?_)
            replace p_a0 := p_a0.ext hC23.2
            replace p5 := p5.ext hC23.2
            replace p7 := p7.ext hC23.2
            refine ev_ic f_X9_takeKeyword (nx := 19) (v := 1) rfl (by decide) rfl ?_
            refine ev_retK1 f_X9_takeKeyword rfl rfl rfl ?_
            refine ev_f f_X6_readFrost (t1 := 68) (t2 := 70) rfl rfl rfl (by decide) ?_
            refine ev_loc f_X6_readFrost (nx := 71) rfl rfl rfl rfl ?_
            refine ev_getR f_X6_readFrost (nx := 74) (v := .ref a7) rfl p_a0.1 rfl rfl ((hC23.1 ar0 1 (t_ninO hI.wf p_a0.1 (t_outO hI.wf p_a0.1 rfl) rfl)).2.2.trans ((hC20.1 ar0 1 (t_ninO hI.wf p_a0.1 (t_outO hI.wf p_a0.1 rfl) rfl)).2.2.trans e7)) rfl rfl ?_
            refine ev_loc f_X6_readFrost (nx := 75) rfl rfl rfl rfl ?_
            refine ev_getR f_X6_readFrost (nx := 78) (v := .ref a5) rfl p_a0.1 rfl rfl ((hC23.1 ar0 0 (t_ninO hI.wf p_a0.1 (t_outO hI.wf p_a0.1 rfl) rfl)).2.2.trans ((hC20.1 ar0 0 (t_ninO hI.wf p_a0.1 (t_outO hI.wf p_a0.1 rfl) rfl)).2.2.trans ((hC6.1 ar0 0 (t_ninO hI.wf p_a0.1 (t_outO hI.wf p_a0.1 rfl) rfl)).2.2.trans e5))) rfl rfl ?_
            refine ev_getI f_X6_readFrost (nx := 81) rfl p5.1 rfl rfl rfl ?_
            refine ev_putIT f_X6_readFrost (nx := 84) rfl p7.1 rfl rfl rfl (hI.put0 p7.1 rfl rfl) (hX.upI (t_inO hI.wf p7.1 (t_outO hI.wf p7.1 rfl) rfl)) (fun g24 e24 hI hX => ?_)
            refine ev_loc f_X6_readFrost (nx := 85) rfl rfl rfl rfl ?_
            refine ev_getR f_X6_readFrost (nx := 88) (v := .ref a5) rfl p_a0.1 rfl rfl ((hC23.1 ar0 0 (t_ninO hI.wf p_a0.1 (t_outO hI.wf p_a0.1 rfl) rfl)).2.2.trans ((hC20.1 ar0 0 (t_ninO hI.wf p_a0.1 (t_outO hI.wf p_a0.1 rfl) rfl)).2.2.trans ((hC6.1 ar0 0 (t_ninO hI.wf p_a0.1 (t_outO hI.wf p_a0.1 rfl) rfl)).2.2.trans e5))) rfl rfl ?_
            refine ev_ic f_X6_readFrost (nx := 89) (v := 0) rfl (by decide) rfl ?_
            refine ev_sp f_X6_readFrost (nx := 92) (v := 200) rfl (by decide) rfl ?_
            refine ev_inV3 f_X6_readFrost (nx := 95) (lo2 := [(0, .ref a5), (1, .int 0), (2, .int 200)]) rfl rfl rfl rfl f_X9_takeNumber p5.1 rfl rfl rfl rfl rfl ?_
            refine ev_loc f_X9_takeNumber (nx := 1) rfl rfl rfl rfl ?_
            refine ev_getI f_X9_takeNumber (nx := 4) rfl p5.1 rfl rfl rfl ?_
            refine ev_ic f_X9_takeNumber (nx := 5) (v := 1) rfl (by decide) rfl ?_
            refine ev_if f_X9_takeNumber (t1 := 14) (t2 := 8) rfl rfl rfl (fun h25 => ?_) (fun h25 => ?_)
            · have u26 : (g24 a5 3).toInt ≤ 1 := t_equ h25 (by decide : (1:Int32).toInt ≤ (1:Int))
              have l27 : 1 ≤ (g24 a5 3).toInt := t_eql h25 (by decide : (1:Int) ≤ (1:Int32).toInt)
              refine ev_loc f_X9_takeNumber (nx := 15) rfl rfl rfl rfl ?_
              refine ev_gvI f_X9_takeNumber (nx := 18) (w := (gi23 a5 8)) rfl p5.1 rfl rfl ((by rw [e24]; exact x_up2_off (Or.inr (by decide)) : g24 a5 8 = gi23 a5 8).trans rfl) rfl ?_
              refine ev_loc f_X9_takeNumber (nx := 19) rfl rfl rfl rfl ?_
              refine ev_if f_X9_takeNumber (t1 := 30) (t2 := 22) rfl rfl rfl (fun h28 => ?_) (fun h28 => ?_)
              · have u29 : (gi23 a5 8).toInt ≤ (-1) := t_ltu h28 (by decide : (0:Int32).toInt ≤ (0:Int)) rfl
                refine ev_loc f_X9_takeNumber (nx := 31) rfl rfl rfl rfl ?_
                refine ev_ic f_X9_takeNumber (nx := 32) (v := 4) rfl (by decide) rfl ?_
                refine ev_inV2 f_X9_takeNumber (nx := 35) (lo2 := [(0, .ref a5), (1, .int 4)]) rfl rfl rfl rfl f_X9_refuseToken p5.1 rfl rfl rfl rfl rfl ?_
                refine ev_loc f_X9_refuseToken (nx := 1) rfl rfl rfl rfl ?_
                refine ev_loc f_X9_refuseToken (nx := 2) rfl rfl rfl rfl ?_
                refine ev_gvI f_X9_refuseToken (nx := 5) (w := (g24 a5 3)) rfl p5.1 rfl rfl rfl rfl ?_
                refine ev_ic f_X9_refuseToken (nx := 6) (v := 4) rfl (by decide) rfl ?_
                refine ev_f f_X9_refuseToken (t1 := 9) (t2 := 13) rfl rfl rfl (t_neT u26 (by decide : (4:Int) ≤ (4:Int32).toInt) (by decide)) ?_
                refine ev_loc f_X9_refuseToken (nx := 14) rfl rfl rfl rfl ?_
                refine ev_putIT f_X9_refuseToken (nx := 17) rfl p5.1 rfl rfl rfl (hI.put0 p5.1 rfl rfl) (hX.upI (t_inO hI.wf p5.1 (t_outO hI.wf p5.1 rfl) rfl)) (fun g30 e30 hI hX => ?_)
                refine ev_loc f_X9_refuseToken (nx := 18) rfl rfl rfl rfl ?_
                refine ev_loc f_X9_refuseToken (nx := 19) rfl rfl rfl rfl ?_
                refine ev_getI f_X9_refuseToken (nx := 22) rfl p5.1 rfl rfl rfl ?_
                obtain ⟨l31, u31⟩ := hI.b p5.1 (t_bdK rfl : t_bd 8 4 = some (0, 900))
                refine ev_putIT f_X9_refuseToken (nx := 25) rfl p5.1 rfl rfl rfl (hI.put0 p5.1 rfl rfl) (hX.upI (t_inO hI.wf p5.1 (t_outO hI.wf p5.1 rfl) rfl)) (fun g32 e32 hI hX => ?_)
                refine ev_ic f_X9_refuseToken (nx := 26) (v := 0) rfl (by decide) rfl ?_
                refine ev_retK1 f_X9_refuseToken rfl rfl rfl ?_
                refine ev_retK1 f_X9_takeNumber rfl rfl rfl ?_
                exact ev_ret f_X6_readFrost rfl rfl rfl ⟨_, _, _, rfl, hI, hX, ⟨_, rfl, (by decide : (0:Int) ≤ (0:Int32).toInt), (Int.le_trans (by decide : (0:Int32).toInt ≤ (0:Int)) (by decide : (0:Int) ≤ 1))⟩⟩
              · have l33 : 0 ≤ (gi23 a5 8).toInt := t_lel (t_nlt h28) (by decide : (0:Int) ≤ (0:Int32).toInt)
                refine ev_loc f_X9_takeNumber (nx := 23) rfl rfl rfl rfl ?_
                refine ev_gvI f_X9_takeNumber (nx := 26) (w := (gi23 a5 8)) rfl p5.1 rfl rfl ((by rw [e24]; exact x_up2_off (Or.inr (by decide)) : g24 a5 8 = gi23 a5 8).trans rfl) rfl ?_
                refine ev_loc f_X9_takeNumber (nx := 27) rfl rfl rfl rfl ?_
                refine ev_if f_X9_takeNumber (t1 := 36) (t2 := 30) rfl rfl rfl (fun h34 => ?_) (fun h34 => ?_)
                · have u35 : (gi23 a5 8).toInt ≤ 200 := t_leu h34 (by decide : (200:Int32).toInt ≤ (200:Int))
                  refine ev_loc f_X9_takeNumber (nx := 37) rfl rfl rfl rfl ?_
                  refine ev_c0 f_X9_takeNumber (nx := 40) (r := []) rfl rfl rfl rfl rfl rfl rfl (c_step hI (a5) p5) rfl hX rfl (fun gi36 gl36 gr36 hI hX hC36 => ?_)
                  replace p_a0 := p_a0.ext hC36.2
                  replace p5 := p5.ext hC36.2
                  replace p7 := p7.ext hC36.2
                  refine ev_ic f_X9_takeNumber (nx := 41) (v := 1) rfl (by decide) rfl ?_
                  refine ev_retK1 f_X9_takeNumber rfl rfl rfl ?_
                  exact ev_ret f_X6_readFrost rfl rfl rfl ⟨_, _, _, rfl, hI, hX, ⟨_, rfl, (Int.le_trans (by decide : (0:Int) ≤ 1) (by decide : (1:Int) ≤ (1:Int32).toInt)), (by decide : (1:Int32).toInt ≤ (1:Int))⟩⟩
                · have l37 : 201 ≤ (gi23 a5 8).toInt := t_ltl (t_nle h34) (by decide : (200:Int) ≤ (200:Int32).toInt) rfl
                  refine ev_loc f_X9_takeNumber (nx := 31) rfl rfl rfl rfl ?_
                  refine ev_ic f_X9_takeNumber (nx := 32) (v := 4) rfl (by decide) rfl ?_
                  refine ev_inV2 f_X9_takeNumber (nx := 35) (lo2 := [(0, .ref a5), (1, .int 4)]) rfl rfl rfl rfl f_X9_refuseToken p5.1 rfl rfl rfl rfl rfl ?_
                  refine ev_loc f_X9_refuseToken (nx := 1) rfl rfl rfl rfl ?_
                  refine ev_loc f_X9_refuseToken (nx := 2) rfl rfl rfl rfl ?_
                  refine ev_gvI f_X9_refuseToken (nx := 5) (w := (g24 a5 3)) rfl p5.1 rfl rfl rfl rfl ?_
                  refine ev_ic f_X9_refuseToken (nx := 6) (v := 4) rfl (by decide) rfl ?_
                  refine ev_f f_X9_refuseToken (t1 := 9) (t2 := 13) rfl rfl rfl (t_neT u26 (by decide : (4:Int) ≤ (4:Int32).toInt) (by decide)) ?_
                  refine ev_loc f_X9_refuseToken (nx := 14) rfl rfl rfl rfl ?_
                  refine ev_putIT f_X9_refuseToken (nx := 17) rfl p5.1 rfl rfl rfl (hI.put0 p5.1 rfl rfl) (hX.upI (t_inO hI.wf p5.1 (t_outO hI.wf p5.1 rfl) rfl)) (fun g38 e38 hI hX => ?_)
                  refine ev_loc f_X9_refuseToken (nx := 18) rfl rfl rfl rfl ?_
                  refine ev_loc f_X9_refuseToken (nx := 19) rfl rfl rfl rfl ?_
                  refine ev_getI f_X9_refuseToken (nx := 22) rfl p5.1 rfl rfl rfl ?_
                  obtain ⟨l39, u39⟩ := hI.b p5.1 (t_bdK rfl : t_bd 8 4 = some (0, 900))
                  refine ev_putIT f_X9_refuseToken (nx := 25) rfl p5.1 rfl rfl rfl (hI.put0 p5.1 rfl rfl) (hX.upI (t_inO hI.wf p5.1 (t_outO hI.wf p5.1 rfl) rfl)) (fun g40 e40 hI hX => ?_)
                  refine ev_ic f_X9_refuseToken (nx := 26) (v := 0) rfl (by decide) rfl ?_
                  refine ev_retK1 f_X9_refuseToken rfl rfl rfl ?_
                  refine ev_retK1 f_X9_takeNumber rfl rfl rfl ?_
                  exact ev_ret f_X6_readFrost rfl rfl rfl ⟨_, _, _, rfl, hI, hX, ⟨_, rfl, (by decide : (0:Int) ≤ (0:Int32).toInt), (Int.le_trans (by decide : (0:Int32).toInt ≤ (0:Int)) (by decide : (0:Int) ≤ 1))⟩⟩
            · refine ev_loc f_X9_takeNumber (nx := 9) rfl rfl rfl rfl ?_
              refine ev_ic f_X9_takeNumber (nx := 10) (v := 2) rfl (by decide) rfl ?_
              refine ev_inV2 f_X9_takeNumber (nx := 13) (lo2 := [(0, .ref a5), (1, .int 2)]) rfl rfl rfl rfl f_X9_refuseToken p5.1 rfl rfl rfl rfl rfl ?_
              refine ev_loc f_X9_refuseToken (nx := 1) rfl rfl rfl rfl ?_
              refine ev_loc f_X9_refuseToken (nx := 2) rfl rfl rfl rfl ?_
              refine ev_gvI f_X9_refuseToken (nx := 5) (w := (g24 a5 3)) rfl p5.1 rfl rfl rfl rfl ?_
              refine ev_ic f_X9_refuseToken (nx := 6) (v := 4) rfl (by decide) rfl ?_
              refine ev_if f_X9_refuseToken (t1 := 9) (t2 := 13) rfl rfl rfl (fun h41 => ?_) (fun h41 => ?_)
              · have u42 : (g24 a5 3).toInt ≤ 4 := t_equ h41 (by decide : (4:Int32).toInt ≤ (4:Int))
                have l43 : 4 ≤ (g24 a5 3).toInt := t_eql h41 (by decide : (4:Int) ≤ (4:Int32).toInt)
                refine ev_ic f_X9_refuseToken (nx := 10) (v := 1) rfl (by decide) rfl ?_
                refine ev_jmp f_X9_refuseToken (nx := 14) rfl rfl rfl ?_
                refine ev_putIT f_X9_refuseToken (nx := 17) rfl p5.1 rfl rfl rfl (hI.put0 p5.1 rfl rfl) (hX.upI (t_inO hI.wf p5.1 (t_outO hI.wf p5.1 rfl) rfl)) (fun g44 e44 hI hX => ?_)
                refine ev_loc f_X9_refuseToken (nx := 18) rfl rfl rfl rfl ?_
                refine ev_loc f_X9_refuseToken (nx := 19) rfl rfl rfl rfl ?_
                refine ev_getI f_X9_refuseToken (nx := 22) rfl p5.1 rfl rfl rfl ?_
                obtain ⟨l45, u45⟩ := hI.b p5.1 (t_bdK rfl : t_bd 8 4 = some (0, 900))
                refine ev_putIT f_X9_refuseToken (nx := 25) rfl p5.1 rfl rfl rfl (hI.put0 p5.1 rfl rfl) (hX.upI (t_inO hI.wf p5.1 (t_outO hI.wf p5.1 rfl) rfl)) (fun g46 e46 hI hX => ?_)
                refine ev_ic f_X9_refuseToken (nx := 26) (v := 0) rfl (by decide) rfl ?_
                refine ev_retK1 f_X9_refuseToken rfl rfl rfl ?_
                refine ev_retK1 f_X9_takeNumber rfl rfl rfl ?_
                exact ev_ret f_X6_readFrost rfl rfl rfl ⟨_, _, _, rfl, hI, hX, ⟨_, rfl, (by decide : (0:Int) ≤ (0:Int32).toInt), (Int.le_trans (by decide : (0:Int32).toInt ≤ (0:Int)) (by decide : (0:Int) ≤ 1))⟩⟩
              · refine ev_loc f_X9_refuseToken (nx := 14) rfl rfl rfl rfl ?_
                refine ev_putIT f_X9_refuseToken (nx := 17) rfl p5.1 rfl rfl rfl (hI.put0 p5.1 rfl rfl) (hX.upI (t_inO hI.wf p5.1 (t_outO hI.wf p5.1 rfl) rfl)) (fun g47 e47 hI hX => ?_)
                refine ev_loc f_X9_refuseToken (nx := 18) rfl rfl rfl rfl ?_
                refine ev_loc f_X9_refuseToken (nx := 19) rfl rfl rfl rfl ?_
                refine ev_getI f_X9_refuseToken (nx := 22) rfl p5.1 rfl rfl rfl ?_
                obtain ⟨l48, u48⟩ := hI.b p5.1 (t_bdK rfl : t_bd 8 4 = some (0, 900))
                refine ev_putIT f_X9_refuseToken (nx := 25) rfl p5.1 rfl rfl rfl (hI.put0 p5.1 rfl rfl) (hX.upI (t_inO hI.wf p5.1 (t_outO hI.wf p5.1 rfl) rfl)) (fun g49 e49 hI hX => ?_)
                refine ev_ic f_X9_refuseToken (nx := 26) (v := 0) rfl (by decide) rfl ?_
                refine ev_retK1 f_X9_refuseToken rfl rfl rfl ?_
                refine ev_retK1 f_X9_takeNumber rfl rfl rfl ?_
                exact ev_ret f_X6_readFrost rfl rfl rfl ⟨_, _, _, rfl, hI, hX, ⟨_, rfl, (by decide : (0:Int) ≤ (0:Int32).toInt), (Int.le_trans (by decide : (0:Int32).toInt ≤ (0:Int)) (by decide : (0:Int) ≤ 1))⟩⟩
          · refine ev_loc f_X9_takeKeyword (nx := 9) rfl rfl rfl rfl ?_
            refine ev_ic f_X9_takeKeyword (nx := 10) (v := 2) rfl (by decide) rfl ?_
            refine ev_inV2 f_X9_takeKeyword (nx := 13) (lo2 := [(0, .ref a5), (1, .int 2)]) rfl rfl rfl rfl f_X9_refuseToken p5.1 rfl rfl rfl rfl rfl ?_
            refine ev_loc f_X9_refuseToken (nx := 1) rfl rfl rfl rfl ?_
            refine ev_loc f_X9_refuseToken (nx := 2) rfl rfl rfl rfl ?_
            refine ev_getI f_X9_refuseToken (nx := 5) rfl p5.1 rfl rfl rfl ?_
            refine ev_ic f_X9_refuseToken (nx := 6) (v := 4) rfl (by decide) rfl ?_
            refine ev_if f_X9_refuseToken (t1 := 9) (t2 := 13) rfl rfl rfl (fun h50 => ?_) (fun h50 => ?_)
            · have u51 : (gi20 a5 3).toInt ≤ 4 := t_equ h50 (by decide : (4:Int32).toInt ≤ (4:Int))
              have l52 : 4 ≤ (gi20 a5 3).toInt := t_eql h50 (by decide : (4:Int) ≤ (4:Int32).toInt)
              refine ev_ic f_X9_refuseToken (nx := 10) (v := 1) rfl (by decide) rfl ?_
              refine ev_jmp f_X9_refuseToken (nx := 14) rfl rfl rfl ?_
              refine ev_putIT f_X9_refuseToken (nx := 17) rfl p5.1 rfl rfl rfl (hI.put0 p5.1 rfl rfl) (hX.upI (t_inO hI.wf p5.1 (t_outO hI.wf p5.1 rfl) rfl)) (fun g53 e53 hI hX => ?_)
              refine ev_loc f_X9_refuseToken (nx := 18) rfl rfl rfl rfl ?_
              refine ev_loc f_X9_refuseToken (nx := 19) rfl rfl rfl rfl ?_
              refine ev_getI f_X9_refuseToken (nx := 22) rfl p5.1 rfl rfl rfl ?_
              obtain ⟨l54, u54⟩ := hI.b p5.1 (t_bdK rfl : t_bd 8 4 = some (0, 900))
              refine ev_putIT f_X9_refuseToken (nx := 25) rfl p5.1 rfl rfl rfl (hI.put0 p5.1 rfl rfl) (hX.upI (t_inO hI.wf p5.1 (t_outO hI.wf p5.1 rfl) rfl)) (fun g55 e55 hI hX => ?_)
              refine ev_ic f_X9_refuseToken (nx := 26) (v := 0) rfl (by decide) rfl ?_
              refine ev_retK1 f_X9_refuseToken rfl rfl rfl ?_
              refine ev_retK1 f_X9_takeKeyword rfl rfl rfl ?_
              refine ev_t f_X6_readFrost (t1 := 68) (t2 := 70) rfl rfl rfl (by decide) ?_
              refine ev_ic f_X6_readFrost (nx := 69) (v := 0) rfl (by decide) rfl ?_
              exact ev_ret f_X6_readFrost rfl rfl rfl ⟨_, _, _, rfl, hI, hX, ⟨_, rfl, (by decide : (0:Int) ≤ (0:Int32).toInt), (Int.le_trans (by decide : (0:Int32).toInt ≤ (0:Int)) (by decide : (0:Int) ≤ 1))⟩⟩
            · refine ev_loc f_X9_refuseToken (nx := 14) rfl rfl rfl rfl ?_
              refine ev_putIT f_X9_refuseToken (nx := 17) rfl p5.1 rfl rfl rfl (hI.put0 p5.1 rfl rfl) (hX.upI (t_inO hI.wf p5.1 (t_outO hI.wf p5.1 rfl) rfl)) (fun g56 e56 hI hX => ?_)
              refine ev_loc f_X9_refuseToken (nx := 18) rfl rfl rfl rfl ?_
              refine ev_loc f_X9_refuseToken (nx := 19) rfl rfl rfl rfl ?_
              refine ev_getI f_X9_refuseToken (nx := 22) rfl p5.1 rfl rfl rfl ?_
              obtain ⟨l57, u57⟩ := hI.b p5.1 (t_bdK rfl : t_bd 8 4 = some (0, 900))
              refine ev_putIT f_X9_refuseToken (nx := 25) rfl p5.1 rfl rfl rfl (hI.put0 p5.1 rfl rfl) (hX.upI (t_inO hI.wf p5.1 (t_outO hI.wf p5.1 rfl) rfl)) (fun g58 e58 hI hX => ?_)
              refine ev_ic f_X9_refuseToken (nx := 26) (v := 0) rfl (by decide) rfl ?_
              refine ev_retK1 f_X9_refuseToken rfl rfl rfl ?_
              refine ev_retK1 f_X9_takeKeyword rfl rfl rfl ?_
              refine ev_t f_X6_readFrost (t1 := 68) (t2 := 70) rfl rfl rfl (by decide) ?_
              refine ev_ic f_X6_readFrost (nx := 69) (v := 0) rfl (by decide) rfl ?_
              exact ev_ret f_X6_readFrost rfl rfl rfl ⟨_, _, _, rfl, hI, hX, ⟨_, rfl, (by decide : (0:Int) ≤ (0:Int32).toInt), (Int.le_trans (by decide : (0:Int32).toInt ≤ (0:Int)) (by decide : (0:Int) ≤ 1))⟩⟩
        · have l59 : 21 ≤ (gi6 a5 8).toInt := t_ltl (t_nle h18) (by decide : (20:Int) ≤ (20:Int32).toInt) rfl
          refine ev_loc f_X9_takeNumber (nx := 31) rfl rfl rfl rfl ?_
          refine ev_ic f_X9_takeNumber (nx := 32) (v := 4) rfl (by decide) rfl ?_
          refine ev_inV2 f_X9_takeNumber (nx := 35) (lo2 := [(0, .ref a5), (1, .int 4)]) rfl rfl rfl rfl f_X9_refuseToken p5.1 rfl rfl rfl rfl rfl ?_
          refine ev_loc f_X9_refuseToken (nx := 1) rfl rfl rfl rfl ?_
          refine ev_loc f_X9_refuseToken (nx := 2) rfl rfl rfl rfl ?_
          refine ev_gvI f_X9_refuseToken (nx := 5) (w := (g8 a5 3)) rfl p5.1 rfl rfl rfl rfl ?_
          refine ev_ic f_X9_refuseToken (nx := 6) (v := 4) rfl (by decide) rfl ?_
          refine ev_f f_X9_refuseToken (t1 := 9) (t2 := 13) rfl rfl rfl (t_neT u10 (by decide : (4:Int) ≤ (4:Int32).toInt) (by decide)) ?_
          refine ev_loc f_X9_refuseToken (nx := 14) rfl rfl rfl rfl ?_
          refine ev_putIT f_X9_refuseToken (nx := 17) rfl p5.1 rfl rfl rfl (hI.put0 p5.1 rfl rfl) (hX.upI (t_inO hI.wf p5.1 (t_outO hI.wf p5.1 rfl) rfl)) (fun g60 e60 hI hX => ?_)
          refine ev_loc f_X9_refuseToken (nx := 18) rfl rfl rfl rfl ?_
          refine ev_loc f_X9_refuseToken (nx := 19) rfl rfl rfl rfl ?_
          refine ev_getI f_X9_refuseToken (nx := 22) rfl p5.1 rfl rfl rfl ?_
          obtain ⟨l61, u61⟩ := hI.b p5.1 (t_bdK rfl : t_bd 8 4 = some (0, 900))
          refine ev_putIT f_X9_refuseToken (nx := 25) rfl p5.1 rfl rfl rfl (hI.put0 p5.1 rfl rfl) (hX.upI (t_inO hI.wf p5.1 (t_outO hI.wf p5.1 rfl) rfl)) (fun g62 e62 hI hX => ?_)
          refine ev_ic f_X9_refuseToken (nx := 26) (v := 0) rfl (by decide) rfl ?_
          refine ev_retK1 f_X9_refuseToken rfl rfl rfl ?_
          refine ev_retK1 f_X9_takeNumber rfl rfl rfl ?_
          refine ev_t f_X6_readFrost (t1 := 68) (t2 := 55) rfl rfl rfl (by decide) ?_
          refine ev_ic f_X6_readFrost (nx := 69) (v := 0) rfl (by decide) rfl ?_
          exact ev_ret f_X6_readFrost rfl rfl rfl ⟨_, _, _, rfl, hI, hX, ⟨_, rfl, (by decide : (0:Int) ≤ (0:Int32).toInt), (Int.le_trans (by decide : (0:Int32).toInt ≤ (0:Int)) (by decide : (0:Int) ≤ 1))⟩⟩
    · refine ev_loc f_X9_takeNumber (nx := 9) rfl rfl rfl rfl ?_
      refine ev_ic f_X9_takeNumber (nx := 10) (v := 2) rfl (by decide) rfl ?_
      refine ev_inV2 f_X9_takeNumber (nx := 13) (lo2 := [(0, .ref a5), (1, .int 2)]) rfl rfl rfl rfl f_X9_refuseToken p5.1 rfl rfl rfl rfl rfl ?_
      refine ev_loc f_X9_refuseToken (nx := 1) rfl rfl rfl rfl ?_
      refine ev_loc f_X9_refuseToken (nx := 2) rfl rfl rfl rfl ?_
      refine ev_gvI f_X9_refuseToken (nx := 5) (w := (g8 a5 3)) rfl p5.1 rfl rfl rfl rfl ?_
      refine ev_ic f_X9_refuseToken (nx := 6) (v := 4) rfl (by decide) rfl ?_
      refine ev_if f_X9_refuseToken (t1 := 9) (t2 := 13) rfl rfl rfl (fun h63 => ?_) (fun h63 => ?_)
      · have u64 : (g8 a5 3).toInt ≤ 4 := t_equ h63 (by decide : (4:Int32).toInt ≤ (4:Int))
        have l65 : 4 ≤ (g8 a5 3).toInt := t_eql h63 (by decide : (4:Int) ≤ (4:Int32).toInt)
        refine ev_ic f_X9_refuseToken (nx := 10) (v := 1) rfl (by decide) rfl ?_
        refine ev_jmp f_X9_refuseToken (nx := 14) rfl rfl rfl ?_
        refine ev_putIT f_X9_refuseToken (nx := 17) rfl p5.1 rfl rfl rfl (hI.put0 p5.1 rfl rfl) (hX.upI (t_inO hI.wf p5.1 (t_outO hI.wf p5.1 rfl) rfl)) (fun g66 e66 hI hX => ?_)
        refine ev_loc f_X9_refuseToken (nx := 18) rfl rfl rfl rfl ?_
        refine ev_loc f_X9_refuseToken (nx := 19) rfl rfl rfl rfl ?_
        refine ev_getI f_X9_refuseToken (nx := 22) rfl p5.1 rfl rfl rfl ?_
        obtain ⟨l67, u67⟩ := hI.b p5.1 (t_bdK rfl : t_bd 8 4 = some (0, 900))
        refine ev_putIT f_X9_refuseToken (nx := 25) rfl p5.1 rfl rfl rfl (hI.put0 p5.1 rfl rfl) (hX.upI (t_inO hI.wf p5.1 (t_outO hI.wf p5.1 rfl) rfl)) (fun g68 e68 hI hX => ?_)
        refine ev_ic f_X9_refuseToken (nx := 26) (v := 0) rfl (by decide) rfl ?_
        refine ev_retK1 f_X9_refuseToken rfl rfl rfl ?_
        refine ev_retK1 f_X9_takeNumber rfl rfl rfl ?_
        refine ev_t f_X6_readFrost (t1 := 68) (t2 := 55) rfl rfl rfl (by decide) ?_
        refine ev_ic f_X6_readFrost (nx := 69) (v := 0) rfl (by decide) rfl ?_
        exact ev_ret f_X6_readFrost rfl rfl rfl ⟨_, _, _, rfl, hI, hX, ⟨_, rfl, (by decide : (0:Int) ≤ (0:Int32).toInt), (Int.le_trans (by decide : (0:Int32).toInt ≤ (0:Int)) (by decide : (0:Int) ≤ 1))⟩⟩
      · refine ev_loc f_X9_refuseToken (nx := 14) rfl rfl rfl rfl ?_
        refine ev_putIT f_X9_refuseToken (nx := 17) rfl p5.1 rfl rfl rfl (hI.put0 p5.1 rfl rfl) (hX.upI (t_inO hI.wf p5.1 (t_outO hI.wf p5.1 rfl) rfl)) (fun g69 e69 hI hX => ?_)
        refine ev_loc f_X9_refuseToken (nx := 18) rfl rfl rfl rfl ?_
        refine ev_loc f_X9_refuseToken (nx := 19) rfl rfl rfl rfl ?_
        refine ev_getI f_X9_refuseToken (nx := 22) rfl p5.1 rfl rfl rfl ?_
        obtain ⟨l70, u70⟩ := hI.b p5.1 (t_bdK rfl : t_bd 8 4 = some (0, 900))
        refine ev_putIT f_X9_refuseToken (nx := 25) rfl p5.1 rfl rfl rfl (hI.put0 p5.1 rfl rfl) (hX.upI (t_inO hI.wf p5.1 (t_outO hI.wf p5.1 rfl) rfl)) (fun g71 e71 hI hX => ?_)
        refine ev_ic f_X9_refuseToken (nx := 26) (v := 0) rfl (by decide) rfl ?_
        refine ev_retK1 f_X9_refuseToken rfl rfl rfl ?_
        refine ev_retK1 f_X9_takeNumber rfl rfl rfl ?_
        refine ev_t f_X6_readFrost (t1 := 68) (t2 := 55) rfl rfl rfl (by decide) ?_
        refine ev_ic f_X6_readFrost (nx := 69) (v := 0) rfl (by decide) rfl ?_
        exact ev_ret f_X6_readFrost rfl rfl rfl ⟨_, _, _, rfl, hI, hX, ⟨_, rfl, (by decide : (0:Int) ≤ (0:Int32).toInt), (Int.le_trans (by decide : (0:Int32).toInt ≤ (0:Int)) (by decide : (0:Int) ≤ 1))⟩⟩
  · refine ev_loc f_X6_readFrost (nx := 8) rfl rfl rfl rfl ?_
    obtain ⟨a72, e72, p72⟩ := p_a0.2.1
    refine ev_getR f_X6_readFrost (nx := 11) rfl p_a0.1 rfl rfl e72 rfl rfl ?_
    refine ev_ic f_X6_readFrost (nx := 12) (v := 5) rfl (by decide) rfl ?_
    refine ev_inV2 f_X6_readFrost (nx := 15) (lo2 := [(0, .ref a72), (1, .int 5)]) rfl rfl rfl rfl f_X9_refuseToken p72.1 rfl rfl rfl rfl rfl ?_
    refine ev_loc f_X9_refuseToken (nx := 1) rfl rfl rfl rfl ?_
    refine ev_loc f_X9_refuseToken (nx := 2) rfl rfl rfl rfl ?_
    refine ev_getI f_X9_refuseToken (nx := 5) rfl p72.1 rfl rfl rfl ?_
    refine ev_ic f_X9_refuseToken (nx := 6) (v := 4) rfl (by decide) rfl ?_
    refine ev_if f_X9_refuseToken (t1 := 9) (t2 := 13) rfl rfl rfl (fun h73 => ?_) (fun h73 => ?_)
    · have u74 : (gi a72 3).toInt ≤ 4 := t_equ h73 (by decide : (4:Int32).toInt ≤ (4:Int))
      have l75 : 4 ≤ (gi a72 3).toInt := t_eql h73 (by decide : (4:Int) ≤ (4:Int32).toInt)
      refine ev_ic f_X9_refuseToken (nx := 10) (v := 1) rfl (by decide) rfl ?_
      refine ev_jmp f_X9_refuseToken (nx := 14) rfl rfl rfl ?_
      refine ev_putIT f_X9_refuseToken (nx := 17) rfl p72.1 rfl rfl rfl (hI.put0 p72.1 rfl rfl) (hX.upI (t_inO hI.wf p72.1 (t_outO hI.wf p72.1 rfl) rfl)) (fun g76 e76 hI hX => ?_)
      refine ev_loc f_X9_refuseToken (nx := 18) rfl rfl rfl rfl ?_
      refine ev_loc f_X9_refuseToken (nx := 19) rfl rfl rfl rfl ?_
      refine ev_getI f_X9_refuseToken (nx := 22) rfl p72.1 rfl rfl rfl ?_
      obtain ⟨l77, u77⟩ := hI.b p72.1 (t_bdK rfl : t_bd 8 4 = some (0, 900))
      refine ev_putIT f_X9_refuseToken (nx := 25) rfl p72.1 rfl rfl rfl (hI.put0 p72.1 rfl rfl) (hX.upI (t_inO hI.wf p72.1 (t_outO hI.wf p72.1 rfl) rfl)) (fun g78 e78 hI hX => ?_)
      refine ev_ic f_X9_refuseToken (nx := 26) (v := 0) rfl (by decide) rfl ?_
      refine ev_retK1 f_X9_refuseToken rfl rfl rfl ?_
      exact ev_ret f_X6_readFrost rfl rfl rfl ⟨_, _, _, rfl, hI, hX, ⟨_, rfl, (by decide : (0:Int) ≤ (0:Int32).toInt), (Int.le_trans (by decide : (0:Int32).toInt ≤ (0:Int)) (by decide : (0:Int) ≤ 1))⟩⟩
    · refine ev_loc f_X9_refuseToken (nx := 14) rfl rfl rfl rfl ?_
      refine ev_putIT f_X9_refuseToken (nx := 17) rfl p72.1 rfl rfl rfl (hI.put0 p72.1 rfl rfl) (hX.upI (t_inO hI.wf p72.1 (t_outO hI.wf p72.1 rfl) rfl)) (fun g79 e79 hI hX => ?_)
      refine ev_loc f_X9_refuseToken (nx := 18) rfl rfl rfl rfl ?_
      refine ev_loc f_X9_refuseToken (nx := 19) rfl rfl rfl rfl ?_
      refine ev_getI f_X9_refuseToken (nx := 22) rfl p72.1 rfl rfl rfl ?_
      obtain ⟨l80, u80⟩ := hI.b p72.1 (t_bdK rfl : t_bd 8 4 = some (0, 900))
      refine ev_putIT f_X9_refuseToken (nx := 25) rfl p72.1 rfl rfl rfl (hI.put0 p72.1 rfl rfl) (hX.upI (t_inO hI.wf p72.1 (t_outO hI.wf p72.1 rfl) rfl)) (fun g81 e81 hI hX => ?_)
      refine ev_ic f_X9_refuseToken (nx := 26) (v := 0) rfl (by decide) rfl ?_
      refine ev_retK1 f_X9_refuseToken rfl rfl rfl ?_
      exact ev_ret f_X6_readFrost rfl rfl rfl ⟨_, _, _, rfl, hI, hX, ⟨_, rfl, (by decide : (0:Int) ≤ (0:Int32).toInt), (Int.le_trans (by decide : (0:Int32).toInt ≤ (0:Int)) (by decide : (0:Int) ≤ 1))⟩⟩
noncomputable def wl_r_readEcho : List (Nat × Nat) := [(3, 6), (114, 6), (115, 7), (118, 2), (118, 3), (118, 4), (118, 5), (118, 6), (118, 7), (118, 8), (118, 9), (118, 10), (118, 11)]
theorem c_r_readEcho {X : x_Ext} {d : Nat} {sh : List (Nat ⊕ (Nat × Nat))} {gi : Nat → Nat → Int32} {gl : Nat → Nat → Int64} {gr : Nat → Nat → Value} (hI : t_I sh gi gr) (ar0 : Nat) (p_a0 : t_RR sh gr ar0) : x_Me X (d + 4) n_X6_readEcho [.ref ar0] (sh, gi, gl, gr) (t_P wl_r_readEcho sh gi gl gr (t_Ri 0 1)) := by
  have hX : t_X wl_r_readEcho sh gi gl gr gi gl gr := t_X.rf
  refine me_i f_X6_readEcho p_a0.1 rfl rfl rfl ?_
  refine ev_loc f_X6_readEcho (nx := 1) rfl rfl rfl rfl ?_
  refine ev_getI f_X6_readEcho (nx := 4) rfl p_a0.1 rfl rfl rfl ?_
  refine ev_if f_X6_readEcho (t1 := 16) (t2 := 7) rfl rfl rfl (fun h1 => ?_) (fun h1 => ?_)
  · have u2 : (gi ar0 7).toInt ≤ 0 := t_equ h1 (by decide : (0:Int32).toInt ≤ (0:Int))
    have l3 : 0 ≤ (gi ar0 7).toInt := t_eql h1 (by decide : (0:Int) ≤ (0:Int32).toInt)
    refine ev_loc f_X6_readEcho (nx := 17) rfl rfl rfl rfl ?_
    refine ev_ic f_X6_readEcho (nx := 18) (v := 1) rfl (by decide) rfl ?_
    refine ev_putZT f_X6_readEcho (nx := 21) rfl p_a0.1 rfl rfl (Int.le_trans (by decide : (0:Int) ≤ 1) (by decide : (1:Int) ≤ (1:Int32).toInt)) (by decide : (1:Int32).toInt ≤ (1:Int)) rfl (hI.put0 p_a0.1 rfl rfl) (hX.upI (t_inO hI.wf p_a0.1 (t_outO hI.wf p_a0.1 rfl) rfl)) (fun g4 e4 hI hX => ?_)
    refine ev_loc f_X6_readEcho (nx := 22) rfl rfl rfl rfl ?_
    obtain ⟨a5, e5, p5⟩ := p_a0.2.1
    refine ev_getR f_X6_readEcho (nx := 25) rfl p_a0.1 rfl rfl e5 rfl rfl ?_
    refine ev_c0 f_X6_readEcho (nx := 28) (r := []) rfl rfl rfl rfl rfl rfl rfl (c_step hI (a5) p5) rfl hX rfl (fun gi6 gl6 gr6 hI hX hC6 => ?_)
    replace p_a0 := p_a0.ext hC6.2
    replace p5 := p5.ext hC6.2
    refine ev_loc f_X6_readEcho (nx := 29) rfl rfl rfl rfl ?_
    obtain ⟨a7, e7, p7⟩ := p_a0.2.2.1
    refine ev_getR f_X6_readEcho (nx := 32) rfl p_a0.1 rfl rfl e7 rfl rfl ?_
    refine ev_loc f_X6_readEcho (nx := 33) rfl rfl rfl rfl ?_
    refine ev_getR f_X6_readEcho (nx := 36) (v := .ref a5) rfl p_a0.1 rfl rfl ((hC6.1 ar0 0 (t_ninO hI.wf p_a0.1 (t_outO hI.wf p_a0.1 rfl) rfl)).2.2.trans e5) rfl rfl ?_
    refine ev_getI f_X6_readEcho (nx := 39) rfl p5.1 rfl rfl rfl ?_
    refine ev_putIT f_X6_readEcho (nx := 42) rfl p7.1 rfl rfl rfl (hI.put0 p7.1 rfl rfl) (hX.upI (t_inO hI.wf p7.1 (t_outO hI.wf p7.1 rfl) rfl)) (fun g8 e8 hI hX => ?_)
    refine ev_loc f_X6_readEcho (nx := 43) rfl rfl rfl rfl ?_
    refine ev_getR f_X6_readEcho (nx := 46) (v := .ref a5) rfl p_a0.1 rfl rfl ((hC6.1 ar0 0 (t_ninO hI.wf p_a0.1 (t_outO hI.wf p_a0.1 rfl) rfl)).2.2.trans e5) rfl rfl ?_
    refine ev_ic f_X6_readEcho (nx := 47) (v := 0) rfl (by decide) rfl ?_
    refine ev_bp f_X6_readEcho (nx := 49) (v := 9) rfl (by decide) rfl ?_
    refine ev_inV3 f_X6_readEcho (nx := 52) (lo2 := [(0, .ref a5), (1, .int 0), (2, .int 9)]) rfl rfl rfl rfl f_X9_takeNumber p5.1 rfl rfl rfl rfl rfl ?_
    refine ev_loc f_X9_takeNumber (nx := 1) rfl rfl rfl rfl ?_
    refine ev_getI f_X9_takeNumber (nx := 4) rfl p5.1 rfl rfl rfl ?_
    refine ev_ic f_X9_takeNumber (nx := 5) (v := 1) rfl (by decide) rfl ?_
    refine ev_if f_X9_takeNumber (t1 := 14) (t2 := 8) rfl rfl rfl (fun h9 => ?_) (fun h9 => ?_)
    · have u10 : (g8 a5 3).toInt ≤ 1 := t_equ h9 (by decide : (1:Int32).toInt ≤ (1:Int))
      have l11 : 1 ≤ (g8 a5 3).toInt := t_eql h9 (by decide : (1:Int) ≤ (1:Int32).toInt)
      refine ev_loc f_X9_takeNumber (nx := 15) rfl rfl rfl rfl ?_
      refine ev_gvI f_X9_takeNumber (nx := 18) (w := (gi6 a5 8)) rfl p5.1 rfl rfl ((by rw [e8]; exact x_up2_off (Or.inr (by decide)) : g8 a5 8 = gi6 a5 8).trans rfl) rfl ?_
      refine ev_loc f_X9_takeNumber (nx := 19) rfl rfl rfl rfl ?_
      refine ev_if f_X9_takeNumber (t1 := 30) (t2 := 22) rfl rfl rfl (fun h12 => ?_) (fun h12 => ?_)
      · have u13 : (gi6 a5 8).toInt ≤ (-1) := t_ltu h12 (by decide : (0:Int32).toInt ≤ (0:Int)) rfl
        refine ev_loc f_X9_takeNumber (nx := 31) rfl rfl rfl rfl ?_
        refine ev_ic f_X9_takeNumber (nx := 32) (v := 4) rfl (by decide) rfl ?_
        refine ev_inV2 f_X9_takeNumber (nx := 35) (lo2 := [(0, .ref a5), (1, .int 4)]) rfl rfl rfl rfl f_X9_refuseToken p5.1 rfl rfl rfl rfl rfl ?_
        refine ev_loc f_X9_refuseToken (nx := 1) rfl rfl rfl rfl ?_
        refine ev_loc f_X9_refuseToken (nx := 2) rfl rfl rfl rfl ?_
        refine ev_gvI f_X9_refuseToken (nx := 5) (w := (g8 a5 3)) rfl p5.1 rfl rfl rfl rfl ?_
        refine ev_ic f_X9_refuseToken (nx := 6) (v := 4) rfl (by decide) rfl ?_
        refine ev_f f_X9_refuseToken (t1 := 9) (t2 := 13) rfl rfl rfl (t_neT u10 (by decide : (4:Int) ≤ (4:Int32).toInt) (by decide)) ?_
        refine ev_loc f_X9_refuseToken (nx := 14) rfl rfl rfl rfl ?_
        refine ev_putIT f_X9_refuseToken (nx := 17) rfl p5.1 rfl rfl rfl (hI.put0 p5.1 rfl rfl) (hX.upI (t_inO hI.wf p5.1 (t_outO hI.wf p5.1 rfl) rfl)) (fun g14 e14 hI hX => ?_)
        refine ev_loc f_X9_refuseToken (nx := 18) rfl rfl rfl rfl ?_
        refine ev_loc f_X9_refuseToken (nx := 19) rfl rfl rfl rfl ?_
        refine ev_getI f_X9_refuseToken (nx := 22) rfl p5.1 rfl rfl rfl ?_
        obtain ⟨l15, u15⟩ := hI.b p5.1 (t_bdK rfl : t_bd 8 4 = some (0, 900))
        refine ev_putIT f_X9_refuseToken (nx := 25) rfl p5.1 rfl rfl rfl (hI.put0 p5.1 rfl rfl) (hX.upI (t_inO hI.wf p5.1 (t_outO hI.wf p5.1 rfl) rfl)) (fun g16 e16 hI hX => ?_)
        refine ev_ic f_X9_refuseToken (nx := 26) (v := 0) rfl (by decide) rfl ?_
        refine ev_retK1 f_X9_refuseToken rfl rfl rfl ?_
        refine ev_retK1 f_X9_takeNumber rfl rfl rfl ?_
        exact ev_ret f_X6_readEcho rfl rfl rfl ⟨_, _, _, rfl, hI, hX, ⟨_, rfl, (by decide : (0:Int) ≤ (0:Int32).toInt), (Int.le_trans (by decide : (0:Int32).toInt ≤ (0:Int)) (by decide : (0:Int) ≤ 1))⟩⟩
      · have l17 : 0 ≤ (gi6 a5 8).toInt := t_lel (t_nlt h12) (by decide : (0:Int) ≤ (0:Int32).toInt)
        refine ev_loc f_X9_takeNumber (nx := 23) rfl rfl rfl rfl ?_
        refine ev_gvI f_X9_takeNumber (nx := 26) (w := (gi6 a5 8)) rfl p5.1 rfl rfl ((by rw [e8]; exact x_up2_off (Or.inr (by decide)) : g8 a5 8 = gi6 a5 8).trans rfl) rfl ?_
        refine ev_loc f_X9_takeNumber (nx := 27) rfl rfl rfl rfl ?_
        refine ev_if f_X9_takeNumber (t1 := 36) (t2 := 30) rfl rfl rfl (fun h18 => ?_) (fun h18 => ?_)
        · have u19 : (gi6 a5 8).toInt ≤ 9 := t_leu h18 (by decide : (9:Int32).toInt ≤ (9:Int))
          refine ev_loc f_X9_takeNumber (nx := 37) rfl rfl rfl rfl ?_
          refine ev_c0 f_X9_takeNumber (nx := 40) (r := []) rfl rfl rfl rfl rfl rfl rfl (c_step hI (a5) p5) rfl hX rfl (fun gi20 gl20 gr20 hI hX hC20 => ?_)
          replace p_a0 := p_a0.ext hC20.2
          replace p5 := p5.ext hC20.2
          replace p7 := p7.ext hC20.2
          refine ev_ic f_X9_takeNumber (nx := 41) (v := 1) rfl (by decide) rfl ?_
          refine ev_retK1 f_X9_takeNumber rfl rfl rfl ?_
          exact ev_ret f_X6_readEcho rfl rfl rfl ⟨_, _, _, rfl, hI, hX, ⟨_, rfl, (Int.le_trans (by decide : (0:Int) ≤ 1) (by decide : (1:Int) ≤ (1:Int32).toInt)), (by decide : (1:Int32).toInt ≤ (1:Int))⟩⟩
        · have l21 : 10 ≤ (gi6 a5 8).toInt := t_ltl (t_nle h18) (by decide : (9:Int) ≤ (9:Int32).toInt) rfl
          refine ev_loc f_X9_takeNumber (nx := 31) rfl rfl rfl rfl ?_
          refine ev_ic f_X9_takeNumber (nx := 32) (v := 4) rfl (by decide) rfl ?_
          refine ev_inV2 f_X9_takeNumber (nx := 35) (lo2 := [(0, .ref a5), (1, .int 4)]) rfl rfl rfl rfl f_X9_refuseToken p5.1 rfl rfl rfl rfl rfl ?_
          refine ev_loc f_X9_refuseToken (nx := 1) rfl rfl rfl rfl ?_
          refine ev_loc f_X9_refuseToken (nx := 2) rfl rfl rfl rfl ?_
          refine ev_gvI f_X9_refuseToken (nx := 5) (w := (g8 a5 3)) rfl p5.1 rfl rfl rfl rfl ?_
          refine ev_ic f_X9_refuseToken (nx := 6) (v := 4) rfl (by decide) rfl ?_
          refine ev_f f_X9_refuseToken (t1 := 9) (t2 := 13) rfl rfl rfl (t_neT u10 (by decide : (4:Int) ≤ (4:Int32).toInt) (by decide)) ?_
          refine ev_loc f_X9_refuseToken (nx := 14) rfl rfl rfl rfl ?_
          refine ev_putIT f_X9_refuseToken (nx := 17) rfl p5.1 rfl rfl rfl (hI.put0 p5.1 rfl rfl) (hX.upI (t_inO hI.wf p5.1 (t_outO hI.wf p5.1 rfl) rfl)) (fun g22 e22 hI hX => ?_)
          refine ev_loc f_X9_refuseToken (nx := 18) rfl rfl rfl rfl ?_
          refine ev_loc f_X9_refuseToken (nx := 19) rfl rfl rfl rfl ?_
          refine ev_getI f_X9_refuseToken (nx := 22) rfl p5.1 rfl rfl rfl ?_
          obtain ⟨l23, u23⟩ := hI.b p5.1 (t_bdK rfl : t_bd 8 4 = some (0, 900))
          refine ev_putIT f_X9_refuseToken (nx := 25) rfl p5.1 rfl rfl rfl (hI.put0 p5.1 rfl rfl) (hX.upI (t_inO hI.wf p5.1 (t_outO hI.wf p5.1 rfl) rfl)) (fun g24 e24 hI hX => ?_)
          refine ev_ic f_X9_refuseToken (nx := 26) (v := 0) rfl (by decide) rfl ?_
          refine ev_retK1 f_X9_refuseToken rfl rfl rfl ?_
          refine ev_retK1 f_X9_takeNumber rfl rfl rfl ?_
          exact ev_ret f_X6_readEcho rfl rfl rfl ⟨_, _, _, rfl, hI, hX, ⟨_, rfl, (by decide : (0:Int) ≤ (0:Int32).toInt), (Int.le_trans (by decide : (0:Int32).toInt ≤ (0:Int)) (by decide : (0:Int) ≤ 1))⟩⟩
    · refine ev_loc f_X9_takeNumber (nx := 9) rfl rfl rfl rfl ?_
      refine ev_ic f_X9_takeNumber (nx := 10) (v := 2) rfl (by decide) rfl ?_
      refine ev_inV2 f_X9_takeNumber (nx := 13) (lo2 := [(0, .ref a5), (1, .int 2)]) rfl rfl rfl rfl f_X9_refuseToken p5.1 rfl rfl rfl rfl rfl ?_
      refine ev_loc f_X9_refuseToken (nx := 1) rfl rfl rfl rfl ?_
      refine ev_loc f_X9_refuseToken (nx := 2) rfl rfl rfl rfl ?_
      refine ev_gvI f_X9_refuseToken (nx := 5) (w := (g8 a5 3)) rfl p5.1 rfl rfl rfl rfl ?_
      refine ev_ic f_X9_refuseToken (nx := 6) (v := 4) rfl (by decide) rfl ?_
      refine ev_if f_X9_refuseToken (t1 := 9) (t2 := 13) rfl rfl rfl (fun h25 => ?_) (fun h25 => ?_)
      · have u26 : (g8 a5 3).toInt ≤ 4 := t_equ h25 (by decide : (4:Int32).toInt ≤ (4:Int))
        have l27 : 4 ≤ (g8 a5 3).toInt := t_eql h25 (by decide : (4:Int) ≤ (4:Int32).toInt)
        refine ev_ic f_X9_refuseToken (nx := 10) (v := 1) rfl (by decide) rfl ?_
        refine ev_jmp f_X9_refuseToken (nx := 14) rfl rfl rfl ?_
        refine ev_putIT f_X9_refuseToken (nx := 17) rfl p5.1 rfl rfl rfl (hI.put0 p5.1 rfl rfl) (hX.upI (t_inO hI.wf p5.1 (t_outO hI.wf p5.1 rfl) rfl)) (fun g28 e28 hI hX => ?_)
        refine ev_loc f_X9_refuseToken (nx := 18) rfl rfl rfl rfl ?_
        refine ev_loc f_X9_refuseToken (nx := 19) rfl rfl rfl rfl ?_
        refine ev_getI f_X9_refuseToken (nx := 22) rfl p5.1 rfl rfl rfl ?_
        obtain ⟨l29, u29⟩ := hI.b p5.1 (t_bdK rfl : t_bd 8 4 = some (0, 900))
        refine ev_putIT f_X9_refuseToken (nx := 25) rfl p5.1 rfl rfl rfl (hI.put0 p5.1 rfl rfl) (hX.upI (t_inO hI.wf p5.1 (t_outO hI.wf p5.1 rfl) rfl)) (fun g30 e30 hI hX => ?_)
        refine ev_ic f_X9_refuseToken (nx := 26) (v := 0) rfl (by decide) rfl ?_
        refine ev_retK1 f_X9_refuseToken rfl rfl rfl ?_
        refine ev_retK1 f_X9_takeNumber rfl rfl rfl ?_
        exact ev_ret f_X6_readEcho rfl rfl rfl ⟨_, _, _, rfl, hI, hX, ⟨_, rfl, (by decide : (0:Int) ≤ (0:Int32).toInt), (Int.le_trans (by decide : (0:Int32).toInt ≤ (0:Int)) (by decide : (0:Int) ≤ 1))⟩⟩
      · refine ev_loc f_X9_refuseToken (nx := 14) rfl rfl rfl rfl ?_
        refine ev_putIT f_X9_refuseToken (nx := 17) rfl p5.1 rfl rfl rfl (hI.put0 p5.1 rfl rfl) (hX.upI (t_inO hI.wf p5.1 (t_outO hI.wf p5.1 rfl) rfl)) (fun g31 e31 hI hX => ?_)
        refine ev_loc f_X9_refuseToken (nx := 18) rfl rfl rfl rfl ?_
        refine ev_loc f_X9_refuseToken (nx := 19) rfl rfl rfl rfl ?_
        refine ev_getI f_X9_refuseToken (nx := 22) rfl p5.1 rfl rfl rfl ?_
        obtain ⟨l32, u32⟩ := hI.b p5.1 (t_bdK rfl : t_bd 8 4 = some (0, 900))
        refine ev_putIT f_X9_refuseToken (nx := 25) rfl p5.1 rfl rfl rfl (hI.put0 p5.1 rfl rfl) (hX.upI (t_inO hI.wf p5.1 (t_outO hI.wf p5.1 rfl) rfl)) (fun g33 e33 hI hX => ?_)
        refine ev_ic f_X9_refuseToken (nx := 26) (v := 0) rfl (by decide) rfl ?_
        refine ev_retK1 f_X9_refuseToken rfl rfl rfl ?_
        refine ev_retK1 f_X9_takeNumber rfl rfl rfl ?_
        exact ev_ret f_X6_readEcho rfl rfl rfl ⟨_, _, _, rfl, hI, hX, ⟨_, rfl, (by decide : (0:Int) ≤ (0:Int32).toInt), (Int.le_trans (by decide : (0:Int32).toInt ≤ (0:Int)) (by decide : (0:Int) ≤ 1))⟩⟩
  · refine ev_loc f_X6_readEcho (nx := 8) rfl rfl rfl rfl ?_
    obtain ⟨a34, e34, p34⟩ := p_a0.2.1
    refine ev_getR f_X6_readEcho (nx := 11) rfl p_a0.1 rfl rfl e34 rfl rfl ?_
    refine ev_ic f_X6_readEcho (nx := 12) (v := 5) rfl (by decide) rfl ?_
    refine ev_inV2 f_X6_readEcho (nx := 15) (lo2 := [(0, .ref a34), (1, .int 5)]) rfl rfl rfl rfl f_X9_refuseToken p34.1 rfl rfl rfl rfl rfl ?_
    refine ev_loc f_X9_refuseToken (nx := 1) rfl rfl rfl rfl ?_
    refine ev_loc f_X9_refuseToken (nx := 2) rfl rfl rfl rfl ?_
    refine ev_getI f_X9_refuseToken (nx := 5) rfl p34.1 rfl rfl rfl ?_
    refine ev_ic f_X9_refuseToken (nx := 6) (v := 4) rfl (by decide) rfl ?_
    refine ev_if f_X9_refuseToken (t1 := 9) (t2 := 13) rfl rfl rfl (fun h35 => ?_) (fun h35 => ?_)
    · have u36 : (gi a34 3).toInt ≤ 4 := t_equ h35 (by decide : (4:Int32).toInt ≤ (4:Int))
      have l37 : 4 ≤ (gi a34 3).toInt := t_eql h35 (by decide : (4:Int) ≤ (4:Int32).toInt)
      refine ev_ic f_X9_refuseToken (nx := 10) (v := 1) rfl (by decide) rfl ?_
      refine ev_jmp f_X9_refuseToken (nx := 14) rfl rfl rfl ?_
      refine ev_putIT f_X9_refuseToken (nx := 17) rfl p34.1 rfl rfl rfl (hI.put0 p34.1 rfl rfl) (hX.upI (t_inO hI.wf p34.1 (t_outO hI.wf p34.1 rfl) rfl)) (fun g38 e38 hI hX => ?_)
      refine ev_loc f_X9_refuseToken (nx := 18) rfl rfl rfl rfl ?_
      refine ev_loc f_X9_refuseToken (nx := 19) rfl rfl rfl rfl ?_
      refine ev_getI f_X9_refuseToken (nx := 22) rfl p34.1 rfl rfl rfl ?_
      obtain ⟨l39, u39⟩ := hI.b p34.1 (t_bdK rfl : t_bd 8 4 = some (0, 900))
      refine ev_putIT f_X9_refuseToken (nx := 25) rfl p34.1 rfl rfl rfl (hI.put0 p34.1 rfl rfl) (hX.upI (t_inO hI.wf p34.1 (t_outO hI.wf p34.1 rfl) rfl)) (fun g40 e40 hI hX => ?_)
      refine ev_ic f_X9_refuseToken (nx := 26) (v := 0) rfl (by decide) rfl ?_
      refine ev_retK1 f_X9_refuseToken rfl rfl rfl ?_
      exact ev_ret f_X6_readEcho rfl rfl rfl ⟨_, _, _, rfl, hI, hX, ⟨_, rfl, (by decide : (0:Int) ≤ (0:Int32).toInt), (Int.le_trans (by decide : (0:Int32).toInt ≤ (0:Int)) (by decide : (0:Int) ≤ 1))⟩⟩
    · refine ev_loc f_X9_refuseToken (nx := 14) rfl rfl rfl rfl ?_
      refine ev_putIT f_X9_refuseToken (nx := 17) rfl p34.1 rfl rfl rfl (hI.put0 p34.1 rfl rfl) (hX.upI (t_inO hI.wf p34.1 (t_outO hI.wf p34.1 rfl) rfl)) (fun g41 e41 hI hX => ?_)
      refine ev_loc f_X9_refuseToken (nx := 18) rfl rfl rfl rfl ?_
      refine ev_loc f_X9_refuseToken (nx := 19) rfl rfl rfl rfl ?_
      refine ev_getI f_X9_refuseToken (nx := 22) rfl p34.1 rfl rfl rfl ?_
      obtain ⟨l42, u42⟩ := hI.b p34.1 (t_bdK rfl : t_bd 8 4 = some (0, 900))
      refine ev_putIT f_X9_refuseToken (nx := 25) rfl p34.1 rfl rfl rfl (hI.put0 p34.1 rfl rfl) (hX.upI (t_inO hI.wf p34.1 (t_outO hI.wf p34.1 rfl) rfl)) (fun g43 e43 hI hX => ?_)
      refine ev_ic f_X9_refuseToken (nx := 26) (v := 0) rfl (by decide) rfl ?_
      refine ev_retK1 f_X9_refuseToken rfl rfl rfl ?_
      exact ev_ret f_X6_readEcho rfl rfl rfl ⟨_, _, _, rfl, hI, hX, ⟨_, rfl, (by decide : (0:Int) ≤ (0:Int32).toInt), (Int.le_trans (by decide : (0:Int32).toInt ≤ (0:Int)) (by decide : (0:Int) ≤ 1))⟩⟩
noncomputable def wl_r_readShip : List (Nat × Nat) := [(6, 0), (7, 9999), (8, 9999), (9, 9999), (10, 9999), (11, 9999), (12, 9999), (13, 0), (14, 9999), (15, 9999), (16, 9999), (17, 9999), (18, 9999), (29, 0), (30, 9999), (31, 9999), (32, 9999), (33, 9999), (34, 9999), (35, 0), (36, 9999), (37, 9999), (38, 9999), (39, 9999), (40, 9999), (43, 9999), (44, 9999), (46, 0), (47, 9999), (48, 9999), (49, 9999), (50, 9999), (51, 9999), (52, 0), (53, 9999), (54, 9999), (55, 9999), (56, 9999), (57, 9999), (58, 9999), (59, 9999), (113, 0), (115, 4), (118, 2), (118, 3), (118, 4), (118, 5), (118, 6), (118, 7), (118, 8), (118, 9), (118, 10), (118, 11), (130, 9999), (131, 9999), (133, 9999)]
theorem c_r_readShip {X : x_Ext} {d : Nat} {sh : List (Nat ⊕ (Nat × Nat))} {gi : Nat → Nat → Int32} {gl : Nat → Nat → Int64} {gr : Nat → Nat → Value} (hI : t_I sh gi gr) (ar0 : Nat) (p_a0 : t_RR sh gr ar0) : x_Me X (d + 5) n_X6_readShip [.ref ar0] (sh, gi, gl, gr) (t_P wl_r_readShip sh gi gl gr (t_Ri 0 1)) := by
  have hX : t_X wl_r_readShip sh gi gl gr gi gl gr := t_X.rf
  refine me_i f_X6_readShip p_a0.1 rfl rfl rfl ?_
  refine ev_loc f_X6_readShip (nx := 1) rfl rfl rfl rfl ?_
  obtain ⟨a1, e1, p1⟩ := p_a0.2.2.1
  refine ev_getR f_X6_readShip (nx := 4) rfl p_a0.1 rfl rfl e1 rfl rfl ?_
  obtain ⟨a2, e2, p2⟩ := p1.2.2.2.2.1
  refine ev_getR f_X6_readShip (nx := 7) rfl p1.1 rfl rfl e2 rfl rfl ?_
  refine ev_getI f_X6_readShip (nx := 10) rfl p2.1 rfl rfl rfl ?_
  obtain ⟨l3, u3⟩ := hI.b p2.1 (t_bdK rfl : t_bd 3 0 = some (0, 6))
  refine ev_loc f_X6_readShip (nx := 11) (lo' := [(1, .int (gi a2 0)), (0, .ref ar0)]) rfl rfl rfl rfl ?_
  refine ev_loc f_X6_readShip (nx := 12) rfl rfl rfl rfl ?_
  refine ev_bp f_X6_readShip (nx := 14) (v := 6) rfl (by decide) rfl ?_
  refine ev_if f_X6_readShip (t1 := 27) (t2 := 17) rfl rfl rfl (fun h4 => ?_) (fun h4 => ?_)
  · have u5 : (gi a2 0).toInt ≤ 5 := t_ltu h4 (by decide : (6:Int32).toInt ≤ (6:Int)) rfl
    refine ev_loc f_X6_readShip (nx := 28) rfl rfl rfl rfl ?_
    obtain ⟨a6, e6, p6⟩ := p_a0.2.1
    refine ev_getR f_X6_readShip (nx := 31) rfl p_a0.1 rfl rfl e6 rfl rfl ?_
    refine ev_c0 f_X6_readShip (nx := 34) (r := []) rfl rfl rfl rfl rfl rfl rfl (c_step hI (a6) p6) rfl hX rfl (fun gi7 gl7 gr7 hI hX hC7 => ?_)
    replace p_a0 := p_a0.ext hC7.2
    replace p1 := p1.ext hC7.2
    replace p2 := p2.ext hC7.2
    replace p6 := p6.ext hC7.2
    refine ev_loc f_X6_readShip (nx := 35) rfl rfl rfl rfl ?_
    refine ev_cI f_X6_readShip (nx := 38) (r := []) rfl rfl rfl rfl rfl rfl rfl (c_takeNewName hI (ar0) p_a0) rfl hX rfl (fun w8 gi8 gl8 gr8 l8 u8 hI hX hC8 => ?_)
    replace p_a0 := p_a0.ext hC8.2
    replace p1 := p1.ext hC8.2
    replace p2 := p2.ext hC8.2
    replace p6 := p6.ext hC8.2
    refine ev_if f_X6_readShip (t1 := 54) (t2 := 41) rfl rfl rfl (fun h9 => ?_) (fun h9 => ?_)
    · have u10 : w8.toInt ≤ 0 := t_equ h9 (by decide : (0:Int32).toInt ≤ (0:Int))
      refine ev_ic f_X6_readShip (nx := 55) (v := 0) rfl (by decide) rfl ?_
      exact ev_ret f_X6_readShip rfl rfl rfl ⟨_, _, _, rfl, hI, hX, ⟨_, rfl, (by decide : (0:Int) ≤ (0:Int32).toInt), (Int.le_trans (by decide : (0:Int32).toInt ≤ (0:Int)) (by decide : (0:Int) ≤ 1))⟩⟩
    · have l11 : 1 ≤ w8.toInt := t_nel h9 l8 rfl rfl
      refine ev_loc f_X6_readShip (nx := 42) rfl rfl rfl rfl ?_
      refine ev_getR f_X6_readShip (nx := 45) (v := .ref a6) rfl p_a0.1 rfl rfl ((hC8.1 ar0 0 (t_ninO hI.wf p_a0.1 (t_outO hI.wf p_a0.1 rfl) rfl)).2.2.trans ((hC7.1 ar0 0 (t_ninO hI.wf p_a0.1 (t_outO hI.wf p_a0.1 rfl) rfl)).2.2.trans e6)) rfl rfl ?_
      refine ev_heap f_X6_readShip (nx := 48) rfl rfl rfl rfl ?_
      refine ev_inV2 f_X6_readShip (nx := 51) (lo2 := [(0, .ref a6), (1, .retAddr 7)]) rfl rfl rfl rfl f_X9_takeKeyword p6.1 rfl rfl rfl rfl rfl ?_
      refine ev_loc f_X9_takeKeyword (nx := 1) rfl rfl rfl rfl ?_
      have k12 := hI.2.2.2.1.2.2.2.2.2 a6 p6.1
      obtain ⟨v12, e12⟩ : ∃ v, gr8 a6 7 = v := ⟨_, rfl⟩
      rw [e12] at k12
      refine ev_getR f_X9_takeKeyword (nx := 4) rfl p6.1 rfl rfl e12 (t_KwR k12) rfl ?_
      refine ev_loc f_X9_takeKeyword (nx := 5) rfl rfl rfl rfl ?_
      refine ev_ack f_X9_takeKeyword (t1 := 14) (t2 := 8) rfl rfl rfl (t_knw k12) rfl (fun h13 => ?_) (fun h13 => ?_)
      · refine ev_loc f_X9_takeKeyword (nx := 15) rfl rfl rfl rfl ?_
        refine ev_c0 f_X9_takeKeyword (nx := 18) (r := []) rfl rfl rfl rfl rfl rfl rfl (c_step hI (a6) p6) rfl hX rfl (fun gi14 gl14 gr14 hI hX hC14 => ?_)
        replace p_a0 := p_a0.ext hC14.2
        replace p6 := p6.ext hC14.2
        replace p1 := p1.ext hC14.2
        replace p2 := p2.ext hC14.2
        refine ev_ic f_X9_takeKeyword (nx := 19) (v := 1) rfl (by decide) rfl ?_
        refine ev_retK1 f_X9_takeKeyword rfl rfl rfl ?_
        refine ev_f f_X6_readShip (t1 := 54) (t2 := 56) rfl rfl rfl (by decide) ?_
        refine ev_loc f_X6_readShip (nx := 57) rfl rfl rfl rfl ?_
        refine ev_getR f_X6_readShip (nx := 60) (v := .ref a6) rfl p_a0.1 rfl rfl ((hC14.1 ar0 0 (t_ninO hI.wf p_a0.1 (t_outO hI.wf p_a0.1 rfl) rfl)).2.2.trans ((hC8.1 ar0 0 (t_ninO hI.wf p_a0.1 (t_outO hI.wf p_a0.1 rfl) rfl)).2.2.trans ((hC7.1 ar0 0 (t_ninO hI.wf p_a0.1 (t_outO hI.wf p_a0.1 rfl) rfl)).2.2.trans e6))) rfl rfl ?_
        refine ev_inV1 f_X6_readShip (nx := 63) (lo2 := [(0, .ref a6)]) rfl rfl rfl rfl f_X9_isName p6.1 rfl rfl rfl rfl rfl ?_
        refine ev_loc f_X9_isName (nx := 1) rfl rfl rfl rfl ?_
        refine ev_getI f_X9_isName (nx := 4) rfl p6.1 rfl rfl rfl ?_
        refine ev_if f_X9_isName (t1 := 7) (t2 := 27) rfl rfl rfl (fun h15 => ?_) (fun h15 => ?_)
        · have u16 : (gi14 a6 3).toInt ≤ 0 := t_equ h15 (by decide : (0:Int32).toInt ≤ (0:Int))
          have l17 : 0 ≤ (gi14 a6 3).toInt := t_eql h15 (by decide : (0:Int) ≤ (0:Int32).toInt)
          refine ev_loc f_X9_isName (nx := 8) rfl rfl rfl rfl ?_
          have k18 := hI.2.2.2.1.2.2.2.2.2 a6 p6.1
          obtain ⟨v18, e18⟩ : ∃ v, gr14 a6 7 = v := ⟨_, rfl⟩
          rw [e18] at k18
          refine ev_getR f_X9_isName (nx := 11) rfl p6.1 rfl rfl e18 (t_KwR k18) rfl ?_
          refine ev_nul f_X9_isName (t1 := 14) (t2 := 27) rfl rfl rfl (t_knw k18) (fun h19 => ?_) (fun h19 => ?_)
          · refine ev_loc f_X9_isName (nx := 15) rfl rfl rfl rfl ?_
            refine ev_getI f_X9_isName (nx := 18) rfl p6.1 rfl rfl rfl ?_
            refine ev_bp f_X9_isName (nx := 20) (v := 8) rfl (by decide) rfl ?_
            refine ev_if f_X9_isName (t1 := 27) (t2 := 23) rfl rfl rfl (fun h20 => ?_) (fun h20 => ?_)
            · have l21 : 9 ≤ (gi14 a6 5).toInt := t_ltl h20 (by decide : (8:Int) ≤ (8:Int32).toInt) rfl
              refine ev_ic f_X9_isName (nx := 28) (v := 0) rfl (by decide) rfl ?_
              refine ev_retK1 f_X9_isName rfl rfl rfl ?_
              refine ev_t f_X6_readShip (t1 := 66) (t2 := 75) rfl rfl rfl (by decide) ?_
              refine ev_loc f_X6_readShip (nx := 67) rfl rfl rfl rfl ?_
              refine ev_getR f_X6_readShip (nx := 70) (v := .ref a6) rfl p_a0.1 rfl rfl ((hC14.1 ar0 0 (t_ninO hI.wf p_a0.1 (t_outO hI.wf p_a0.1 rfl) rfl)).2.2.trans ((hC8.1 ar0 0 (t_ninO hI.wf p_a0.1 (t_outO hI.wf p_a0.1 rfl) rfl)).2.2.trans ((hC7.1 ar0 0 (t_ninO hI.wf p_a0.1 (t_outO hI.wf p_a0.1 rfl) rfl)).2.2.trans e6))) rfl rfl ?_
              refine ev_ic f_X6_readShip (nx := 71) (v := 2) rfl (by decide) rfl ?_
              refine ev_inV2 f_X6_readShip (nx := 74) (lo2 := [(0, .ref a6), (1, .int 2)]) rfl rfl rfl rfl f_X9_refuseToken p6.1 rfl rfl rfl rfl rfl ?_
              refine ev_loc f_X9_refuseToken (nx := 1) rfl rfl rfl rfl ?_
              refine ev_loc f_X9_refuseToken (nx := 2) rfl rfl rfl rfl ?_
              refine ev_gvI f_X9_refuseToken (nx := 5) (w := (gi14 a6 3)) rfl p6.1 rfl rfl rfl rfl ?_
              refine ev_ic f_X9_refuseToken (nx := 6) (v := 4) rfl (by decide) rfl ?_
              refine ev_f f_X9_refuseToken (t1 := 9) (t2 := 13) rfl rfl rfl (t_neT u16 (by decide : (4:Int) ≤ (4:Int32).toInt) (by decide)) ?_
              refine ev_loc f_X9_refuseToken (nx := 14) rfl rfl rfl rfl ?_
              refine ev_putIT f_X9_refuseToken (nx := 17) rfl p6.1 rfl rfl rfl (hI.put0 p6.1 rfl rfl) (hX.upI (t_inO hI.wf p6.1 (t_outO hI.wf p6.1 rfl) rfl)) (fun g22 e22 hI hX => ?_)
              refine ev_loc f_X9_refuseToken (nx := 18) rfl rfl rfl rfl ?_
              refine ev_loc f_X9_refuseToken (nx := 19) rfl rfl rfl rfl ?_
              refine ev_getI f_X9_refuseToken (nx := 22) rfl p6.1 rfl rfl rfl ?_
              obtain ⟨l23, u23⟩ := hI.b p6.1 (t_bdK rfl : t_bd 8 4 = some (0, 900))
              refine ev_putIT f_X9_refuseToken (nx := 25) rfl p6.1 rfl rfl rfl (hI.put0 p6.1 rfl rfl) (hX.upI (t_inO hI.wf p6.1 (t_outO hI.wf p6.1 rfl) rfl)) (fun g24 e24 hI hX => ?_)
              refine ev_ic f_X9_refuseToken (nx := 26) (v := 0) rfl (by decide) rfl ?_
              refine ev_retK1 f_X9_refuseToken rfl rfl rfl ?_
              exact ev_ret f_X6_readShip rfl rfl rfl ⟨_, _, _, rfl, hI, hX, ⟨_, rfl, (by decide : (0:Int) ≤ (0:Int32).toInt), (Int.le_trans (by decide : (0:Int32).toInt ≤ (0:Int)) (by decide : (0:Int) ≤ 1))⟩⟩
            · have u25 : (gi14 a6 5).toInt ≤ 8 := t_leu (t_nlt h20) (by decide : (8:Int32).toInt ≤ (8:Int))
              refine ev_ic f_X9_isName (nx := 24) (v := 1) rfl (by decide) rfl ?_
              refine ev_jmp f_X9_isName (nx := 28) rfl rfl rfl ?_
              refine ev_retK1 f_X9_isName rfl rfl rfl ?_
              refine ev_f f_X6_readShip (t1 := 66) (t2 := 75) rfl rfl rfl (by decide) ?_
              refine ev_loc f_X6_readShip (nx := 76) rfl rfl rfl rfl ?_
              refine ev_loc f_X6_readShip (nx := 77) rfl rfl rfl rfl ?_
              refine ev_getR f_X6_readShip (nx := 80) (v := .ref a6) rfl p_a0.1 rfl rfl ((hC14.1 ar0 0 (t_ninO hI.wf p_a0.1 (t_outO hI.wf p_a0.1 rfl) rfl)).2.2.trans ((hC8.1 ar0 0 (t_ninO hI.wf p_a0.1 (t_outO hI.wf p_a0.1 rfl) rfl)).2.2.trans ((hC7.1 ar0 0 (t_ninO hI.wf p_a0.1 (t_outO hI.wf p_a0.1 rfl) rfl)).2.2.trans e6))) rfl rfl ?_
              refine ev_getL f_X6_readShip (nx := 83) rfl p6.1 rfl rfl rfl ?_
              refine ev_cI f_X6_readShip (nx := 86) (r := []) rfl rfl rfl rfl rfl rfl rfl (c_portNamed hI (ar0) p_a0 ((gl14 a6 6))) rfl hX rfl (fun w26 gi26 gl26 gr26 l26 u26 hI hX hC26 => ?_)
              replace p_a0 := p_a0.ext hC26.2
              replace p1 := p1.ext hC26.2
              replace p2 := p2.ext hC26.2
              replace p6 := p6.ext hC26.2
              refine ev_loc f_X6_readShip (nx := 87) (lo' := [(2, .int w26), (1, .int (gi a2 0)), (0, .ref ar0)]) rfl rfl rfl rfl ?_
              refine ev_loc f_X6_readShip (nx := 88) rfl rfl rfl rfl ?_
              refine ev_ic f_X6_readShip (nx := 89) (v := -1) rfl (by decide) rfl ?_
              refine ev_if f_X6_readShip (t1 := 92) (t2 := 101) rfl rfl rfl (fun h27 => ?_) (fun h27 => ?_)
              · have u28 : w26.toInt ≤ (-1) := t_equ h27 (by decide : ((-1):Int32).toInt ≤ ((-1):Int))
                refine ev_loc f_X6_readShip (nx := 93) rfl rfl rfl rfl ?_
                refine ev_getR f_X6_readShip (nx := 96) (v := .ref a6) rfl p_a0.1 rfl rfl ((hC26.1 ar0 0 (t_ninO hI.wf p_a0.1 (t_outO hI.wf p_a0.1 rfl) rfl)).2.2.trans ((hC14.1 ar0 0 (t_ninO hI.wf p_a0.1 (t_outO hI.wf p_a0.1 rfl) rfl)).2.2.trans ((hC8.1 ar0 0 (t_ninO hI.wf p_a0.1 (t_outO hI.wf p_a0.1 rfl) rfl)).2.2.trans ((hC7.1 ar0 0 (t_ninO hI.wf p_a0.1 (t_outO hI.wf p_a0.1 rfl) rfl)).2.2.trans e6)))) rfl rfl ?_
                refine ev_ic f_X6_readShip (nx := 97) (v := 3) rfl (by decide) rfl ?_
                refine ev_inV2 f_X6_readShip (nx := 100) (lo2 := [(0, .ref a6), (1, .int 3)]) rfl rfl rfl rfl f_X9_refuseToken p6.1 rfl rfl rfl rfl rfl ?_
                refine ev_loc f_X9_refuseToken (nx := 1) rfl rfl rfl rfl ?_
                refine ev_loc f_X9_refuseToken (nx := 2) rfl rfl rfl rfl ?_
                refine ev_gvI f_X9_refuseToken (nx := 5) (w := (gi14 a6 3)) rfl p6.1 rfl rfl ((hC26.1 a6 3 (t_ninO hI.wf p6.1 (t_outO hI.wf p6.1 rfl) rfl)).1.trans rfl) rfl ?_
                refine ev_ic f_X9_refuseToken (nx := 6) (v := 4) rfl (by decide) rfl ?_
                refine ev_f f_X9_refuseToken (t1 := 9) (t2 := 13) rfl rfl rfl (t_neT u16 (by decide : (4:Int) ≤ (4:Int32).toInt) (by decide)) ?_
                refine ev_loc f_X9_refuseToken (nx := 14) rfl rfl rfl rfl ?_
                refine ev_putIT f_X9_refuseToken (nx := 17) rfl p6.1 rfl rfl rfl (hI.put0 p6.1 rfl rfl) (hX.upI (t_inO hI.wf p6.1 (t_outO hI.wf p6.1 rfl) rfl)) (fun g29 e29 hI hX => ?_)
                refine ev_loc f_X9_refuseToken (nx := 18) rfl rfl rfl rfl ?_
                refine ev_loc f_X9_refuseToken (nx := 19) rfl rfl rfl rfl ?_
                refine ev_getI f_X9_refuseToken (nx := 22) rfl p6.1 rfl rfl rfl ?_
                obtain ⟨l30, u30⟩ := hI.b p6.1 (t_bdK rfl : t_bd 8 4 = some (0, 900))
                refine ev_putIT f_X9_refuseToken (nx := 25) rfl p6.1 rfl rfl rfl (hI.put0 p6.1 rfl rfl) (hX.upI (t_inO hI.wf p6.1 (t_outO hI.wf p6.1 rfl) rfl)) (fun g31 e31 hI hX => ?_)
                refine ev_ic f_X9_refuseToken (nx := 26) (v := 0) rfl (by decide) rfl ?_
                refine ev_retK1 f_X9_refuseToken rfl rfl rfl ?_
                exact ev_ret f_X6_readShip rfl rfl rfl ⟨_, _, _, rfl, hI, hX, ⟨_, rfl, (by decide : (0:Int) ≤ (0:Int32).toInt), (Int.le_trans (by decide : (0:Int32).toInt ≤ (0:Int)) (by decide : (0:Int) ≤ 1))⟩⟩
              · have l32 : 0 ≤ w26.toInt := t_nel h27 l26 rfl rfl
                refine ev_loc f_X6_readShip (nx := 102) rfl rfl rfl rfl ?_
                refine ev_getR f_X6_readShip (nx := 105) (v := .ref a6) rfl p_a0.1 rfl rfl ((hC26.1 ar0 0 (t_ninO hI.wf p_a0.1 (t_outO hI.wf p_a0.1 rfl) rfl)).2.2.trans ((hC14.1 ar0 0 (t_ninO hI.wf p_a0.1 (t_outO hI.wf p_a0.1 rfl) rfl)).2.2.trans ((hC8.1 ar0 0 (t_ninO hI.wf p_a0.1 (t_outO hI.wf p_a0.1 rfl) rfl)).2.2.trans ((hC7.1 ar0 0 (t_ninO hI.wf p_a0.1 (t_outO hI.wf p_a0.1 rfl) rfl)).2.2.trans e6)))) rfl rfl ?_
                refine ev_c0 f_X6_readShip (nx := 108) (r := []) rfl rfl rfl rfl rfl rfl rfl (c_step hI (a6) p6) rfl hX rfl (fun gi33 gl33 gr33 hI hX hC33 => ?_)
                replace p_a0 := p_a0.ext hC33.2
                replace p1 := p1.ext hC33.2
                replace p2 := p2.ext hC33.2
                replace p6 := p6.ext hC33.2
                refine ev_loc f_X6_readShip (nx := 109) rfl rfl rfl rfl ?_
                refine ev_getR f_X6_readShip (nx := 112) (v := .ref a1) rfl p_a0.1 rfl rfl ((hC33.1 ar0 1 (t_ninO hI.wf p_a0.1 (t_outO hI.wf p_a0.1 rfl) rfl)).2.2.trans ((hC26.1 ar0 1 (t_ninO hI.wf p_a0.1 (t_outO hI.wf p_a0.1 rfl) rfl)).2.2.trans ((hC14.1 ar0 1 (t_ninO hI.wf p_a0.1 (t_outO hI.wf p_a0.1 rfl) rfl)).2.2.trans ((hC8.1 ar0 1 (t_ninO hI.wf p_a0.1 (t_outO hI.wf p_a0.1 rfl) rfl)).2.2.trans ((hC7.1 ar0 1 (t_ninO hI.wf p_a0.1 (t_outO hI.wf p_a0.1 rfl) rfl)).2.2.trans e1))))) rfl rfl ?_
                obtain ⟨a34, e34, s34, o34⟩ := p1.2.2.2.1
                refine ev_getR f_X6_readShip (nx := 115) rfl p1.1 rfl rfl e34 rfl rfl ?_
                refine ev_loc f_X6_readShip (nx := 116) rfl rfl rfl rfl ?_
                refine ev_loc f_X6_readShip (nx := 117) rfl rfl rfl rfl ?_
                refine ev_iastT f_X6_readShip (nx := 118) rfl s34 l3 (by decide) u5 (by decide) rfl (hI.astO s34 o34 (by decide +kernel)) (hX.upI (t_inOA hI.wf s34 o34 rfl)) (fun g35 e35 hI hX => ?_)
                refine ev_loc f_X6_readShip (nx := 119) rfl rfl rfl rfl ?_
                refine ev_loc f_X6_readShip (nx := 120) rfl rfl rfl rfl ?_
                refine ev_getR f_X6_readShip (nx := 123) (v := .ref a1) rfl p_a0.1 rfl rfl ((hC33.1 ar0 1 (t_ninO hI.wf p_a0.1 (t_outO hI.wf p_a0.1 rfl) rfl)).2.2.trans ((hC26.1 ar0 1 (t_ninO hI.wf p_a0.1 (t_outO hI.wf p_a0.1 rfl) rfl)).2.2.trans ((hC14.1 ar0 1 (t_ninO hI.wf p_a0.1 (t_outO hI.wf p_a0.1 rfl) rfl)).2.2.trans ((hC8.1 ar0 1 (t_ninO hI.wf p_a0.1 (t_outO hI.wf p_a0.1 rfl) rfl)).2.2.trans ((hC7.1 ar0 1 (t_ninO hI.wf p_a0.1 (t_outO hI.wf p_a0.1 rfl) rfl)).2.2.trans e1))))) rfl rfl ?_
                refine ev_getR f_X6_readShip (nx := 126) (v := .ref a2) rfl p1.1 rfl rfl ((hC33.1 a1 7 (t_ninO hI.wf p1.1 (t_outO hI.wf p1.1 rfl) rfl)).2.2.trans ((hC26.1 a1 7 (t_ninO hI.wf p1.1 (t_outO hI.wf p1.1 rfl) rfl)).2.2.trans ((hC14.1 a1 7 (t_ninO hI.wf p1.1 (t_outO hI.wf p1.1 rfl) rfl)).2.2.trans ((hC8.1 a1 7 (t_ninO hI.wf p1.1 (t_outO hI.wf p1.1 rfl) rfl)).2.2.trans ((hC7.1 a1 7 (t_ninO hI.wf p1.1 (t_outO hI.wf p1.1 rfl) rfl)).2.2.trans e2))))) rfl rfl ?_
                refine ev_inV2 f_X6_readShip (nx := 129) (lo2 := [(0, .ref ar0), (1, .ref a2)]) rfl rfl rfl rfl f_X6_readComing p_a0.1 rfl rfl rfl rfl rfl ?_
                refine ev_loc f_X6_readComing (nx := 1) rfl rfl rfl rfl ?_
                refine ev_getR f_X6_readComing (nx := 4) (v := .ref a6) rfl p_a0.1 rfl rfl ((hC33.1 ar0 0 (t_ninO hI.wf p_a0.1 (t_outO hI.wf p_a0.1 rfl) rfl)).2.2.trans ((hC26.1 ar0 0 (t_ninO hI.wf p_a0.1 (t_outO hI.wf p_a0.1 rfl) rfl)).2.2.trans ((hC14.1 ar0 0 (t_ninO hI.wf p_a0.1 (t_outO hI.wf p_a0.1 rfl) rfl)).2.2.trans ((hC8.1 ar0 0 (t_ninO hI.wf p_a0.1 (t_outO hI.wf p_a0.1 rfl) rfl)).2.2.trans ((hC7.1 ar0 0 (t_ninO hI.wf p_a0.1 (t_outO hI.wf p_a0.1 rfl) rfl)).2.2.trans e6))))) rfl rfl ?_
                refine ev_heap f_X6_readComing (nx := 7) rfl rfl rfl rfl ?_
                refine ev_inV2 f_X6_readComing (nx := 10) (lo2 := [(0, .ref a6), (1, .retAddr 8)]) rfl rfl rfl rfl f_X9_takeKeyword p6.1 rfl rfl rfl rfl rfl ?_
                refine ev_loc f_X9_takeKeyword (nx := 1) rfl rfl rfl rfl ?_
                have k36 := hI.2.2.2.1.2.2.2.2.2 a6 p6.1
                obtain ⟨v36, e36⟩ : ∃ v, gr33 a6 7 = v := ⟨_, rfl⟩
                rw [e36] at k36
                refine ev_getR f_X9_takeKeyword (nx := 4) rfl p6.1 rfl rfl e36 (t_KwR k36) rfl ?_
                refine ev_loc f_X9_takeKeyword (nx := 5) rfl rfl rfl rfl ?_
                refine ev_ack f_X9_takeKeyword (t1 := 14) (t2 := 8) rfl rfl rfl (t_knw k36) rfl (fun h37 => ?_) (fun h37 => ?_)
                · refine ev_loc f_X9_takeKeyword (nx := 15) rfl rfl rfl rfl ?_
                  refine ev_c0 f_X9_takeKeyword (nx := 18) (r := []) rfl rfl rfl rfl rfl rfl rfl (c_step hI (a6) p6) rfl hX rfl (fun gi38 gl38 gr38 hI hX hC38 => ?_)
                  replace p_a0 := p_a0.ext hC38.2
                  replace p2 := p2.ext hC38.2
                  replace p6 := p6.ext hC38.2
                  replace p1 := p1.ext hC38.2
                  refine ev_ic f_X9_takeKeyword (nx := 19) (v := 1) rfl (by decide) rfl ?_
                  refine ev_retK1 f_X9_takeKeyword rfl rfl rfl ?_
                  refine ev_f f_X6_readComing (t1 := 13) (t2 := 15) rfl rfl rfl (by decide) ?_
                  refine ev_loc f_X6_readComing (nx := 16) rfl rfl rfl rfl ?_
                  refine ev_getR f_X6_readComing (nx := 19) (v := .ref a6) rfl p_a0.1 rfl rfl ((hC38.1 ar0 0 (t_ninO hI.wf p_a0.1 (t_outO hI.wf p_a0.1 rfl) rfl)).2.2.trans ((hC33.1 ar0 0 (t_ninO hI.wf p_a0.1 (t_outO hI.wf p_a0.1 rfl) rfl)).2.2.trans ((hC26.1 ar0 0 (t_ninO hI.wf p_a0.1 (t_outO hI.wf p_a0.1 rfl) rfl)).2.2.trans ((hC14.1 ar0 0 (t_ninO hI.wf p_a0.1 (t_outO hI.wf p_a0.1 rfl) rfl)).2.2.trans ((hC8.1 ar0 0 (t_ninO hI.wf p_a0.1 (t_outO hI.wf p_a0.1 rfl) rfl)).2.2.trans ((hC7.1 ar0 0 (t_ninO hI.wf p_a0.1 (t_outO hI.wf p_a0.1 rfl) rfl)).2.2.trans e6)))))) rfl rfl ?_
                  refine ev_getI f_X6_readComing (nx := 22) rfl p6.1 rfl rfl rfl ?_
                  refine ev_loc f_X6_readComing (nx := 23) (lo' := [(2, .int (gi38 a6 8)), (0, .ref ar0), (1, .ref a2)]) rfl rfl rfl rfl ?_
                  refine ev_loc f_X6_readComing (nx := 24) rfl rfl rfl rfl ?_
                  refine ev_getR f_X6_readComing (nx := 27) (v := .ref a6) rfl p_a0.1 rfl rfl ((hC38.1 ar0 0 (t_ninO hI.wf p_a0.1 (t_outO hI.wf p_a0.1 rfl) rfl)).2.2.trans ((hC33.1 ar0 0 (t_ninO hI.wf p_a0.1 (t_outO hI.wf p_a0.1 rfl) rfl)).2.2.trans ((hC26.1 ar0 0 (t_ninO hI.wf p_a0.1 (t_outO hI.wf p_a0.1 rfl) rfl)).2.2.trans ((hC14.1 ar0 0 (t_ninO hI.wf p_a0.1 (t_outO hI.wf p_a0.1 rfl) rfl)).2.2.trans ((hC8.1 ar0 0 (t_ninO hI.wf p_a0.1 (t_outO hI.wf p_a0.1 rfl) rfl)).2.2.trans ((hC7.1 ar0 0 (t_ninO hI.wf p_a0.1 (t_outO hI.wf p_a0.1 rfl) rfl)).2.2.trans e6)))))) rfl rfl ?_
                  refine ev_ic f_X6_readComing (nx := 28) (v := 0) rfl (by decide) rfl ?_
                  refine ev_bp f_X6_readComing (nx := 30) (v := 120) rfl (by decide) rfl ?_
                  refine ev_inV3 f_X6_readComing (nx := 33) (lo2 := [(0, .ref a6), (1, .int 0), (2, .int 120)]) rfl rfl rfl rfl f_X9_takeNumber p6.1 rfl rfl rfl rfl rfl ?_
                  refine ev_loc f_X9_takeNumber (nx := 1) rfl rfl rfl rfl ?_
                  refine ev_getI f_X9_takeNumber (nx := 4) rfl p6.1 rfl rfl rfl ?_
                  refine ev_ic f_X9_takeNumber (nx := 5) (v := 1) rfl (by decide) rfl ?_
                  refine ev_if f_X9_takeNumber (t1 := 14) (t2 := 8) rfl rfl rfl (fun h39 => ?_) (fun h39 => ?_)
                  · have u40 : (gi38 a6 3).toInt ≤ 1 := t_equ h39 (by decide : (1:Int32).toInt ≤ (1:Int))
                    have l41 : 1 ≤ (gi38 a6 3).toInt := t_eql h39 (by decide : (1:Int) ≤ (1:Int32).toInt)
                    refine ev_loc f_X9_takeNumber (nx := 15) rfl rfl rfl rfl ?_
                    refine ev_gvI f_X9_takeNumber (nx := 18) (w := (gi38 a6 8)) rfl p6.1 rfl rfl rfl rfl ?_
                    refine ev_loc f_X9_takeNumber (nx := 19) rfl rfl rfl rfl ?_
                    refine ev_if f_X9_takeNumber (t1 := 30) (t2 := 22) rfl rfl rfl (fun h42 => ?_) (fun h42 => ?_)
                    · have u43 : (gi38 a6 8).toInt ≤ (-1) := t_ltu h42 (by decide : (0:Int32).toInt ≤ (0:Int)) rfl
                      refine ev_loc f_X9_takeNumber (nx := 31) rfl rfl rfl rfl ?_
                      refine ev_ic f_X9_takeNumber (nx := 32) (v := 4) rfl (by decide) rfl ?_
                      refine ev_inV2 f_X9_takeNumber (nx := 35) (lo2 := [(0, .ref a6), (1, .int 4)]) rfl rfl rfl rfl f_X9_refuseToken p6.1 rfl rfl rfl rfl rfl ?_
                      refine ev_loc f_X9_refuseToken (nx := 1) rfl rfl rfl rfl ?_
                      refine ev_loc f_X9_refuseToken (nx := 2) rfl rfl rfl rfl ?_
                      refine ev_gvI f_X9_refuseToken (nx := 5) (w := (gi38 a6 3)) rfl p6.1 rfl rfl rfl rfl ?_
                      refine ev_ic f_X9_refuseToken (nx := 6) (v := 4) rfl (by decide) rfl ?_
                      refine ev_f f_X9_refuseToken (t1 := 9) (t2 := 13) rfl rfl rfl (t_neT u40 (by decide : (4:Int) ≤ (4:Int32).toInt) (by decide)) ?_
                      refine ev_loc f_X9_refuseToken (nx := 14) rfl rfl rfl rfl ?_
                      refine ev_putIT f_X9_refuseToken (nx := 17) rfl p6.1 rfl rfl rfl (hI.put0 p6.1 rfl rfl) (hX.upI (t_inO hI.wf p6.1 (t_outO hI.wf p6.1 rfl) rfl)) (fun g44 e44 hI hX => ?_)
                      refine ev_loc f_X9_refuseToken (nx := 18) rfl rfl rfl rfl ?_
                      refine ev_loc f_X9_refuseToken (nx := 19) rfl rfl rfl rfl ?_
                      refine ev_getI f_X9_refuseToken (nx := 22) rfl p6.1 rfl rfl rfl ?_
                      obtain ⟨l45, u45⟩ := hI.b p6.1 (t_bdK rfl : t_bd 8 4 = some (0, 900))
                      refine ev_putIT f_X9_refuseToken (nx := 25) rfl p6.1 rfl rfl rfl (hI.put0 p6.1 rfl rfl) (hX.upI (t_inO hI.wf p6.1 (t_outO hI.wf p6.1 rfl) rfl)) (fun g46 e46 hI hX => ?_)
                      refine ev_ic f_X9_refuseToken (nx := 26) (v := 0) rfl (by decide) rfl ?_
                      refine ev_retK1 f_X9_refuseToken rfl rfl rfl ?_
                      refine ev_retK1 f_X9_takeNumber rfl rfl rfl ?_
                      refine ev_t f_X6_readComing (t1 := 49) (t2 := 36) rfl rfl rfl (by decide) ?_
                      refine ev_ic f_X6_readComing (nx := 50) (v := 0) rfl (by decide) rfl ?_
                      refine ev_retK1 f_X6_readComing rfl rfl rfl ?_
                      refine ev_t f_X6_readShip (t1 := 132) (t2 := 134) rfl rfl rfl (by decide) ?_
                      refine ev_ic f_X6_readShip (nx := 133) (v := 0) rfl (by decide) rfl ?_
                      exact ev_ret f_X6_readShip rfl rfl rfl ⟨_, _, _, rfl, hI, hX, ⟨_, rfl, (by decide : (0:Int) ≤ (0:Int32).toInt), (Int.le_trans (by decide : (0:Int32).toInt ≤ (0:Int)) (by decide : (0:Int) ≤ 1))⟩⟩
                    · have l47 : 0 ≤ (gi38 a6 8).toInt := t_lel (t_nlt h42) (by decide : (0:Int) ≤ (0:Int32).toInt)
                      refine ev_loc f_X9_takeNumber (nx := 23) rfl rfl rfl rfl ?_
                      refine ev_gvI f_X9_takeNumber (nx := 26) (w := (gi38 a6 8)) rfl p6.1 rfl rfl rfl rfl ?_
                      refine ev_loc f_X9_takeNumber (nx := 27) rfl rfl rfl rfl ?_
                      refine ev_if f_X9_takeNumber (t1 := 36) (t2 := 30) rfl rfl rfl (fun h48 => ?_) (fun h48 => ?_)
                      · have u49 : (gi38 a6 8).toInt ≤ 120 := t_leu h48 (by decide : (120:Int32).toInt ≤ (120:Int))
                        refine ev_loc f_X9_takeNumber (nx := 37) rfl rfl rfl rfl ?_
                        refine ev_c0 f_X9_takeNumber (nx := 40) (r := []) rfl rfl rfl rfl rfl rfl rfl (c_step hI (a6) p6) rfl hX rfl (fun gi50 gl50 gr50 hI hX hC50 => ?_)
                        replace p_a0 := p_a0.ext hC50.2
                        replace p2 := p2.ext hC50.2
                        replace p6 := p6.ext hC50.2
                        replace p1 := p1.ext hC50.2
                        refine ev_ic f_X9_takeNumber (nx := 41) (v := 1) rfl (by decide) rfl ?_
                        refine ev_retK1 f_X9_takeNumber rfl rfl rfl ?_
                        refine ev_f f_X6_readComing (t1 := 49) (t2 := 36) rfl rfl rfl (by decide) ?_
                        refine ev_loc f_X6_readComing (nx := 37) rfl rfl rfl rfl ?_
                        refine ev_getR f_X6_readComing (nx := 40) (v := .ref a6) rfl p_a0.1 rfl rfl ((hC50.1 ar0 0 (t_ninO hI.wf p_a0.1 (t_outO hI.wf p_a0.1 rfl) rfl)).2.2.trans ((hC38.1 ar0 0 (t_ninO hI.wf p_a0.1 (t_outO hI.wf p_a0.1 rfl) rfl)).2.2.trans ((hC33.1 ar0 0 (t_ninO hI.wf p_a0.1 (t_outO hI.wf p_a0.1 rfl) rfl)).2.2.trans ((hC26.1 ar0 0 (t_ninO hI.wf p_a0.1 (t_outO hI.wf p_a0.1 rfl) rfl)).2.2.trans ((hC14.1 ar0 0 (t_ninO hI.wf p_a0.1 (t_outO hI.wf p_a0.1 rfl) rfl)).2.2.trans ((hC8.1 ar0 0 (t_ninO hI.wf p_a0.1 (t_outO hI.wf p_a0.1 rfl) rfl)).2.2.trans ((hC7.1 ar0 0 (t_ninO hI.wf p_a0.1 (t_outO hI.wf p_a0.1 rfl) rfl)).2.2.trans e6))))))) rfl rfl ?_
                        refine ev_heap f_X6_readComing (nx := 43) rfl rfl rfl rfl ?_
                        refine ev_inV2 f_X6_readComing (nx := 46) (lo2 := [(0, .ref a6), (1, .retAddr 9)]) rfl rfl rfl rfl f_X9_takeKeyword p6.1 rfl rfl rfl rfl rfl ?_
                        refine ev_loc f_X9_takeKeyword (nx := 1) rfl rfl rfl rfl ?_
                        have k51 := hI.2.2.2.1.2.2.2.2.2 a6 p6.1
                        obtain ⟨v51, e51⟩ : ∃ v, gr50 a6 7 = v := ⟨_, rfl⟩
                        rw [e51] at k51
                        refine ev_getR f_X9_takeKeyword (nx := 4) rfl p6.1 rfl rfl e51 (t_KwR k51) rfl ?_
                        refine ev_loc f_X9_takeKeyword (nx := 5) rfl rfl rfl rfl ?_
                        refine ev_ack f_X9_takeKeyword (t1 := 14) (t2 := 8) rfl rfl rfl (t_knw k51) rfl (fun h52 => ?_) (fun h52 => ?_)
                        · refine ev_loc f_X9_takeKeyword (nx := 15) rfl rfl rfl rfl ?_
                          refine ev_c0 f_X9_takeKeyword (nx := 18) (r := []) rfl rfl rfl rfl rfl rfl rfl (c_step hI (a6) p6) rfl hX rfl (fun gi53 gl53 gr53 hI hX hC53 => ?_)
                          replace p_a0 := p_a0.ext hC53.2
                          replace p2 := p2.ext hC53.2
                          replace p6 := p6.ext hC53.2
                          replace p1 := p1.ext hC53.2
                          refine ev_ic f_X9_takeKeyword (nx := 19) (v := 1) rfl (by decide) rfl ?_
                          refine ev_retK1 f_X9_takeKeyword rfl rfl rfl ?_
                          refine ev_f f_X6_readComing (t1 := 49) (t2 := 51) rfl rfl rfl (by decide) ?_
                          refine ev_loc f_X6_readComing (nx := 52) rfl rfl rfl rfl ?_
                          refine ev_getR f_X6_readComing (nx := 55) (v := .ref a6) rfl p_a0.1 rfl rfl ((hC53.1 ar0 0 (t_ninO hI.wf p_a0.1 (t_outO hI.wf p_a0.1 rfl) rfl)).2.2.trans ((hC50.1 ar0 0 (t_ninO hI.wf p_a0.1 (t_outO hI.wf p_a0.1 rfl) rfl)).2.2.trans ((hC38.1 ar0 0 (t_ninO hI.wf p_a0.1 (t_outO hI.wf p_a0.1 rfl) rfl)).2.2.trans ((hC33.1 ar0 0 (t_ninO hI.wf p_a0.1 (t_outO hI.wf p_a0.1 rfl) rfl)).2.2.trans ((hC26.1 ar0 0 (t_ninO hI.wf p_a0.1 (t_outO hI.wf p_a0.1 rfl) rfl)).2.2.trans ((hC14.1 ar0 0 (t_ninO hI.wf p_a0.1 (t_outO hI.wf p_a0.1 rfl) rfl)).2.2.trans ((hC8.1 ar0 0 (t_ninO hI.wf p_a0.1 (t_outO hI.wf p_a0.1 rfl) rfl)).2.2.trans ((hC7.1 ar0 0 (t_ninO hI.wf p_a0.1 (t_outO hI.wf p_a0.1 rfl) rfl)).2.2.trans e6)))))))) rfl rfl ?_
                          refine ev_getI f_X6_readComing (nx := 58) rfl p6.1 rfl rfl rfl ?_
                          refine ev_loc f_X6_readComing (nx := 59) (lo' := [(3, .int (gi53 a6 8)), (2, .int (gi38 a6 8)), (0, .ref ar0), (1, .ref a2)]) rfl rfl rfl rfl ?_
                          refine ev_loc f_X6_readComing (nx := 60) rfl rfl rfl rfl ?_
                          refine ev_getR f_X6_readComing (nx := 63) (v := .ref a6) rfl p_a0.1 rfl rfl ((hC53.1 ar0 0 (t_ninO hI.wf p_a0.1 (t_outO hI.wf p_a0.1 rfl) rfl)).2.2.trans ((hC50.1 ar0 0 (t_ninO hI.wf p_a0.1 (t_outO hI.wf p_a0.1 rfl) rfl)).2.2.trans ((hC38.1 ar0 0 (t_ninO hI.wf p_a0.1 (t_outO hI.wf p_a0.1 rfl) rfl)).2.2.trans ((hC33.1 ar0 0 (t_ninO hI.wf p_a0.1 (t_outO hI.wf p_a0.1 rfl) rfl)).2.2.trans ((hC26.1 ar0 0 (t_ninO hI.wf p_a0.1 (t_outO hI.wf p_a0.1 rfl) rfl)).2.2.trans ((hC14.1 ar0 0 (t_ninO hI.wf p_a0.1 (t_outO hI.wf p_a0.1 rfl) rfl)).2.2.trans ((hC8.1 ar0 0 (t_ninO hI.wf p_a0.1 (t_outO hI.wf p_a0.1 rfl) rfl)).2.2.trans ((hC7.1 ar0 0 (t_ninO hI.wf p_a0.1 (t_outO hI.wf p_a0.1 rfl) rfl)).2.2.trans e6)))))))) rfl rfl ?_
                          refine ev_ic f_X6_readComing (nx := 64) (v := 1) rfl (by decide) rfl ?_
                          refine ev_bp f_X6_readComing (nx := 66) (v := 20) rfl (by decide) rfl ?_
                          refine ev_inV3 f_X6_readComing (nx := 69) (lo2 := [(0, .ref a6), (1, .int 1), (2, .int 20)]) rfl rfl rfl rfl f_X9_takeNumber p6.1 rfl rfl rfl rfl rfl ?_
                          refine ev_loc f_X9_takeNumber (nx := 1) rfl rfl rfl rfl ?_
                          refine ev_getI f_X9_takeNumber (nx := 4) rfl p6.1 rfl rfl rfl ?_
                          refine ev_ic f_X9_takeNumber (nx := 5) (v := 1) rfl (by decide) rfl ?_
                          refine ev_if f_X9_takeNumber (t1 := 14) (t2 := 8) rfl rfl rfl (fun h54 => ?_) (fun h54 => ?_)
                          · have u55 : (gi53 a6 3).toInt ≤ 1 := t_equ h54 (by decide : (1:Int32).toInt ≤ (1:Int))
                            have l56 : 1 ≤ (gi53 a6 3).toInt := t_eql h54 (by decide : (1:Int) ≤ (1:Int32).toInt)
                            refine ev_loc f_X9_takeNumber (nx := 15) rfl rfl rfl rfl ?_
                            refine ev_gvI f_X9_takeNumber (nx := 18) (w := (gi53 a6 8)) rfl p6.1 rfl rfl rfl rfl ?_
                            refine ev_loc f_X9_takeNumber (nx := 19) rfl rfl rfl rfl ?_
                            refine ev_if f_X9_takeNumber (t1 := 30) (t2 := 22) rfl rfl rfl (fun h57 => ?_) (fun h57 => ?_)
                            · have u58 : (gi53 a6 8).toInt ≤ 0 := t_ltu h57 (by decide : (1:Int32).toInt ≤ (1:Int)) rfl
                              refine ev_loc f_X9_takeNumber (nx := 31) rfl rfl rfl rfl ?_
                              refine ev_ic f_X9_takeNumber (nx := 32) (v := 4) rfl (by decide) rfl ?_
                              refine ev_inV2 f_X9_takeNumber (nx := 35) (lo2 := [(0, .ref a6), (1, .int 4)]) rfl rfl rfl rfl f_X9_refuseToken p6.1 rfl rfl rfl rfl rfl ?_
                              refine ev_loc f_X9_refuseToken (nx := 1) rfl rfl rfl rfl ?_
                              refine ev_loc f_X9_refuseToken (nx := 2) rfl rfl rfl rfl ?_
                              refine ev_gvI f_X9_refuseToken (nx := 5) (w := (gi53 a6 3)) rfl p6.1 rfl rfl rfl rfl ?_
                              refine ev_ic f_X9_refuseToken (nx := 6) (v := 4) rfl (by decide) rfl ?_
                              refine ev_f f_X9_refuseToken (t1 := 9) (t2 := 13) rfl rfl rfl (t_neT u55 (by decide : (4:Int) ≤ (4:Int32).toInt) (by decide)) ?_
                              refine ev_loc f_X9_refuseToken (nx := 14) rfl rfl rfl rfl ?_
                              refine ev_putIT f_X9_refuseToken (nx := 17) rfl p6.1 rfl rfl rfl (hI.put0 p6.1 rfl rfl) (hX.upI (t_inO hI.wf p6.1 (t_outO hI.wf p6.1 rfl) rfl)) (fun g59 e59 hI hX => ?_)
                              refine ev_loc f_X9_refuseToken (nx := 18) rfl rfl rfl rfl ?_
                              refine ev_loc f_X9_refuseToken (nx := 19) rfl rfl rfl rfl ?_
                              refine ev_getI f_X9_refuseToken (nx := 22) rfl p6.1 rfl rfl rfl ?_
                              obtain ⟨l60, u60⟩ := hI.b p6.1 (t_bdK rfl : t_bd 8 4 = some (0, 900))
                              refine ev_putIT f_X9_refuseToken (nx := 25) rfl p6.1 rfl rfl rfl (hI.put0 p6.1 rfl rfl) (hX.upI (t_inO hI.wf p6.1 (t_outO hI.wf p6.1 rfl) rfl)) (fun g61 e61 hI hX => ?_)
                              refine ev_ic f_X9_refuseToken (nx := 26) (v := 0) rfl (by decide) rfl ?_
                              refine ev_retK1 f_X9_refuseToken rfl rfl rfl ?_
                              refine ev_retK1 f_X9_takeNumber rfl rfl rfl ?_
                              refine ev_t f_X6_readComing (t1 := 85) (t2 := 72) rfl rfl rfl (by decide) ?_
                              refine ev_ic f_X6_readComing (nx := 86) (v := 0) rfl (by decide) rfl ?_
                              refine ev_retK1 f_X6_readComing rfl rfl rfl ?_
                              refine ev_t f_X6_readShip (t1 := 132) (t2 := 134) rfl rfl rfl (by decide) ?_
                              refine ev_ic f_X6_readShip (nx := 133) (v := 0) rfl (by decide) rfl ?_
                              exact ev_ret f_X6_readShip rfl rfl rfl ⟨_, _, _, rfl, hI, hX, ⟨_, rfl, (by decide : (0:Int) ≤ (0:Int32).toInt), (Int.le_trans (by decide : (0:Int32).toInt ≤ (0:Int)) (by decide : (0:Int) ≤ 1))⟩⟩
                            · have l62 : 1 ≤ (gi53 a6 8).toInt := t_lel (t_nlt h57) (by decide : (1:Int) ≤ (1:Int32).toInt)
                              refine ev_loc f_X9_takeNumber (nx := 23) rfl rfl rfl rfl ?_
                              refine ev_gvI f_X9_takeNumber (nx := 26) (w := (gi53 a6 8)) rfl p6.1 rfl rfl rfl rfl ?_
                              refine ev_loc f_X9_takeNumber (nx := 27) rfl rfl rfl rfl ?_
                              refine ev_if f_X9_takeNumber (t1 := 36) (t2 := 30) rfl rfl rfl (fun h63 => ?_) (fun h63 => ?_)
                              · have u64 : (gi53 a6 8).toInt ≤ 20 := t_leu h63 (by decide : (20:Int32).toInt ≤ (20:Int))
                                refine ev_loc f_X9_takeNumber (nx := 37) rfl rfl rfl rfl ?_
                                refine ev_c0 f_X9_takeNumber (nx := 40) (r := []) rfl rfl rfl rfl rfl rfl rfl (c_step hI (a6) p6) rfl hX rfl (fun gi65 gl65 gr65 hI hX hC65 => ?_)
                                replace p_a0 := p_a0.ext hC65.2
                                replace p2 := p2.ext hC65.2
                                replace p6 := p6.ext hC65.2
                                replace p1 := p1.ext hC65.2
                                refine ev_ic f_X9_takeNumber (nx := 41) (v := 1) rfl (by decide) rfl ?_
                                refine ev_retK1 f_X9_takeNumber rfl rfl rfl ?_
                                refine ev_f f_X6_readComing (t1 := 85) (t2 := 72) rfl rfl rfl (by decide) ?_
                                refine ev_loc f_X6_readComing (nx := 73) rfl rfl rfl rfl ?_
                                refine ev_getR f_X6_readComing (nx := 76) (v := .ref a6) rfl p_a0.1 rfl rfl ((hC65.1 ar0 0 (t_ninO hI.wf p_a0.1 (t_outO hI.wf p_a0.1 rfl) rfl)).2.2.trans ((hC53.1 ar0 0 (t_ninO hI.wf p_a0.1 (t_outO hI.wf p_a0.1 rfl) rfl)).2.2.trans ((hC50.1 ar0 0 (t_ninO hI.wf p_a0.1 (t_outO hI.wf p_a0.1 rfl) rfl)).2.2.trans ((hC38.1 ar0 0 (t_ninO hI.wf p_a0.1 (t_outO hI.wf p_a0.1 rfl) rfl)).2.2.trans ((hC33.1 ar0 0 (t_ninO hI.wf p_a0.1 (t_outO hI.wf p_a0.1 rfl) rfl)).2.2.trans ((hC26.1 ar0 0 (t_ninO hI.wf p_a0.1 (t_outO hI.wf p_a0.1 rfl) rfl)).2.2.trans ((hC14.1 ar0 0 (t_ninO hI.wf p_a0.1 (t_outO hI.wf p_a0.1 rfl) rfl)).2.2.trans ((hC8.1 ar0 0 (t_ninO hI.wf p_a0.1 (t_outO hI.wf p_a0.1 rfl) rfl)).2.2.trans ((hC7.1 ar0 0 (t_ninO hI.wf p_a0.1 (t_outO hI.wf p_a0.1 rfl) rfl)).2.2.trans e6))))))))) rfl rfl ?_
                                refine ev_heap f_X6_readComing (nx := 79) rfl rfl rfl rfl ?_
                                refine ev_inV2 f_X6_readComing (nx := 82) (lo2 := [(0, .ref a6), (1, .retAddr 10)]) rfl rfl rfl rfl f_X9_takeKeyword p6.1 rfl rfl rfl rfl rfl ?_
                                refine ev_loc f_X9_takeKeyword (nx := 1) rfl rfl rfl rfl ?_
                                have k66 := hI.2.2.2.1.2.2.2.2.2 a6 p6.1
                                obtain ⟨v66, e66⟩ : ∃ v, gr65 a6 7 = v := ⟨_, rfl⟩
                                rw [e66] at k66
                                refine ev_getR f_X9_takeKeyword (nx := 4) rfl p6.1 rfl rfl e66 (t_KwR k66) rfl ?_
                                refine ev_loc f_X9_takeKeyword (nx := 5) rfl rfl rfl rfl ?_
                                refine ev_ack f_X9_takeKeyword (t1 := 14) (t2 := 8) rfl rfl rfl (t_knw k66) rfl (fun h67 => ?_) (fun h67 => ?_)
                                · refine ev_loc f_X9_takeKeyword (nx := 15) rfl rfl rfl rfl ?_
                                  refine ev_c0 f_X9_takeKeyword (nx := 18) (r := []) rfl rfl rfl rfl rfl rfl rfl (c_step hI (a6) p6) rfl hX rfl (fun gi68 gl68 gr68 hI hX hC68 => ?_)
                                  replace p_a0 := p_a0.ext hC68.2
                                  replace p2 := p2.ext hC68.2
                                  replace p6 := p6.ext hC68.2
                                  replace p1 := p1.ext hC68.2
                                  refine ev_ic f_X9_takeKeyword (nx := 19) (v := 1) rfl (by decide) rfl ?_
                                  refine ev_retK1 f_X9_takeKeyword rfl rfl rfl ?_
                                  refine ev_f f_X6_readComing (t1 := 85) (t2 := 87) rfl rfl rfl (by decide) ?_
                                  refine ev_loc f_X6_readComing (nx := 88) rfl rfl rfl rfl ?_
                                  refine ev_getR f_X6_readComing (nx := 91) (v := .ref a6) rfl p_a0.1 rfl rfl ((hC68.1 ar0 0 (t_ninO hI.wf p_a0.1 (t_outO hI.wf p_a0.1 rfl) rfl)).2.2.trans ((hC65.1 ar0 0 (t_ninO hI.wf p_a0.1 (t_outO hI.wf p_a0.1 rfl) rfl)).2.2.trans ((hC53.1 ar0 0 (t_ninO hI.wf p_a0.1 (t_outO hI.wf p_a0.1 rfl) rfl)).2.2.trans ((hC50.1 ar0 0 (t_ninO hI.wf p_a0.1 (t_outO hI.wf p_a0.1 rfl) rfl)).2.2.trans ((hC38.1 ar0 0 (t_ninO hI.wf p_a0.1 (t_outO hI.wf p_a0.1 rfl) rfl)).2.2.trans ((hC33.1 ar0 0 (t_ninO hI.wf p_a0.1 (t_outO hI.wf p_a0.1 rfl) rfl)).2.2.trans ((hC26.1 ar0 0 (t_ninO hI.wf p_a0.1 (t_outO hI.wf p_a0.1 rfl) rfl)).2.2.trans ((hC14.1 ar0 0 (t_ninO hI.wf p_a0.1 (t_outO hI.wf p_a0.1 rfl) rfl)).2.2.trans ((hC8.1 ar0 0 (t_ninO hI.wf p_a0.1 (t_outO hI.wf p_a0.1 rfl) rfl)).2.2.trans ((hC7.1 ar0 0 (t_ninO hI.wf p_a0.1 (t_outO hI.wf p_a0.1 rfl) rfl)).2.2.trans e6)))))))))) rfl rfl ?_
                                  refine ev_getI f_X6_readComing (nx := 94) rfl p6.1 rfl rfl rfl ?_
                                  refine ev_loc f_X6_readComing (nx := 96) (lo' := [(4, .int (gi68 a6 8)), (3, .int (gi53 a6 8)), (2, .int (gi38 a6 8)), (0, .ref ar0), (1, .ref a2)]) rfl rfl rfl rfl ?_
                                  refine ev_loc f_X6_readComing (nx := 97) rfl rfl rfl rfl ?_
                                  refine ev_getR f_X6_readComing (nx := 100) (v := .ref a6) rfl p_a0.1 rfl rfl ((hC68.1 ar0 0 (t_ninO hI.wf p_a0.1 (t_outO hI.wf p_a0.1 rfl) rfl)).2.2.trans ((hC65.1 ar0 0 (t_ninO hI.wf p_a0.1 (t_outO hI.wf p_a0.1 rfl) rfl)).2.2.trans ((hC53.1 ar0 0 (t_ninO hI.wf p_a0.1 (t_outO hI.wf p_a0.1 rfl) rfl)).2.2.trans ((hC50.1 ar0 0 (t_ninO hI.wf p_a0.1 (t_outO hI.wf p_a0.1 rfl) rfl)).2.2.trans ((hC38.1 ar0 0 (t_ninO hI.wf p_a0.1 (t_outO hI.wf p_a0.1 rfl) rfl)).2.2.trans ((hC33.1 ar0 0 (t_ninO hI.wf p_a0.1 (t_outO hI.wf p_a0.1 rfl) rfl)).2.2.trans ((hC26.1 ar0 0 (t_ninO hI.wf p_a0.1 (t_outO hI.wf p_a0.1 rfl) rfl)).2.2.trans ((hC14.1 ar0 0 (t_ninO hI.wf p_a0.1 (t_outO hI.wf p_a0.1 rfl) rfl)).2.2.trans ((hC8.1 ar0 0 (t_ninO hI.wf p_a0.1 (t_outO hI.wf p_a0.1 rfl) rfl)).2.2.trans ((hC7.1 ar0 0 (t_ninO hI.wf p_a0.1 (t_outO hI.wf p_a0.1 rfl) rfl)).2.2.trans e6)))))))))) rfl rfl ?_
                                  refine ev_ic f_X6_readComing (nx := 101) (v := 0) rfl (by decide) rfl ?_
                                  refine ev_bp f_X6_readComing (nx := 103) (v := 99) rfl (by decide) rfl ?_
                                  refine ev_inV3 f_X6_readComing (nx := 106) (lo2 := [(0, .ref a6), (1, .int 0), (2, .int 99)]) rfl rfl rfl rfl f_X9_takeNumber p6.1 rfl rfl rfl rfl rfl ?_
                                  refine ev_loc f_X9_takeNumber (nx := 1) rfl rfl rfl rfl ?_
                                  refine ev_getI f_X9_takeNumber (nx := 4) rfl p6.1 rfl rfl rfl ?_
                                  refine ev_ic f_X9_takeNumber (nx := 5) (v := 1) rfl (by decide) rfl ?_
                                  refine ev_if f_X9_takeNumber (t1 := 14) (t2 := 8) rfl rfl rfl (fun h69 => ?_) (fun h69 => ?_)
                                  · have u70 : (gi68 a6 3).toInt ≤ 1 := t_equ h69 (by decide : (1:Int32).toInt ≤ (1:Int))
                                    have l71 : 1 ≤ (gi68 a6 3).toInt := t_eql h69 (by decide : (1:Int) ≤ (1:Int32).toInt)
                                    refine ev_loc f_X9_takeNumber (nx := 15) rfl rfl rfl rfl ?_
                                    refine ev_gvI f_X9_takeNumber (nx := 18) (w := (gi68 a6 8)) rfl p6.1 rfl rfl rfl rfl ?_
                                    refine ev_loc f_X9_takeNumber (nx := 19) rfl rfl rfl rfl ?_
                                    refine ev_if f_X9_takeNumber (t1 := 30) (t2 := 22) rfl rfl rfl (fun h72 => ?_) (fun h72 => ?_)
                                    · have u73 : (gi68 a6 8).toInt ≤ (-1) := t_ltu h72 (by decide : (0:Int32).toInt ≤ (0:Int)) rfl
                                      refine ev_loc f_X9_takeNumber (nx := 31) rfl rfl rfl rfl ?_
                                      refine ev_ic f_X9_takeNumber (nx := 32) (v := 4) rfl (by decide) rfl ?_
                                      refine ev_inV2 f_X9_takeNumber (nx := 35) (lo2 := [(0, .ref a6), (1, .int 4)]) rfl rfl rfl rfl f_X9_refuseToken p6.1 rfl rfl rfl rfl rfl ?_
                                      refine ev_loc f_X9_refuseToken (nx := 1) rfl rfl rfl rfl ?_
                                      refine ev_loc f_X9_refuseToken (nx := 2) rfl rfl rfl rfl ?_
                                      refine ev_gvI f_X9_refuseToken (nx := 5) (w := (gi68 a6 3)) rfl p6.1 rfl rfl rfl rfl ?_
                                      refine ev_ic f_X9_refuseToken (nx := 6) (v := 4) rfl (by decide) rfl ?_
                                      refine ev_f f_X9_refuseToken (t1 := 9) (t2 := 13) rfl rfl rfl (t_neT u70 (by decide : (4:Int) ≤ (4:Int32).toInt) (by decide)) ?_
                                      refine ev_loc f_X9_refuseToken (nx := 14) rfl rfl rfl rfl ?_
                                      refine ev_putIT f_X9_refuseToken (nx := 17) rfl p6.1 rfl rfl rfl (hI.put0 p6.1 rfl rfl) (hX.upI (t_inO hI.wf p6.1 (t_outO hI.wf p6.1 rfl) rfl)) (fun g74 e74 hI hX => ?_)
                                      refine ev_loc f_X9_refuseToken (nx := 18) rfl rfl rfl rfl ?_
                                      refine ev_loc f_X9_refuseToken (nx := 19) rfl rfl rfl rfl ?_
                                      refine ev_getI f_X9_refuseToken (nx := 22) rfl p6.1 rfl rfl rfl ?_
                                      obtain ⟨l75, u75⟩ := hI.b p6.1 (t_bdK rfl : t_bd 8 4 = some (0, 900))
                                      refine ev_putIT f_X9_refuseToken (nx := 25) rfl p6.1 rfl rfl rfl (hI.put0 p6.1 rfl rfl) (hX.upI (t_inO hI.wf p6.1 (t_outO hI.wf p6.1 rfl) rfl)) (fun g76 e76 hI hX => ?_)
                                      refine ev_ic f_X9_refuseToken (nx := 26) (v := 0) rfl (by decide) rfl ?_
                                      refine ev_retK1 f_X9_refuseToken rfl rfl rfl ?_
                                      refine ev_retK1 f_X9_takeNumber rfl rfl rfl ?_
                                      refine ev_t f_X6_readComing (t1 := 109) (t2 := 111) rfl rfl rfl (by decide) ?_
                                      refine ev_ic f_X6_readComing (nx := 110) (v := 0) rfl (by decide) rfl ?_
                                      refine ev_retK1 f_X6_readComing rfl rfl rfl ?_
                                      refine ev_t f_X6_readShip (t1 := 132) (t2 := 134) rfl rfl rfl (by decide) ?_
                                      refine ev_ic f_X6_readShip (nx := 133) (v := 0) rfl (by decide) rfl ?_
                                      exact ev_ret f_X6_readShip rfl rfl rfl ⟨_, _, _, rfl, hI, hX, ⟨_, rfl, (by decide : (0:Int) ≤ (0:Int32).toInt), (Int.le_trans (by decide : (0:Int32).toInt ≤ (0:Int)) (by decide : (0:Int) ≤ 1))⟩⟩
                                    · have l77 : 0 ≤ (gi68 a6 8).toInt := t_lel (t_nlt h72) (by decide : (0:Int) ≤ (0:Int32).toInt)
                                      refine ev_loc f_X9_takeNumber (nx := 23) rfl rfl rfl rfl ?_
                                      refine ev_gvI f_X9_takeNumber (nx := 26) (w := (gi68 a6 8)) rfl p6.1 rfl rfl rfl rfl ?_
                                      refine ev_loc f_X9_takeNumber (nx := 27) rfl rfl rfl rfl ?_
                                      refine ev_if f_X9_takeNumber (t1 := 36) (t2 := 30) rfl rfl rfl (fun h78 => ?_) (fun h78 => ?_)
                                      · have u79 : (gi68 a6 8).toInt ≤ 99 := t_leu h78 (by decide : (99:Int32).toInt ≤ (99:Int))
                                        refine ev_loc f_X9_takeNumber (nx := 37) rfl rfl rfl rfl ?_
                                        refine ev_c0 f_X9_takeNumber (nx := 40) (r := []) rfl rfl rfl rfl rfl rfl rfl (c_step hI (a6) p6) rfl hX rfl (fun gi80 gl80 gr80 hI hX hC80 => ?_)
                                        replace p_a0 := p_a0.ext hC80.2
                                        replace p2 := p2.ext hC80.2
                                        replace p6 := p6.ext hC80.2
                                        replace p1 := p1.ext hC80.2
                                        refine ev_ic f_X9_takeNumber (nx := 41) (v := 1) rfl (by decide) rfl ?_
                                        refine ev_retK1 f_X9_takeNumber rfl rfl rfl ?_
                                        refine ev_f f_X6_readComing (t1 := 109) (t2 := 111) rfl rfl rfl (by decide) ?_
                                        refine ev_loc f_X6_readComing (nx := 112) rfl rfl rfl rfl ?_
                                        refine ev_loc f_X6_readComing (nx := 113) rfl rfl rfl rfl ?_
                                        refine ev_gvI f_X6_readComing (nx := 116) (w := (gi a2 0)) rfl p2.1 rfl rfl ((hC80.1 a2 0 (t_ninO hI.wf p2.1 (t_outO hI.wf p2.1 rfl) rfl)).1.trans ((hC68.1 a2 0 (t_ninO hI.wf p2.1 (t_outO hI.wf p2.1 rfl) rfl)).1.trans ((hC65.1 a2 0 (t_ninO hI.wf p2.1 (t_outO hI.wf p2.1 rfl) rfl)).1.trans ((hC53.1 a2 0 (t_ninO hI.wf p2.1 (t_outO hI.wf p2.1 rfl) rfl)).1.trans ((hC50.1 a2 0 (t_ninO hI.wf p2.1 (t_outO hI.wf p2.1 rfl) rfl)).1.trans ((hC38.1 a2 0 (t_ninO hI.wf p2.1 (t_outO hI.wf p2.1 rfl) rfl)).1.trans ((by rw [e35]; exact x_up2_off (Or.inl (t_noobj s34 p2.1)) : g35 a2 0 = gi33 a2 0).trans ((hC33.1 a2 0 (t_ninO hI.wf p2.1 (t_outO hI.wf p2.1 rfl) rfl)).1.trans ((hC26.1 a2 0 (t_ninO hI.wf p2.1 (t_outO hI.wf p2.1 rfl) rfl)).1.trans ((hC14.1 a2 0 (t_ninO hI.wf p2.1 (t_outO hI.wf p2.1 rfl) rfl)).1.trans ((hC8.1 a2 0 (t_ninO hI.wf p2.1 (t_outO hI.wf p2.1 rfl) rfl)).1.trans ((hC7.1 a2 0 (t_ninO hI.wf p2.1 (t_outO hI.wf p2.1 rfl) rfl)).1.trans rfl)))))))))))) rfl ?_
                                        refine ev_loc f_X6_readComing (nx := 117) rfl rfl rfl rfl ?_
                                        refine ev_gvI f_X6_readComing (nx := 120) (w := (gi a2 0)) rfl p2.1 rfl rfl ((hC80.1 a2 0 (t_ninO hI.wf p2.1 (t_outO hI.wf p2.1 rfl) rfl)).1.trans ((hC68.1 a2 0 (t_ninO hI.wf p2.1 (t_outO hI.wf p2.1 rfl) rfl)).1.trans ((hC65.1 a2 0 (t_ninO hI.wf p2.1 (t_outO hI.wf p2.1 rfl) rfl)).1.trans ((hC53.1 a2 0 (t_ninO hI.wf p2.1 (t_outO hI.wf p2.1 rfl) rfl)).1.trans ((hC50.1 a2 0 (t_ninO hI.wf p2.1 (t_outO hI.wf p2.1 rfl) rfl)).1.trans ((hC38.1 a2 0 (t_ninO hI.wf p2.1 (t_outO hI.wf p2.1 rfl) rfl)).1.trans ((by rw [e35]; exact x_up2_off (Or.inl (t_noobj s34 p2.1)) : g35 a2 0 = gi33 a2 0).trans ((hC33.1 a2 0 (t_ninO hI.wf p2.1 (t_outO hI.wf p2.1 rfl) rfl)).1.trans ((hC26.1 a2 0 (t_ninO hI.wf p2.1 (t_outO hI.wf p2.1 rfl) rfl)).1.trans ((hC14.1 a2 0 (t_ninO hI.wf p2.1 (t_outO hI.wf p2.1 rfl) rfl)).1.trans ((hC8.1 a2 0 (t_ninO hI.wf p2.1 (t_outO hI.wf p2.1 rfl) rfl)).1.trans ((hC7.1 a2 0 (t_ninO hI.wf p2.1 (t_outO hI.wf p2.1 rfl) rfl)).1.trans rfl)))))))))))) rfl ?_
                                        refine ev_loc f_X6_readComing (nx := 121) rfl rfl rfl rfl ?_
                                        refine ev_loc f_X6_readComing (nx := 122) rfl rfl rfl rfl ?_
                                        refine ev_loc f_X6_readComing (nx := 124) rfl rfl rfl rfl ?_
                                        refine ev_ic f_X6_readComing (nx := 125) (v := 0) rfl (by decide) rfl ?_
                                        refine ev_c0 f_X6_readComing (nx := 128) (r := []) rfl rfl rfl rfl rfl rfl rfl (c_put hI (a2) p2 ((gi a2 0)) ((gi a2 0)) ((gi38 a6 8)) ((gi53 a6 8)) ((gi68 a6 8)) (0)) rfl hX rfl (fun gi81 gl81 gr81 hI hX hC81 => ?_)
                                        replace p_a0 := p_a0.ext hC81.2
                                        replace p2 := p2.ext hC81.2
                                        replace p1 := p1.ext hC81.2
                                        replace p6 := p6.ext hC81.2
                                        refine ev_loc f_X6_readComing (nx := 129) rfl rfl rfl rfl ?_
                                        refine ev_alu f_X6_readComing (nx := 130) rfl rfl rfl rfl ?_
                                        refine ev_gvI f_X6_readComing (nx := 133) (w := (gi a2 0)) rfl p2.1 rfl rfl ((hC81.1 a2 0 (t_ninO hI.wf p2.1 (t_outO hI.wf p2.1 rfl) rfl)).1.trans ((hC80.1 a2 0 (t_ninO hI.wf p2.1 (t_outO hI.wf p2.1 rfl) rfl)).1.trans ((hC68.1 a2 0 (t_ninO hI.wf p2.1 (t_outO hI.wf p2.1 rfl) rfl)).1.trans ((hC65.1 a2 0 (t_ninO hI.wf p2.1 (t_outO hI.wf p2.1 rfl) rfl)).1.trans ((hC53.1 a2 0 (t_ninO hI.wf p2.1 (t_outO hI.wf p2.1 rfl) rfl)).1.trans ((hC50.1 a2 0 (t_ninO hI.wf p2.1 (t_outO hI.wf p2.1 rfl) rfl)).1.trans ((hC38.1 a2 0 (t_ninO hI.wf p2.1 (t_outO hI.wf p2.1 rfl) rfl)).1.trans ((by rw [e35]; exact x_up2_off (Or.inl (t_noobj s34 p2.1)) : g35 a2 0 = gi33 a2 0).trans ((hC33.1 a2 0 (t_ninO hI.wf p2.1 (t_outO hI.wf p2.1 rfl) rfl)).1.trans ((hC26.1 a2 0 (t_ninO hI.wf p2.1 (t_outO hI.wf p2.1 rfl) rfl)).1.trans ((hC14.1 a2 0 (t_ninO hI.wf p2.1 (t_outO hI.wf p2.1 rfl) rfl)).1.trans ((hC8.1 a2 0 (t_ninO hI.wf p2.1 (t_outO hI.wf p2.1 rfl) rfl)).1.trans ((hC7.1 a2 0 (t_ninO hI.wf p2.1 (t_outO hI.wf p2.1 rfl) rfl)).1.trans rfl))))))))))))) rfl ?_
                                        refine ev_ic f_X6_readComing (nx := 134) (v := 1) rfl (by decide) rfl ?_
                                        refine ev_addC f_X6_readComing (nx := 135) (c := 1) (l := 1) (u := 6) rfl (by decide) l3 u5 rfl rfl (by decide) (by decide) rfl (fun z82 e82 l82 u82 => ?_)
                                        refine ev_putIT f_X6_readComing (nx := 138) rfl p2.1 rfl rfl rfl (hI.putB p2.1 rfl rfl l82 (by decide) u82 (by decide)) (hX.upI (t_inO hI.wf p2.1 (t_outO hI.wf p2.1 rfl) rfl)) (fun g83 e83 hI hX => ?_)
                                        refine ev_ic f_X6_readComing (nx := 139) (v := 1) rfl (by decide) rfl ?_
                                        refine ev_retK1 f_X6_readComing rfl rfl rfl ?_
                                        refine ev_f f_X6_readShip (t1 := 132) (t2 := 134) rfl rfl rfl (by decide) ?_
                                        refine ev_loc f_X6_readShip (nx := 135) rfl rfl rfl rfl ?_
                                        refine ev_getR f_X6_readShip (nx := 138) (v := .ref a6) rfl p_a0.1 rfl rfl ((hC81.1 ar0 0 (t_ninO hI.wf p_a0.1 (t_outO hI.wf p_a0.1 rfl) rfl)).2.2.trans ((hC80.1 ar0 0 (t_ninO hI.wf p_a0.1 (t_outO hI.wf p_a0.1 rfl) rfl)).2.2.trans ((hC68.1 ar0 0 (t_ninO hI.wf p_a0.1 (t_outO hI.wf p_a0.1 rfl) rfl)).2.2.trans ((hC65.1 ar0 0 (t_ninO hI.wf p_a0.1 (t_outO hI.wf p_a0.1 rfl) rfl)).2.2.trans ((hC53.1 ar0 0 (t_ninO hI.wf p_a0.1 (t_outO hI.wf p_a0.1 rfl) rfl)).2.2.trans ((hC50.1 ar0 0 (t_ninO hI.wf p_a0.1 (t_outO hI.wf p_a0.1 rfl) rfl)).2.2.trans ((hC38.1 ar0 0 (t_ninO hI.wf p_a0.1 (t_outO hI.wf p_a0.1 rfl) rfl)).2.2.trans ((hC33.1 ar0 0 (t_ninO hI.wf p_a0.1 (t_outO hI.wf p_a0.1 rfl) rfl)).2.2.trans ((hC26.1 ar0 0 (t_ninO hI.wf p_a0.1 (t_outO hI.wf p_a0.1 rfl) rfl)).2.2.trans ((hC14.1 ar0 0 (t_ninO hI.wf p_a0.1 (t_outO hI.wf p_a0.1 rfl) rfl)).2.2.trans ((hC8.1 ar0 0 (t_ninO hI.wf p_a0.1 (t_outO hI.wf p_a0.1 rfl) rfl)).2.2.trans ((hC7.1 ar0 0 (t_ninO hI.wf p_a0.1 (t_outO hI.wf p_a0.1 rfl) rfl)).2.2.trans e6)))))))))))) rfl rfl ?_
                                        have k84 := hI.2.2.2.1.2.2.2.2.2 a6 p6.1
                                        obtain ⟨v84, e84⟩ : ∃ v, gr81 a6 7 = v := ⟨_, rfl⟩
                                        rw [e84] at k84
                                        refine ev_getR f_X6_readShip (nx := 141) rfl p6.1 rfl rfl e84 (t_KwR k84) rfl ?_
                                        refine ev_heap f_X6_readShip (nx := 144) rfl rfl rfl rfl ?_
                                        refine ev_ack f_X6_readShip (t1 := 147) (t2 := 167) rfl rfl rfl (t_knw k84) rfl (fun h85 => ?_) (fun h85 => ?_)
                                        · refine ev_loc f_X6_readShip (nx := 148) rfl rfl rfl rfl ?_
                                          refine ev_getR f_X6_readShip (nx := 151) (v := .ref a1) rfl p_a0.1 rfl rfl ((hC81.1 ar0 1 (t_ninO hI.wf p_a0.1 (t_outO hI.wf p_a0.1 rfl) rfl)).2.2.trans ((hC80.1 ar0 1 (t_ninO hI.wf p_a0.1 (t_outO hI.wf p_a0.1 rfl) rfl)).2.2.trans ((hC68.1 ar0 1 (t_ninO hI.wf p_a0.1 (t_outO hI.wf p_a0.1 rfl) rfl)).2.2.trans ((hC65.1 ar0 1 (t_ninO hI.wf p_a0.1 (t_outO hI.wf p_a0.1 rfl) rfl)).2.2.trans ((hC53.1 ar0 1 (t_ninO hI.wf p_a0.1 (t_outO hI.wf p_a0.1 rfl) rfl)).2.2.trans ((hC50.1 ar0 1 (t_ninO hI.wf p_a0.1 (t_outO hI.wf p_a0.1 rfl) rfl)).2.2.trans ((hC38.1 ar0 1 (t_ninO hI.wf p_a0.1 (t_outO hI.wf p_a0.1 rfl) rfl)).2.2.trans ((hC33.1 ar0 1 (t_ninO hI.wf p_a0.1 (t_outO hI.wf p_a0.1 rfl) rfl)).2.2.trans ((hC26.1 ar0 1 (t_ninO hI.wf p_a0.1 (t_outO hI.wf p_a0.1 rfl) rfl)).2.2.trans ((hC14.1 ar0 1 (t_ninO hI.wf p_a0.1 (t_outO hI.wf p_a0.1 rfl) rfl)).2.2.trans ((hC8.1 ar0 1 (t_ninO hI.wf p_a0.1 (t_outO hI.wf p_a0.1 rfl) rfl)).2.2.trans ((hC7.1 ar0 1 (t_ninO hI.wf p_a0.1 (t_outO hI.wf p_a0.1 rfl) rfl)).2.2.trans e1)))))))))))) rfl rfl ?_
                                          refine ev_getR f_X6_readShip (nx := 154) (v := .ref a2) rfl p1.1 rfl rfl ((hC81.1 a1 7 (t_ninO hI.wf p1.1 (t_outO hI.wf p1.1 rfl) rfl)).2.2.trans ((hC80.1 a1 7 (t_ninO hI.wf p1.1 (t_outO hI.wf p1.1 rfl) rfl)).2.2.trans ((hC68.1 a1 7 (t_ninO hI.wf p1.1 (t_outO hI.wf p1.1 rfl) rfl)).2.2.trans ((hC65.1 a1 7 (t_ninO hI.wf p1.1 (t_outO hI.wf p1.1 rfl) rfl)).2.2.trans ((hC53.1 a1 7 (t_ninO hI.wf p1.1 (t_outO hI.wf p1.1 rfl) rfl)).2.2.trans ((hC50.1 a1 7 (t_ninO hI.wf p1.1 (t_outO hI.wf p1.1 rfl) rfl)).2.2.trans ((hC38.1 a1 7 (t_ninO hI.wf p1.1 (t_outO hI.wf p1.1 rfl) rfl)).2.2.trans ((hC33.1 a1 7 (t_ninO hI.wf p1.1 (t_outO hI.wf p1.1 rfl) rfl)).2.2.trans ((hC26.1 a1 7 (t_ninO hI.wf p1.1 (t_outO hI.wf p1.1 rfl) rfl)).2.2.trans ((hC14.1 a1 7 (t_ninO hI.wf p1.1 (t_outO hI.wf p1.1 rfl) rfl)).2.2.trans ((hC8.1 a1 7 (t_ninO hI.wf p1.1 (t_outO hI.wf p1.1 rfl) rfl)).2.2.trans ((hC7.1 a1 7 (t_ninO hI.wf p1.1 (t_outO hI.wf p1.1 rfl) rfl)).2.2.trans e2)))))))))))) rfl rfl ?_
                                          obtain ⟨a86, e86, s86, o86⟩ := p2.2.2.2.2.2
                                          refine ev_getR f_X6_readShip (nx := 157) rfl p2.1 rfl rfl e86 rfl rfl ?_
                                          refine ev_loc f_X6_readShip (nx := 158) rfl rfl rfl rfl ?_
                                          refine ev_ic f_X6_readShip (nx := 159) (v := 1) rfl (by decide) rfl ?_
                                          refine ev_zastT f_X6_readShip (nx := 160) rfl s86 l3 (by decide) u5 (by decide) rfl (fun x _ _ => (hI.astO s86 o86 (by decide +kernel))) (fun x => hX.upI (t_inOA hI.wf s86 o86 rfl)) (fun g87 x87 e87 hI hX => ?_)
                                          refine ev_loc f_X6_readShip (nx := 161) rfl rfl rfl rfl ?_
                                          refine ev_getR f_X6_readShip (nx := 164) (v := .ref a6) rfl p_a0.1 rfl rfl ((hC81.1 ar0 0 (t_ninO hI.wf p_a0.1 (t_outO hI.wf p_a0.1 rfl) rfl)).2.2.trans ((hC80.1 ar0 0 (t_ninO hI.wf p_a0.1 (t_outO hI.wf p_a0.1 rfl) rfl)).2.2.trans ((hC68.1 ar0 0 (t_ninO hI.wf p_a0.1 (t_outO hI.wf p_a0.1 rfl) rfl)).2.2.trans ((hC65.1 ar0 0 (t_ninO hI.wf p_a0.1 (t_outO hI.wf p_a0.1 rfl) rfl)).2.2.trans ((hC53.1 ar0 0 (t_ninO hI.wf p_a0.1 (t_outO hI.wf p_a0.1 rfl) rfl)).2.2.trans ((hC50.1 ar0 0 (t_ninO hI.wf p_a0.1 (t_outO hI.wf p_a0.1 rfl) rfl)).2.2.trans ((hC38.1 ar0 0 (t_ninO hI.wf p_a0.1 (t_outO hI.wf p_a0.1 rfl) rfl)).2.2.trans ((hC33.1 ar0 0 (t_ninO hI.wf p_a0.1 (t_outO hI.wf p_a0.1 rfl) rfl)).2.2.trans ((hC26.1 ar0 0 (t_ninO hI.wf p_a0.1 (t_outO hI.wf p_a0.1 rfl) rfl)).2.2.trans ((hC14.1 ar0 0 (t_ninO hI.wf p_a0.1 (t_outO hI.wf p_a0.1 rfl) rfl)).2.2.trans ((hC8.1 ar0 0 (t_ninO hI.wf p_a0.1 (t_outO hI.wf p_a0.1 rfl) rfl)).2.2.trans ((hC7.1 ar0 0 (t_ninO hI.wf p_a0.1 (t_outO hI.wf p_a0.1 rfl) rfl)).2.2.trans e6)))))))))))) rfl rfl ?_
                                          refine ev_c0 f_X6_readShip (nx := 167) (r := []) rfl rfl rfl rfl rfl rfl rfl (c_step hI (a6) p6) rfl hX rfl (fun gi88 gl88 gr88 hI hX hC88 => ?_)
                                          replace p_a0 := p_a0.ext hC88.2
                                          replace p1 := p1.ext hC88.2
                                          replace p2 := p2.ext hC88.2
                                          replace p6 := p6.ext hC88.2
                                          refine ev_ic f_X6_readShip (nx := 168) (v := 1) rfl (by decide) rfl ?_
                                          exact ev_ret f_X6_readShip rfl rfl rfl ⟨_, _, _, rfl, hI, hX, ⟨_, rfl, (Int.le_trans (by decide : (0:Int) ≤ 1) (by decide : (1:Int) ≤ (1:Int32).toInt)), (by decide : (1:Int32).toInt ≤ (1:Int))⟩⟩
                                        · refine ev_ic f_X6_readShip (nx := 168) (v := 1) rfl (by decide) rfl ?_
                                          exact ev_ret f_X6_readShip rfl rfl rfl ⟨_, _, _, rfl, hI, hX, ⟨_, rfl, (Int.le_trans (by decide : (0:Int) ≤ 1) (by decide : (1:Int) ≤ (1:Int32).toInt)), (by decide : (1:Int32).toInt ≤ (1:Int))⟩⟩
                                      · have l89 : 100 ≤ (gi68 a6 8).toInt := t_ltl (t_nle h78) (by decide : (99:Int) ≤ (99:Int32).toInt) rfl
                                        refine ev_loc f_X9_takeNumber (nx := 31) rfl rfl rfl rfl ?_
                                        refine ev_ic f_X9_takeNumber (nx := 32) (v := 4) rfl (by decide) rfl ?_
                                        refine ev_inV2 f_X9_takeNumber (nx := 35) (lo2 := [(0, .ref a6), (1, .int 4)]) rfl rfl rfl rfl f_X9_refuseToken p6.1 rfl rfl rfl rfl rfl ?_
                                        refine ev_loc f_X9_refuseToken (nx := 1) rfl rfl rfl rfl ?_
                                        refine ev_loc f_X9_refuseToken (nx := 2) rfl rfl rfl rfl ?_
                                        refine ev_gvI f_X9_refuseToken (nx := 5) (w := (gi68 a6 3)) rfl p6.1 rfl rfl rfl rfl ?_
                                        refine ev_ic f_X9_refuseToken (nx := 6) (v := 4) rfl (by decide) rfl ?_
                                        refine ev_f f_X9_refuseToken (t1 := 9) (t2 := 13) rfl rfl rfl (t_neT u70 (by decide : (4:Int) ≤ (4:Int32).toInt) (by decide)) ?_
                                        refine ev_loc f_X9_refuseToken (nx := 14) rfl rfl rfl rfl ?_
                                        refine ev_putIT f_X9_refuseToken (nx := 17) rfl p6.1 rfl rfl rfl (hI.put0 p6.1 rfl rfl) (hX.upI (t_inO hI.wf p6.1 (t_outO hI.wf p6.1 rfl) rfl)) (fun g90 e90 hI hX => ?_)
                                        refine ev_loc f_X9_refuseToken (nx := 18) rfl rfl rfl rfl ?_
                                        refine ev_loc f_X9_refuseToken (nx := 19) rfl rfl rfl rfl ?_
                                        refine ev_getI f_X9_refuseToken (nx := 22) rfl p6.1 rfl rfl rfl ?_
                                        obtain ⟨l91, u91⟩ := hI.b p6.1 (t_bdK rfl : t_bd 8 4 = some (0, 900))
                                        refine ev_putIT f_X9_refuseToken (nx := 25) rfl p6.1 rfl rfl rfl (hI.put0 p6.1 rfl rfl) (hX.upI (t_inO hI.wf p6.1 (t_outO hI.wf p6.1 rfl) rfl)) (fun g92 e92 hI hX => ?_)
                                        refine ev_ic f_X9_refuseToken (nx := 26) (v := 0) rfl (by decide) rfl ?_
                                        refine ev_retK1 f_X9_refuseToken rfl rfl rfl ?_
                                        refine ev_retK1 f_X9_takeNumber rfl rfl rfl ?_
                                        refine ev_t f_X6_readComing (t1 := 109) (t2 := 111) rfl rfl rfl (by decide) ?_
                                        refine ev_ic f_X6_readComing (nx := 110) (v := 0) rfl (by decide) rfl ?_
                                        refine ev_retK1 f_X6_readComing rfl rfl rfl ?_
                                        refine ev_t f_X6_readShip (t1 := 132) (t2 := 134) rfl rfl rfl (by decide) ?_
                                        refine ev_ic f_X6_readShip (nx := 133) (v := 0) rfl (by decide) rfl ?_
                                        exact ev_ret f_X6_readShip rfl rfl rfl ⟨_, _, _, rfl, hI, hX, ⟨_, rfl, (by decide : (0:Int) ≤ (0:Int32).toInt), (Int.le_trans (by decide : (0:Int32).toInt ≤ (0:Int)) (by decide : (0:Int) ≤ 1))⟩⟩
                                  · refine ev_loc f_X9_takeNumber (nx := 9) rfl rfl rfl rfl ?_
                                    refine ev_ic f_X9_takeNumber (nx := 10) (v := 2) rfl (by decide) rfl ?_
                                    refine ev_inV2 f_X9_takeNumber (nx := 13) (lo2 := [(0, .ref a6), (1, .int 2)]) rfl rfl rfl rfl f_X9_refuseToken p6.1 rfl rfl rfl rfl rfl ?_
                                    refine ev_loc f_X9_refuseToken (nx := 1) rfl rfl rfl rfl ?_
                                    refine ev_loc f_X9_refuseToken (nx := 2) rfl rfl rfl rfl ?_
                                    refine ev_gvI f_X9_refuseToken (nx := 5) (w := (gi68 a6 3)) rfl p6.1 rfl rfl rfl rfl ?_
                                    refine ev_ic f_X9_refuseToken (nx := 6) (v := 4) rfl (by decide) rfl ?_
                                    refine ev_if f_X9_refuseToken (t1 := 9) (t2 := 13) rfl rfl rfl (fun h93 => ?_) (fun h93 => ?_)
                                    · have u94 : (gi68 a6 3).toInt ≤ 4 := t_equ h93 (by decide : (4:Int32).toInt ≤ (4:Int))
                                      have l95 : 4 ≤ (gi68 a6 3).toInt := t_eql h93 (by decide : (4:Int) ≤ (4:Int32).toInt)
                                      refine ev_ic f_X9_refuseToken (nx := 10) (v := 1) rfl (by decide) rfl ?_
                                      refine ev_jmp f_X9_refuseToken (nx := 14) rfl rfl rfl ?_
                                      refine ev_putIT f_X9_refuseToken (nx := 17) rfl p6.1 rfl rfl rfl (hI.put0 p6.1 rfl rfl) (hX.upI (t_inO hI.wf p6.1 (t_outO hI.wf p6.1 rfl) rfl)) (fun g96 e96 hI hX => ?_)
                                      refine ev_loc f_X9_refuseToken (nx := 18) rfl rfl rfl rfl ?_
                                      refine ev_loc f_X9_refuseToken (nx := 19) rfl rfl rfl rfl ?_
                                      refine ev_getI f_X9_refuseToken (nx := 22) rfl p6.1 rfl rfl rfl ?_
                                      obtain ⟨l97, u97⟩ := hI.b p6.1 (t_bdK rfl : t_bd 8 4 = some (0, 900))
                                      refine ev_putIT f_X9_refuseToken (nx := 25) rfl p6.1 rfl rfl rfl (hI.put0 p6.1 rfl rfl) (hX.upI (t_inO hI.wf p6.1 (t_outO hI.wf p6.1 rfl) rfl)) (fun g98 e98 hI hX => ?_)
                                      refine ev_ic f_X9_refuseToken (nx := 26) (v := 0) rfl (by decide) rfl ?_
                                      refine ev_retK1 f_X9_refuseToken rfl rfl rfl ?_
                                      refine ev_retK1 f_X9_takeNumber rfl rfl rfl ?_
                                      refine ev_t f_X6_readComing (t1 := 109) (t2 := 111) rfl rfl rfl (by decide) ?_
                                      refine ev_ic f_X6_readComing (nx := 110) (v := 0) rfl (by decide) rfl ?_
                                      refine ev_retK1 f_X6_readComing rfl rfl rfl ?_
                                      refine ev_t f_X6_readShip (t1 := 132) (t2 := 134) rfl rfl rfl (by decide) ?_
                                      refine ev_ic f_X6_readShip (nx := 133) (v := 0) rfl (by decide) rfl ?_
                                      exact ev_ret f_X6_readShip rfl rfl rfl ⟨_, _, _, rfl, hI, hX, ⟨_, rfl, (by decide : (0:Int) ≤ (0:Int32).toInt), (Int.le_trans (by decide : (0:Int32).toInt ≤ (0:Int)) (by decide : (0:Int) ≤ 1))⟩⟩
                                    · refine ev_loc f_X9_refuseToken (nx := 14) rfl rfl rfl rfl ?_
                                      refine ev_putIT f_X9_refuseToken (nx := 17) rfl p6.1 rfl rfl rfl (hI.put0 p6.1 rfl rfl) (hX.upI (t_inO hI.wf p6.1 (t_outO hI.wf p6.1 rfl) rfl)) (fun g99 e99 hI hX => ?_)
                                      refine ev_loc f_X9_refuseToken (nx := 18) rfl rfl rfl rfl ?_
                                      refine ev_loc f_X9_refuseToken (nx := 19) rfl rfl rfl rfl ?_
                                      refine ev_getI f_X9_refuseToken (nx := 22) rfl p6.1 rfl rfl rfl ?_
                                      obtain ⟨l100, u100⟩ := hI.b p6.1 (t_bdK rfl : t_bd 8 4 = some (0, 900))
                                      refine ev_putIT f_X9_refuseToken (nx := 25) rfl p6.1 rfl rfl rfl (hI.put0 p6.1 rfl rfl) (hX.upI (t_inO hI.wf p6.1 (t_outO hI.wf p6.1 rfl) rfl)) (fun g101 e101 hI hX => ?_)
                                      refine ev_ic f_X9_refuseToken (nx := 26) (v := 0) rfl (by decide) rfl ?_
                                      refine ev_retK1 f_X9_refuseToken rfl rfl rfl ?_
                                      refine ev_retK1 f_X9_takeNumber rfl rfl rfl ?_
                                      refine ev_t f_X6_readComing (t1 := 109) (t2 := 111) rfl rfl rfl (by decide) ?_
                                      refine ev_ic f_X6_readComing (nx := 110) (v := 0) rfl (by decide) rfl ?_
                                      refine ev_retK1 f_X6_readComing rfl rfl rfl ?_
                                      refine ev_t f_X6_readShip (t1 := 132) (t2 := 134) rfl rfl rfl (by decide) ?_
                                      refine ev_ic f_X6_readShip (nx := 133) (v := 0) rfl (by decide) rfl ?_
                                      exact ev_ret f_X6_readShip rfl rfl rfl ⟨_, _, _, rfl, hI, hX, ⟨_, rfl, (by decide : (0:Int) ≤ (0:Int32).toInt), (Int.le_trans (by decide : (0:Int32).toInt ≤ (0:Int)) (by decide : (0:Int) ≤ 1))⟩⟩
                                · refine ev_loc f_X9_takeKeyword (nx := 9) rfl rfl rfl rfl ?_
                                  refine ev_ic f_X9_takeKeyword (nx := 10) (v := 2) rfl (by decide) rfl ?_
                                  refine ev_inV2 f_X9_takeKeyword (nx := 13) (lo2 := [(0, .ref a6), (1, .int 2)]) rfl rfl rfl rfl f_X9_refuseToken p6.1 rfl rfl rfl rfl rfl ?_
                                  refine ev_loc f_X9_refuseToken (nx := 1) rfl rfl rfl rfl ?_
                                  refine ev_loc f_X9_refuseToken (nx := 2) rfl rfl rfl rfl ?_
                                  refine ev_getI f_X9_refuseToken (nx := 5) rfl p6.1 rfl rfl rfl ?_
                                  refine ev_ic f_X9_refuseToken (nx := 6) (v := 4) rfl (by decide) rfl ?_
                                  refine ev_if f_X9_refuseToken (t1 := 9) (t2 := 13) rfl rfl rfl (fun h102 => ?_) (fun h102 => ?_)
                                  · have u103 : (gi65 a6 3).toInt ≤ 4 := t_equ h102 (by decide : (4:Int32).toInt ≤ (4:Int))
                                    have l104 : 4 ≤ (gi65 a6 3).toInt := t_eql h102 (by decide : (4:Int) ≤ (4:Int32).toInt)
                                    refine ev_ic f_X9_refuseToken (nx := 10) (v := 1) rfl (by decide) rfl ?_
                                    refine ev_jmp f_X9_refuseToken (nx := 14) rfl rfl rfl ?_
                                    refine ev_putIT f_X9_refuseToken (nx := 17) rfl p6.1 rfl rfl rfl (hI.put0 p6.1 rfl rfl) (hX.upI (t_inO hI.wf p6.1 (t_outO hI.wf p6.1 rfl) rfl)) (fun g105 e105 hI hX => ?_)
                                    refine ev_loc f_X9_refuseToken (nx := 18) rfl rfl rfl rfl ?_
                                    refine ev_loc f_X9_refuseToken (nx := 19) rfl rfl rfl rfl ?_
                                    refine ev_getI f_X9_refuseToken (nx := 22) rfl p6.1 rfl rfl rfl ?_
                                    obtain ⟨l106, u106⟩ := hI.b p6.1 (t_bdK rfl : t_bd 8 4 = some (0, 900))
                                    refine ev_putIT f_X9_refuseToken (nx := 25) rfl p6.1 rfl rfl rfl (hI.put0 p6.1 rfl rfl) (hX.upI (t_inO hI.wf p6.1 (t_outO hI.wf p6.1 rfl) rfl)) (fun g107 e107 hI hX => ?_)
                                    refine ev_ic f_X9_refuseToken (nx := 26) (v := 0) rfl (by decide) rfl ?_
                                    refine ev_retK1 f_X9_refuseToken rfl rfl rfl ?_
                                    refine ev_retK1 f_X9_takeKeyword rfl rfl rfl ?_
                                    refine ev_t f_X6_readComing (t1 := 85) (t2 := 87) rfl rfl rfl (by decide) ?_
                                    refine ev_ic f_X6_readComing (nx := 86) (v := 0) rfl (by decide) rfl ?_
                                    refine ev_retK1 f_X6_readComing rfl rfl rfl ?_
                                    refine ev_t f_X6_readShip (t1 := 132) (t2 := 134) rfl rfl rfl (by decide) ?_
                                    refine ev_ic f_X6_readShip (nx := 133) (v := 0) rfl (by decide) rfl ?_
                                    exact ev_ret f_X6_readShip rfl rfl rfl ⟨_, _, _, rfl, hI, hX, ⟨_, rfl, (by decide : (0:Int) ≤ (0:Int32).toInt), (Int.le_trans (by decide : (0:Int32).toInt ≤ (0:Int)) (by decide : (0:Int) ≤ 1))⟩⟩
                                  · refine ev_loc f_X9_refuseToken (nx := 14) rfl rfl rfl rfl ?_
                                    refine ev_putIT f_X9_refuseToken (nx := 17) rfl p6.1 rfl rfl rfl (hI.put0 p6.1 rfl rfl) (hX.upI (t_inO hI.wf p6.1 (t_outO hI.wf p6.1 rfl) rfl)) (fun g108 e108 hI hX => ?_)
                                    refine ev_loc f_X9_refuseToken (nx := 18) rfl rfl rfl rfl ?_
                                    refine ev_loc f_X9_refuseToken (nx := 19) rfl rfl rfl rfl ?_
                                    refine ev_getI f_X9_refuseToken (nx := 22) rfl p6.1 rfl rfl rfl ?_
                                    obtain ⟨l109, u109⟩ := hI.b p6.1 (t_bdK rfl : t_bd 8 4 = some (0, 900))
                                    refine ev_putIT f_X9_refuseToken (nx := 25) rfl p6.1 rfl rfl rfl (hI.put0 p6.1 rfl rfl) (hX.upI (t_inO hI.wf p6.1 (t_outO hI.wf p6.1 rfl) rfl)) (fun g110 e110 hI hX => ?_)
                                    refine ev_ic f_X9_refuseToken (nx := 26) (v := 0) rfl (by decide) rfl ?_
                                    refine ev_retK1 f_X9_refuseToken rfl rfl rfl ?_
                                    refine ev_retK1 f_X9_takeKeyword rfl rfl rfl ?_
                                    refine ev_t f_X6_readComing (t1 := 85) (t2 := 87) rfl rfl rfl (by decide) ?_
                                    refine ev_ic f_X6_readComing (nx := 86) (v := 0) rfl (by decide) rfl ?_
                                    refine ev_retK1 f_X6_readComing rfl rfl rfl ?_
                                    refine ev_t f_X6_readShip (t1 := 132) (t2 := 134) rfl rfl rfl (by decide) ?_
                                    refine ev_ic f_X6_readShip (nx := 133) (v := 0) rfl (by decide) rfl ?_
                                    exact ev_ret f_X6_readShip rfl rfl rfl ⟨_, _, _, rfl, hI, hX, ⟨_, rfl, (by decide : (0:Int) ≤ (0:Int32).toInt), (Int.le_trans (by decide : (0:Int32).toInt ≤ (0:Int)) (by decide : (0:Int) ≤ 1))⟩⟩
                              · have l111 : 21 ≤ (gi53 a6 8).toInt := t_ltl (t_nle h63) (by decide : (20:Int) ≤ (20:Int32).toInt) rfl
                                refine ev_loc f_X9_takeNumber (nx := 31) rfl rfl rfl rfl ?_
                                refine ev_ic f_X9_takeNumber (nx := 32) (v := 4) rfl (by decide) rfl ?_
                                refine ev_inV2 f_X9_takeNumber (nx := 35) (lo2 := [(0, .ref a6), (1, .int 4)]) rfl rfl rfl rfl f_X9_refuseToken p6.1 rfl rfl rfl rfl rfl ?_
                                refine ev_loc f_X9_refuseToken (nx := 1) rfl rfl rfl rfl ?_
                                refine ev_loc f_X9_refuseToken (nx := 2) rfl rfl rfl rfl ?_
                                refine ev_gvI f_X9_refuseToken (nx := 5) (w := (gi53 a6 3)) rfl p6.1 rfl rfl rfl rfl ?_
                                refine ev_ic f_X9_refuseToken (nx := 6) (v := 4) rfl (by decide) rfl ?_
                                refine ev_f f_X9_refuseToken (t1 := 9) (t2 := 13) rfl rfl rfl (t_neT u55 (by decide : (4:Int) ≤ (4:Int32).toInt) (by decide)) ?_
                                refine ev_loc f_X9_refuseToken (nx := 14) rfl rfl rfl rfl ?_
                                refine ev_putIT f_X9_refuseToken (nx := 17) rfl p6.1 rfl rfl rfl (hI.put0 p6.1 rfl rfl) (hX.upI (t_inO hI.wf p6.1 (t_outO hI.wf p6.1 rfl) rfl)) (fun g112 e112 hI hX => ?_)
                                refine ev_loc f_X9_refuseToken (nx := 18) rfl rfl rfl rfl ?_
                                refine ev_loc f_X9_refuseToken (nx := 19) rfl rfl rfl rfl ?_
                                refine ev_getI f_X9_refuseToken (nx := 22) rfl p6.1 rfl rfl rfl ?_
                                obtain ⟨l113, u113⟩ := hI.b p6.1 (t_bdK rfl : t_bd 8 4 = some (0, 900))
                                refine ev_putIT f_X9_refuseToken (nx := 25) rfl p6.1 rfl rfl rfl (hI.put0 p6.1 rfl rfl) (hX.upI (t_inO hI.wf p6.1 (t_outO hI.wf p6.1 rfl) rfl)) (fun g114 e114 hI hX => ?_)
                                refine ev_ic f_X9_refuseToken (nx := 26) (v := 0) rfl (by decide) rfl ?_
                                refine ev_retK1 f_X9_refuseToken rfl rfl rfl ?_
                                refine ev_retK1 f_X9_takeNumber rfl rfl rfl ?_
                                refine ev_t f_X6_readComing (t1 := 85) (t2 := 72) rfl rfl rfl (by decide) ?_
                                refine ev_ic f_X6_readComing (nx := 86) (v := 0) rfl (by decide) rfl ?_
                                refine ev_retK1 f_X6_readComing rfl rfl rfl ?_
                                refine ev_t f_X6_readShip (t1 := 132) (t2 := 134) rfl rfl rfl (by decide) ?_
                                refine ev_ic f_X6_readShip (nx := 133) (v := 0) rfl (by decide) rfl ?_
                                exact ev_ret f_X6_readShip rfl rfl rfl ⟨_, _, _, rfl, hI, hX, ⟨_, rfl, (by decide : (0:Int) ≤ (0:Int32).toInt), (Int.le_trans (by decide : (0:Int32).toInt ≤ (0:Int)) (by decide : (0:Int) ≤ 1))⟩⟩
                          · refine ev_loc f_X9_takeNumber (nx := 9) rfl rfl rfl rfl ?_
                            refine ev_ic f_X9_takeNumber (nx := 10) (v := 2) rfl (by decide) rfl ?_
                            refine ev_inV2 f_X9_takeNumber (nx := 13) (lo2 := [(0, .ref a6), (1, .int 2)]) rfl rfl rfl rfl f_X9_refuseToken p6.1 rfl rfl rfl rfl rfl ?_
                            refine ev_loc f_X9_refuseToken (nx := 1) rfl rfl rfl rfl ?_
                            refine ev_loc f_X9_refuseToken (nx := 2) rfl rfl rfl rfl ?_
                            refine ev_gvI f_X9_refuseToken (nx := 5) (w := (gi53 a6 3)) rfl p6.1 rfl rfl rfl rfl ?_
                            refine ev_ic f_X9_refuseToken (nx := 6) (v := 4) rfl (by decide) rfl ?_
                            refine ev_if f_X9_refuseToken (t1 := 9) (t2 := 13) rfl rfl rfl (fun h115 => ?_) (fun h115 => ?_)
                            · have u116 : (gi53 a6 3).toInt ≤ 4 := t_equ h115 (by decide : (4:Int32).toInt ≤ (4:Int))
                              have l117 : 4 ≤ (gi53 a6 3).toInt := t_eql h115 (by decide : (4:Int) ≤ (4:Int32).toInt)
                              refine ev_ic f_X9_refuseToken (nx := 10) (v := 1) rfl (by decide) rfl ?_
                              refine ev_jmp f_X9_refuseToken (nx := 14) rfl rfl rfl ?_
                              refine ev_putIT f_X9_refuseToken (nx := 17) rfl p6.1 rfl rfl rfl (hI.put0 p6.1 rfl rfl) (hX.upI (t_inO hI.wf p6.1 (t_outO hI.wf p6.1 rfl) rfl)) (fun g118 e118 hI hX => ?_)
                              refine ev_loc f_X9_refuseToken (nx := 18) rfl rfl rfl rfl ?_
                              refine ev_loc f_X9_refuseToken (nx := 19) rfl rfl rfl rfl ?_
                              refine ev_getI f_X9_refuseToken (nx := 22) rfl p6.1 rfl rfl rfl ?_
                              obtain ⟨l119, u119⟩ := hI.b p6.1 (t_bdK rfl : t_bd 8 4 = some (0, 900))
                              refine ev_putIT f_X9_refuseToken (nx := 25) rfl p6.1 rfl rfl rfl (hI.put0 p6.1 rfl rfl) (hX.upI (t_inO hI.wf p6.1 (t_outO hI.wf p6.1 rfl) rfl)) (fun g120 e120 hI hX => ?_)
                              refine ev_ic f_X9_refuseToken (nx := 26) (v := 0) rfl (by decide) rfl ?_
                              refine ev_retK1 f_X9_refuseToken rfl rfl rfl ?_
                              refine ev_retK1 f_X9_takeNumber rfl rfl rfl ?_
                              refine ev_t f_X6_readComing (t1 := 85) (t2 := 72) rfl rfl rfl (by decide) ?_
                              refine ev_ic f_X6_readComing (nx := 86) (v := 0) rfl (by decide) rfl ?_
                              refine ev_retK1 f_X6_readComing rfl rfl rfl ?_
                              refine ev_t f_X6_readShip (t1 := 132) (t2 := 134) rfl rfl rfl (by decide) ?_
                              refine ev_ic f_X6_readShip (nx := 133) (v := 0) rfl (by decide) rfl ?_
                              exact ev_ret f_X6_readShip rfl rfl rfl ⟨_, _, _, rfl, hI, hX, ⟨_, rfl, (by decide : (0:Int) ≤ (0:Int32).toInt), (Int.le_trans (by decide : (0:Int32).toInt ≤ (0:Int)) (by decide : (0:Int) ≤ 1))⟩⟩
                            · refine ev_loc f_X9_refuseToken (nx := 14) rfl rfl rfl rfl ?_
                              refine ev_putIT f_X9_refuseToken (nx := 17) rfl p6.1 rfl rfl rfl (hI.put0 p6.1 rfl rfl) (hX.upI (t_inO hI.wf p6.1 (t_outO hI.wf p6.1 rfl) rfl)) (fun g121 e121 hI hX => ?_)
                              refine ev_loc f_X9_refuseToken (nx := 18) rfl rfl rfl rfl ?_
                              refine ev_loc f_X9_refuseToken (nx := 19) rfl rfl rfl rfl ?_
                              refine ev_getI f_X9_refuseToken (nx := 22) rfl p6.1 rfl rfl rfl ?_
                              obtain ⟨l122, u122⟩ := hI.b p6.1 (t_bdK rfl : t_bd 8 4 = some (0, 900))
                              refine ev_putIT f_X9_refuseToken (nx := 25) rfl p6.1 rfl rfl rfl (hI.put0 p6.1 rfl rfl) (hX.upI (t_inO hI.wf p6.1 (t_outO hI.wf p6.1 rfl) rfl)) (fun g123 e123 hI hX => ?_)
                              refine ev_ic f_X9_refuseToken (nx := 26) (v := 0) rfl (by decide) rfl ?_
                              refine ev_retK1 f_X9_refuseToken rfl rfl rfl ?_
                              refine ev_retK1 f_X9_takeNumber rfl rfl rfl ?_
                              refine ev_t f_X6_readComing (t1 := 85) (t2 := 72) rfl rfl rfl (by decide) ?_
                              refine ev_ic f_X6_readComing (nx := 86) (v := 0) rfl (by decide) rfl ?_
                              refine ev_retK1 f_X6_readComing rfl rfl rfl ?_
                              refine ev_t f_X6_readShip (t1 := 132) (t2 := 134) rfl rfl rfl (by decide) ?_
                              refine ev_ic f_X6_readShip (nx := 133) (v := 0) rfl (by decide) rfl ?_
                              exact ev_ret f_X6_readShip rfl rfl rfl ⟨_, _, _, rfl, hI, hX, ⟨_, rfl, (by decide : (0:Int) ≤ (0:Int32).toInt), (Int.le_trans (by decide : (0:Int32).toInt ≤ (0:Int)) (by decide : (0:Int) ≤ 1))⟩⟩
                        · refine ev_loc f_X9_takeKeyword (nx := 9) rfl rfl rfl rfl ?_
                          refine ev_ic f_X9_takeKeyword (nx := 10) (v := 2) rfl (by decide) rfl ?_
                          refine ev_inV2 f_X9_takeKeyword (nx := 13) (lo2 := [(0, .ref a6), (1, .int 2)]) rfl rfl rfl rfl f_X9_refuseToken p6.1 rfl rfl rfl rfl rfl ?_
                          refine ev_loc f_X9_refuseToken (nx := 1) rfl rfl rfl rfl ?_
                          refine ev_loc f_X9_refuseToken (nx := 2) rfl rfl rfl rfl ?_
                          refine ev_getI f_X9_refuseToken (nx := 5) rfl p6.1 rfl rfl rfl ?_
                          refine ev_ic f_X9_refuseToken (nx := 6) (v := 4) rfl (by decide) rfl ?_
                          refine ev_if f_X9_refuseToken (t1 := 9) (t2 := 13) rfl rfl rfl (fun h124 => ?_) (fun h124 => ?_)
                          · have u125 : (gi50 a6 3).toInt ≤ 4 := t_equ h124 (by decide : (4:Int32).toInt ≤ (4:Int))
                            have l126 : 4 ≤ (gi50 a6 3).toInt := t_eql h124 (by decide : (4:Int) ≤ (4:Int32).toInt)
                            refine ev_ic f_X9_refuseToken (nx := 10) (v := 1) rfl (by decide) rfl ?_
                            refine ev_jmp f_X9_refuseToken (nx := 14) rfl rfl rfl ?_
                            refine ev_putIT f_X9_refuseToken (nx := 17) rfl p6.1 rfl rfl rfl (hI.put0 p6.1 rfl rfl) (hX.upI (t_inO hI.wf p6.1 (t_outO hI.wf p6.1 rfl) rfl)) (fun g127 e127 hI hX => ?_)
                            refine ev_loc f_X9_refuseToken (nx := 18) rfl rfl rfl rfl ?_
                            refine ev_loc f_X9_refuseToken (nx := 19) rfl rfl rfl rfl ?_
                            refine ev_getI f_X9_refuseToken (nx := 22) rfl p6.1 rfl rfl rfl ?_
                            obtain ⟨l128, u128⟩ := hI.b p6.1 (t_bdK rfl : t_bd 8 4 = some (0, 900))
                            refine ev_putIT f_X9_refuseToken (nx := 25) rfl p6.1 rfl rfl rfl (hI.put0 p6.1 rfl rfl) (hX.upI (t_inO hI.wf p6.1 (t_outO hI.wf p6.1 rfl) rfl)) (fun g129 e129 hI hX => ?_)
                            refine ev_ic f_X9_refuseToken (nx := 26) (v := 0) rfl (by decide) rfl ?_
                            refine ev_retK1 f_X9_refuseToken rfl rfl rfl ?_
                            refine ev_retK1 f_X9_takeKeyword rfl rfl rfl ?_
                            refine ev_t f_X6_readComing (t1 := 49) (t2 := 51) rfl rfl rfl (by decide) ?_
                            refine ev_ic f_X6_readComing (nx := 50) (v := 0) rfl (by decide) rfl ?_
                            refine ev_retK1 f_X6_readComing rfl rfl rfl ?_
                            refine ev_t f_X6_readShip (t1 := 132) (t2 := 134) rfl rfl rfl (by decide) ?_
                            refine ev_ic f_X6_readShip (nx := 133) (v := 0) rfl (by decide) rfl ?_
                            exact ev_ret f_X6_readShip rfl rfl rfl ⟨_, _, _, rfl, hI, hX, ⟨_, rfl, (by decide : (0:Int) ≤ (0:Int32).toInt), (Int.le_trans (by decide : (0:Int32).toInt ≤ (0:Int)) (by decide : (0:Int) ≤ 1))⟩⟩
                          · refine ev_loc f_X9_refuseToken (nx := 14) rfl rfl rfl rfl ?_
                            refine ev_putIT f_X9_refuseToken (nx := 17) rfl p6.1 rfl rfl rfl (hI.put0 p6.1 rfl rfl) (hX.upI (t_inO hI.wf p6.1 (t_outO hI.wf p6.1 rfl) rfl)) (fun g130 e130 hI hX => ?_)
                            refine ev_loc f_X9_refuseToken (nx := 18) rfl rfl rfl rfl ?_
                            refine ev_loc f_X9_refuseToken (nx := 19) rfl rfl rfl rfl ?_
                            refine ev_getI f_X9_refuseToken (nx := 22) rfl p6.1 rfl rfl rfl ?_
                            obtain ⟨l131, u131⟩ := hI.b p6.1 (t_bdK rfl : t_bd 8 4 = some (0, 900))
                            refine ev_putIT f_X9_refuseToken (nx := 25) rfl p6.1 rfl rfl rfl (hI.put0 p6.1 rfl rfl) (hX.upI (t_inO hI.wf p6.1 (t_outO hI.wf p6.1 rfl) rfl)) (fun g132 e132 hI hX => ?_)
                            refine ev_ic f_X9_refuseToken (nx := 26) (v := 0) rfl (by decide) rfl ?_
                            refine ev_retK1 f_X9_refuseToken rfl rfl rfl ?_
                            refine ev_retK1 f_X9_takeKeyword rfl rfl rfl ?_
                            refine ev_t f_X6_readComing (t1 := 49) (t2 := 51) rfl rfl rfl (by decide) ?_
                            refine ev_ic f_X6_readComing (nx := 50) (v := 0) rfl (by decide) rfl ?_
                            refine ev_retK1 f_X6_readComing rfl rfl rfl ?_
                            refine ev_t f_X6_readShip (t1 := 132) (t2 := 134) rfl rfl rfl (by decide) ?_
                            refine ev_ic f_X6_readShip (nx := 133) (v := 0) rfl (by decide) rfl ?_
                            exact ev_ret f_X6_readShip rfl rfl rfl ⟨_, _, _, rfl, hI, hX, ⟨_, rfl, (by decide : (0:Int) ≤ (0:Int32).toInt), (Int.le_trans (by decide : (0:Int32).toInt ≤ (0:Int)) (by decide : (0:Int) ≤ 1))⟩⟩
                      · have l133 : 121 ≤ (gi38 a6 8).toInt := t_ltl (t_nle h48) (by decide : (120:Int) ≤ (120:Int32).toInt) rfl
                        refine ev_loc f_X9_takeNumber (nx := 31) rfl rfl rfl rfl ?_
                        refine ev_ic f_X9_takeNumber (nx := 32) (v := 4) rfl (by decide) rfl ?_
                        refine ev_inV2 f_X9_takeNumber (nx := 35) (lo2 := [(0, .ref a6), (1, .int 4)]) rfl rfl rfl rfl f_X9_refuseToken p6.1 rfl rfl rfl rfl rfl ?_
                        refine ev_loc f_X9_refuseToken (nx := 1) rfl rfl rfl rfl ?_
                        refine ev_loc f_X9_refuseToken (nx := 2) rfl rfl rfl rfl ?_
                        refine ev_gvI f_X9_refuseToken (nx := 5) (w := (gi38 a6 3)) rfl p6.1 rfl rfl rfl rfl ?_
                        refine ev_ic f_X9_refuseToken (nx := 6) (v := 4) rfl (by decide) rfl ?_
                        refine ev_f f_X9_refuseToken (t1 := 9) (t2 := 13) rfl rfl rfl (t_neT u40 (by decide : (4:Int) ≤ (4:Int32).toInt) (by decide)) ?_
                        refine ev_loc f_X9_refuseToken (nx := 14) rfl rfl rfl rfl ?_
                        refine ev_putIT f_X9_refuseToken (nx := 17) rfl p6.1 rfl rfl rfl (hI.put0 p6.1 rfl rfl) (hX.upI (t_inO hI.wf p6.1 (t_outO hI.wf p6.1 rfl) rfl)) (fun g134 e134 hI hX => ?_)
                        refine ev_loc f_X9_refuseToken (nx := 18) rfl rfl rfl rfl ?_
                        refine ev_loc f_X9_refuseToken (nx := 19) rfl rfl rfl rfl ?_
                        refine ev_getI f_X9_refuseToken (nx := 22) rfl p6.1 rfl rfl rfl ?_
                        obtain ⟨l135, u135⟩ := hI.b p6.1 (t_bdK rfl : t_bd 8 4 = some (0, 900))
                        refine ev_putIT f_X9_refuseToken (nx := 25) rfl p6.1 rfl rfl rfl (hI.put0 p6.1 rfl rfl) (hX.upI (t_inO hI.wf p6.1 (t_outO hI.wf p6.1 rfl) rfl)) (fun g136 e136 hI hX => ?_)
                        refine ev_ic f_X9_refuseToken (nx := 26) (v := 0) rfl (by decide) rfl ?_
                        refine ev_retK1 f_X9_refuseToken rfl rfl rfl ?_
                        refine ev_retK1 f_X9_takeNumber rfl rfl rfl ?_
                        refine ev_t f_X6_readComing (t1 := 49) (t2 := 36) rfl rfl rfl (by decide) ?_
                        refine ev_ic f_X6_readComing (nx := 50) (v := 0) rfl (by decide) rfl ?_
                        refine ev_retK1 f_X6_readComing rfl rfl rfl ?_
                        refine ev_t f_X6_readShip (t1 := 132) (t2 := 134) rfl rfl rfl (by decide) ?_
                        refine ev_ic f_X6_readShip (nx := 133) (v := 0) rfl (by decide) rfl ?_
                        exact ev_ret f_X6_readShip rfl rfl rfl ⟨_, _, _, rfl, hI, hX, ⟨_, rfl, (by decide : (0:Int) ≤ (0:Int32).toInt), (Int.le_trans (by decide : (0:Int32).toInt ≤ (0:Int)) (by decide : (0:Int) ≤ 1))⟩⟩
                  · refine ev_loc f_X9_takeNumber (nx := 9) rfl rfl rfl rfl ?_
                    refine ev_ic f_X9_takeNumber (nx := 10) (v := 2) rfl (by decide) rfl ?_
                    refine ev_inV2 f_X9_takeNumber (nx := 13) (lo2 := [(0, .ref a6), (1, .int 2)]) rfl rfl rfl rfl f_X9_refuseToken p6.1 rfl rfl rfl rfl rfl ?_
                    refine ev_loc f_X9_refuseToken (nx := 1) rfl rfl rfl rfl ?_
                    refine ev_loc f_X9_refuseToken (nx := 2) rfl rfl rfl rfl ?_
                    refine ev_gvI f_X9_refuseToken (nx := 5) (w := (gi38 a6 3)) rfl p6.1 rfl rfl rfl rfl ?_
                    refine ev_ic f_X9_refuseToken (nx := 6) (v := 4) rfl (by decide) rfl ?_
                    refine ev_if f_X9_refuseToken (t1 := 9) (t2 := 13) rfl rfl rfl (fun h137 => ?_) (fun h137 => ?_)
                    · have u138 : (gi38 a6 3).toInt ≤ 4 := t_equ h137 (by decide : (4:Int32).toInt ≤ (4:Int))
                      have l139 : 4 ≤ (gi38 a6 3).toInt := t_eql h137 (by decide : (4:Int) ≤ (4:Int32).toInt)
                      refine ev_ic f_X9_refuseToken (nx := 10) (v := 1) rfl (by decide) rfl ?_
                      refine ev_jmp f_X9_refuseToken (nx := 14) rfl rfl rfl ?_
                      refine ev_putIT f_X9_refuseToken (nx := 17) rfl p6.1 rfl rfl rfl (hI.put0 p6.1 rfl rfl) (hX.upI (t_inO hI.wf p6.1 (t_outO hI.wf p6.1 rfl) rfl)) (fun g140 e140 hI hX => ?_)
                      refine ev_loc f_X9_refuseToken (nx := 18) rfl rfl rfl rfl ?_
                      refine ev_loc f_X9_refuseToken (nx := 19) rfl rfl rfl rfl ?_
                      refine ev_getI f_X9_refuseToken (nx := 22) rfl p6.1 rfl rfl rfl ?_
                      obtain ⟨l141, u141⟩ := hI.b p6.1 (t_bdK rfl : t_bd 8 4 = some (0, 900))
                      refine ev_putIT f_X9_refuseToken (nx := 25) rfl p6.1 rfl rfl rfl (hI.put0 p6.1 rfl rfl) (hX.upI (t_inO hI.wf p6.1 (t_outO hI.wf p6.1 rfl) rfl)) (fun g142 e142 hI hX => ?_)
                      refine ev_ic f_X9_refuseToken (nx := 26) (v := 0) rfl (by decide) rfl ?_
                      refine ev_retK1 f_X9_refuseToken rfl rfl rfl ?_
                      refine ev_retK1 f_X9_takeNumber rfl rfl rfl ?_
                      refine ev_t f_X6_readComing (t1 := 49) (t2 := 36) rfl rfl rfl (by decide) ?_
                      refine ev_ic f_X6_readComing (nx := 50) (v := 0) rfl (by decide) rfl ?_
                      refine ev_retK1 f_X6_readComing rfl rfl rfl ?_
                      refine ev_t f_X6_readShip (t1 := 132) (t2 := 134) rfl rfl rfl (by decide) ?_
                      refine ev_ic f_X6_readShip (nx := 133) (v := 0) rfl (by decide) rfl ?_
                      exact ev_ret f_X6_readShip rfl rfl rfl ⟨_, _, _, rfl, hI, hX, ⟨_, rfl, (by decide : (0:Int) ≤ (0:Int32).toInt), (Int.le_trans (by decide : (0:Int32).toInt ≤ (0:Int)) (by decide : (0:Int) ≤ 1))⟩⟩
                    · refine ev_loc f_X9_refuseToken (nx := 14) rfl rfl rfl rfl ?_
                      refine ev_putIT f_X9_refuseToken (nx := 17) rfl p6.1 rfl rfl rfl (hI.put0 p6.1 rfl rfl) (hX.upI (t_inO hI.wf p6.1 (t_outO hI.wf p6.1 rfl) rfl)) (fun g143 e143 hI hX => ?_)
                      refine ev_loc f_X9_refuseToken (nx := 18) rfl rfl rfl rfl ?_
                      refine ev_loc f_X9_refuseToken (nx := 19) rfl rfl rfl rfl ?_
                      refine ev_getI f_X9_refuseToken (nx := 22) rfl p6.1 rfl rfl rfl ?_
                      obtain ⟨l144, u144⟩ := hI.b p6.1 (t_bdK rfl : t_bd 8 4 = some (0, 900))
                      refine ev_putIT f_X9_refuseToken (nx := 25) rfl p6.1 rfl rfl rfl (hI.put0 p6.1 rfl rfl) (hX.upI (t_inO hI.wf p6.1 (t_outO hI.wf p6.1 rfl) rfl)) (fun g145 e145 hI hX => ?_)
                      refine ev_ic f_X9_refuseToken (nx := 26) (v := 0) rfl (by decide) rfl ?_
                      refine ev_retK1 f_X9_refuseToken rfl rfl rfl ?_
                      refine ev_retK1 f_X9_takeNumber rfl rfl rfl ?_
                      refine ev_t f_X6_readComing (t1 := 49) (t2 := 36) rfl rfl rfl (by decide) ?_
                      refine ev_ic f_X6_readComing (nx := 50) (v := 0) rfl (by decide) rfl ?_
                      refine ev_retK1 f_X6_readComing rfl rfl rfl ?_
                      refine ev_t f_X6_readShip (t1 := 132) (t2 := 134) rfl rfl rfl (by decide) ?_
                      refine ev_ic f_X6_readShip (nx := 133) (v := 0) rfl (by decide) rfl ?_
                      exact ev_ret f_X6_readShip rfl rfl rfl ⟨_, _, _, rfl, hI, hX, ⟨_, rfl, (by decide : (0:Int) ≤ (0:Int32).toInt), (Int.le_trans (by decide : (0:Int32).toInt ≤ (0:Int)) (by decide : (0:Int) ≤ 1))⟩⟩
                · refine ev_loc f_X9_takeKeyword (nx := 9) rfl rfl rfl rfl ?_
                  refine ev_ic f_X9_takeKeyword (nx := 10) (v := 2) rfl (by decide) rfl ?_
                  refine ev_inV2 f_X9_takeKeyword (nx := 13) (lo2 := [(0, .ref a6), (1, .int 2)]) rfl rfl rfl rfl f_X9_refuseToken p6.1 rfl rfl rfl rfl rfl ?_
                  refine ev_loc f_X9_refuseToken (nx := 1) rfl rfl rfl rfl ?_
                  refine ev_loc f_X9_refuseToken (nx := 2) rfl rfl rfl rfl ?_
                  refine ev_getI f_X9_refuseToken (nx := 5) rfl p6.1 rfl rfl rfl ?_
                  refine ev_ic f_X9_refuseToken (nx := 6) (v := 4) rfl (by decide) rfl ?_
                  refine ev_if f_X9_refuseToken (t1 := 9) (t2 := 13) rfl rfl rfl (fun h146 => ?_) (fun h146 => ?_)
                  · have u147 : (g35 a6 3).toInt ≤ 4 := t_equ h146 (by decide : (4:Int32).toInt ≤ (4:Int))
                    have l148 : 4 ≤ (g35 a6 3).toInt := t_eql h146 (by decide : (4:Int) ≤ (4:Int32).toInt)
                    refine ev_ic f_X9_refuseToken (nx := 10) (v := 1) rfl (by decide) rfl ?_
                    refine ev_jmp f_X9_refuseToken (nx := 14) rfl rfl rfl ?_
                    refine ev_putIT f_X9_refuseToken (nx := 17) rfl p6.1 rfl rfl rfl (hI.put0 p6.1 rfl rfl) (hX.upI (t_inO hI.wf p6.1 (t_outO hI.wf p6.1 rfl) rfl)) (fun g149 e149 hI hX => ?_)
                    refine ev_loc f_X9_refuseToken (nx := 18) rfl rfl rfl rfl ?_
                    refine ev_loc f_X9_refuseToken (nx := 19) rfl rfl rfl rfl ?_
                    refine ev_getI f_X9_refuseToken (nx := 22) rfl p6.1 rfl rfl rfl ?_
                    obtain ⟨l150, u150⟩ := hI.b p6.1 (t_bdK rfl : t_bd 8 4 = some (0, 900))
                    refine ev_putIT f_X9_refuseToken (nx := 25) rfl p6.1 rfl rfl rfl (hI.put0 p6.1 rfl rfl) (hX.upI (t_inO hI.wf p6.1 (t_outO hI.wf p6.1 rfl) rfl)) (fun g151 e151 hI hX => ?_)
                    refine ev_ic f_X9_refuseToken (nx := 26) (v := 0) rfl (by decide) rfl ?_
                    refine ev_retK1 f_X9_refuseToken rfl rfl rfl ?_
                    refine ev_retK1 f_X9_takeKeyword rfl rfl rfl ?_
                    refine ev_t f_X6_readComing (t1 := 13) (t2 := 15) rfl rfl rfl (by decide) ?_
                    refine ev_ic f_X6_readComing (nx := 14) (v := 0) rfl (by decide) rfl ?_
                    refine ev_retK1 f_X6_readComing rfl rfl rfl ?_
                    refine ev_t f_X6_readShip (t1 := 132) (t2 := 134) rfl rfl rfl (by decide) ?_
                    refine ev_ic f_X6_readShip (nx := 133) (v := 0) rfl (by decide) rfl ?_
                    exact ev_ret f_X6_readShip rfl rfl rfl ⟨_, _, _, rfl, hI, hX, ⟨_, rfl, (by decide : (0:Int) ≤ (0:Int32).toInt), (Int.le_trans (by decide : (0:Int32).toInt ≤ (0:Int)) (by decide : (0:Int) ≤ 1))⟩⟩
                  · refine ev_loc f_X9_refuseToken (nx := 14) rfl rfl rfl rfl ?_
                    refine ev_putIT f_X9_refuseToken (nx := 17) rfl p6.1 rfl rfl rfl (hI.put0 p6.1 rfl rfl) (hX.upI (t_inO hI.wf p6.1 (t_outO hI.wf p6.1 rfl) rfl)) (fun g152 e152 hI hX => ?_)
                    refine ev_loc f_X9_refuseToken (nx := 18) rfl rfl rfl rfl ?_
                    refine ev_loc f_X9_refuseToken (nx := 19) rfl rfl rfl rfl ?_
                    refine ev_getI f_X9_refuseToken (nx := 22) rfl p6.1 rfl rfl rfl ?_
                    obtain ⟨l153, u153⟩ := hI.b p6.1 (t_bdK rfl : t_bd 8 4 = some (0, 900))
                    refine ev_putIT f_X9_refuseToken (nx := 25) rfl p6.1 rfl rfl rfl (hI.put0 p6.1 rfl rfl) (hX.upI (t_inO hI.wf p6.1 (t_outO hI.wf p6.1 rfl) rfl)) (fun g154 e154 hI hX => ?_)
                    refine ev_ic f_X9_refuseToken (nx := 26) (v := 0) rfl (by decide) rfl ?_
                    refine ev_retK1 f_X9_refuseToken rfl rfl rfl ?_
                    refine ev_retK1 f_X9_takeKeyword rfl rfl rfl ?_
                    refine ev_t f_X6_readComing (t1 := 13) (t2 := 15) rfl rfl rfl (by decide) ?_
                    refine ev_ic f_X6_readComing (nx := 14) (v := 0) rfl (by decide) rfl ?_
                    refine ev_retK1 f_X6_readComing rfl rfl rfl ?_
                    refine ev_t f_X6_readShip (t1 := 132) (t2 := 134) rfl rfl rfl (by decide) ?_
                    refine ev_ic f_X6_readShip (nx := 133) (v := 0) rfl (by decide) rfl ?_
                    exact ev_ret f_X6_readShip rfl rfl rfl ⟨_, _, _, rfl, hI, hX, ⟨_, rfl, (by decide : (0:Int) ≤ (0:Int32).toInt), (Int.le_trans (by decide : (0:Int32).toInt ≤ (0:Int)) (by decide : (0:Int) ≤ 1))⟩⟩
          · refine ev_ic f_X9_isName (nx := 28) (v := 0) rfl (by decide) rfl ?_
            refine ev_retK1 f_X9_isName rfl rfl rfl ?_
            refine ev_t f_X6_readShip (t1 := 66) (t2 := 75) rfl rfl rfl (by decide) ?_
            refine ev_loc f_X6_readShip (nx := 67) rfl rfl rfl rfl ?_
            refine ev_getR f_X6_readShip (nx := 70) (v := .ref a6) rfl p_a0.1 rfl rfl ((hC14.1 ar0 0 (t_ninO hI.wf p_a0.1 (t_outO hI.wf p_a0.1 rfl) rfl)).2.2.trans ((hC8.1 ar0 0 (t_ninO hI.wf p_a0.1 (t_outO hI.wf p_a0.1 rfl) rfl)).2.2.trans ((hC7.1 ar0 0 (t_ninO hI.wf p_a0.1 (t_outO hI.wf p_a0.1 rfl) rfl)).2.2.trans e6))) rfl rfl ?_
            refine ev_ic f_X6_readShip (nx := 71) (v := 2) rfl (by decide) rfl ?_
            refine ev_inV2 f_X6_readShip (nx := 74) (lo2 := [(0, .ref a6), (1, .int 2)]) rfl rfl rfl rfl f_X9_refuseToken p6.1 rfl rfl rfl rfl rfl ?_
            refine ev_loc f_X9_refuseToken (nx := 1) rfl rfl rfl rfl ?_
            refine ev_loc f_X9_refuseToken (nx := 2) rfl rfl rfl rfl ?_
            refine ev_gvI f_X9_refuseToken (nx := 5) (w := (gi14 a6 3)) rfl p6.1 rfl rfl rfl rfl ?_
            refine ev_ic f_X9_refuseToken (nx := 6) (v := 4) rfl (by decide) rfl ?_
            refine ev_f f_X9_refuseToken (t1 := 9) (t2 := 13) rfl rfl rfl (t_neT u16 (by decide : (4:Int) ≤ (4:Int32).toInt) (by decide)) ?_
            refine ev_loc f_X9_refuseToken (nx := 14) rfl rfl rfl rfl ?_
            refine ev_putIT f_X9_refuseToken (nx := 17) rfl p6.1 rfl rfl rfl (hI.put0 p6.1 rfl rfl) (hX.upI (t_inO hI.wf p6.1 (t_outO hI.wf p6.1 rfl) rfl)) (fun g155 e155 hI hX => ?_)
            refine ev_loc f_X9_refuseToken (nx := 18) rfl rfl rfl rfl ?_
            refine ev_loc f_X9_refuseToken (nx := 19) rfl rfl rfl rfl ?_
            refine ev_getI f_X9_refuseToken (nx := 22) rfl p6.1 rfl rfl rfl ?_
            obtain ⟨l156, u156⟩ := hI.b p6.1 (t_bdK rfl : t_bd 8 4 = some (0, 900))
            refine ev_putIT f_X9_refuseToken (nx := 25) rfl p6.1 rfl rfl rfl (hI.put0 p6.1 rfl rfl) (hX.upI (t_inO hI.wf p6.1 (t_outO hI.wf p6.1 rfl) rfl)) (fun g157 e157 hI hX => ?_)
            refine ev_ic f_X9_refuseToken (nx := 26) (v := 0) rfl (by decide) rfl ?_
            refine ev_retK1 f_X9_refuseToken rfl rfl rfl ?_
            exact ev_ret f_X6_readShip rfl rfl rfl ⟨_, _, _, rfl, hI, hX, ⟨_, rfl, (by decide : (0:Int) ≤ (0:Int32).toInt), (Int.le_trans (by decide : (0:Int32).toInt ≤ (0:Int)) (by decide : (0:Int) ≤ 1))⟩⟩
        · refine ev_ic f_X9_isName (nx := 28) (v := 0) rfl (by decide) rfl ?_
          refine ev_retK1 f_X9_isName rfl rfl rfl ?_
          refine ev_t f_X6_readShip (t1 := 66) (t2 := 75) rfl rfl rfl (by decide) ?_
          refine ev_loc f_X6_readShip (nx := 67) rfl rfl rfl rfl ?_
          refine ev_getR f_X6_readShip (nx := 70) (v := .ref a6) rfl p_a0.1 rfl rfl ((hC14.1 ar0 0 (t_ninO hI.wf p_a0.1 (t_outO hI.wf p_a0.1 rfl) rfl)).2.2.trans ((hC8.1 ar0 0 (t_ninO hI.wf p_a0.1 (t_outO hI.wf p_a0.1 rfl) rfl)).2.2.trans ((hC7.1 ar0 0 (t_ninO hI.wf p_a0.1 (t_outO hI.wf p_a0.1 rfl) rfl)).2.2.trans e6))) rfl rfl ?_
          refine ev_ic f_X6_readShip (nx := 71) (v := 2) rfl (by decide) rfl ?_
          refine ev_inV2 f_X6_readShip (nx := 74) (lo2 := [(0, .ref a6), (1, .int 2)]) rfl rfl rfl rfl f_X9_refuseToken p6.1 rfl rfl rfl rfl rfl ?_
          refine ev_loc f_X9_refuseToken (nx := 1) rfl rfl rfl rfl ?_
          refine ev_loc f_X9_refuseToken (nx := 2) rfl rfl rfl rfl ?_
          refine ev_gvI f_X9_refuseToken (nx := 5) (w := (gi14 a6 3)) rfl p6.1 rfl rfl rfl rfl ?_
          refine ev_ic f_X9_refuseToken (nx := 6) (v := 4) rfl (by decide) rfl ?_
          refine ev_if f_X9_refuseToken (t1 := 9) (t2 := 13) rfl rfl rfl (fun h158 => ?_) (fun h158 => ?_)
          · have u159 : (gi14 a6 3).toInt ≤ 4 := t_equ h158 (by decide : (4:Int32).toInt ≤ (4:Int))
            have l160 : 4 ≤ (gi14 a6 3).toInt := t_eql h158 (by decide : (4:Int) ≤ (4:Int32).toInt)
            refine ev_ic f_X9_refuseToken (nx := 10) (v := 1) rfl (by decide) rfl ?_
            refine ev_jmp f_X9_refuseToken (nx := 14) rfl rfl rfl ?_
            refine ev_putIT f_X9_refuseToken (nx := 17) rfl p6.1 rfl rfl rfl (hI.put0 p6.1 rfl rfl) (hX.upI (t_inO hI.wf p6.1 (t_outO hI.wf p6.1 rfl) rfl)) (fun g161 e161 hI hX => ?_)
            refine ev_loc f_X9_refuseToken (nx := 18) rfl rfl rfl rfl ?_
            refine ev_loc f_X9_refuseToken (nx := 19) rfl rfl rfl rfl ?_
            refine ev_getI f_X9_refuseToken (nx := 22) rfl p6.1 rfl rfl rfl ?_
            obtain ⟨l162, u162⟩ := hI.b p6.1 (t_bdK rfl : t_bd 8 4 = some (0, 900))
            refine ev_putIT f_X9_refuseToken (nx := 25) rfl p6.1 rfl rfl rfl (hI.put0 p6.1 rfl rfl) (hX.upI (t_inO hI.wf p6.1 (t_outO hI.wf p6.1 rfl) rfl)) (fun g163 e163 hI hX => ?_)
            refine ev_ic f_X9_refuseToken (nx := 26) (v := 0) rfl (by decide) rfl ?_
            refine ev_retK1 f_X9_refuseToken rfl rfl rfl ?_
            exact ev_ret f_X6_readShip rfl rfl rfl ⟨_, _, _, rfl, hI, hX, ⟨_, rfl, (by decide : (0:Int) ≤ (0:Int32).toInt), (Int.le_trans (by decide : (0:Int32).toInt ≤ (0:Int)) (by decide : (0:Int) ≤ 1))⟩⟩
          · refine ev_loc f_X9_refuseToken (nx := 14) rfl rfl rfl rfl ?_
            refine ev_putIT f_X9_refuseToken (nx := 17) rfl p6.1 rfl rfl rfl (hI.put0 p6.1 rfl rfl) (hX.upI (t_inO hI.wf p6.1 (t_outO hI.wf p6.1 rfl) rfl)) (fun g164 e164 hI hX => ?_)
            refine ev_loc f_X9_refuseToken (nx := 18) rfl rfl rfl rfl ?_
            refine ev_loc f_X9_refuseToken (nx := 19) rfl rfl rfl rfl ?_
            refine ev_getI f_X9_refuseToken (nx := 22) rfl p6.1 rfl rfl rfl ?_
            obtain ⟨l165, u165⟩ := hI.b p6.1 (t_bdK rfl : t_bd 8 4 = some (0, 900))
            refine ev_putIT f_X9_refuseToken (nx := 25) rfl p6.1 rfl rfl rfl (hI.put0 p6.1 rfl rfl) (hX.upI (t_inO hI.wf p6.1 (t_outO hI.wf p6.1 rfl) rfl)) (fun g166 e166 hI hX => ?_)
            refine ev_ic f_X9_refuseToken (nx := 26) (v := 0) rfl (by decide) rfl ?_
            refine ev_retK1 f_X9_refuseToken rfl rfl rfl ?_
            exact ev_ret f_X6_readShip rfl rfl rfl ⟨_, _, _, rfl, hI, hX, ⟨_, rfl, (by decide : (0:Int) ≤ (0:Int32).toInt), (Int.le_trans (by decide : (0:Int32).toInt ≤ (0:Int)) (by decide : (0:Int) ≤ 1))⟩⟩
      · refine ev_loc f_X9_takeKeyword (nx := 9) rfl rfl rfl rfl ?_
        refine ev_ic f_X9_takeKeyword (nx := 10) (v := 2) rfl (by decide) rfl ?_
        refine ev_inV2 f_X9_takeKeyword (nx := 13) (lo2 := [(0, .ref a6), (1, .int 2)]) rfl rfl rfl rfl f_X9_refuseToken p6.1 rfl rfl rfl rfl rfl ?_
        refine ev_loc f_X9_refuseToken (nx := 1) rfl rfl rfl rfl ?_
        refine ev_loc f_X9_refuseToken (nx := 2) rfl rfl rfl rfl ?_
        refine ev_getI f_X9_refuseToken (nx := 5) rfl p6.1 rfl rfl rfl ?_
        refine ev_ic f_X9_refuseToken (nx := 6) (v := 4) rfl (by decide) rfl ?_
        refine ev_if f_X9_refuseToken (t1 := 9) (t2 := 13) rfl rfl rfl (fun h167 => ?_) (fun h167 => ?_)
        · have u168 : (gi8 a6 3).toInt ≤ 4 := t_equ h167 (by decide : (4:Int32).toInt ≤ (4:Int))
          have l169 : 4 ≤ (gi8 a6 3).toInt := t_eql h167 (by decide : (4:Int) ≤ (4:Int32).toInt)
          refine ev_ic f_X9_refuseToken (nx := 10) (v := 1) rfl (by decide) rfl ?_
          refine ev_jmp f_X9_refuseToken (nx := 14) rfl rfl rfl ?_
          refine ev_putIT f_X9_refuseToken (nx := 17) rfl p6.1 rfl rfl rfl (hI.put0 p6.1 rfl rfl) (hX.upI (t_inO hI.wf p6.1 (t_outO hI.wf p6.1 rfl) rfl)) (fun g170 e170 hI hX => ?_)
          refine ev_loc f_X9_refuseToken (nx := 18) rfl rfl rfl rfl ?_
          refine ev_loc f_X9_refuseToken (nx := 19) rfl rfl rfl rfl ?_
          refine ev_getI f_X9_refuseToken (nx := 22) rfl p6.1 rfl rfl rfl ?_
          obtain ⟨l171, u171⟩ := hI.b p6.1 (t_bdK rfl : t_bd 8 4 = some (0, 900))
          refine ev_putIT f_X9_refuseToken (nx := 25) rfl p6.1 rfl rfl rfl (hI.put0 p6.1 rfl rfl) (hX.upI (t_inO hI.wf p6.1 (t_outO hI.wf p6.1 rfl) rfl)) (fun g172 e172 hI hX => ?_)
          refine ev_ic f_X9_refuseToken (nx := 26) (v := 0) rfl (by decide) rfl ?_
          refine ev_retK1 f_X9_refuseToken rfl rfl rfl ?_
          refine ev_retK1 f_X9_takeKeyword rfl rfl rfl ?_
          refine ev_t f_X6_readShip (t1 := 54) (t2 := 56) rfl rfl rfl (by decide) ?_
          refine ev_ic f_X6_readShip (nx := 55) (v := 0) rfl (by decide) rfl ?_
          exact ev_ret f_X6_readShip rfl rfl rfl ⟨_, _, _, rfl, hI, hX, ⟨_, rfl, (by decide : (0:Int) ≤ (0:Int32).toInt), (Int.le_trans (by decide : (0:Int32).toInt ≤ (0:Int)) (by decide : (0:Int) ≤ 1))⟩⟩
        · refine ev_loc f_X9_refuseToken (nx := 14) rfl rfl rfl rfl ?_
          refine ev_putIT f_X9_refuseToken (nx := 17) rfl p6.1 rfl rfl rfl (hI.put0 p6.1 rfl rfl) (hX.upI (t_inO hI.wf p6.1 (t_outO hI.wf p6.1 rfl) rfl)) (fun g173 e173 hI hX => ?_)
          refine ev_loc f_X9_refuseToken (nx := 18) rfl rfl rfl rfl ?_
          refine ev_loc f_X9_refuseToken (nx := 19) rfl rfl rfl rfl ?_
          refine ev_getI f_X9_refuseToken (nx := 22) rfl p6.1 rfl rfl rfl ?_
          obtain ⟨l174, u174⟩ := hI.b p6.1 (t_bdK rfl : t_bd 8 4 = some (0, 900))
          refine ev_putIT f_X9_refuseToken (nx := 25) rfl p6.1 rfl rfl rfl (hI.put0 p6.1 rfl rfl) (hX.upI (t_inO hI.wf p6.1 (t_outO hI.wf p6.1 rfl) rfl)) (fun g175 e175 hI hX => ?_)
          refine ev_ic f_X9_refuseToken (nx := 26) (v := 0) rfl (by decide) rfl ?_
          refine ev_retK1 f_X9_refuseToken rfl rfl rfl ?_
          refine ev_retK1 f_X9_takeKeyword rfl rfl rfl ?_
          refine ev_t f_X6_readShip (t1 := 54) (t2 := 56) rfl rfl rfl (by decide) ?_
          refine ev_ic f_X6_readShip (nx := 55) (v := 0) rfl (by decide) rfl ?_
          exact ev_ret f_X6_readShip rfl rfl rfl ⟨_, _, _, rfl, hI, hX, ⟨_, rfl, (by decide : (0:Int) ≤ (0:Int32).toInt), (Int.le_trans (by decide : (0:Int32).toInt ≤ (0:Int)) (by decide : (0:Int) ≤ 1))⟩⟩
  · have l176 : 6 ≤ (gi a2 0).toInt := t_lel (t_nlt h4) (by decide : (6:Int) ≤ (6:Int32).toInt)
    refine ev_loc f_X6_readShip (nx := 18) rfl rfl rfl rfl ?_
    obtain ⟨a177, e177, p177⟩ := p_a0.2.1
    refine ev_getR f_X6_readShip (nx := 21) rfl p_a0.1 rfl rfl e177 rfl rfl ?_
    refine ev_bp f_X6_readShip (nx := 23) (v := 6) rfl (by decide) rfl ?_
    refine ev_inV2 f_X6_readShip (nx := 26) (lo2 := [(0, .ref a177), (1, .int 6)]) rfl rfl rfl rfl f_X9_refuseToken p177.1 rfl rfl rfl rfl rfl ?_
    refine ev_loc f_X9_refuseToken (nx := 1) rfl rfl rfl rfl ?_
    refine ev_loc f_X9_refuseToken (nx := 2) rfl rfl rfl rfl ?_
    refine ev_getI f_X9_refuseToken (nx := 5) rfl p177.1 rfl rfl rfl ?_
    refine ev_ic f_X9_refuseToken (nx := 6) (v := 4) rfl (by decide) rfl ?_
    refine ev_if f_X9_refuseToken (t1 := 9) (t2 := 13) rfl rfl rfl (fun h178 => ?_) (fun h178 => ?_)
    · have u179 : (gi a177 3).toInt ≤ 4 := t_equ h178 (by decide : (4:Int32).toInt ≤ (4:Int))
      have l180 : 4 ≤ (gi a177 3).toInt := t_eql h178 (by decide : (4:Int) ≤ (4:Int32).toInt)
      refine ev_ic f_X9_refuseToken (nx := 10) (v := 1) rfl (by decide) rfl ?_
      refine ev_jmp f_X9_refuseToken (nx := 14) rfl rfl rfl ?_
      refine ev_putIT f_X9_refuseToken (nx := 17) rfl p177.1 rfl rfl rfl (hI.put0 p177.1 rfl rfl) (hX.upI (t_inO hI.wf p177.1 (t_outO hI.wf p177.1 rfl) rfl)) (fun g181 e181 hI hX => ?_)
      refine ev_loc f_X9_refuseToken (nx := 18) rfl rfl rfl rfl ?_
      refine ev_loc f_X9_refuseToken (nx := 19) rfl rfl rfl rfl ?_
      refine ev_getI f_X9_refuseToken (nx := 22) rfl p177.1 rfl rfl rfl ?_
      obtain ⟨l182, u182⟩ := hI.b p177.1 (t_bdK rfl : t_bd 8 4 = some (0, 900))
      refine ev_putIT f_X9_refuseToken (nx := 25) rfl p177.1 rfl rfl rfl (hI.put0 p177.1 rfl rfl) (hX.upI (t_inO hI.wf p177.1 (t_outO hI.wf p177.1 rfl) rfl)) (fun g183 e183 hI hX => ?_)
      refine ev_ic f_X9_refuseToken (nx := 26) (v := 0) rfl (by decide) rfl ?_
      refine ev_retK1 f_X9_refuseToken rfl rfl rfl ?_
      exact ev_ret f_X6_readShip rfl rfl rfl ⟨_, _, _, rfl, hI, hX, ⟨_, rfl, (by decide : (0:Int) ≤ (0:Int32).toInt), (Int.le_trans (by decide : (0:Int32).toInt ≤ (0:Int)) (by decide : (0:Int) ≤ 1))⟩⟩
    · refine ev_loc f_X9_refuseToken (nx := 14) rfl rfl rfl rfl ?_
      refine ev_putIT f_X9_refuseToken (nx := 17) rfl p177.1 rfl rfl rfl (hI.put0 p177.1 rfl rfl) (hX.upI (t_inO hI.wf p177.1 (t_outO hI.wf p177.1 rfl) rfl)) (fun g184 e184 hI hX => ?_)
      refine ev_loc f_X9_refuseToken (nx := 18) rfl rfl rfl rfl ?_
      refine ev_loc f_X9_refuseToken (nx := 19) rfl rfl rfl rfl ?_
      refine ev_getI f_X9_refuseToken (nx := 22) rfl p177.1 rfl rfl rfl ?_
      obtain ⟨l185, u185⟩ := hI.b p177.1 (t_bdK rfl : t_bd 8 4 = some (0, 900))
      refine ev_putIT f_X9_refuseToken (nx := 25) rfl p177.1 rfl rfl rfl (hI.put0 p177.1 rfl rfl) (hX.upI (t_inO hI.wf p177.1 (t_outO hI.wf p177.1 rfl) rfl)) (fun g186 e186 hI hX => ?_)
      refine ev_ic f_X9_refuseToken (nx := 26) (v := 0) rfl (by decide) rfl ?_
      refine ev_retK1 f_X9_refuseToken rfl rfl rfl ?_
      exact ev_ret f_X6_readShip rfl rfl rfl ⟨_, _, _, rfl, hI, hX, ⟨_, rfl, (by decide : (0:Int) ≤ (0:Int32).toInt), (Int.le_trans (by decide : (0:Int32).toInt ≤ (0:Int)) (by decide : (0:Int) ≤ 1))⟩⟩
