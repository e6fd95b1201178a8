/-! ===== printed by cls.py: typed contracts of the class ===== -/
noncomputable def wl_actTold : List (Nat × Nat) := []
theorem c_actTold {X : x_Ext} {d : Nat} {sh : List (Nat ⊕ (Nat × Nat))} {gi : Nat → Nat → Int32} {gl : Nat → Nat → Int64} {gr : Nat → Nat → Value} (hI : t_I sh gi gr) (ar0 : Nat) (p_a0 : t_RL sh gr ar0) : x_Me X (d + 1) n_X8_actTold [.ref ar0] (sh, gi, gl, gr) (t_P wl_actTold sh gi gl gr (t_Ri (-1) 2)) := by
  have hX : t_X wl_actTold sh gi gl gr gi gl gr := t_X.rf
  refine me_i f_X8_actTold p_a0.1 rfl rfl rfl ?_
  refine ev_loc f_X8_actTold (nx := 1) rfl rfl rfl rfl ?_
  obtain ⟨a1, e1, p1⟩ := p_a0.2.1
  refine ev_getR f_X8_actTold (nx := 4) rfl p_a0.1 rfl rfl e1 rfl rfl ?_
  have k2 := hI.2.2.2.1.2.2.2.2.2 a1 p1.1
  obtain ⟨v2, e2⟩ : ∃ v, gr a1 7 = v := ⟨_, rfl⟩
  rw [e2] at k2
  refine ev_getR f_X8_actTold (nx := 7) rfl p1.1 rfl rfl e2 (t_KwR k2) rfl ?_
  refine ev_heap f_X8_actTold (nx := 10) rfl rfl rfl rfl ?_
  refine ev_ack f_X8_actTold (t1 := 13) (t2 := 15) rfl rfl rfl (t_knw k2) rfl (fun h3 => ?_) (fun h3 => ?_)
  · refine ev_ic f_X8_actTold (nx := 14) (v := 0) rfl (by decide) rfl ?_
    exact ev_ret f_X8_actTold rfl rfl rfl ⟨_, _, _, rfl, hI, hX, ⟨_, rfl, (Int.le_trans (by decide : ((-1):Int) ≤ 0) (by decide : (0:Int) ≤ (0:Int32).toInt)), (Int.le_trans (by decide : (0:Int32).toInt ≤ (0:Int)) (by decide : (0:Int) ≤ 2))⟩⟩
  · refine ev_loc f_X8_actTold (nx := 16) rfl rfl rfl rfl ?_
    refine ev_getR f_X8_actTold (nx := 19) (v := .ref a1) rfl p_a0.1 rfl rfl e1 rfl rfl ?_
    refine ev_getR f_X8_actTold (nx := 22) (v := v2) rfl p1.1 rfl rfl e2 (t_KwR k2) rfl ?_
    refine ev_heap f_X8_actTold (nx := 25) rfl rfl rfl rfl ?_
    refine ev_ack f_X8_actTold (t1 := 28) (t2 := 30) rfl rfl rfl (t_knw k2) rfl (fun h4 => ?_) (fun h4 => ?_)
    · refine ev_ic f_X8_actTold (nx := 29) (v := 1) rfl (by decide) rfl ?_
      exact ev_ret f_X8_actTold rfl rfl rfl ⟨_, _, _, rfl, hI, hX, ⟨_, rfl, (Int.le_trans (by decide : ((-1):Int) ≤ 1) (by decide : (1:Int) ≤ (1:Int32).toInt)), (Int.le_trans (by decide : (1:Int32).toInt ≤ (1:Int)) (by decide : (1:Int) ≤ 2))⟩⟩
    · refine ev_loc f_X8_actTold (nx := 31) rfl rfl rfl rfl ?_
      refine ev_getR f_X8_actTold (nx := 34) (v := .ref a1) rfl p_a0.1 rfl rfl e1 rfl rfl ?_
      refine ev_getR f_X8_actTold (nx := 37) (v := v2) rfl p1.1 rfl rfl e2 (t_KwR k2) rfl ?_
      refine ev_heap f_X8_actTold (nx := 40) rfl rfl rfl rfl ?_
      refine ev_ack f_X8_actTold (t1 := 43) (t2 := 47) rfl rfl rfl (t_knw k2) rfl (fun h5 => ?_) (fun h5 => ?_)
      · refine ev_ic f_X8_actTold (nx := 44) (v := 2) rfl (by decide) rfl ?_
        refine ev_jmp f_X8_actTold (nx := 48) rfl rfl rfl ?_
        exact ev_ret f_X8_actTold rfl rfl rfl ⟨_, _, _, rfl, hI, hX, ⟨_, rfl, (Int.le_trans (by decide : ((-1):Int) ≤ 2) (by decide : (2:Int) ≤ (2:Int32).toInt)), (by decide : (2:Int32).toInt ≤ (2:Int))⟩⟩
      · refine ev_ic f_X8_actTold (nx := 48) (v := -1) rfl (by decide) rfl ?_
        exact ev_ret f_X8_actTold rfl rfl rfl ⟨_, _, _, rfl, hI, hX, ⟨_, rfl, (by decide : ((-1):Int) ≤ ((-1):Int32).toInt), (Int.le_trans (by decide : ((-1):Int32).toInt ≤ ((-1):Int)) (by decide : ((-1):Int) ≤ 2))⟩⟩
noncomputable def wl_takeSign : List (Nat × Nat) := [(118, 2), (118, 3), (118, 4), (118, 5), (118, 6), (118, 7), (118, 8), (118, 9), (118, 10), (118, 11)]
theorem c_takeSign {X : x_Ext} {d : Nat} {sh : List (Nat ⊕ (Nat × Nat))} {gi : Nat → Nat → Int32} {gl : Nat → Nat → Int64} {gr : Nat → Nat → Value} (hI : t_I sh gi gr) (ar0 : Nat) (p_a0 : t_Tk sh gr ar0) (ar1 : Int32) : x_Me X (d + 3) n_X9_takeSign [.ref ar0, .int ar1] (sh, gi, gl, gr) (t_P wl_takeSign sh gi gl gr (t_Ri 0 1)) := by
  have hX : t_X wl_takeSign sh gi gl gr gi gl gr := t_X.rf
  refine me_i f_X9_takeSign p_a0.1 rfl rfl rfl ?_
  refine ev_loc f_X9_takeSign (nx := 1) rfl rfl rfl rfl ?_
  refine ev_loc f_X9_takeSign (nx := 2) rfl rfl rfl rfl ?_
  refine ev_inV2 f_X9_takeSign (nx := 5) (lo2 := [(0, .ref ar0), (1, .int ar1)]) rfl rfl rfl rfl f_X9_isSignOf p_a0.1 rfl rfl rfl rfl rfl ?_
  refine ev_loc f_X9_isSignOf (nx := 1) rfl rfl rfl rfl ?_
  refine ev_getI f_X9_isSignOf (nx := 4) rfl p_a0.1 rfl rfl rfl ?_
  refine ev_ic f_X9_isSignOf (nx := 5) (v := 2) rfl (by decide) rfl ?_
  refine ev_if f_X9_isSignOf (t1 := 8) (t2 := 20) rfl rfl rfl (fun h1 => ?_) (fun h1 => ?_)
  · have u2 : (gi ar0 3).toInt ≤ 2 := t_equ h1 (by decide : (2:Int32).toInt ≤ (2:Int))
    have l3 : 2 ≤ (gi ar0 3).toInt := t_eql h1 (by decide : (2:Int) ≤ (2:Int32).toInt)
    refine ev_loc f_X9_isSignOf (nx := 9) rfl rfl rfl rfl ?_
    refine ev_getI f_X9_isSignOf (nx := 12) rfl p_a0.1 rfl rfl rfl ?_
    refine ev_loc f_X9_isSignOf (nx := 13) rfl rfl rfl rfl ?_
    refine ev_if f_X9_isSignOf (t1 := 16) (t2 := 20) rfl rfl rfl (fun h4 => ?_) (fun h4 => ?_)
    · refine ev_ic f_X9_isSignOf (nx := 17) (v := 1) rfl (by decide) rfl ?_
      refine ev_jmp f_X9_isSignOf (nx := 21) rfl rfl rfl ?_
      refine ev_retK1 f_X9_isSignOf rfl rfl rfl ?_
      refine ev_f f_X9_takeSign (t1 := 8) (t2 := 14) rfl rfl rfl (by decide) ?_
      refine ev_loc f_X9_takeSign (nx := 15) rfl rfl rfl rfl ?_
      refine ev_c0 f_X9_takeSign (nx := 18) (r := []) rfl rfl rfl rfl rfl rfl rfl (c_step hI (ar0) p_a0) rfl hX rfl (fun gi5 gl5 gr5 hI hX hC5 => ?_)
      replace p_a0 := p_a0.ext hC5.2
      refine ev_ic f_X9_takeSign (nx := 19) (v := 1) rfl (by decide) rfl ?_
      exact ev_ret f_X9_takeSign rfl rfl rfl ⟨_, _, _, rfl, hI, hX, ⟨_, rfl, (Int.le_trans (by decide : (0:Int) ≤ 1) (by decide : (1:Int) ≤ (1:Int32).toInt)), (by decide : (1:Int32).toInt ≤ (1:Int))⟩⟩
    · refine ev_ic f_X9_isSignOf (nx := 21) (v := 0) rfl (by decide) rfl ?_
      refine ev_retK1 f_X9_isSignOf rfl rfl rfl ?_
      refine ev_t f_X9_takeSign (t1 := 8) (t2 := 14) rfl rfl rfl (by decide) ?_
      refine ev_loc f_X9_takeSign (nx := 9) rfl rfl rfl rfl ?_
      refine ev_ic f_X9_takeSign (nx := 10) (v := 2) rfl (by decide) rfl ?_
      refine ev_inV2 f_X9_takeSign (nx := 13) (lo2 := [(0, .ref ar0), (1, .int 2)]) rfl rfl rfl rfl f_X9_refuseToken p_a0.1 rfl rfl rfl rfl rfl ?_
      refine ev_loc f_X9_refuseToken (nx := 1) rfl rfl rfl rfl ?_
      refine ev_loc f_X9_refuseToken (nx := 2) rfl rfl rfl rfl ?_
      refine ev_gvI f_X9_refuseToken (nx := 5) (w := (gi ar0 3)) rfl p_a0.1 rfl rfl rfl rfl ?_
      refine ev_ic f_X9_refuseToken (nx := 6) (v := 4) rfl (by decide) rfl ?_
      refine ev_f f_X9_refuseToken (t1 := 9) (t2 := 13) rfl rfl rfl (t_neT u2 (by decide : (4:Int) ≤ (4:Int32).toInt) (by decide)) ?_
      refine ev_loc f_X9_refuseToken (nx := 14) rfl rfl rfl rfl ?_
      refine ev_putIT f_X9_refuseToken (nx := 17) rfl p_a0.1 rfl rfl rfl (hI.put0 p_a0.1 rfl rfl) (hX.upI (t_inO hI.wf p_a0.1 (t_outO hI.wf p_a0.1 rfl) rfl)) (fun g6 e6 hI hX => ?_)
      refine ev_loc f_X9_refuseToken (nx := 18) rfl rfl rfl rfl ?_
      refine ev_loc f_X9_refuseToken (nx := 19) rfl rfl rfl rfl ?_
      refine ev_getI f_X9_refuseToken (nx := 22) rfl p_a0.1 rfl rfl rfl ?_
      obtain ⟨l7, u7⟩ := hI.b p_a0.1 (t_bdK rfl : t_bd 8 4 = some (0, 900))
      refine ev_putIT f_X9_refuseToken (nx := 25) rfl p_a0.1 rfl rfl rfl (hI.put0 p_a0.1 rfl rfl) (hX.upI (t_inO hI.wf p_a0.1 (t_outO hI.wf p_a0.1 rfl) rfl)) (fun g8 e8 hI hX => ?_)
      refine ev_ic f_X9_refuseToken (nx := 26) (v := 0) rfl (by decide) rfl ?_
      refine ev_retK1 f_X9_refuseToken rfl rfl rfl ?_
      exact ev_ret f_X9_takeSign rfl rfl rfl ⟨_, _, _, rfl, hI, hX, ⟨_, rfl, (by decide : (0:Int) ≤ (0:Int32).toInt), (Int.le_trans (by decide : (0:Int32).toInt ≤ (0:Int)) (by decide : (0:Int) ≤ 1))⟩⟩
  · refine ev_ic f_X9_isSignOf (nx := 21) (v := 0) rfl (by decide) rfl ?_
    refine ev_retK1 f_X9_isSignOf rfl rfl rfl ?_
    refine ev_t f_X9_takeSign (t1 := 8) (t2 := 14) rfl rfl rfl (by decide) ?_
    refine ev_loc f_X9_takeSign (nx := 9) rfl rfl rfl rfl ?_
    refine ev_ic f_X9_takeSign (nx := 10) (v := 2) rfl (by decide) rfl ?_
    refine ev_inV2 f_X9_takeSign (nx := 13) (lo2 := [(0, .ref ar0), (1, .int 2)]) rfl rfl rfl rfl f_X9_refuseToken p_a0.1 rfl rfl rfl rfl rfl ?_
    refine ev_loc f_X9_refuseToken (nx := 1) rfl rfl rfl rfl ?_
    refine ev_loc f_X9_refuseToken (nx := 2) rfl rfl rfl rfl ?_
    refine ev_gvI f_X9_refuseToken (nx := 5) (w := (gi ar0 3)) rfl p_a0.1 rfl rfl rfl rfl ?_
    refine ev_ic f_X9_refuseToken (nx := 6) (v := 4) rfl (by decide) rfl ?_
    refine ev_if f_X9_refuseToken (t1 := 9) (t2 := 13) rfl rfl rfl (fun h9 => ?_) (fun h9 => ?_)
    · have u10 : (gi ar0 3).toInt ≤ 4 := t_equ h9 (by decide : (4:Int32).toInt ≤ (4:Int))
      have l11 : 4 ≤ (gi ar0 3).toInt := t_eql h9 (by decide : (4:Int) ≤ (4:Int32).toInt)
      refine ev_ic f_X9_refuseToken (nx := 10) (v := 1) rfl (by decide) rfl ?_
      refine ev_jmp f_X9_refuseToken (nx := 14) rfl rfl rfl ?_
      refine ev_putIT f_X9_refuseToken (nx := 17) rfl p_a0.1 rfl rfl rfl (hI.put0 p_a0.1 rfl rfl) (hX.upI (t_inO hI.wf p_a0.1 (t_outO hI.wf p_a0.1 rfl) rfl)) (fun g12 e12 hI hX => ?_)
      refine ev_loc f_X9_refuseToken (nx := 18) rfl rfl rfl rfl ?_
      refine ev_loc f_X9_refuseToken (nx := 19) rfl rfl rfl rfl ?_
      refine ev_getI f_X9_refuseToken (nx := 22) rfl p_a0.1 rfl rfl rfl ?_
      obtain ⟨l13, u13⟩ := hI.b p_a0.1 (t_bdK rfl : t_bd 8 4 = some (0, 900))
      refine ev_putIT f_X9_refuseToken (nx := 25) rfl p_a0.1 rfl rfl rfl (hI.put0 p_a0.1 rfl rfl) (hX.upI (t_inO hI.wf p_a0.1 (t_outO hI.wf p_a0.1 rfl) rfl)) (fun g14 e14 hI hX => ?_)
      refine ev_ic f_X9_refuseToken (nx := 26) (v := 0) rfl (by decide) rfl ?_
      refine ev_retK1 f_X9_refuseToken rfl rfl rfl ?_
      exact ev_ret f_X9_takeSign rfl rfl rfl ⟨_, _, _, rfl, hI, hX, ⟨_, rfl, (by decide : (0:Int) ≤ (0:Int32).toInt), (Int.le_trans (by decide : (0:Int32).toInt ≤ (0:Int)) (by decide : (0:Int) ≤ 1))⟩⟩
    · refine ev_loc f_X9_refuseToken (nx := 14) rfl rfl rfl rfl ?_
      refine ev_putIT f_X9_refuseToken (nx := 17) rfl p_a0.1 rfl rfl rfl (hI.put0 p_a0.1 rfl rfl) (hX.upI (t_inO hI.wf p_a0.1 (t_outO hI.wf p_a0.1 rfl) rfl)) (fun g15 e15 hI hX => ?_)
      refine ev_loc f_X9_refuseToken (nx := 18) rfl rfl rfl rfl ?_
      refine ev_loc f_X9_refuseToken (nx := 19) rfl rfl rfl rfl ?_
      refine ev_getI f_X9_refuseToken (nx := 22) rfl p_a0.1 rfl rfl rfl ?_
      obtain ⟨l16, u16⟩ := hI.b p_a0.1 (t_bdK rfl : t_bd 8 4 = some (0, 900))
      refine ev_putIT f_X9_refuseToken (nx := 25) rfl p_a0.1 rfl rfl rfl (hI.put0 p_a0.1 rfl rfl) (hX.upI (t_inO hI.wf p_a0.1 (t_outO hI.wf p_a0.1 rfl) rfl)) (fun g17 e17 hI hX => ?_)
      refine ev_ic f_X9_refuseToken (nx := 26) (v := 0) rfl (by decide) rfl ?_
      refine ev_retK1 f_X9_refuseToken rfl rfl rfl ?_
      exact ev_ret f_X9_takeSign rfl rfl rfl ⟨_, _, _, rfl, hI, hX, ⟨_, rfl, (by decide : (0:Int) ≤ (0:Int32).toInt), (Int.le_trans (by decide : (0:Int32).toInt ≤ (0:Int)) (by decide : (0:Int) ≤ 1))⟩⟩
noncomputable def wl_readOne : List (Nat × Nat) := [(116, 3), (117, 2), (118, 2), (118, 3), (118, 4), (118, 5), (118, 6), (118, 7), (118, 8), (118, 9), (118, 10), (118, 11), (130, 9999)]
noncomputable def wl_readBoth : List (Nat × Nat) := [(116, 3), (117, 2), (118, 2), (118, 3), (118, 4), (118, 5), (118, 6), (118, 7), (118, 8), (118, 9), (118, 10), (118, 11), (130, 9999)]
theorem c_readBoth {X : x_Ext} {d : Nat} {sh : List (Nat ⊕ (Nat × Nat))} {gi : Nat → Nat → Int32} {gl : Nat → Nat → Int64} {gr : Nat → Nat → Value} (hI : t_I sh gi gr) (ar0 : Nat) (p_a0 : t_RL sh gr ar0) (ar1 : Int32) (l_a1 : 0 ≤ ar1.toInt) (u_a1 : ar1.toInt ≤ 6) (HO : ∀ {gi : Nat → Nat → Int32} {gl : Nat → Nat → Int64} {gr : Nat → Nat → Value}, t_I sh gi gr → t_RL sh gr ar0 → x_Me X d n_X8_readOne [.ref ar0, .int ar1] (sh, gi, gl, gr) (t_P wl_readOne sh gi gl gr (t_Ri 0 1))) : x_Me X (d + 3) n_X8_readBoth [.ref ar0, .int ar1] (sh, gi, gl, gr) (t_P wl_readBoth sh gi gl gr (t_Ri 0 1)) := by
  have hX : t_X wl_readBoth sh gi gl gr gi gl gr := t_X.rf
  refine me_i f_X8_readBoth p_a0.1 rfl rfl rfl ?_
  refine ev_loc f_X8_readBoth (nx := 1) rfl rfl rfl rfl ?_
  refine ev_loc f_X8_readBoth (nx := 2) rfl rfl rfl rfl ?_
  refine ev_cI f_X8_readBoth (nx := 5) (r := []) rfl rfl rfl rfl rfl rfl rfl (x_Me.up (HO hI p_a0) (by omega)) rfl hX rfl (fun w1 gi1 gl1 gr1 l1 u1 hI hX hC1 => ?_)
  replace p_a0 := p_a0.ext hC1.2
  refine ev_if f_X8_readBoth (t1 := 8) (t2 := 10) rfl rfl rfl (fun h2 => ?_) (fun h2 => ?_)
  · have u3 : w1.toInt ≤ 0 := t_equ h2 (by decide : (0:Int32).toInt ≤ (0:Int))
    refine ev_ic f_X8_readBoth (nx := 9) (v := 0) rfl (by decide) rfl ?_
    exact ev_ret f_X8_readBoth rfl rfl rfl ⟨_, _, _, rfl, hI, hX, ⟨_, rfl, (by decide : (0:Int) ≤ (0:Int32).toInt), (Int.le_trans (by decide : (0:Int32).toInt ≤ (0:Int)) (by decide : (0:Int) ≤ 1))⟩⟩
  · have l4 : 1 ≤ w1.toInt := t_nel h2 l1 rfl rfl
    refine ev_ic f_X8_readBoth (nx := 11) (v := 0) rfl (by decide) rfl ?_
    refine ev_loc f_X8_readBoth (nx := 12) (lo' := [(2, .int 0), (0, .ref ar0), (1, .int ar1)]) rfl rfl rfl rfl ?_
    have L5 : ∀ (m5 : Nat) (gi5 : Nat → Nat → Int32) (gl5 : Nat → Nat → Int64) (gr5 : Nat → Nat → Value) (y5_2 : Int32), t_I sh gi5 gr5 → t_X wl_readBoth sh gi gl gr gi5 gl5 gr5 → t_RL sh gr5 ar0 → 0 ≤ y5_2.toInt → y5_2.toInt ≤ 300 → (300 - y5_2.toInt).toNat = m5 → x_Ev X (d + 3) n_X8_readBoth 12 [(2, .int y5_2), (0, .ref ar0), (1, .int ar1)] [] (sh, gi5, gl5, gr5) (t_P wl_readBoth sh gi gl gr (t_Ri 0 1)) := by
      intro m5
      induction m5 using Nat.strongRecOn with
      | _ m5 ih5 =>
      intro gi5 gl5 gr5 y5_2 hI hX p_a0 l5_2 u5_2 hm5
      refine ev_loc f_X8_readBoth (nx := 13) rfl rfl rfl rfl ?_
      refine ev_sp f_X8_readBoth (nx := 16) (v := 300) rfl (by decide) rfl ?_
      refine ev_if f_X8_readBoth (t1 := 65) (t2 := 19) rfl rfl rfl (fun h6 => ?_) (fun h6 => ?_)
      · have l7 : 300 ≤ y5_2.toInt := t_lel h6 (by decide : (300:Int) ≤ (300:Int32).toInt)
        refine ev_ic f_X8_readBoth (nx := 66) (v := 1) rfl (by decide) rfl ?_
        exact ev_ret f_X8_readBoth rfl rfl rfl ⟨_, _, _, rfl, hI, hX, ⟨_, rfl, (Int.le_trans (by decide : (0:Int) ≤ 1) (by decide : (1:Int) ≤ (1:Int32).toInt)), (by decide : (1:Int32).toInt ≤ (1:Int))⟩⟩
      · have u8 : y5_2.toInt ≤ 299 := t_ltu (t_nle h6) (by decide : (300:Int32).toInt ≤ (300:Int)) rfl
        refine ev_loc f_X8_readBoth (nx := 20) rfl rfl rfl rfl ?_
        obtain ⟨a9, e9, p9⟩ := p_a0.2.1
        refine ev_getR f_X8_readBoth (nx := 23) rfl p_a0.1 rfl rfl e9 rfl rfl ?_
        have k10 := hI.2.2.2.1.2.2.2.2.2 a9 p9.1
        obtain ⟨v10, e10⟩ : ∃ v, gr5 a9 7 = v := ⟨_, rfl⟩
        rw [e10] at k10
        refine ev_getR f_X8_readBoth (nx := 26) rfl p9.1 rfl rfl e10 (t_KwR k10) rfl ?_
        refine ev_heap f_X8_readBoth (nx := 29) rfl rfl rfl rfl ?_
        refine ev_ack f_X8_readBoth (t1 := 32) (t2 := 65) rfl rfl rfl (t_knw k10) rfl (fun h11 => ?_) (fun h11 => ?_)
        · refine ev_loc f_X8_readBoth (nx := 33) rfl rfl rfl rfl ?_
          refine ev_getR f_X8_readBoth (nx := 36) (v := .ref a9) rfl p_a0.1 rfl rfl e9 rfl rfl ?_
          refine ev_c0 f_X8_readBoth (nx := 39) (r := []) rfl rfl rfl rfl rfl rfl rfl (c_step hI (a9) p9) rfl hX rfl (fun gi12 gl12 gr12 hI hX hC12 => ?_)
          replace p_a0 := p_a0.ext hC12.2
          replace p9 := p9.ext hC12.2
          refine ev_loc f_X8_readBoth (nx := 40) rfl rfl rfl rfl ?_
          refine ev_loc f_X8_readBoth (nx := 41) rfl rfl rfl rfl ?_
          refine ev_cI f_X8_readBoth (nx := 44) (r := []) rfl rfl rfl rfl rfl rfl rfl (x_Me.up (HO hI p_a0) (by omega)) rfl hX rfl (fun w13 gi13 gl13 gr13 l13 u13 hI hX hC13 => ?_)
          replace p_a0 := p_a0.ext hC13.2
          replace p9 := p9.ext hC13.2
          refine ev_if f_X8_readBoth (t1 := 47) (t2 := 49) rfl rfl rfl (fun h14 => ?_) (fun h14 => ?_)
          · have u15 : w13.toInt ≤ 0 := t_equ h14 (by decide : (0:Int32).toInt ≤ (0:Int))
            refine ev_ic f_X8_readBoth (nx := 48) (v := 0) rfl (by decide) rfl ?_
            exact ev_ret f_X8_readBoth rfl rfl rfl ⟨_, _, _, rfl, hI, hX, ⟨_, rfl, (by decide : (0:Int) ≤ (0:Int32).toInt), (Int.le_trans (by decide : (0:Int32).toInt ≤ (0:Int)) (by decide : (0:Int) ≤ 1))⟩⟩
          · have l16 : 1 ≤ w13.toInt := t_nel h14 l13 rfl rfl
            refine ev_loc f_X8_readBoth (nx := 50) rfl rfl rfl rfl ?_
            obtain ⟨a17, e17, p17⟩ := p_a0.2.2
            refine ev_getR f_X8_readBoth (nx := 53) rfl p_a0.1 rfl rfl e17 rfl rfl ?_
            refine ev_ic f_X8_readBoth (nx := 54) (v := 4) rfl (by decide) rfl ?_
            refine ev_ic f_X8_readBoth (nx := 55) (v := 0) rfl (by decide) rfl ?_
            refine ev_ic f_X8_readBoth (nx := 56) (v := 0) rfl (by decide) rfl ?_
            refine ev_inV4 f_X8_readBoth (nx := 59) (lo2 := [(0, .ref a17), (1, .int 4), (2, .int 0), (3, .int 0)]) rfl rfl rfl rfl f_X7_addStep p17.1 rfl rfl rfl rfl rfl ?_
            refine ev_loc f_X7_addStep (nx := 1) rfl rfl rfl rfl ?_
            obtain ⟨hk18, d18, r1_18, r2_18, s1_18, s2_18, n18, hn18, r4_18, r5_18, r6_18, s4_18, s5_18, s6_18⟩ := id p17
            have q19 := hI.2.2.2.2.1 a17 n18 p17 s4_18
            refine ev_getI f_X7_addStep (nx := 4) rfl p17.1 rfl rfl rfl ?_
            obtain ⟨l20, u20⟩ := hI.b p17.1 (t_bdK rfl : t_bd 6 3 = some (0, 300))
            refine ev_loc f_X7_addStep (nx := 5) rfl rfl rfl rfl ?_
            refine ev_getR f_X7_addStep (nx := 8) (v := .ref (a17 + 3)) rfl p17.1 rfl rfl r4_18 rfl rfl ?_
            obtain ⟨l21, u21⟩ := t_lenb hn18
            refine ev_alen f_X7_addStep (nx := 9) rfl s4_18 rfl rfl ?_
            refine ev_if f_X7_addStep (t1 := 52) (t2 := 12) rfl rfl rfl (fun h22 => ?_) (fun h22 => ?_)
            · refine ev_retK0 f_X7_addStep rfl rfl rfl ?_
              refine ev_incR f_X8_readBoth (nx := 62) (c := 1) (l := 1) (u := 300) rfl rfl (by decide) (by decide) l5_2 u8 rfl rfl (by decide) (by decide) rfl (fun z23 e23 l23 u23 => ?_)
              refine ev_jmp f_X8_readBoth (nx := 12) rfl rfl rfl ?_
              refine ev_sub (lo := [(2, .int z23), (0, .ref ar0), (1, .int ar1)]) rfl (t_sc rfl (t_sc rfl (t_sc rfl t_sn))) ?_
              exact ih5 _ (by omega) gi13 gl13 gr13 (z23) hI hX p_a0 (Int.le_trans (by decide : (0:Int) ≤ 1) l23) u23 rfl
            · have u24 : (gi13 a17 3).toInt ≤ 299 := t_ltu (t_nle h22) u21 rfl
              have l25 : 1 ≤ (Int32.ofNat n18).toInt := t_ltl (t_nle h22) l20 rfl
              refine ev_loc f_X7_addStep (nx := 13) rfl rfl rfl rfl ?_
              refine ev_getR f_X7_addStep (nx := 16) (v := .ref (a17 + 3)) rfl p17.1 rfl rfl r4_18 rfl rfl ?_
              refine ev_loc f_X7_addStep (nx := 17) rfl rfl rfl rfl ?_
              refine ev_gvI f_X7_addStep (nx := 20) (w := (gi13 a17 3)) rfl p17.1 rfl rfl rfl rfl ?_
              refine ev_loc f_X7_addStep (nx := 21) rfl rfl rfl rfl ?_
              refine ev_iastS f_X7_addStep (nx := 22) rfl s4_18 (t_ixs l20 (t_lenlt (t_nle h22) hn18)) rfl (hI.astD s4_18 (by omega) (fun k hk e => absurd e (t_Ru.ne p17 hk (by decide)))) (hX.upI (t_inOD s4_18 (by omega) rfl)) (fun g26 e26 hI hX => ?_)
              refine ev_loc f_X7_addStep (nx := 23) rfl rfl rfl rfl ?_
              refine ev_getR f_X7_addStep (nx := 26) (v := .ref (a17 + 4)) rfl p17.1 rfl rfl r5_18 rfl rfl ?_
              refine ev_loc f_X7_addStep (nx := 27) rfl rfl rfl rfl ?_
              refine ev_gvI f_X7_addStep (nx := 30) (w := (gi13 a17 3)) rfl p17.1 rfl rfl ((by rw [e26]; exact x_up2_off (Or.inl (t_noobj s4_18 p17.1)) : g26 a17 3 = gi13 a17 3).trans rfl) rfl ?_
              refine ev_loc f_X7_addStep (nx := 31) rfl rfl rfl rfl ?_
              refine ev_iastS f_X7_addStep (nx := 32) rfl s5_18 (t_ixs l20 (t_lenlt (t_nle h22) hn18)) rfl (hI.astD s5_18 (by omega) (fun k hk e => absurd e (t_Ru.ne p17 hk (by decide)))) (hX.upI (t_inOD s5_18 (by omega) rfl)) (fun g27 e27 hI hX => ?_)
              refine ev_loc f_X7_addStep (nx := 33) rfl rfl rfl rfl ?_
              refine ev_getR f_X7_addStep (nx := 36) (v := .ref (a17 + 5)) rfl p17.1 rfl rfl r6_18 rfl rfl ?_
              refine ev_loc f_X7_addStep (nx := 37) rfl rfl rfl rfl ?_
              refine ev_gvI f_X7_addStep (nx := 40) (w := (gi13 a17 3)) rfl p17.1 rfl rfl ((by rw [e27]; exact x_up2_off (Or.inl (t_noobj s5_18 p17.1)) : g27 a17 3 = g26 a17 3).trans ((by rw [e26]; exact x_up2_off (Or.inl (t_noobj s4_18 p17.1)) : g26 a17 3 = gi13 a17 3).trans rfl)) rfl ?_
              refine ev_loc f_X7_addStep (nx := 41) rfl rfl rfl rfl ?_
              refine ev_iastS f_X7_addStep (nx := 42) rfl s6_18 (t_ixs l20 (t_lenlt (t_nle h22) hn18)) rfl (hI.astD s6_18 (by omega) (fun k hk e => absurd e (t_Ru.ne p17 hk (by decide)))) (hX.upI (t_inOD s6_18 (by omega) rfl)) (fun g28 e28 hI hX => ?_)
              refine ev_loc f_X7_addStep (nx := 43) rfl rfl rfl rfl ?_
              refine ev_alu f_X7_addStep (nx := 44) rfl rfl rfl rfl ?_
              refine ev_gvI f_X7_addStep (nx := 47) (w := (gi13 a17 3)) rfl p17.1 rfl rfl ((by rw [e28]; exact x_up2_off (Or.inl (t_noobj s6_18 p17.1)) : g28 a17 3 = g27 a17 3).trans ((by rw [e27]; exact x_up2_off (Or.inl (t_noobj s5_18 p17.1)) : g27 a17 3 = g26 a17 3).trans ((by rw [e26]; exact x_up2_off (Or.inl (t_noobj s4_18 p17.1)) : g26 a17 3 = gi13 a17 3).trans rfl))) rfl ?_
              refine ev_ic f_X7_addStep (nx := 48) (v := 1) rfl (by decide) rfl ?_
              refine ev_addC f_X7_addStep (nx := 49) (c := 1) (l := 1) (u := 300) rfl (by decide) l20 u24 rfl rfl (by decide) (by decide) rfl (fun z29 e29 l29 u29 => ?_)
              have q30 := t_lenlt (t_nle h22) hn18
              refine ev_putIT f_X7_addStep (nx := 52) rfl p17.1 rfl rfl rfl (hI.putG p17.1 (fun lo hi e => by have e : some ((0 : Int), (300 : Int)) = some (lo, hi) := e; have := hn18; cases e; exact ⟨by omega, by omega⟩) (fun _ _ n2 hn2 => by rw [s4_18] at hn2; cases hn2; omega)) (hX.upI (t_inO hI.wf p17.1 (t_outO hI.wf p17.1 rfl) rfl)) (fun g30 e30 hI hX => ?_)
              refine ev_retK0 f_X7_addStep rfl rfl rfl ?_
              refine ev_incR f_X8_readBoth (nx := 62) (c := 1) (l := 1) (u := 300) rfl rfl (by decide) (by decide) l5_2 u8 rfl rfl (by decide) (by decide) rfl (fun z31 e31 l31 u31 => ?_)
              refine ev_jmp f_X8_readBoth (nx := 12) rfl rfl rfl ?_
              refine ev_sub (lo := [(2, .int z31), (0, .ref ar0), (1, .int ar1)]) rfl (t_sc rfl (t_sc rfl (t_sc rfl t_sn))) ?_
              exact ih5 _ (by omega) g30 gl13 gr13 (z31) hI hX p_a0 (Int.le_trans (by decide : (0:Int) ≤ 1) l31) u31 rfl
        · refine ev_ic f_X8_readBoth (nx := 66) (v := 1) rfl (by decide) rfl ?_
          exact ev_ret f_X8_readBoth rfl rfl rfl ⟨_, _, _, rfl, hI, hX, ⟨_, rfl, (Int.le_trans (by decide : (0:Int) ≤ 1) (by decide : (1:Int) ≤ (1:Int32).toInt)), (by decide : (1:Int32).toInt ≤ (1:Int))⟩⟩
    refine ev_sub (lo := [(2, .int 0), (0, .ref ar0), (1, .int ar1)]) rfl (t_sc rfl (t_sc rfl (t_sc rfl t_sn))) ?_
    exact L5 _ gi1 gl1 gr1 (0) hI hX p_a0 (by decide : (0:Int) ≤ (0:Int32).toInt) (Int.le_trans (by decide : (0:Int32).toInt ≤ (0:Int)) (by decide : (0:Int) ≤ 300)) rfl
noncomputable def wl_readEither : List (Nat × Nat) := [(116, 3), (117, 2), (118, 2), (118, 3), (118, 4), (118, 5), (118, 6), (118, 7), (118, 8), (118, 9), (118, 10), (118, 11), (130, 9999)]
theorem c_readEither {X : x_Ext} {d : Nat} {sh : List (Nat ⊕ (Nat × Nat))} {gi : Nat → Nat → Int32} {gl : Nat → Nat → Int64} {gr : Nat → Nat → Value} (hI : t_I sh gi gr) (ar0 : Nat) (p_a0 : t_RL sh gr ar0) (ar1 : Int32) (l_a1 : 0 ≤ ar1.toInt) (u_a1 : ar1.toInt ≤ 6) (HO : ∀ {gi : Nat → Nat → Int32} {gl : Nat → Nat → Int64} {gr : Nat → Nat → Value}, t_I sh gi gr → t_RL sh gr ar0 → x_Me X d n_X8_readOne [.ref ar0, .int ar1] (sh, gi, gl, gr) (t_P wl_readOne sh gi gl gr (t_Ri 0 1))) : x_Me X (d + 4) n_X8_readEither [.ref ar0, .int ar1] (sh, gi, gl, gr) (t_P wl_readEither sh gi gl gr (t_Ri 0 1)) := by
  have hX : t_X wl_readEither sh gi gl gr gi gl gr := t_X.rf
  refine me_i f_X8_readEither p_a0.1 rfl rfl rfl ?_
  refine ev_loc f_X8_readEither (nx := 1) rfl rfl rfl rfl ?_
  refine ev_loc f_X8_readEither (nx := 2) rfl rfl rfl rfl ?_
  refine ev_cI f_X8_readEither (nx := 5) (r := []) rfl rfl rfl rfl rfl rfl rfl (c_readBoth hI (ar0) p_a0 (ar1) l_a1 u_a1 HO) rfl hX rfl (fun w1 gi1 gl1 gr1 l1 u1 hI hX hC1 => ?_)
  replace p_a0 := p_a0.ext hC1.2
  refine ev_if f_X8_readEither (t1 := 8) (t2 := 10) rfl rfl rfl (fun h2 => ?_) (fun h2 => ?_)
  · have u3 : w1.toInt ≤ 0 := t_equ h2 (by decide : (0:Int32).toInt ≤ (0:Int))
    refine ev_ic f_X8_readEither (nx := 9) (v := 0) rfl (by decide) rfl ?_
    exact ev_ret f_X8_readEither rfl rfl rfl ⟨_, _, _, rfl, hI, hX, ⟨_, rfl, (by decide : (0:Int) ≤ (0:Int32).toInt), (Int.le_trans (by decide : (0:Int32).toInt ≤ (0:Int)) (by decide : (0:Int) ≤ 1))⟩⟩
  · have l4 : 1 ≤ w1.toInt := t_nel h2 l1 rfl rfl
    refine ev_ic f_X8_readEither (nx := 11) (v := 0) rfl (by decide) rfl ?_
    refine ev_loc f_X8_readEither (nx := 12) (lo' := [(2, .int 0), (0, .ref ar0), (1, .int ar1)]) rfl rfl rfl rfl ?_
    have L5 : ∀ (m5 : Nat) (gi5 : Nat → Nat → Int32) (gl5 : Nat → Nat → Int64) (gr5 : Nat → Nat → Value) (y5_2 : Int32), t_I sh gi5 gr5 → t_X wl_readEither sh gi gl gr gi5 gl5 gr5 → t_RL sh gr5 ar0 → 0 ≤ y5_2.toInt → y5_2.toInt ≤ 300 → (300 - y5_2.toInt).toNat = m5 → x_Ev X (d + 4) n_X8_readEither 12 [(2, .int y5_2), (0, .ref ar0), (1, .int ar1)] [] (sh, gi5, gl5, gr5) (t_P wl_readEither sh gi gl gr (t_Ri 0 1)) := by
      intro m5
      induction m5 using Nat.strongRecOn with
      | _ m5 ih5 =>
      intro gi5 gl5 gr5 y5_2 hI hX p_a0 l5_2 u5_2 hm5
      refine ev_loc f_X8_readEither (nx := 13) rfl rfl rfl rfl ?_
      refine ev_sp f_X8_readEither (nx := 16) (v := 300) rfl (by decide) rfl ?_
      refine ev_if f_X8_readEither (t1 := 65) (t2 := 19) rfl rfl rfl (fun h6 => ?_) (fun h6 => ?_)
      · have l7 : 300 ≤ y5_2.toInt := t_lel h6 (by decide : (300:Int) ≤ (300:Int32).toInt)
        refine ev_ic f_X8_readEither (nx := 66) (v := 1) rfl (by decide) rfl ?_
        exact ev_ret f_X8_readEither rfl rfl rfl ⟨_, _, _, rfl, hI, hX, ⟨_, rfl, (Int.le_trans (by decide : (0:Int) ≤ 1) (by decide : (1:Int) ≤ (1:Int32).toInt)), (by decide : (1:Int32).toInt ≤ (1:Int))⟩⟩
      · have u8 : y5_2.toInt ≤ 299 := t_ltu (t_nle h6) (by decide : (300:Int32).toInt ≤ (300:Int)) rfl
        refine ev_loc f_X8_readEither (nx := 20) rfl rfl rfl rfl ?_
        obtain ⟨a9, e9, p9⟩ := p_a0.2.1
        refine ev_getR f_X8_readEither (nx := 23) rfl p_a0.1 rfl rfl e9 rfl rfl ?_
        have k10 := hI.2.2.2.1.2.2.2.2.2 a9 p9.1
        obtain ⟨v10, e10⟩ : ∃ v, gr5 a9 7 = v := ⟨_, rfl⟩
        rw [e10] at k10
        refine ev_getR f_X8_readEither (nx := 26) rfl p9.1 rfl rfl e10 (t_KwR k10) rfl ?_
        refine ev_heap f_X8_readEither (nx := 29) rfl rfl rfl rfl ?_
        refine ev_ack f_X8_readEither (t1 := 32) (t2 := 65) rfl rfl rfl (t_knw k10) rfl (fun h11 => ?_) (fun h11 => ?_)
        · refine ev_loc f_X8_readEither (nx := 33) rfl rfl rfl rfl ?_
          refine ev_getR f_X8_readEither (nx := 36) (v := .ref a9) rfl p_a0.1 rfl rfl e9 rfl rfl ?_
          refine ev_c0 f_X8_readEither (nx := 39) (r := []) rfl rfl rfl rfl rfl rfl rfl (c_step hI (a9) p9) rfl hX rfl (fun gi12 gl12 gr12 hI hX hC12 => ?_)
          replace p_a0 := p_a0.ext hC12.2
          replace p9 := p9.ext hC12.2
          refine ev_loc f_X8_readEither (nx := 40) rfl rfl rfl rfl ?_
          refine ev_loc f_X8_readEither (nx := 41) rfl rfl rfl rfl ?_
          refine ev_cI f_X8_readEither (nx := 44) (r := []) rfl rfl rfl rfl rfl rfl rfl (c_readBoth hI (ar0) p_a0 (ar1) l_a1 u_a1 HO) rfl hX rfl (fun w13 gi13 gl13 gr13 l13 u13 hI hX hC13 => ?_)
          replace p_a0 := p_a0.ext hC13.2
          replace p9 := p9.ext hC13.2
          refine ev_if f_X8_readEither (t1 := 47) (t2 := 49) rfl rfl rfl (fun h14 => ?_) (fun h14 => ?_)
          · have u15 : w13.toInt ≤ 0 := t_equ h14 (by decide : (0:Int32).toInt ≤ (0:Int))
            refine ev_ic f_X8_readEither (nx := 48) (v := 0) rfl (by decide) rfl ?_
            exact ev_ret f_X8_readEither rfl rfl rfl ⟨_, _, _, rfl, hI, hX, ⟨_, rfl, (by decide : (0:Int) ≤ (0:Int32).toInt), (Int.le_trans (by decide : (0:Int32).toInt ≤ (0:Int)) (by decide : (0:Int) ≤ 1))⟩⟩
          · have l16 : 1 ≤ w13.toInt := t_nel h14 l13 rfl rfl
            refine ev_loc f_X8_readEither (nx := 50) rfl rfl rfl rfl ?_
            obtain ⟨a17, e17, p17⟩ := p_a0.2.2
            refine ev_getR f_X8_readEither (nx := 53) rfl p_a0.1 rfl rfl e17 rfl rfl ?_
            refine ev_ic f_X8_readEither (nx := 54) (v := 5) rfl (by decide) rfl ?_
            refine ev_ic f_X8_readEither (nx := 55) (v := 0) rfl (by decide) rfl ?_
            refine ev_ic f_X8_readEither (nx := 56) (v := 0) rfl (by decide) rfl ?_
            refine ev_inV4 f_X8_readEither (nx := 59) (lo2 := [(0, .ref a17), (1, .int 5), (2, .int 0), (3, .int 0)]) rfl rfl rfl rfl f_X7_addStep p17.1 rfl rfl rfl rfl rfl ?_
            refine ev_loc f_X7_addStep (nx := 1) rfl rfl rfl rfl ?_
            obtain ⟨hk18, d18, r1_18, r2_18, s1_18, s2_18, n18, hn18, r4_18, r5_18, r6_18, s4_18, s5_18, s6_18⟩ := id p17
            have q19 := hI.2.2.2.2.1 a17 n18 p17 s4_18
            refine ev_getI f_X7_addStep (nx := 4) rfl p17.1 rfl rfl rfl ?_
            obtain ⟨l20, u20⟩ := hI.b p17.1 (t_bdK rfl : t_bd 6 3 = some (0, 300))
            refine ev_loc f_X7_addStep (nx := 5) rfl rfl rfl rfl ?_
            refine ev_getR f_X7_addStep (nx := 8) (v := .ref (a17 + 3)) rfl p17.1 rfl rfl r4_18 rfl rfl ?_
            obtain ⟨l21, u21⟩ := t_lenb hn18
            refine ev_alen f_X7_addStep (nx := 9) rfl s4_18 rfl rfl ?_
            refine ev_if f_X7_addStep (t1 := 52) (t2 := 12) rfl rfl rfl (fun h22 => ?_) (fun h22 => ?_)
            · refine ev_retK0 f_X7_addStep rfl rfl rfl ?_
              refine ev_incR f_X8_readEither (nx := 62) (c := 1) (l := 1) (u := 300) rfl rfl (by decide) (by decide) l5_2 u8 rfl rfl (by decide) (by decide) rfl (fun z23 e23 l23 u23 => ?_)
              refine ev_jmp f_X8_readEither (nx := 12) rfl rfl rfl ?_
              refine ev_sub (lo := [(2, .int z23), (0, .ref ar0), (1, .int ar1)]) rfl (t_sc rfl (t_sc rfl (t_sc rfl t_sn))) ?_
              exact ih5 _ (by omega) gi13 gl13 gr13 (z23) hI hX p_a0 (Int.le_trans (by decide : (0:Int) ≤ 1) l23) u23 rfl
            · have u24 : (gi13 a17 3).toInt ≤ 299 := t_ltu (t_nle h22) u21 rfl
              have l25 : 1 ≤ (Int32.ofNat n18).toInt := t_ltl (t_nle h22) l20 rfl
              refine ev_loc f_X7_addStep (nx := 13) rfl rfl rfl rfl ?_
              refine ev_getR f_X7_addStep (nx := 16) (v := .ref (a17 + 3)) rfl p17.1 rfl rfl r4_18 rfl rfl ?_
              refine ev_loc f_X7_addStep (nx := 17) rfl rfl rfl rfl ?_
              refine ev_gvI f_X7_addStep (nx := 20) (w := (gi13 a17 3)) rfl p17.1 rfl rfl rfl rfl ?_
              refine ev_loc f_X7_addStep (nx := 21) rfl rfl rfl rfl ?_
              refine ev_iastS f_X7_addStep (nx := 22) rfl s4_18 (t_ixs l20 (t_lenlt (t_nle h22) hn18)) rfl (hI.astD s4_18 (by omega) (fun k hk e => absurd e (t_Ru.ne p17 hk (by decide)))) (hX.upI (t_inOD s4_18 (by omega) rfl)) (fun g26 e26 hI hX => ?_)
              refine ev_loc f_X7_addStep (nx := 23) rfl rfl rfl rfl ?_
              refine ev_getR f_X7_addStep (nx := 26) (v := .ref (a17 + 4)) rfl p17.1 rfl rfl r5_18 rfl rfl ?_
              refine ev_loc f_X7_addStep (nx := 27) rfl rfl rfl rfl ?_
              refine ev_gvI f_X7_addStep (nx := 30) (w := (gi13 a17 3)) rfl p17.1 rfl rfl ((by rw [e26]; exact x_up2_off (Or.inl (t_noobj s4_18 p17.1)) : g26 a17 3 = gi13 a17 3).trans rfl) rfl ?_
              refine ev_loc f_X7_addStep (nx := 31) rfl rfl rfl rfl ?_
              refine ev_iastS f_X7_addStep (nx := 32) rfl s5_18 (t_ixs l20 (t_lenlt (t_nle h22) hn18)) rfl (hI.astD s5_18 (by omega) (fun k hk e => absurd e (t_Ru.ne p17 hk (by decide)))) (hX.upI (t_inOD s5_18 (by omega) rfl)) (fun g27 e27 hI hX => ?_)
              refine ev_loc f_X7_addStep (nx := 33) rfl rfl rfl rfl ?_
              refine ev_getR f_X7_addStep (nx := 36) (v := .ref (a17 + 5)) rfl p17.1 rfl rfl r6_18 rfl rfl ?_
              refine ev_loc f_X7_addStep (nx := 37) rfl rfl rfl rfl ?_
              refine ev_gvI f_X7_addStep (nx := 40) (w := (gi13 a17 3)) rfl p17.1 rfl rfl ((by rw [e27]; exact x_up2_off (Or.inl (t_noobj s5_18 p17.1)) : g27 a17 3 = g26 a17 3).trans ((by rw [e26]; exact x_up2_off (Or.inl (t_noobj s4_18 p17.1)) : g26 a17 3 = gi13 a17 3).trans rfl)) rfl ?_
              refine ev_loc f_X7_addStep (nx := 41) rfl rfl rfl rfl ?_
              refine ev_iastS f_X7_addStep (nx := 42) rfl s6_18 (t_ixs l20 (t_lenlt (t_nle h22) hn18)) rfl (hI.astD s6_18 (by omega) (fun k hk e => absurd e (t_Ru.ne p17 hk (by decide)))) (hX.upI (t_inOD s6_18 (by omega) rfl)) (fun g28 e28 hI hX => ?_)
              refine ev_loc f_X7_addStep (nx := 43) rfl rfl rfl rfl ?_
              refine ev_alu f_X7_addStep (nx := 44) rfl rfl rfl rfl ?_
              refine ev_gvI f_X7_addStep (nx := 47) (w := (gi13 a17 3)) rfl p17.1 rfl rfl ((by rw [e28]; exact x_up2_off (Or.inl (t_noobj s6_18 p17.1)) : g28 a17 3 = g27 a17 3).trans ((by rw [e27]; exact x_up2_off (Or.inl (t_noobj s5_18 p17.1)) : g27 a17 3 = g26 a17 3).trans ((by rw [e26]; exact x_up2_off (Or.inl (t_noobj s4_18 p17.1)) : g26 a17 3 = gi13 a17 3).trans rfl))) rfl ?_
              refine ev_ic f_X7_addStep (nx := 48) (v := 1) rfl (by decide) rfl ?_
              refine ev_addC f_X7_addStep (nx := 49) (c := 1) (l := 1) (u := 300) rfl (by decide) l20 u24 rfl rfl (by decide) (by decide) rfl (fun z29 e29 l29 u29 => ?_)
              have q30 := t_lenlt (t_nle h22) hn18
              refine ev_putIT f_X7_addStep (nx := 52) rfl p17.1 rfl rfl rfl (hI.putG p17.1 (fun lo hi e => by have e : some ((0 : Int), (300 : Int)) = some (lo, hi) := e; have := hn18; cases e; exact ⟨by omega, by omega⟩) (fun _ _ n2 hn2 => by rw [s4_18] at hn2; cases hn2; omega)) (hX.upI (t_inO hI.wf p17.1 (t_outO hI.wf p17.1 rfl) rfl)) (fun g30 e30 hI hX => ?_)
              refine ev_retK0 f_X7_addStep rfl rfl rfl ?_
              refine ev_incR f_X8_readEither (nx := 62) (c := 1) (l := 1) (u := 300) rfl rfl (by decide) (by decide) l5_2 u8 rfl rfl (by decide) (by decide) rfl (fun z31 e31 l31 u31 => ?_)
              refine ev_jmp f_X8_readEither (nx := 12) rfl rfl rfl ?_
              refine ev_sub (lo := [(2, .int z31), (0, .ref ar0), (1, .int ar1)]) rfl (t_sc rfl (t_sc rfl (t_sc rfl t_sn))) ?_
              exact ih5 _ (by omega) g30 gl13 gr13 (z31) hI hX p_a0 (Int.le_trans (by decide : (0:Int) ≤ 1) l31) u31 rfl
        · refine ev_ic f_X8_readEither (nx := 66) (v := 1) rfl (by decide) rfl ?_
          exact ev_ret f_X8_readEither rfl rfl rfl ⟨_, _, _, rfl, hI, hX, ⟨_, rfl, (Int.le_trans (by decide : (0:Int) ≤ 1) (by decide : (1:Int) ≤ (1:Int32).toInt)), (by decide : (1:Int32).toInt ≤ (1:Int))⟩⟩
    refine ev_sub (lo := [(2, .int 0), (0, .ref ar0), (1, .int ar1)]) rfl (t_sc rfl (t_sc rfl (t_sc rfl t_sn))) ?_
    exact L5 _ gi1 gl1 gr1 (0) hI hX p_a0 (by decide : (0:Int) ≤ (0:Int32).toInt) (Int.le_trans (by decide : (0:Int32).toInt ≤ (0:Int)) (by decide : (0:Int) ≤ 300)) rfl
theorem r_readOne {X : x_Ext} {d : Nat} {sh : List (Nat ⊕ (Nat × Nat))} : ∀ (r : Nat) {gi : Nat → Nat → Int32} {gl : Nat → Nat → Int64} {gr : Nat → Nat → Value} (hI : t_I sh gi gr) (ar0 : Nat) (p_a0 : t_RL sh gr ar0) (ar1 : Int32) (l_a1 : 0 ≤ ar1.toInt) (u_a1 : ar1.toInt ≤ 6), (6 - ar1.toInt).toNat < r → x_Me X (d + 8 * r + 5) n_X8_readOne [.ref ar0, .int ar1] (sh, gi, gl, gr) (t_P wl_readOne sh gi gl gr (t_Ri 0 1)) := by
  intro r
  induction r with
  | zero => intro gi gl gr hI ar0 p_a0 ar1 l_a1 u_a1 hr; omega
  | succ r ih =>
  intro gi gl gr hI ar0 p_a0 ar1 l_a1 u_a1 hr
  rw [show d + 8 * (r + 1) + 5 = d + 8 * r + 13 by omega]
  have hX : t_X wl_readOne sh gi gl gr gi gl gr := t_X.rf
  refine me_i f_X8_readOne p_a0.1 rfl rfl rfl ?_
  refine ev_loc f_X8_readOne (nx := 1) rfl rfl rfl rfl ?_
  obtain ⟨a1, e1, p1⟩ := p_a0.2.1
  refine ev_getR f_X8_readOne (nx := 4) rfl p_a0.1 rfl rfl e1 rfl rfl ?_
  have k2 := hI.2.2.2.1.2.2.2.2.2 a1 p1.1
  obtain ⟨v2, e2⟩ : ∃ v, gr a1 7 = v := ⟨_, rfl⟩
  rw [e2] at k2
  refine ev_getR f_X8_readOne (nx := 7) rfl p1.1 rfl rfl e2 (t_KwR k2) rfl ?_
  refine ev_heap f_X8_readOne (nx := 10) rfl rfl rfl rfl ?_
  refine ev_ack f_X8_readOne (t1 := 25) (t2 := 13) rfl rfl rfl (t_knw k2) rfl (fun h3 => ?_) (fun h3 => ?_)
  · refine ev_ic f_X8_readOne (nx := 26) (v := 1) rfl (by decide) rfl ?_
    refine ev_jmp f_X8_readOne (nx := 30) rfl rfl rfl ?_
    refine ev_loc f_X8_readOne (nx := 31) (lo' := [(2, .int 1), (0, .ref ar0), (1, .int ar1)]) rfl rfl rfl rfl ?_
    refine ev_loc f_X8_readOne (nx := 32) rfl rfl rfl rfl ?_
    refine ev_cI f_X8_readOne (nx := 35) (r := []) rfl rfl rfl rfl rfl rfl rfl (c_factTold hI (ar0) p_a0) rfl hX rfl (fun w4 gi4 gl4 gr4 l4 u4 hI hX hC4 => ?_)
    replace p_a0 := p_a0.ext hC4.2
    replace p1 := p1.ext hC4.2
    refine ev_loc f_X8_readOne (nx := 36) (lo' := [(3, .int w4), (2, .int 1), (0, .ref ar0), (1, .int ar1)]) rfl rfl rfl rfl ?_
    refine ev_loc f_X8_readOne (nx := 37) rfl rfl rfl rfl ?_
    refine ev_f f_X8_readOne (t1 := 40) (t2 := 54) rfl rfl rfl (by decide) ?_
    refine ev_loc f_X8_readOne (nx := 55) rfl rfl rfl rfl ?_
    refine ev_f f_X8_readOne (t1 := 58) (t2 := 77) rfl rfl rfl (by decide) ?_
    refine ev_loc f_X8_readOne (nx := 78) rfl rfl rfl rfl ?_
    refine ev_bp f_X8_readOne (nx := 80) (v := 6) rfl (by decide) rfl ?_
    refine ev_if f_X8_readOne (t1 := 93) (t2 := 83) rfl rfl rfl (fun h5 => ?_) (fun h5 => ?_)
    · have u6 : ar1.toInt ≤ 5 := t_ltu h5 (by decide : (6:Int32).toInt ≤ (6:Int)) rfl
      refine ev_loc f_X8_readOne (nx := 94) rfl rfl rfl rfl ?_
      refine ev_f f_X8_readOne (t1 := 105) (t2 := 97) rfl rfl rfl (by decide) ?_
      refine ev_loc f_X8_readOne (nx := 98) rfl rfl rfl rfl ?_
      refine ev_loc f_X8_readOne (nx := 99) rfl rfl rfl rfl ?_
      refine ev_inV2 f_X8_readOne (nx := 102) (lo2 := [(0, .ref ar0), (1, .int ar1)]) rfl rfl rfl rfl f_X8_readNested p_a0.1 rfl rfl rfl rfl rfl ?_
      refine ev_loc f_X8_readNested (nx := 1) rfl rfl rfl rfl ?_
      refine ev_getR f_X8_readNested (nx := 4) (v := .ref a1) rfl p_a0.1 rfl rfl ((hC4.1 ar0 0 (t_ninO hI.wf p_a0.1 (t_outO hI.wf p_a0.1 rfl) rfl)).2.2.trans e1) rfl rfl ?_
      refine ev_getR f_X8_readNested (nx := 7) (v := v2) rfl p1.1 rfl rfl ((hC4.1 a1 7 (t_ninO hI.wf p1.1 (t_outO hI.wf p1.1 rfl) rfl)).2.2.trans e2) (t_KwR k2) rfl ?_
      refine ev_heap f_X8_readNested (nx := 10) rfl rfl rfl rfl ?_
      refine ev_ackT f_X8_readNested (t1 := 13) (t2 := 17) rfl rfl rfl (t_knw k2) rfl h3 ?_
      refine ev_ic f_X8_readNested (nx := 14) (v := 1) rfl (by decide) rfl ?_
      refine ev_jmp f_X8_readNested (nx := 18) rfl rfl rfl ?_
      refine ev_loc f_X8_readNested (nx := 19) (lo' := [(2, .int 1), (0, .ref ar0), (1, .int ar1)]) rfl rfl rfl rfl ?_
      refine ev_loc f_X8_readNested (nx := 20) rfl rfl rfl rfl ?_
      refine ev_getR f_X8_readNested (nx := 23) (v := .ref a1) rfl p_a0.1 rfl rfl ((hC4.1 ar0 0 (t_ninO hI.wf p_a0.1 (t_outO hI.wf p_a0.1 rfl) rfl)).2.2.trans e1) rfl rfl ?_
      refine ev_c0 f_X8_readNested (nx := 26) (r := []) rfl rfl rfl rfl rfl rfl rfl (c_step hI (a1) p1) rfl hX rfl (fun gi7 gl7 gr7 hI hX hC7 => ?_)
      replace p_a0 := p_a0.ext hC7.2
      replace p1 := p1.ext hC7.2
      refine ev_loc f_X8_readNested (nx := 27) rfl rfl rfl rfl ?_
      refine ev_f f_X8_readNested (t1 := 30) (t2 := 58) rfl rfl rfl (by decide) ?_
      refine ev_loc f_X8_readNested (nx := 59) rfl rfl rfl rfl ?_
      refine ev_loc f_X8_readNested (nx := 60) rfl rfl rfl rfl ?_
      refine ev_ic f_X8_readNested (nx := 61) (v := 1) rfl (by decide) rfl ?_
      refine ev_addC f_X8_readNested (nx := 62) (c := 1) (l := 1) (u := 6) rfl (by decide) l_a1 u6 rfl rfl (by decide) (by decide) rfl (fun z8 e8 l8 u8 => ?_)
      refine ev_cI f_X8_readNested (nx := 65) (r := []) rfl rfl rfl rfl rfl rfl rfl (x_Me.up (ih hI (ar0) p_a0 (z8) (Int.le_trans (by decide : (0:Int) ≤ 1) l8) u8 (by omega)) (by omega)) rfl hX rfl (fun w9 gi9 gl9 gr9 l9 u9 hI hX hC9 => ?_)
      replace p_a0 := p_a0.ext hC9.2
      replace p1 := p1.ext hC9.2
      refine ev_if f_X8_readNested (t1 := 68) (t2 := 70) rfl rfl rfl (fun h10 => ?_) (fun h10 => ?_)
      · have u11 : w9.toInt ≤ 0 := t_equ h10 (by decide : (0:Int32).toInt ≤ (0:Int))
        refine ev_ic f_X8_readNested (nx := 69) (v := 0) rfl (by decide) rfl ?_
        refine ev_retK1 f_X8_readNested rfl rfl rfl ?_
        refine ev_jmp f_X8_readOne (nx := 110) rfl rfl rfl ?_
        exact ev_ret f_X8_readOne rfl rfl rfl ⟨_, _, _, rfl, hI, hX, ⟨_, rfl, (by decide : (0:Int) ≤ (0:Int32).toInt), (Int.le_trans (by decide : (0:Int32).toInt ≤ (0:Int)) (by decide : (0:Int) ≤ 1))⟩⟩
      · have l12 : 1 ≤ w9.toInt := t_nel h10 l9 rfl rfl
        refine ev_loc f_X8_readNested (nx := 71) rfl rfl rfl rfl ?_
        obtain ⟨a13, e13, p13⟩ := p_a0.2.2
        refine ev_getR f_X8_readNested (nx := 74) rfl p_a0.1 rfl rfl e13 rfl rfl ?_
        refine ev_ic f_X8_readNested (nx := 75) (v := 3) rfl (by decide) rfl ?_
        refine ev_ic f_X8_readNested (nx := 76) (v := 0) rfl (by decide) rfl ?_
        refine ev_ic f_X8_readNested (nx := 77) (v := 0) rfl (by decide) rfl ?_
        refine ev_inV4 f_X8_readNested (nx := 80) (lo2 := [(0, .ref a13), (1, .int 3), (2, .int 0), (3, .int 0)]) rfl rfl rfl rfl f_X7_addStep p13.1 rfl rfl rfl rfl rfl ?_
        refine ev_loc f_X7_addStep (nx := 1) rfl rfl rfl rfl ?_
        obtain ⟨hk14, d14, r1_14, r2_14, s1_14, s2_14, n14, hn14, r4_14, r5_14, r6_14, s4_14, s5_14, s6_14⟩ := id p13
        have q15 := hI.2.2.2.2.1 a13 n14 p13 s4_14
        refine ev_getI f_X7_addStep (nx := 4) rfl p13.1 rfl rfl rfl ?_
        obtain ⟨l16, u16⟩ := hI.b p13.1 (t_bdK rfl : t_bd 6 3 = some (0, 300))
        refine ev_loc f_X7_addStep (nx := 5) rfl rfl rfl rfl ?_
        refine ev_getR f_X7_addStep (nx := 8) (v := .ref (a13 + 3)) rfl p13.1 rfl rfl r4_14 rfl rfl ?_
        obtain ⟨l17, u17⟩ := t_lenb hn14
        refine ev_alen f_X7_addStep (nx := 9) rfl s4_14 rfl rfl ?_
        refine ev_if f_X7_addStep (t1 := 52) (t2 := 12) rfl rfl rfl (fun h18 => ?_) (fun h18 => ?_)
        · refine ev_retK0 f_X7_addStep rfl rfl rfl ?_
          refine ev_ic f_X8_readNested (nx := 81) (v := 1) rfl (by decide) rfl ?_
          refine ev_retK1 f_X8_readNested rfl rfl rfl ?_
          refine ev_jmp f_X8_readOne (nx := 110) rfl rfl rfl ?_
          exact ev_ret f_X8_readOne rfl rfl rfl ⟨_, _, _, rfl, hI, hX, ⟨_, rfl, (Int.le_trans (by decide : (0:Int) ≤ 1) (by decide : (1:Int) ≤ (1:Int32).toInt)), (by decide : (1:Int32).toInt ≤ (1:Int))⟩⟩
        · have u19 : (gi9 a13 3).toInt ≤ 299 := t_ltu (t_nle h18) u17 rfl
          have l20 : 1 ≤ (Int32.ofNat n14).toInt := t_ltl (t_nle h18) l16 rfl
          refine ev_loc f_X7_addStep (nx := 13) rfl rfl rfl rfl ?_
          refine ev_getR f_X7_addStep (nx := 16) (v := .ref (a13 + 3)) rfl p13.1 rfl rfl r4_14 rfl rfl ?_
          refine ev_loc f_X7_addStep (nx := 17) rfl rfl rfl rfl ?_
          refine ev_gvI f_X7_addStep (nx := 20) (w := (gi9 a13 3)) rfl p13.1 rfl rfl rfl rfl ?_
          refine ev_loc f_X7_addStep (nx := 21) rfl rfl rfl rfl ?_
          refine ev_iastS f_X7_addStep (nx := 22) rfl s4_14 (t_ixs l16 (t_lenlt (t_nle h18) hn14)) rfl (hI.astD s4_14 (by omega) (fun k hk e => absurd e (t_Ru.ne p13 hk (by decide)))) (hX.upI (t_inOD s4_14 (by omega) rfl)) (fun g21 e21 hI hX => ?_)
          refine ev_loc f_X7_addStep (nx := 23) rfl rfl rfl rfl ?_
          refine ev_getR f_X7_addStep (nx := 26) (v := .ref (a13 + 4)) rfl p13.1 rfl rfl r5_14 rfl rfl ?_
          refine ev_loc f_X7_addStep (nx := 27) rfl rfl rfl rfl ?_
          refine ev_gvI f_X7_addStep (nx := 30) (w := (gi9 a13 3)) rfl p13.1 rfl rfl ((by rw [e21]; exact x_up2_off (Or.inl (t_noobj s4_14 p13.1)) : g21 a13 3 = gi9 a13 3).trans rfl) rfl ?_
          refine ev_loc f_X7_addStep (nx := 31) rfl rfl rfl rfl ?_
          refine ev_iastS f_X7_addStep (nx := 32) rfl s5_14 (t_ixs l16 (t_lenlt (t_nle h18) hn14)) rfl (hI.astD s5_14 (by omega) (fun k hk e => absurd e (t_Ru.ne p13 hk (by decide)))) (hX.upI (t_inOD s5_14 (by omega) rfl)) (fun g22 e22 hI hX => ?_)
          refine ev_loc f_X7_addStep (nx := 33) rfl rfl rfl rfl ?_
          refine ev_getR f_X7_addStep (nx := 36) (v := .ref (a13 + 5)) rfl p13.1 rfl rfl r6_14 rfl rfl ?_
          refine ev_loc f_X7_addStep (nx := 37) rfl rfl rfl rfl ?_
          refine ev_gvI f_X7_addStep (nx := 40) (w := (gi9 a13 3)) rfl p13.1 rfl rfl ((by rw [e22]; exact x_up2_off (Or.inl (t_noobj s5_14 p13.1)) : g22 a13 3 = g21 a13 3).trans ((by rw [e21]; exact x_up2_off (Or.inl (t_noobj s4_14 p13.1)) : g21 a13 3 = gi9 a13 3).trans rfl)) rfl ?_
          refine ev_loc f_X7_addStep (nx := 41) rfl rfl rfl rfl ?_
          refine ev_iastS f_X7_addStep (nx := 42) rfl s6_14 (t_ixs l16 (t_lenlt (t_nle h18) hn14)) rfl (hI.astD s6_14 (by omega) (fun k hk e => absurd e (t_Ru.ne p13 hk (by decide)))) (hX.upI (t_inOD s6_14 (by omega) rfl)) (fun g23 e23 hI hX => ?_)
          refine ev_loc f_X7_addStep (nx := 43) rfl rfl rfl rfl ?_
          refine ev_alu f_X7_addStep (nx := 44) rfl rfl rfl rfl ?_
          refine ev_gvI f_X7_addStep (nx := 47) (w := (gi9 a13 3)) rfl p13.1 rfl rfl ((by rw [e23]; exact x_up2_off (Or.inl (t_noobj s6_14 p13.1)) : g23 a13 3 = g22 a13 3).trans ((by rw [e22]; exact x_up2_off (Or.inl (t_noobj s5_14 p13.1)) : g22 a13 3 = g21 a13 3).trans ((by rw [e21]; exact x_up2_off (Or.inl (t_noobj s4_14 p13.1)) : g21 a13 3 = gi9 a13 3).trans rfl))) rfl ?_
          refine ev_ic f_X7_addStep (nx := 48) (v := 1) rfl (by decide) rfl ?_
          refine ev_addC f_X7_addStep (nx := 49) (c := 1) (l := 1) (u := 300) rfl (by decide) l16 u19 rfl rfl (by decide) (by decide) rfl (fun z24 e24 l24 u24 => ?_)
          have q25 := t_lenlt (t_nle h18) hn14
          refine ev_putIT f_X7_addStep (nx := 52) rfl p13.1 rfl rfl rfl (hI.putG p13.1 (fun lo hi e => by have e : some ((0 : Int), (300 : Int)) = some (lo, hi) := e; have := hn14; cases e; exact ⟨by omega, by omega⟩) (fun _ _ n2 hn2 => by rw [s4_14] at hn2; cases hn2; omega)) (hX.upI (t_inO hI.wf p13.1 (t_outO hI.wf p13.1 rfl) rfl)) (fun g25 e25 hI hX => ?_)
          refine ev_retK0 f_X7_addStep rfl rfl rfl ?_
          refine ev_ic f_X8_readNested (nx := 81) (v := 1) rfl (by decide) rfl ?_
          refine ev_retK1 f_X8_readNested rfl rfl rfl ?_
          refine ev_jmp f_X8_readOne (nx := 110) rfl rfl rfl ?_
          exact ev_ret f_X8_readOne rfl rfl rfl ⟨_, _, _, rfl, hI, hX, ⟨_, rfl, (Int.le_trans (by decide : (0:Int) ≤ 1) (by decide : (1:Int) ≤ (1:Int32).toInt)), (by decide : (1:Int32).toInt ≤ (1:Int))⟩⟩
    · have l26 : 6 ≤ ar1.toInt := t_lel (t_nlt h5) (by decide : (6:Int) ≤ (6:Int32).toInt)
      refine ev_loc f_X8_readOne (nx := 84) rfl rfl rfl rfl ?_
      refine ev_getR f_X8_readOne (nx := 87) (v := .ref a1) rfl p_a0.1 rfl rfl ((hC4.1 ar0 0 (t_ninO hI.wf p_a0.1 (t_outO hI.wf p_a0.1 rfl) rfl)).2.2.trans e1) rfl rfl ?_
      refine ev_bp f_X8_readOne (nx := 89) (v := 7) rfl (by decide) rfl ?_
      refine ev_inV2 f_X8_readOne (nx := 92) (lo2 := [(0, .ref a1), (1, .int 7)]) rfl rfl rfl rfl f_X9_refuseToken p1.1 rfl rfl rfl rfl rfl ?_
      refine ev_loc f_X9_refuseToken (nx := 1) rfl rfl rfl rfl ?_
      refine ev_loc f_X9_refuseToken (nx := 2) rfl rfl rfl rfl ?_
      refine ev_getI f_X9_refuseToken (nx := 5) rfl p1.1 rfl rfl rfl ?_
      refine ev_ic f_X9_refuseToken (nx := 6) (v := 4) rfl (by decide) rfl ?_
      refine ev_if f_X9_refuseToken (t1 := 9) (t2 := 13) rfl rfl rfl (fun h27 => ?_) (fun h27 => ?_)
      · have u28 : (gi4 a1 3).toInt ≤ 4 := t_equ h27 (by decide : (4:Int32).toInt ≤ (4:Int))
        have l29 : 4 ≤ (gi4 a1 3).toInt := t_eql h27 (by decide : (4:Int) ≤ (4:Int32).toInt)
        refine ev_ic f_X9_refuseToken (nx := 10) (v := 1) rfl (by decide) rfl ?_
        refine ev_jmp f_X9_refuseToken (nx := 14) rfl rfl rfl ?_
        refine ev_putIT f_X9_refuseToken (nx := 17) rfl p1.1 rfl rfl rfl (hI.put0 p1.1 rfl rfl) (hX.upI (t_inO hI.wf p1.1 (t_outO hI.wf p1.1 rfl) rfl)) (fun g30 e30 hI hX => ?_)
        refine ev_loc f_X9_refuseToken (nx := 18) rfl rfl rfl rfl ?_
        refine ev_loc f_X9_refuseToken (nx := 19) rfl rfl rfl rfl ?_
        refine ev_getI f_X9_refuseToken (nx := 22) rfl p1.1 rfl rfl rfl ?_
        obtain ⟨l31, u31⟩ := hI.b p1.1 (t_bdK rfl : t_bd 8 4 = some (0, 900))
        refine ev_putIT f_X9_refuseToken (nx := 25) rfl p1.1 rfl rfl rfl (hI.put0 p1.1 rfl rfl) (hX.upI (t_inO hI.wf p1.1 (t_outO hI.wf p1.1 rfl) rfl)) (fun g32 e32 hI hX => ?_)
        refine ev_ic f_X9_refuseToken (nx := 26) (v := 0) rfl (by decide) rfl ?_
        refine ev_retK1 f_X9_refuseToken rfl rfl rfl ?_
        exact ev_ret f_X8_readOne rfl rfl rfl ⟨_, _, _, rfl, hI, hX, ⟨_, rfl, (by decide : (0:Int) ≤ (0:Int32).toInt), (Int.le_trans (by decide : (0:Int32).toInt ≤ (0:Int)) (by decide : (0:Int) ≤ 1))⟩⟩
      · refine ev_loc f_X9_refuseToken (nx := 14) rfl rfl rfl rfl ?_
        refine ev_putIT f_X9_refuseToken (nx := 17) rfl p1.1 rfl rfl rfl (hI.put0 p1.1 rfl rfl) (hX.upI (t_inO hI.wf p1.1 (t_outO hI.wf p1.1 rfl) rfl)) (fun g33 e33 hI hX => ?_)
        refine ev_loc f_X9_refuseToken (nx := 18) rfl rfl rfl rfl ?_
        refine ev_loc f_X9_refuseToken (nx := 19) rfl rfl rfl rfl ?_
        refine ev_getI f_X9_refuseToken (nx := 22) rfl p1.1 rfl rfl rfl ?_
        obtain ⟨l34, u34⟩ := hI.b p1.1 (t_bdK rfl : t_bd 8 4 = some (0, 900))
        refine ev_putIT f_X9_refuseToken (nx := 25) rfl p1.1 rfl rfl rfl (hI.put0 p1.1 rfl rfl) (hX.upI (t_inO hI.wf p1.1 (t_outO hI.wf p1.1 rfl) rfl)) (fun g35 e35 hI hX => ?_)
        refine ev_ic f_X9_refuseToken (nx := 26) (v := 0) rfl (by decide) rfl ?_
        refine ev_retK1 f_X9_refuseToken rfl rfl rfl ?_
        exact ev_ret f_X8_readOne rfl rfl rfl ⟨_, _, _, rfl, hI, hX, ⟨_, rfl, (by decide : (0:Int) ≤ (0:Int32).toInt), (Int.le_trans (by decide : (0:Int32).toInt ≤ (0:Int)) (by decide : (0:Int) ≤ 1))⟩⟩
  · refine ev_loc f_X8_readOne (nx := 14) rfl rfl rfl rfl ?_
    refine ev_getR f_X8_readOne (nx := 17) (v := .ref a1) rfl p_a0.1 rfl rfl e1 rfl rfl ?_
    refine ev_bp f_X8_readOne (nx := 19) (v := 40) rfl (by decide) rfl ?_
    refine ev_inV2 f_X8_readOne (nx := 22) (lo2 := [(0, .ref a1), (1, .int 40)]) rfl rfl rfl rfl f_X9_isSignOf p1.1 rfl rfl rfl rfl rfl ?_
    refine ev_loc f_X9_isSignOf (nx := 1) rfl rfl rfl rfl ?_
    refine ev_getI f_X9_isSignOf (nx := 4) rfl p1.1 rfl rfl rfl ?_
    refine ev_ic f_X9_isSignOf (nx := 5) (v := 2) rfl (by decide) rfl ?_
    refine ev_if f_X9_isSignOf (t1 := 8) (t2 := 20) rfl rfl rfl (fun h36 => ?_) (fun h36 => ?_)
    · have u37 : (gi a1 3).toInt ≤ 2 := t_equ h36 (by decide : (2:Int32).toInt ≤ (2:Int))
      have l38 : 2 ≤ (gi a1 3).toInt := t_eql h36 (by decide : (2:Int) ≤ (2:Int32).toInt)
      refine ev_loc f_X9_isSignOf (nx := 9) rfl rfl rfl rfl ?_
      refine ev_getI f_X9_isSignOf (nx := 12) rfl p1.1 rfl rfl rfl ?_
      refine ev_loc f_X9_isSignOf (nx := 13) rfl rfl rfl rfl ?_
      refine ev_if f_X9_isSignOf (t1 := 16) (t2 := 20) rfl rfl rfl (fun h39 => ?_) (fun h39 => ?_)
      · have u40 : (gi a1 9).toInt ≤ 40 := t_equ h39 (by decide : (40:Int32).toInt ≤ (40:Int))
        have l41 : 40 ≤ (gi a1 9).toInt := t_eql h39 (by decide : (40:Int) ≤ (40:Int32).toInt)
        refine ev_ic f_X9_isSignOf (nx := 17) (v := 1) rfl (by decide) rfl ?_
        refine ev_jmp f_X9_isSignOf (nx := 21) rfl rfl rfl ?_
        refine ev_retK1 f_X9_isSignOf rfl rfl rfl ?_
        refine ev_f f_X8_readOne (t1 := 29) (t2 := 25) rfl rfl rfl (by decide) ?_
        refine ev_ic f_X8_readOne (nx := 26) (v := 1) rfl (by decide) rfl ?_
        refine ev_jmp f_X8_readOne (nx := 30) rfl rfl rfl ?_
        refine ev_loc f_X8_readOne (nx := 31) (lo' := [(2, .int 1), (0, .ref ar0), (1, .int ar1)]) rfl rfl rfl rfl ?_
        refine ev_loc f_X8_readOne (nx := 32) rfl rfl rfl rfl ?_
        refine ev_cI f_X8_readOne (nx := 35) (r := []) rfl rfl rfl rfl rfl rfl rfl (c_factTold hI (ar0) p_a0) rfl hX rfl (fun w42 gi42 gl42 gr42 l42 u42 hI hX hC42 => ?_)
        replace p_a0 := p_a0.ext hC42.2
        replace p1 := p1.ext hC42.2
        refine ev_loc f_X8_readOne (nx := 36) (lo' := [(3, .int w42), (2, .int 1), (0, .ref ar0), (1, .int ar1)]) rfl rfl rfl rfl ?_
        refine ev_loc f_X8_readOne (nx := 37) rfl rfl rfl rfl ?_
        refine ev_f f_X8_readOne (t1 := 40) (t2 := 54) rfl rfl rfl (by decide) ?_
        refine ev_loc f_X8_readOne (nx := 55) rfl rfl rfl rfl ?_
        refine ev_f f_X8_readOne (t1 := 58) (t2 := 77) rfl rfl rfl (by decide) ?_
        refine ev_loc f_X8_readOne (nx := 78) rfl rfl rfl rfl ?_
        refine ev_bp f_X8_readOne (nx := 80) (v := 6) rfl (by decide) rfl ?_
        refine ev_if f_X8_readOne (t1 := 93) (t2 := 83) rfl rfl rfl (fun h43 => ?_) (fun h43 => ?_)
        · have u44 : ar1.toInt ≤ 5 := t_ltu h43 (by decide : (6:Int32).toInt ≤ (6:Int)) rfl
          refine ev_loc f_X8_readOne (nx := 94) rfl rfl rfl rfl ?_
          refine ev_f f_X8_readOne (t1 := 105) (t2 := 97) rfl rfl rfl (by decide) ?_
          refine ev_loc f_X8_readOne (nx := 98) rfl rfl rfl rfl ?_
          refine ev_loc f_X8_readOne (nx := 99) rfl rfl rfl rfl ?_
          refine ev_inV2 f_X8_readOne (nx := 102) (lo2 := [(0, .ref ar0), (1, .int ar1)]) rfl rfl rfl rfl f_X8_readNested p_a0.1 rfl rfl rfl rfl rfl ?_
          refine ev_loc f_X8_readNested (nx := 1) rfl rfl rfl rfl ?_
          refine ev_getR f_X8_readNested (nx := 4) (v := .ref a1) rfl p_a0.1 rfl rfl ((hC42.1 ar0 0 (t_ninO hI.wf p_a0.1 (t_outO hI.wf p_a0.1 rfl) rfl)).2.2.trans e1) rfl rfl ?_
          refine ev_getR f_X8_readNested (nx := 7) (v := v2) rfl p1.1 rfl rfl ((hC42.1 a1 7 (t_ninO hI.wf p1.1 (t_outO hI.wf p1.1 rfl) rfl)).2.2.trans e2) (t_KwR k2) rfl ?_
          refine ev_heap f_X8_readNested (nx := 10) rfl rfl rfl rfl ?_
          refine ev_ackF f_X8_readNested (t1 := 13) (t2 := 17) rfl rfl rfl (t_knw k2) rfl h3 ?_
          refine ev_ic f_X8_readNested (nx := 18) (v := 0) rfl (by decide) rfl ?_
          refine ev_loc f_X8_readNested (nx := 19) (lo' := [(2, .int 0), (0, .ref ar0), (1, .int ar1)]) rfl rfl rfl rfl ?_
          refine ev_loc f_X8_readNested (nx := 20) rfl rfl rfl rfl ?_
          refine ev_getR f_X8_readNested (nx := 23) (v := .ref a1) rfl p_a0.1 rfl rfl ((hC42.1 ar0 0 (t_ninO hI.wf p_a0.1 (t_outO hI.wf p_a0.1 rfl) rfl)).2.2.trans e1) rfl rfl ?_
          refine ev_c0 f_X8_readNested (nx := 26) (r := []) rfl rfl rfl rfl rfl rfl rfl (c_step hI (a1) p1) rfl hX rfl (fun gi45 gl45 gr45 hI hX hC45 => ?_)
          replace p_a0 := p_a0.ext hC45.2
          replace p1 := p1.ext hC45.2
          refine ev_loc f_X8_readNested (nx := 27) rfl rfl rfl rfl ?_
          refine ev_t f_X8_readNested (t1 := 30) (t2 := 58) rfl rfl rfl (by decide) ?_
          refine ev_loc f_X8_readNested (nx := 31) rfl rfl rfl rfl ?_
          refine ev_loc f_X8_readNested (nx := 32) rfl rfl rfl rfl ?_
          refine ev_ic f_X8_readNested (nx := 33) (v := 1) rfl (by decide) rfl ?_
          refine ev_addC f_X8_readNested (nx := 34) (c := 1) (l := 1) (u := 6) rfl (by decide) l_a1 u44 rfl rfl (by decide) (by decide) rfl (fun z46 e46 l46 u46 => ?_)
          refine ev_cI f_X8_readNested (nx := 37) (r := []) rfl rfl rfl rfl rfl rfl rfl (c_readEither hI (ar0) p_a0 (z46) (Int.le_trans (by decide : (0:Int) ≤ 1) l46) u46 (fun hI p => x_Me.up (ih hI _ p _ (Int.le_trans (by decide : (0:Int) ≤ 1) l46) u46 (by omega)) (by omega))) rfl hX rfl (fun w47 gi47 gl47 gr47 l47 u47 hI hX hC47 => ?_)
          replace p_a0 := p_a0.ext hC47.2
          replace p1 := p1.ext hC47.2
          refine ev_if f_X8_readNested (t1 := 56) (t2 := 40) rfl rfl rfl (fun h48 => ?_) (fun h48 => ?_)
          · have u49 : w47.toInt ≤ 0 := t_equ h48 (by decide : (0:Int32).toInt ≤ (0:Int))
            refine ev_ic f_X8_readNested (nx := 57) (v := 0) rfl (by decide) rfl ?_
            refine ev_retK1 f_X8_readNested rfl rfl rfl ?_
            refine ev_jmp f_X8_readOne (nx := 110) rfl rfl rfl ?_
            exact ev_ret f_X8_readOne rfl rfl rfl ⟨_, _, _, rfl, hI, hX, ⟨_, rfl, (by decide : (0:Int) ≤ (0:Int32).toInt), (Int.le_trans (by decide : (0:Int32).toInt ≤ (0:Int)) (by decide : (0:Int) ≤ 1))⟩⟩
          · have l50 : 1 ≤ w47.toInt := t_nel h48 l47 rfl rfl
            refine ev_loc f_X8_readNested (nx := 41) rfl rfl rfl rfl ?_
            refine ev_getR f_X8_readNested (nx := 44) (v := .ref a1) rfl p_a0.1 rfl rfl ((hC47.1 ar0 0 (t_ninO hI.wf p_a0.1 (t_outO hI.wf p_a0.1 rfl) rfl)).2.2.trans ((hC45.1 ar0 0 (t_ninO hI.wf p_a0.1 (t_outO hI.wf p_a0.1 rfl) rfl)).2.2.trans ((hC42.1 ar0 0 (t_ninO hI.wf p_a0.1 (t_outO hI.wf p_a0.1 rfl) rfl)).2.2.trans e1))) rfl rfl ?_
            refine ev_bp f_X8_readNested (nx := 46) (v := 41) rfl (by decide) rfl ?_
            refine ev_cI f_X8_readNested (nx := 49) (r := []) rfl rfl rfl rfl rfl rfl rfl (c_takeSign hI (a1) p1 (41)) rfl hX rfl (fun w51 gi51 gl51 gr51 l51 u51 hI hX hC51 => ?_)
            replace p_a0 := p_a0.ext hC51.2
            replace p1 := p1.ext hC51.2
            refine ev_if f_X8_readNested (t1 := 56) (t2 := 52) rfl rfl rfl (fun h52 => ?_) (fun h52 => ?_)
            · have u53 : w51.toInt ≤ 0 := t_equ h52 (by decide : (0:Int32).toInt ≤ (0:Int))
              refine ev_ic f_X8_readNested (nx := 57) (v := 0) rfl (by decide) rfl ?_
              refine ev_retK1 f_X8_readNested rfl rfl rfl ?_
              refine ev_jmp f_X8_readOne (nx := 110) rfl rfl rfl ?_
              exact ev_ret f_X8_readOne rfl rfl rfl ⟨_, _, _, rfl, hI, hX, ⟨_, rfl, (by decide : (0:Int) ≤ (0:Int32).toInt), (Int.le_trans (by decide : (0:Int32).toInt ≤ (0:Int)) (by decide : (0:Int) ≤ 1))⟩⟩
            · have l54 : 1 ≤ w51.toInt := t_nel h52 l51 rfl rfl
              refine ev_ic f_X8_readNested (nx := 53) (v := 1) rfl (by decide) rfl ?_
              refine ev_jmp f_X8_readNested (nx := 57) rfl rfl rfl ?_
              refine ev_retK1 f_X8_readNested rfl rfl rfl ?_
              refine ev_jmp f_X8_readOne (nx := 110) rfl rfl rfl ?_
              exact ev_ret f_X8_readOne rfl rfl rfl ⟨_, _, _, rfl, hI, hX, ⟨_, rfl, (Int.le_trans (by decide : (0:Int) ≤ 1) (by decide : (1:Int) ≤ (1:Int32).toInt)), (by decide : (1:Int32).toInt ≤ (1:Int))⟩⟩
        · have l55 : 6 ≤ ar1.toInt := t_lel (t_nlt h43) (by decide : (6:Int) ≤ (6:Int32).toInt)
          refine ev_loc f_X8_readOne (nx := 84) rfl rfl rfl rfl ?_
          refine ev_getR f_X8_readOne (nx := 87) (v := .ref a1) rfl p_a0.1 rfl rfl ((hC42.1 ar0 0 (t_ninO hI.wf p_a0.1 (t_outO hI.wf p_a0.1 rfl) rfl)).2.2.trans e1) rfl rfl ?_
          refine ev_bp f_X8_readOne (nx := 89) (v := 7) rfl (by decide) rfl ?_
          refine ev_inV2 f_X8_readOne (nx := 92) (lo2 := [(0, .ref a1), (1, .int 7)]) rfl rfl rfl rfl f_X9_refuseToken p1.1 rfl rfl rfl rfl rfl ?_
          refine ev_loc f_X9_refuseToken (nx := 1) rfl rfl rfl rfl ?_
          refine ev_loc f_X9_refuseToken (nx := 2) rfl rfl rfl rfl ?_
          refine ev_gvI f_X9_refuseToken (nx := 5) (w := (gi a1 3)) rfl p1.1 rfl rfl ((hC42.1 a1 3 (t_ninO hI.wf p1.1 (t_outO hI.wf p1.1 rfl) rfl)).1.trans rfl) rfl ?_
          refine ev_ic f_X9_refuseToken (nx := 6) (v := 4) rfl (by decide) rfl ?_
          refine ev_f f_X9_refuseToken (t1 := 9) (t2 := 13) rfl rfl rfl (t_neT u37 (by decide : (4:Int) ≤ (4:Int32).toInt) (by decide)) ?_
          refine ev_loc f_X9_refuseToken (nx := 14) rfl rfl rfl rfl ?_
          refine ev_putIT f_X9_refuseToken (nx := 17) rfl p1.1 rfl rfl rfl (hI.put0 p1.1 rfl rfl) (hX.upI (t_inO hI.wf p1.1 (t_outO hI.wf p1.1 rfl) rfl)) (fun g56 e56 hI hX => ?_)
          refine ev_loc f_X9_refuseToken (nx := 18) rfl rfl rfl rfl ?_
          refine ev_loc f_X9_refuseToken (nx := 19) rfl rfl rfl rfl ?_
          refine ev_getI f_X9_refuseToken (nx := 22) rfl p1.1 rfl rfl rfl ?_
          obtain ⟨l57, u57⟩ := hI.b p1.1 (t_bdK rfl : t_bd 8 4 = some (0, 900))
          refine ev_putIT f_X9_refuseToken (nx := 25) rfl p1.1 rfl rfl rfl (hI.put0 p1.1 rfl rfl) (hX.upI (t_inO hI.wf p1.1 (t_outO hI.wf p1.1 rfl) rfl)) (fun g58 e58 hI hX => ?_)
          refine ev_ic f_X9_refuseToken (nx := 26) (v := 0) rfl (by decide) rfl ?_
          refine ev_retK1 f_X9_refuseToken rfl rfl rfl ?_
          exact ev_ret f_X8_readOne rfl rfl rfl ⟨_, _, _, rfl, hI, hX, ⟨_, rfl, (by decide : (0:Int) ≤ (0:Int32).toInt), (Int.le_trans (by decide : (0:Int32).toInt ≤ (0:Int)) (by decide : (0:Int) ≤ 1))⟩⟩
      · refine ev_ic f_X9_isSignOf (nx := 21) (v := 0) rfl (by decide) rfl ?_
        refine ev_retK1 f_X9_isSignOf rfl rfl rfl ?_
        refine ev_t f_X8_readOne (t1 := 29) (t2 := 25) rfl rfl rfl (by decide) ?_
        refine ev_ic f_X8_readOne (nx := 30) (v := 0) rfl (by decide) rfl ?_
        refine ev_loc f_X8_readOne (nx := 31) (lo' := [(2, .int 0), (0, .ref ar0), (1, .int ar1)]) rfl rfl rfl rfl ?_
        refine ev_loc f_X8_readOne (nx := 32) rfl rfl rfl rfl ?_
        refine ev_cI f_X8_readOne (nx := 35) (r := []) rfl rfl rfl rfl rfl rfl rfl (c_factTold hI (ar0) p_a0) rfl hX rfl (fun w59 gi59 gl59 gr59 l59 u59 hI hX hC59 => ?_)
        replace p_a0 := p_a0.ext hC59.2
        replace p1 := p1.ext hC59.2
        refine ev_loc f_X8_readOne (nx := 36) (lo' := [(3, .int w59), (2, .int 0), (0, .ref ar0), (1, .int ar1)]) rfl rfl rfl rfl ?_
        refine ev_loc f_X8_readOne (nx := 37) rfl rfl rfl rfl ?_
        refine ev_t f_X8_readOne (t1 := 40) (t2 := 54) rfl rfl rfl (by decide) ?_
        refine ev_loc f_X8_readOne (nx := 41) rfl rfl rfl rfl ?_
        refine ev_ic f_X8_readOne (nx := 42) (v := -1) rfl (by decide) rfl ?_
        refine ev_if f_X8_readOne (t1 := 45) (t2 := 54) rfl rfl rfl (fun h60 => ?_) (fun h60 => ?_)
        · have u61 : w59.toInt ≤ (-1) := t_equ h60 (by decide : ((-1):Int32).toInt ≤ ((-1):Int))
          refine ev_loc f_X8_readOne (nx := 46) rfl rfl rfl rfl ?_
          refine ev_getR f_X8_readOne (nx := 49) (v := .ref a1) rfl p_a0.1 rfl rfl ((hC59.1 ar0 0 (t_ninO hI.wf p_a0.1 (t_outO hI.wf p_a0.1 rfl) rfl)).2.2.trans e1) rfl rfl ?_
          refine ev_ic f_X8_readOne (nx := 50) (v := 2) rfl (by decide) rfl ?_
          refine ev_inV2 f_X8_readOne (nx := 53) (lo2 := [(0, .ref a1), (1, .int 2)]) rfl rfl rfl rfl f_X9_refuseToken p1.1 rfl rfl rfl rfl rfl ?_
          refine ev_loc f_X9_refuseToken (nx := 1) rfl rfl rfl rfl ?_
          refine ev_loc f_X9_refuseToken (nx := 2) rfl rfl rfl rfl ?_
          refine ev_gvI f_X9_refuseToken (nx := 5) (w := (gi a1 3)) rfl p1.1 rfl rfl ((hC59.1 a1 3 (t_ninO hI.wf p1.1 (t_outO hI.wf p1.1 rfl) rfl)).1.trans rfl) rfl ?_
          refine ev_ic f_X9_refuseToken (nx := 6) (v := 4) rfl (by decide) rfl ?_
          refine ev_f f_X9_refuseToken (t1 := 9) (t2 := 13) rfl rfl rfl (t_neT u37 (by decide : (4:Int) ≤ (4:Int32).toInt) (by decide)) ?_
          refine ev_loc f_X9_refuseToken (nx := 14) rfl rfl rfl rfl ?_
          refine ev_putIT f_X9_refuseToken (nx := 17) rfl p1.1 rfl rfl rfl (hI.put0 p1.1 rfl rfl) (hX.upI (t_inO hI.wf p1.1 (t_outO hI.wf p1.1 rfl) rfl)) (fun g62 e62 hI hX => ?_)
          refine ev_loc f_X9_refuseToken (nx := 18) rfl rfl rfl rfl ?_
          refine ev_loc f_X9_refuseToken (nx := 19) rfl rfl rfl rfl ?_
          refine ev_getI f_X9_refuseToken (nx := 22) rfl p1.1 rfl rfl rfl ?_
          obtain ⟨l63, u63⟩ := hI.b p1.1 (t_bdK rfl : t_bd 8 4 = some (0, 900))
          refine ev_putIT f_X9_refuseToken (nx := 25) rfl p1.1 rfl rfl rfl (hI.put0 p1.1 rfl rfl) (hX.upI (t_inO hI.wf p1.1 (t_outO hI.wf p1.1 rfl) rfl)) (fun g64 e64 hI hX => ?_)
          refine ev_ic f_X9_refuseToken (nx := 26) (v := 0) rfl (by decide) rfl ?_
          refine ev_retK1 f_X9_refuseToken rfl rfl rfl ?_
          exact ev_ret f_X8_readOne rfl rfl rfl ⟨_, _, _, rfl, hI, hX, ⟨_, rfl, (by decide : (0:Int) ≤ (0:Int32).toInt), (Int.le_trans (by decide : (0:Int32).toInt ≤ (0:Int)) (by decide : (0:Int) ≤ 1))⟩⟩
        · have l65 : 0 ≤ w59.toInt := t_nel h60 l59 rfl rfl
          refine ev_loc f_X8_readOne (nx := 55) rfl rfl rfl rfl ?_
          refine ev_t f_X8_readOne (t1 := 58) (t2 := 77) rfl rfl rfl (by decide) ?_
          refine ev_loc f_X8_readOne (nx := 59) rfl rfl rfl rfl ?_
          refine ev_getI f_X8_readOne (nx := 62) rfl p_a0.1 rfl rfl rfl ?_
          refine ev_bp f_X8_readOne (nx := 64) (v := 24) rfl (by decide) rfl ?_
          refine ev_if f_X8_readOne (t1 := 77) (t2 := 67) rfl rfl rfl (fun h66 => ?_) (fun h66 => ?_)
          · have u67 : (gi59 ar0 2).toInt ≤ 23 := t_ltu h66 (by decide : (24:Int32).toInt ≤ (24:Int)) rfl
            refine ev_loc f_X8_readOne (nx := 78) rfl rfl rfl rfl ?_
            refine ev_bp f_X8_readOne (nx := 80) (v := 6) rfl (by decide) rfl ?_
            refine ev_if f_X8_readOne (t1 := 93) (t2 := 83) rfl rfl rfl (fun h68 => ?_) (fun h68 => ?_)
            · have u69 : ar1.toInt ≤ 5 := t_ltu h68 (by decide : (6:Int32).toInt ≤ (6:Int)) rfl
              refine ev_loc f_X8_readOne (nx := 94) rfl rfl rfl rfl ?_
              refine ev_t f_X8_readOne (t1 := 105) (t2 := 97) rfl rfl rfl (by decide) ?_
              refine ev_loc f_X8_readOne (nx := 106) rfl rfl rfl rfl ?_
              refine ev_loc f_X8_readOne (nx := 107) rfl rfl rfl rfl ?_
              refine ev_cI f_X8_readOne (nx := 110) (r := []) rfl rfl rfl rfl rfl rfl rfl (c_readCase hI (ar0) p_a0 (w59) l65 u59) rfl hX rfl (fun w70 gi70 gl70 gr70 l70 u70 hI hX hC70 => ?_)
              replace p_a0 := p_a0.ext hC70.2
              replace p1 := p1.ext hC70.2
              exact ev_retZ f_X8_readOne rfl l70 u70 ⟨_, _, _, rfl, hI, hX, ⟨_, rfl, l70, u70⟩⟩
            · have l71 : 6 ≤ ar1.toInt := t_lel (t_nlt h68) (by decide : (6:Int) ≤ (6:Int32).toInt)
              refine ev_loc f_X8_readOne (nx := 84) rfl rfl rfl rfl ?_
              refine ev_getR f_X8_readOne (nx := 87) (v := .ref a1) rfl p_a0.1 rfl rfl ((hC59.1 ar0 0 (t_ninO hI.wf p_a0.1 (t_outO hI.wf p_a0.1 rfl) rfl)).2.2.trans e1) rfl rfl ?_
              refine ev_bp f_X8_readOne (nx := 89) (v := 7) rfl (by decide) rfl ?_
              refine ev_inV2 f_X8_readOne (nx := 92) (lo2 := [(0, .ref a1), (1, .int 7)]) rfl rfl rfl rfl f_X9_refuseToken p1.1 rfl rfl rfl rfl rfl ?_
              refine ev_loc f_X9_refuseToken (nx := 1) rfl rfl rfl rfl ?_
              refine ev_loc f_X9_refuseToken (nx := 2) rfl rfl rfl rfl ?_
              refine ev_gvI f_X9_refuseToken (nx := 5) (w := (gi a1 3)) rfl p1.1 rfl rfl ((hC59.1 a1 3 (t_ninO hI.wf p1.1 (t_outO hI.wf p1.1 rfl) rfl)).1.trans rfl) rfl ?_
              refine ev_ic f_X9_refuseToken (nx := 6) (v := 4) rfl (by decide) rfl ?_
              refine ev_f f_X9_refuseToken (t1 := 9) (t2 := 13) rfl rfl rfl (t_neT u37 (by decide : (4:Int) ≤ (4:Int32).toInt) (by decide)) ?_
              refine ev_loc f_X9_refuseToken (nx := 14) rfl rfl rfl rfl ?_
              refine ev_putIT f_X9_refuseToken (nx := 17) rfl p1.1 rfl rfl rfl (hI.put0 p1.1 rfl rfl) (hX.upI (t_inO hI.wf p1.1 (t_outO hI.wf p1.1 rfl) rfl)) (fun g72 e72 hI hX => ?_)
              refine ev_loc f_X9_refuseToken (nx := 18) rfl rfl rfl rfl ?_
              refine ev_loc f_X9_refuseToken (nx := 19) rfl rfl rfl rfl ?_
              refine ev_getI f_X9_refuseToken (nx := 22) rfl p1.1 rfl rfl rfl ?_
              obtain ⟨l73, u73⟩ := hI.b p1.1 (t_bdK rfl : t_bd 8 4 = some (0, 900))
              refine ev_putIT f_X9_refuseToken (nx := 25) rfl p1.1 rfl rfl rfl (hI.put0 p1.1 rfl rfl) (hX.upI (t_inO hI.wf p1.1 (t_outO hI.wf p1.1 rfl) rfl)) (fun g74 e74 hI hX => ?_)
              refine ev_ic f_X9_refuseToken (nx := 26) (v := 0) rfl (by decide) rfl ?_
              refine ev_retK1 f_X9_refuseToken rfl rfl rfl ?_
              exact ev_ret f_X8_readOne rfl rfl rfl ⟨_, _, _, rfl, hI, hX, ⟨_, rfl, (by decide : (0:Int) ≤ (0:Int32).toInt), (Int.le_trans (by decide : (0:Int32).toInt ≤ (0:Int)) (by decide : (0:Int) ≤ 1))⟩⟩
          · have l75 : 24 ≤ (gi59 ar0 2).toInt := t_lel (t_nlt h66) (by decide : (24:Int) ≤ (24:Int32).toInt)
            refine ev_loc f_X8_readOne (nx := 68) rfl rfl rfl rfl ?_
            refine ev_getR f_X8_readOne (nx := 71) (v := .ref a1) rfl p_a0.1 rfl rfl ((hC59.1 ar0 0 (t_ninO hI.wf p_a0.1 (t_outO hI.wf p_a0.1 rfl) rfl)).2.2.trans e1) rfl rfl ?_
            refine ev_bp f_X8_readOne (nx := 73) (v := 6) rfl (by decide) rfl ?_
            refine ev_inV2 f_X8_readOne (nx := 76) (lo2 := [(0, .ref a1), (1, .int 6)]) rfl rfl rfl rfl f_X9_refuseToken p1.1 rfl rfl rfl rfl rfl ?_
            refine ev_loc f_X9_refuseToken (nx := 1) rfl rfl rfl rfl ?_
            refine ev_loc f_X9_refuseToken (nx := 2) rfl rfl rfl rfl ?_
            refine ev_gvI f_X9_refuseToken (nx := 5) (w := (gi a1 3)) rfl p1.1 rfl rfl ((hC59.1 a1 3 (t_ninO hI.wf p1.1 (t_outO hI.wf p1.1 rfl) rfl)).1.trans rfl) rfl ?_
            refine ev_ic f_X9_refuseToken (nx := 6) (v := 4) rfl (by decide) rfl ?_
            refine ev_f f_X9_refuseToken (t1 := 9) (t2 := 13) rfl rfl rfl (t_neT u37 (by decide : (4:Int) ≤ (4:Int32).toInt) (by decide)) ?_
            refine ev_loc f_X9_refuseToken (nx := 14) rfl rfl rfl rfl ?_
            refine ev_putIT f_X9_refuseToken (nx := 17) rfl p1.1 rfl rfl rfl (hI.put0 p1.1 rfl rfl) (hX.upI (t_inO hI.wf p1.1 (t_outO hI.wf p1.1 rfl) rfl)) (fun g76 e76 hI hX => ?_)
            refine ev_loc f_X9_refuseToken (nx := 18) rfl rfl rfl rfl ?_
            refine ev_loc f_X9_refuseToken (nx := 19) rfl rfl rfl rfl ?_
            refine ev_getI f_X9_refuseToken (nx := 22) rfl p1.1 rfl rfl rfl ?_
            obtain ⟨l77, u77⟩ := hI.b p1.1 (t_bdK rfl : t_bd 8 4 = some (0, 900))
            refine ev_putIT f_X9_refuseToken (nx := 25) rfl p1.1 rfl rfl rfl (hI.put0 p1.1 rfl rfl) (hX.upI (t_inO hI.wf p1.1 (t_outO hI.wf p1.1 rfl) rfl)) (fun g78 e78 hI hX => ?_)
            refine ev_ic f_X9_refuseToken (nx := 26) (v := 0) rfl (by decide) rfl ?_
            refine ev_retK1 f_X9_refuseToken rfl rfl rfl ?_
            exact ev_ret f_X8_readOne rfl rfl rfl ⟨_, _, _, rfl, hI, hX, ⟨_, rfl, (by decide : (0:Int) ≤ (0:Int32).toInt), (Int.le_trans (by decide : (0:Int32).toInt ≤ (0:Int)) (by decide : (0:Int) ≤ 1))⟩⟩
    · refine ev_ic f_X9_isSignOf (nx := 21) (v := 0) rfl (by decide) rfl ?_
      refine ev_retK1 f_X9_isSignOf rfl rfl rfl ?_
      refine ev_t f_X8_readOne (t1 := 29) (t2 := 25) rfl rfl rfl (by decide) ?_
      refine ev_ic f_X8_readOne (nx := 30) (v := 0) rfl (by decide) rfl ?_
      refine ev_loc f_X8_readOne (nx := 31) (lo' := [(2, .int 0), (0, .ref ar0), (1, .int ar1)]) rfl rfl rfl rfl ?_
      refine ev_loc f_X8_readOne (nx := 32) rfl rfl rfl rfl ?_
      refine ev_cI f_X8_readOne (nx := 35) (r := []) rfl rfl rfl rfl rfl rfl rfl (c_factTold hI (ar0) p_a0) rfl hX rfl (fun w79 gi79 gl79 gr79 l79 u79 hI hX hC79 => ?_)
      replace p_a0 := p_a0.ext hC79.2
      replace p1 := p1.ext hC79.2
      refine ev_loc f_X8_readOne (nx := 36) (lo' := [(3, .int w79), (2, .int 0), (0, .ref ar0), (1, .int ar1)]) rfl rfl rfl rfl ?_
      refine ev_loc f_X8_readOne (nx := 37) rfl rfl rfl rfl ?_
      refine ev_t f_X8_readOne (t1 := 40) (t2 := 54) rfl rfl rfl (by decide) ?_
      refine ev_loc f_X8_readOne (nx := 41) rfl rfl rfl rfl ?_
      refine ev_ic f_X8_readOne (nx := 42) (v := -1) rfl (by decide) rfl ?_
      refine ev_if f_X8_readOne (t1 := 45) (t2 := 54) rfl rfl rfl (fun h80 => ?_) (fun h80 => ?_)
      · have u81 : w79.toInt ≤ (-1) := t_equ h80 (by decide : ((-1):Int32).toInt ≤ ((-1):Int))
        refine ev_loc f_X8_readOne (nx := 46) rfl rfl rfl rfl ?_
        refine ev_getR f_X8_readOne (nx := 49) (v := .ref a1) rfl p_a0.1 rfl rfl ((hC79.1 ar0 0 (t_ninO hI.wf p_a0.1 (t_outO hI.wf p_a0.1 rfl) rfl)).2.2.trans e1) rfl rfl ?_
        refine ev_ic f_X8_readOne (nx := 50) (v := 2) rfl (by decide) rfl ?_
        refine ev_inV2 f_X8_readOne (nx := 53) (lo2 := [(0, .ref a1), (1, .int 2)]) rfl rfl rfl rfl f_X9_refuseToken p1.1 rfl rfl rfl rfl rfl ?_
        refine ev_loc f_X9_refuseToken (nx := 1) rfl rfl rfl rfl ?_
        refine ev_loc f_X9_refuseToken (nx := 2) rfl rfl rfl rfl ?_
        refine ev_gvI f_X9_refuseToken (nx := 5) (w := (gi a1 3)) rfl p1.1 rfl rfl ((hC79.1 a1 3 (t_ninO hI.wf p1.1 (t_outO hI.wf p1.1 rfl) rfl)).1.trans rfl) rfl ?_
        refine ev_ic f_X9_refuseToken (nx := 6) (v := 4) rfl (by decide) rfl ?_
        refine ev_if f_X9_refuseToken (t1 := 9) (t2 := 13) rfl rfl rfl (fun h82 => ?_) (fun h82 => ?_)
        · have u83 : (gi a1 3).toInt ≤ 4 := t_equ h82 (by decide : (4:Int32).toInt ≤ (4:Int))
          have l84 : 4 ≤ (gi a1 3).toInt := t_eql h82 (by decide : (4:Int) ≤ (4:Int32).toInt)
          refine ev_ic f_X9_refuseToken (nx := 10) (v := 1) rfl (by decide) rfl ?_
          refine ev_jmp f_X9_refuseToken (nx := 14) rfl rfl rfl ?_
          refine ev_putIT f_X9_refuseToken (nx := 17) rfl p1.1 rfl rfl rfl (hI.put0 p1.1 rfl rfl) (hX.upI (t_inO hI.wf p1.1 (t_outO hI.wf p1.1 rfl) rfl)) (fun g85 e85 hI hX => ?_)
          refine ev_loc f_X9_refuseToken (nx := 18) rfl rfl rfl rfl ?_
          refine ev_loc f_X9_refuseToken (nx := 19) rfl rfl rfl rfl ?_
          refine ev_getI f_X9_refuseToken (nx := 22) rfl p1.1 rfl rfl rfl ?_
          obtain ⟨l86, u86⟩ := hI.b p1.1 (t_bdK rfl : t_bd 8 4 = some (0, 900))
          refine ev_putIT f_X9_refuseToken (nx := 25) rfl p1.1 rfl rfl rfl (hI.put0 p1.1 rfl rfl) (hX.upI (t_inO hI.wf p1.1 (t_outO hI.wf p1.1 rfl) rfl)) (fun g87 e87 hI hX => ?_)
          refine ev_ic f_X9_refuseToken (nx := 26) (v := 0) rfl (by decide) rfl ?_
          refine ev_retK1 f_X9_refuseToken rfl rfl rfl ?_
          exact ev_ret f_X8_readOne rfl rfl rfl ⟨_, _, _, rfl, hI, hX, ⟨_, rfl, (by decide : (0:Int) ≤ (0:Int32).toInt), (Int.le_trans (by decide : (0:Int32).toInt ≤ (0:Int)) (by decide : (0:Int) ≤ 1))⟩⟩
        · refine ev_loc f_X9_refuseToken (nx := 14) rfl rfl rfl rfl ?_
          refine ev_putIT f_X9_refuseToken (nx := 17) rfl p1.1 rfl rfl rfl (hI.put0 p1.1 rfl rfl) (hX.upI (t_inO hI.wf p1.1 (t_outO hI.wf p1.1 rfl) rfl)) (fun g88 e88 hI hX => ?_)
          refine ev_loc f_X9_refuseToken (nx := 18) rfl rfl rfl rfl ?_
          refine ev_loc f_X9_refuseToken (nx := 19) rfl rfl rfl rfl ?_
          refine ev_getI f_X9_refuseToken (nx := 22) rfl p1.1 rfl rfl rfl ?_
          obtain ⟨l89, u89⟩ := hI.b p1.1 (t_bdK rfl : t_bd 8 4 = some (0, 900))
          refine ev_putIT f_X9_refuseToken (nx := 25) rfl p1.1 rfl rfl rfl (hI.put0 p1.1 rfl rfl) (hX.upI (t_inO hI.wf p1.1 (t_outO hI.wf p1.1 rfl) rfl)) (fun g90 e90 hI hX => ?_)
          refine ev_ic f_X9_refuseToken (nx := 26) (v := 0) rfl (by decide) rfl ?_
          refine ev_retK1 f_X9_refuseToken rfl rfl rfl ?_
          exact ev_ret f_X8_readOne rfl rfl rfl ⟨_, _, _, rfl, hI, hX, ⟨_, rfl, (by decide : (0:Int) ≤ (0:Int32).toInt), (Int.le_trans (by decide : (0:Int32).toInt ≤ (0:Int)) (by decide : (0:Int) ≤ 1))⟩⟩
      · have l91 : 0 ≤ w79.toInt := t_nel h80 l79 rfl rfl
        refine ev_loc f_X8_readOne (nx := 55) rfl rfl rfl rfl ?_
        refine ev_t f_X8_readOne (t1 := 58) (t2 := 77) rfl rfl rfl (by decide) ?_
        refine ev_loc f_X8_readOne (nx := 59) rfl rfl rfl rfl ?_
        refine ev_getI f_X8_readOne (nx := 62) rfl p_a0.1 rfl rfl rfl ?_
        refine ev_bp f_X8_readOne (nx := 64) (v := 24) rfl (by decide) rfl ?_
        refine ev_if f_X8_readOne (t1 := 77) (t2 := 67) rfl rfl rfl (fun h92 => ?_) (fun h92 => ?_)
        · have u93 : (gi79 ar0 2).toInt ≤ 23 := t_ltu h92 (by decide : (24:Int32).toInt ≤ (24:Int)) rfl
          refine ev_loc f_X8_readOne (nx := 78) rfl rfl rfl rfl ?_
          refine ev_bp f_X8_readOne (nx := 80) (v := 6) rfl (by decide) rfl ?_
          refine ev_if f_X8_readOne (t1 := 93) (t2 := 83) rfl rfl rfl (fun h94 => ?_) (fun h94 => ?_)
          · have u95 : ar1.toInt ≤ 5 := t_ltu h94 (by decide : (6:Int32).toInt ≤ (6:Int)) rfl
            refine ev_loc f_X8_readOne (nx := 94) rfl rfl rfl rfl ?_
            refine ev_t f_X8_readOne (t1 := 105) (t2 := 97) rfl rfl rfl (by decide) ?_
            refine ev_loc f_X8_readOne (nx := 106) rfl rfl rfl rfl ?_
            refine ev_loc f_X8_readOne (nx := 107) rfl rfl rfl rfl ?_
            refine ev_cI f_X8_readOne (nx := 110) (r := []) rfl rfl rfl rfl rfl rfl rfl (c_readCase hI (ar0) p_a0 (w79) l91 u79) rfl hX rfl (fun w96 gi96 gl96 gr96 l96 u96 hI hX hC96 => ?_)
            replace p_a0 := p_a0.ext hC96.2
            replace p1 := p1.ext hC96.2
            exact ev_retZ f_X8_readOne rfl l96 u96 ⟨_, _, _, rfl, hI, hX, ⟨_, rfl, l96, u96⟩⟩
          · have l97 : 6 ≤ ar1.toInt := t_lel (t_nlt h94) (by decide : (6:Int) ≤ (6:Int32).toInt)
            refine ev_loc f_X8_readOne (nx := 84) rfl rfl rfl rfl ?_
            refine ev_getR f_X8_readOne (nx := 87) (v := .ref a1) rfl p_a0.1 rfl rfl ((hC79.1 ar0 0 (t_ninO hI.wf p_a0.1 (t_outO hI.wf p_a0.1 rfl) rfl)).2.2.trans e1) rfl rfl ?_
            refine ev_bp f_X8_readOne (nx := 89) (v := 7) rfl (by decide) rfl ?_
            refine ev_inV2 f_X8_readOne (nx := 92) (lo2 := [(0, .ref a1), (1, .int 7)]) rfl rfl rfl rfl f_X9_refuseToken p1.1 rfl rfl rfl rfl rfl ?_
            refine ev_loc f_X9_refuseToken (nx := 1) rfl rfl rfl rfl ?_
            refine ev_loc f_X9_refuseToken (nx := 2) rfl rfl rfl rfl ?_
            refine ev_gvI f_X9_refuseToken (nx := 5) (w := (gi a1 3)) rfl p1.1 rfl rfl ((hC79.1 a1 3 (t_ninO hI.wf p1.1 (t_outO hI.wf p1.1 rfl) rfl)).1.trans rfl) rfl ?_
            refine ev_ic f_X9_refuseToken (nx := 6) (v := 4) rfl (by decide) rfl ?_
            refine ev_if f_X9_refuseToken (t1 := 9) (t2 := 13) rfl rfl rfl (fun h98 => ?_) (fun h98 => ?_)
            · have u99 : (gi a1 3).toInt ≤ 4 := t_equ h98 (by decide : (4:Int32).toInt ≤ (4:Int))
              have l100 : 4 ≤ (gi a1 3).toInt := t_eql h98 (by decide : (4:Int) ≤ (4:Int32).toInt)
              refine ev_ic f_X9_refuseToken (nx := 10) (v := 1) rfl (by decide) rfl ?_
              refine ev_jmp f_X9_refuseToken (nx := 14) rfl rfl rfl ?_
              refine ev_putIT f_X9_refuseToken (nx := 17) rfl p1.1 rfl rfl rfl (hI.put0 p1.1 rfl rfl) (hX.upI (t_inO hI.wf p1.1 (t_outO hI.wf p1.1 rfl) rfl)) (fun g101 e101 hI hX => ?_)
              refine ev_loc f_X9_refuseToken (nx := 18) rfl rfl rfl rfl ?_
              refine ev_loc f_X9_refuseToken (nx := 19) rfl rfl rfl rfl ?_
              refine ev_getI f_X9_refuseToken (nx := 22) rfl p1.1 rfl rfl rfl ?_
              obtain ⟨l102, u102⟩ := hI.b p1.1 (t_bdK rfl : t_bd 8 4 = some (0, 900))
              refine ev_putIT f_X9_refuseToken (nx := 25) rfl p1.1 rfl rfl rfl (hI.put0 p1.1 rfl rfl) (hX.upI (t_inO hI.wf p1.1 (t_outO hI.wf p1.1 rfl) rfl)) (fun g103 e103 hI hX => ?_)
              refine ev_ic f_X9_refuseToken (nx := 26) (v := 0) rfl (by decide) rfl ?_
              refine ev_retK1 f_X9_refuseToken rfl rfl rfl ?_
              exact ev_ret f_X8_readOne rfl rfl rfl ⟨_, _, _, rfl, hI, hX, ⟨_, rfl, (by decide : (0:Int) ≤ (0:Int32).toInt), (Int.le_trans (by decide : (0:Int32).toInt ≤ (0:Int)) (by decide : (0:Int) ≤ 1))⟩⟩
            · refine ev_loc f_X9_refuseToken (nx := 14) rfl rfl rfl rfl ?_
              refine ev_putIT f_X9_refuseToken (nx := 17) rfl p1.1 rfl rfl rfl (hI.put0 p1.1 rfl rfl) (hX.upI (t_inO hI.wf p1.1 (t_outO hI.wf p1.1 rfl) rfl)) (fun g104 e104 hI hX => ?_)
              refine ev_loc f_X9_refuseToken (nx := 18) rfl rfl rfl rfl ?_
              refine ev_loc f_X9_refuseToken (nx := 19) rfl rfl rfl rfl ?_
              refine ev_getI f_X9_refuseToken (nx := 22) rfl p1.1 rfl rfl rfl ?_
              obtain ⟨l105, u105⟩ := hI.b p1.1 (t_bdK rfl : t_bd 8 4 = some (0, 900))
              refine ev_putIT f_X9_refuseToken (nx := 25) rfl p1.1 rfl rfl rfl (hI.put0 p1.1 rfl rfl) (hX.upI (t_inO hI.wf p1.1 (t_outO hI.wf p1.1 rfl) rfl)) (fun g106 e106 hI hX => ?_)
              refine ev_ic f_X9_refuseToken (nx := 26) (v := 0) rfl (by decide) rfl ?_
              refine ev_retK1 f_X9_refuseToken rfl rfl rfl ?_
              exact ev_ret f_X8_readOne rfl rfl rfl ⟨_, _, _, rfl, hI, hX, ⟨_, rfl, (by decide : (0:Int) ≤ (0:Int32).toInt), (Int.le_trans (by decide : (0:Int32).toInt ≤ (0:Int)) (by decide : (0:Int) ≤ 1))⟩⟩
        · have l107 : 24 ≤ (gi79 ar0 2).toInt := t_lel (t_nlt h92) (by decide : (24:Int) ≤ (24:Int32).toInt)
          refine ev_loc f_X8_readOne (nx := 68) rfl rfl rfl rfl ?_
          refine ev_getR f_X8_readOne (nx := 71) (v := .ref a1) rfl p_a0.1 rfl rfl ((hC79.1 ar0 0 (t_ninO hI.wf p_a0.1 (t_outO hI.wf p_a0.1 rfl) rfl)).2.2.trans e1) rfl rfl ?_
          refine ev_bp f_X8_readOne (nx := 73) (v := 6) rfl (by decide) rfl ?_
          refine ev_inV2 f_X8_readOne (nx := 76) (lo2 := [(0, .ref a1), (1, .int 6)]) rfl rfl rfl rfl f_X9_refuseToken p1.1 rfl rfl rfl rfl rfl ?_
          refine ev_loc f_X9_refuseToken (nx := 1) rfl rfl rfl rfl ?_
          refine ev_loc f_X9_refuseToken (nx := 2) rfl rfl rfl rfl ?_
          refine ev_gvI f_X9_refuseToken (nx := 5) (w := (gi a1 3)) rfl p1.1 rfl rfl ((hC79.1 a1 3 (t_ninO hI.wf p1.1 (t_outO hI.wf p1.1 rfl) rfl)).1.trans rfl) rfl ?_
          refine ev_ic f_X9_refuseToken (nx := 6) (v := 4) rfl (by decide) rfl ?_
          refine ev_if f_X9_refuseToken (t1 := 9) (t2 := 13) rfl rfl rfl (fun h108 => ?_) (fun h108 => ?_)
          · have u109 : (gi a1 3).toInt ≤ 4 := t_equ h108 (by decide : (4:Int32).toInt ≤ (4:Int))
            have l110 : 4 ≤ (gi a1 3).toInt := t_eql h108 (by decide : (4:Int) ≤ (4:Int32).toInt)
            refine ev_ic f_X9_refuseToken (nx := 10) (v := 1) rfl (by decide) rfl ?_
            refine ev_jmp f_X9_refuseToken (nx := 14) rfl rfl rfl ?_
            refine ev_putIT f_X9_refuseToken (nx := 17) rfl p1.1 rfl rfl rfl (hI.put0 p1.1 rfl rfl) (hX.upI (t_inO hI.wf p1.1 (t_outO hI.wf p1.1 rfl) rfl)) (fun g111 e111 hI hX => ?_)
            refine ev_loc f_X9_refuseToken (nx := 18) rfl rfl rfl rfl ?_
            refine ev_loc f_X9_refuseToken (nx := 19) rfl rfl rfl rfl ?_
            refine ev_getI f_X9_refuseToken (nx := 22) rfl p1.1 rfl rfl rfl ?_
            obtain ⟨l112, u112⟩ := hI.b p1.1 (t_bdK rfl : t_bd 8 4 = some (0, 900))
            refine ev_putIT f_X9_refuseToken (nx := 25) rfl p1.1 rfl rfl rfl (hI.put0 p1.1 rfl rfl) (hX.upI (t_inO hI.wf p1.1 (t_outO hI.wf p1.1 rfl) rfl)) (fun g113 e113 hI hX => ?_)
            refine ev_ic f_X9_refuseToken (nx := 26) (v := 0) rfl (by decide) rfl ?_
            refine ev_retK1 f_X9_refuseToken rfl rfl rfl ?_
            exact ev_ret f_X8_readOne rfl rfl rfl ⟨_, _, _, rfl, hI, hX, ⟨_, rfl, (by decide : (0:Int) ≤ (0:Int32).toInt), (Int.le_trans (by decide : (0:Int32).toInt ≤ (0:Int)) (by decide : (0:Int) ≤ 1))⟩⟩
          · refine ev_loc f_X9_refuseToken (nx := 14) rfl rfl rfl rfl ?_
            refine ev_putIT f_X9_refuseToken (nx := 17) rfl p1.1 rfl rfl rfl (hI.put0 p1.1 rfl rfl) (hX.upI (t_inO hI.wf p1.1 (t_outO hI.wf p1.1 rfl) rfl)) (fun g114 e114 hI hX => ?_)
            refine ev_loc f_X9_refuseToken (nx := 18) rfl rfl rfl rfl ?_
            refine ev_loc f_X9_refuseToken (nx := 19) rfl rfl rfl rfl ?_
            refine ev_getI f_X9_refuseToken (nx := 22) rfl p1.1 rfl rfl rfl ?_
            obtain ⟨l115, u115⟩ := hI.b p1.1 (t_bdK rfl : t_bd 8 4 = some (0, 900))
            refine ev_putIT f_X9_refuseToken (nx := 25) rfl p1.1 rfl rfl rfl (hI.put0 p1.1 rfl rfl) (hX.upI (t_inO hI.wf p1.1 (t_outO hI.wf p1.1 rfl) rfl)) (fun g116 e116 hI hX => ?_)
            refine ev_ic f_X9_refuseToken (nx := 26) (v := 0) rfl (by decide) rfl ?_
            refine ev_retK1 f_X9_refuseToken rfl rfl rfl ?_
            exact ev_ret f_X8_readOne rfl rfl rfl ⟨_, _, _, rfl, hI, hX, ⟨_, rfl, (by decide : (0:Int) ≤ (0:Int32).toInt), (Int.le_trans (by decide : (0:Int32).toInt ≤ (0:Int)) (by decide : (0:Int) ≤ 1))⟩⟩
theorem c_readOne {X : x_Ext} {d : Nat} {sh : List (Nat ⊕ (Nat × Nat))} {gi : Nat → Nat → Int32} {gl : Nat → Nat → Int64} {gr : Nat → Nat → Value} (hI : t_I sh gi gr) (ar0 : Nat) (p_a0 : t_RL sh gr ar0) (ar1 : Int32) (l_a1 : 0 ≤ ar1.toInt) (u_a1 : ar1.toInt ≤ 6) : x_Me X (d + 61) n_X8_readOne [.ref ar0, .int ar1] (sh, gi, gl, gr) (t_P wl_readOne sh gi gl gr (t_Ri 0 1)) := r_readOne 7 hI ar0 p_a0 ar1 l_a1 u_a1 (by omega)
noncomputable def wl_readBoth2 : List (Nat × Nat) := [(116, 3), (117, 2), (118, 2), (118, 3), (118, 4), (118, 5), (118, 6), (118, 7), (118, 8), (118, 9), (118, 10), (118, 11), (130, 9999)]
theorem c_readBoth2 {X : x_Ext} {d : Nat} {sh : List (Nat ⊕ (Nat × Nat))} {gi : Nat → Nat → Int32} {gl : Nat → Nat → Int64} {gr : Nat → Nat → Value} (hI : t_I sh gi gr) (ar0 : Nat) (p_a0 : t_RL sh gr ar0) (ar1 : Int32) (l_a1 : 0 ≤ ar1.toInt) (u_a1 : ar1.toInt ≤ 6) : x_Me X (d + 62) n_X8_readBoth [.ref ar0, .int ar1] (sh, gi, gl, gr) (t_P wl_readBoth2 sh gi gl gr (t_Ri 0 1)) := by
  have hX : t_X wl_readBoth2 sh gi gl gr gi gl gr := t_X.rf
  refine me_i f_X8_readBoth p_a0.1 rfl rfl rfl ?_
  refine ev_loc f_X8_readBoth (nx := 1) rfl rfl rfl rfl ?_
  refine ev_loc f_X8_readBoth (nx := 2) rfl rfl rfl rfl ?_
  refine ev_cI f_X8_readBoth (nx := 5) (r := []) rfl rfl rfl rfl rfl rfl rfl (c_readOne hI (ar0) p_a0 (ar1) l_a1 u_a1) rfl hX rfl (fun w1 gi1 gl1 gr1 l1 u1 hI hX hC1 => ?_)
  replace p_a0 := p_a0.ext hC1.2
  refine ev_if f_X8_readBoth (t1 := 8) (t2 := 10) rfl rfl rfl (fun h2 => ?_) (fun h2 => ?_)
  · have u3 : w1.toInt ≤ 0 := t_equ h2 (by decide : (0:Int32).toInt ≤ (0:Int))
    refine ev_ic f_X8_readBoth (nx := 9) (v := 0) rfl (by decide) rfl ?_
    exact ev_ret f_X8_readBoth rfl rfl rfl ⟨_, _, _, rfl, hI, hX, ⟨_, rfl, (by decide : (0:Int) ≤ (0:Int32).toInt), (Int.le_trans (by decide : (0:Int32).toInt ≤ (0:Int)) (by decide : (0:Int) ≤ 1))⟩⟩
  · have l4 : 1 ≤ w1.toInt := t_nel h2 l1 rfl rfl
    refine ev_ic f_X8_readBoth (nx := 11) (v := 0) rfl (by decide) rfl ?_
    refine ev_loc f_X8_readBoth (nx := 12) (lo' := [(2, .int 0), (0, .ref ar0), (1, .int ar1)]) rfl rfl rfl rfl ?_
    have L5 : ∀ (m5 : Nat) (gi5 : Nat → Nat → Int32) (gl5 : Nat → Nat → Int64) (gr5 : Nat → Nat → Value) (y5_2 : Int32), t_I sh gi5 gr5 → t_X wl_readBoth2 sh gi gl gr gi5 gl5 gr5 → t_RL sh gr5 ar0 → 0 ≤ y5_2.toInt → y5_2.toInt ≤ 300 → (300 - y5_2.toInt).toNat = m5 → x_Ev X (d + 62) n_X8_readBoth 12 [(2, .int y5_2), (0, .ref ar0), (1, .int ar1)] [] (sh, gi5, gl5, gr5) (t_P wl_readBoth2 sh gi gl gr (t_Ri 0 1)) := by
      intro m5
      induction m5 using Nat.strongRecOn with
      | _ m5 ih5 =>
      intro gi5 gl5 gr5 y5_2 hI hX p_a0 l5_2 u5_2 hm5
      refine ev_loc f_X8_readBoth (nx := 13) rfl rfl rfl rfl ?_
      refine ev_sp f_X8_readBoth (nx := 16) (v := 300) rfl (by decide) rfl ?_
      refine ev_if f_X8_readBoth (t1 := 65) (t2 := 19) rfl rfl rfl (fun h6 => ?_) (fun h6 => ?_)
      · have l7 : 300 ≤ y5_2.toInt := t_lel h6 (by decide : (300:Int) ≤ (300:Int32).toInt)
        refine ev_ic f_X8_readBoth (nx := 66) (v := 1) rfl (by decide) rfl ?_
        exact ev_ret f_X8_readBoth rfl rfl rfl ⟨_, _, _, rfl, hI, hX, ⟨_, rfl, (Int.le_trans (by decide : (0:Int) ≤ 1) (by decide : (1:Int) ≤ (1:Int32).toInt)), (by decide : (1:Int32).toInt ≤ (1:Int))⟩⟩
      · have u8 : y5_2.toInt ≤ 299 := t_ltu (t_nle h6) (by decide : (300:Int32).toInt ≤ (300:Int)) rfl
        refine ev_loc f_X8_readBoth (nx := 20) rfl rfl rfl rfl ?_
        obtain ⟨a9, e9, p9⟩ := p_a0.2.1
        refine ev_getR f_X8_readBoth (nx := 23) rfl p_a0.1 rfl rfl e9 rfl rfl ?_
        have k10 := hI.2.2.2.1.2.2.2.2.2 a9 p9.1
        obtain ⟨v10, e10⟩ : ∃ v, gr5 a9 7 = v := ⟨_, rfl⟩
        rw [e10] at k10
        refine ev_getR f_X8_readBoth (nx := 26) rfl p9.1 rfl rfl e10 (t_KwR k10) rfl ?_
        refine ev_heap f_X8_readBoth (nx := 29) rfl rfl rfl rfl ?_
        refine ev_ack f_X8_readBoth (t1 := 32) (t2 := 65) rfl rfl rfl (t_knw k10) rfl (fun h11 => ?_) (fun h11 => ?_)
        · refine ev_loc f_X8_readBoth (nx := 33) rfl rfl rfl rfl ?_
          refine ev_getR f_X8_readBoth (nx := 36) (v := .ref a9) rfl p_a0.1 rfl rfl e9 rfl rfl ?_
          refine ev_c0 f_X8_readBoth (nx := 39) (r := []) rfl rfl rfl rfl rfl rfl rfl (c_step hI (a9) p9) rfl hX rfl (fun gi12 gl12 gr12 hI hX hC12 => ?_)
          replace p_a0 := p_a0.ext hC12.2
          replace p9 := p9.ext hC12.2
          refine ev_loc f_X8_readBoth (nx := 40) rfl rfl rfl rfl ?_
          refine ev_loc f_X8_readBoth (nx := 41) rfl rfl rfl rfl ?_
          refine ev_cI f_X8_readBoth (nx := 44) (r := []) rfl rfl rfl rfl rfl rfl rfl (c_readOne hI (ar0) p_a0 (ar1) l_a1 u_a1) rfl hX rfl (fun w13 gi13 gl13 gr13 l13 u13 hI hX hC13 => ?_)
          replace p_a0 := p_a0.ext hC13.2
          replace p9 := p9.ext hC13.2
          refine ev_if f_X8_readBoth (t1 := 47) (t2 := 49) rfl rfl rfl (fun h14 => ?_) (fun h14 => ?_)
          · have u15 : w13.toInt ≤ 0 := t_equ h14 (by decide : (0:Int32).toInt ≤ (0:Int))
            refine ev_ic f_X8_readBoth (nx := 48) (v := 0) rfl (by decide) rfl ?_
            exact ev_ret f_X8_readBoth rfl rfl rfl ⟨_, _, _, rfl, hI, hX, ⟨_, rfl, (by decide : (0:Int) ≤ (0:Int32).toInt), (Int.le_trans (by decide : (0:Int32).toInt ≤ (0:Int)) (by decide : (0:Int) ≤ 1))⟩⟩
          · have l16 : 1 ≤ w13.toInt := t_nel h14 l13 rfl rfl
            refine ev_loc f_X8_readBoth (nx := 50) rfl rfl rfl rfl ?_
            obtain ⟨a17, e17, p17⟩ := p_a0.2.2
            refine ev_getR f_X8_readBoth (nx := 53) rfl p_a0.1 rfl rfl e17 rfl rfl ?_
            refine ev_ic f_X8_readBoth (nx := 54) (v := 4) rfl (by decide) rfl ?_
            refine ev_ic f_X8_readBoth (nx := 55) (v := 0) rfl (by decide) rfl ?_
            refine ev_ic f_X8_readBoth (nx := 56) (v := 0) rfl (by decide) rfl ?_
            refine ev_inV4 f_X8_readBoth (nx := 59) (lo2 := [(0, .ref a17), (1, .int 4), (2, .int 0), (3, .int 0)]) rfl rfl rfl rfl f_X7_addStep p17.1 rfl rfl rfl rfl rfl ?_
            refine ev_loc f_X7_addStep (nx := 1) rfl rfl rfl rfl ?_
            obtain ⟨hk18, d18, r1_18, r2_18, s1_18, s2_18, n18, hn18, r4_18, r5_18, r6_18, s4_18, s5_18, s6_18⟩ := id p17
            have q19 := hI.2.2.2.2.1 a17 n18 p17 s4_18
            refine ev_getI f_X7_addStep (nx := 4) rfl p17.1 rfl rfl rfl ?_
            obtain ⟨l20, u20⟩ := hI.b p17.1 (t_bdK rfl : t_bd 6 3 = some (0, 300))
            refine ev_loc f_X7_addStep (nx := 5) rfl rfl rfl rfl ?_
            refine ev_getR f_X7_addStep (nx := 8) (v := .ref (a17 + 3)) rfl p17.1 rfl rfl r4_18 rfl rfl ?_
            obtain ⟨l21, u21⟩ := t_lenb hn18
            refine ev_alen f_X7_addStep (nx := 9) rfl s4_18 rfl rfl ?_
            refine ev_if f_X7_addStep (t1 := 52) (t2 := 12) rfl rfl rfl (fun h22 => ?_) (fun h22 => ?_)
            · refine ev_retK0 f_X7_addStep rfl rfl rfl ?_
              refine ev_incR f_X8_readBoth (nx := 62) (c := 1) (l := 1) (u := 300) rfl rfl (by decide) (by decide) l5_2 u8 rfl rfl (by decide) (by decide) rfl (fun z23 e23 l23 u23 => ?_)
              refine ev_jmp f_X8_readBoth (nx := 12) rfl rfl rfl ?_
              refine ev_sub (lo := [(2, .int z23), (0, .ref ar0), (1, .int ar1)]) rfl (t_sc rfl (t_sc rfl (t_sc rfl t_sn))) ?_
              exact ih5 _ (by omega) gi13 gl13 gr13 (z23) hI hX p_a0 (Int.le_trans (by decide : (0:Int) ≤ 1) l23) u23 rfl
            · have u24 : (gi13 a17 3).toInt ≤ 299 := t_ltu (t_nle h22) u21 rfl
              have l25 : 1 ≤ (Int32.ofNat n18).toInt := t_ltl (t_nle h22) l20 rfl
              refine ev_loc f_X7_addStep (nx := 13) rfl rfl rfl rfl ?_
              refine ev_getR f_X7_addStep (nx := 16) (v := .ref (a17 + 3)) rfl p17.1 rfl rfl r4_18 rfl rfl ?_
              refine ev_loc f_X7_addStep (nx := 17) rfl rfl rfl rfl ?_
              refine ev_gvI f_X7_addStep (nx := 20) (w := (gi13 a17 3)) rfl p17.1 rfl rfl rfl rfl ?_
              refine ev_loc f_X7_addStep (nx := 21) rfl rfl rfl rfl ?_
              refine ev_iastS f_X7_addStep (nx := 22) rfl s4_18 (t_ixs l20 (t_lenlt (t_nle h22) hn18)) rfl (hI.astD s4_18 (by omega) (fun k hk e => absurd e (t_Ru.ne p17 hk (by decide)))) (hX.upI (t_inOD s4_18 (by omega) rfl)) (fun g26 e26 hI hX => ?_)
              refine ev_loc f_X7_addStep (nx := 23) rfl rfl rfl rfl ?_
              refine ev_getR f_X7_addStep (nx := 26) (v := .ref (a17 + 4)) rfl p17.1 rfl rfl r5_18 rfl rfl ?_
              refine ev_loc f_X7_addStep (nx := 27) rfl rfl rfl rfl ?_
              refine ev_gvI f_X7_addStep (nx := 30) (w := (gi13 a17 3)) rfl p17.1 rfl rfl ((by rw [e26]; exact x_up2_off (Or.inl (t_noobj s4_18 p17.1)) : g26 a17 3 = gi13 a17 3).trans rfl) rfl ?_
              refine ev_loc f_X7_addStep (nx := 31) rfl rfl rfl rfl ?_
              refine ev_iastS f_X7_addStep (nx := 32) rfl s5_18 (t_ixs l20 (t_lenlt (t_nle h22) hn18)) rfl (hI.astD s5_18 (by omega) (fun k hk e => absurd e (t_Ru.ne p17 hk (by decide)))) (hX.upI (t_inOD s5_18 (by omega) rfl)) (fun g27 e27 hI hX => ?_)
              refine ev_loc f_X7_addStep (nx := 33) rfl rfl rfl rfl ?_
              refine ev_getR f_X7_addStep (nx := 36) (v := .ref (a17 + 5)) rfl p17.1 rfl rfl r6_18 rfl rfl ?_
              refine ev_loc f_X7_addStep (nx := 37) rfl rfl rfl rfl ?_
              refine ev_gvI f_X7_addStep (nx := 40) (w := (gi13 a17 3)) rfl p17.1 rfl rfl ((by rw [e27]; exact x_up2_off (Or.inl (t_noobj s5_18 p17.1)) : g27 a17 3 = g26 a17 3).trans ((by rw [e26]; exact x_up2_off (Or.inl (t_noobj s4_18 p17.1)) : g26 a17 3 = gi13 a17 3).trans rfl)) rfl ?_
              refine ev_loc f_X7_addStep (nx := 41) rfl rfl rfl rfl ?_
              refine ev_iastS f_X7_addStep (nx := 42) rfl s6_18 (t_ixs l20 (t_lenlt (t_nle h22) hn18)) rfl (hI.astD s6_18 (by omega) (fun k hk e => absurd e (t_Ru.ne p17 hk (by decide)))) (hX.upI (t_inOD s6_18 (by omega) rfl)) (fun g28 e28 hI hX => ?_)
              refine ev_loc f_X7_addStep (nx := 43) rfl rfl rfl rfl ?_
              refine ev_alu f_X7_addStep (nx := 44) rfl rfl rfl rfl ?_
              refine ev_gvI f_X7_addStep (nx := 47) (w := (gi13 a17 3)) rfl p17.1 rfl rfl ((by rw [e28]; exact x_up2_off (Or.inl (t_noobj s6_18 p17.1)) : g28 a17 3 = g27 a17 3).trans ((by rw [e27]; exact x_up2_off (Or.inl (t_noobj s5_18 p17.1)) : g27 a17 3 = g26 a17 3).trans ((by rw [e26]; exact x_up2_off (Or.inl (t_noobj s4_18 p17.1)) : g26 a17 3 = gi13 a17 3).trans rfl))) rfl ?_
              refine ev_ic f_X7_addStep (nx := 48) (v := 1) rfl (by decide) rfl ?_
              refine ev_addC f_X7_addStep (nx := 49) (c := 1) (l := 1) (u := 300) rfl (by decide) l20 u24 rfl rfl (by decide) (by decide) rfl (fun z29 e29 l29 u29 => ?_)
              have q30 := t_lenlt (t_nle h22) hn18
              refine ev_putIT f_X7_addStep (nx := 52) rfl p17.1 rfl rfl rfl (hI.putG p17.1 (fun lo hi e => by have e : some ((0 : Int), (300 : Int)) = some (lo, hi) := e; have := hn18; cases e; exact ⟨by omega, by omega⟩) (fun _ _ n2 hn2 => by rw [s4_18] at hn2; cases hn2; omega)) (hX.upI (t_inO hI.wf p17.1 (t_outO hI.wf p17.1 rfl) rfl)) (fun g30 e30 hI hX => ?_)
              refine ev_retK0 f_X7_addStep rfl rfl rfl ?_
              refine ev_incR f_X8_readBoth (nx := 62) (c := 1) (l := 1) (u := 300) rfl rfl (by decide) (by decide) l5_2 u8 rfl rfl (by decide) (by decide) rfl (fun z31 e31 l31 u31 => ?_)
              refine ev_jmp f_X8_readBoth (nx := 12) rfl rfl rfl ?_
              refine ev_sub (lo := [(2, .int z31), (0, .ref ar0), (1, .int ar1)]) rfl (t_sc rfl (t_sc rfl (t_sc rfl t_sn))) ?_
              exact ih5 _ (by omega) g30 gl13 gr13 (z31) hI hX p_a0 (Int.le_trans (by decide : (0:Int) ≤ 1) l31) u31 rfl
        · refine ev_ic f_X8_readBoth (nx := 66) (v := 1) rfl (by decide) rfl ?_
          exact ev_ret f_X8_readBoth rfl rfl rfl ⟨_, _, _, rfl, hI, hX, ⟨_, rfl, (Int.le_trans (by decide : (0:Int) ≤ 1) (by decide : (1:Int) ≤ (1:Int32).toInt)), (by decide : (1:Int32).toInt ≤ (1:Int))⟩⟩
    refine ev_sub (lo := [(2, .int 0), (0, .ref ar0), (1, .int ar1)]) rfl (t_sc rfl (t_sc rfl (t_sc rfl t_sn))) ?_
    exact L5 _ gi1 gl1 gr1 (0) hI hX p_a0 (by decide : (0:Int) ≤ (0:Int32).toInt) (Int.le_trans (by decide : (0:Int32).toInt ≤ (0:Int)) (by decide : (0:Int) ≤ 300)) rfl
noncomputable def wl_readEither2 : List (Nat × Nat) := [(116, 3), (117, 2), (118, 2), (118, 3), (118, 4), (118, 5), (118, 6), (118, 7), (118, 8), (118, 9), (118, 10), (118, 11), (130, 9999)]
theorem c_readEither2 {X : x_Ext} {d : Nat} {sh : List (Nat ⊕ (Nat × Nat))} {gi : Nat → Nat → Int32} {gl : Nat → Nat → Int64} {gr : Nat → Nat → Value} (hI : t_I sh gi gr) (ar0 : Nat) (p_a0 : t_RL sh gr ar0) (ar1 : Int32) (l_a1 : 0 ≤ ar1.toInt) (u_a1 : ar1.toInt ≤ 6) : x_Me X (d + 63) n_X8_readEither [.ref ar0, .int ar1] (sh, gi, gl, gr) (t_P wl_readEither2 sh gi gl gr (t_Ri 0 1)) := by
  have hX : t_X wl_readEither2 sh gi gl gr gi gl gr := t_X.rf
  refine me_i f_X8_readEither p_a0.1 rfl rfl rfl ?_
  refine ev_loc f_X8_readEither (nx := 1) rfl rfl rfl rfl ?_
  refine ev_loc f_X8_readEither (nx := 2) rfl rfl rfl rfl ?_
  refine ev_cI f_X8_readEither (nx := 5) (r := []) rfl rfl rfl rfl rfl rfl rfl (c_readBoth2 hI (ar0) p_a0 (ar1) l_a1 u_a1) rfl hX rfl (fun w1 gi1 gl1 gr1 l1 u1 hI hX hC1 => ?_)
  replace p_a0 := p_a0.ext hC1.2
  refine ev_if f_X8_readEither (t1 := 8) (t2 := 10) rfl rfl rfl (fun h2 => ?_) (fun h2 => ?_)
  · have u3 : w1.toInt ≤ 0 := t_equ h2 (by decide : (0:Int32).toInt ≤ (0:Int))
    refine ev_ic f_X8_readEither (nx := 9) (v := 0) rfl (by decide) rfl ?_
    exact ev_ret f_X8_readEither rfl rfl rfl ⟨_, _, _, rfl, hI, hX, ⟨_, rfl, (by decide : (0:Int) ≤ (0:Int32).toInt), (Int.le_trans (by decide : (0:Int32).toInt ≤ (0:Int)) (by decide : (0:Int) ≤ 1))⟩⟩
  · have l4 : 1 ≤ w1.toInt := t_nel h2 l1 rfl rfl
    refine ev_ic f_X8_readEither (nx := 11) (v := 0) rfl (by decide) rfl ?_
    refine ev_loc f_X8_readEither (nx := 12) (lo' := [(2, .int 0), (0, .ref ar0), (1, .int ar1)]) rfl rfl rfl rfl ?_
    have L5 : ∀ (m5 : Nat) (gi5 : Nat → Nat → Int32) (gl5 : Nat → Nat → Int64) (gr5 : Nat → Nat → Value) (y5_2 : Int32), t_I sh gi5 gr5 → t_X wl_readEither2 sh gi gl gr gi5 gl5 gr5 → t_RL sh gr5 ar0 → 0 ≤ y5_2.toInt → y5_2.toInt ≤ 300 → (300 - y5_2.toInt).toNat = m5 → x_Ev X (d + 63) n_X8_readEither 12 [(2, .int y5_2), (0, .ref ar0), (1, .int ar1)] [] (sh, gi5, gl5, gr5) (t_P wl_readEither2 sh gi gl gr (t_Ri 0 1)) := by
      intro m5
      induction m5 using Nat.strongRecOn with
      | _ m5 ih5 =>
      intro gi5 gl5 gr5 y5_2 hI hX p_a0 l5_2 u5_2 hm5
      refine ev_loc f_X8_readEither (nx := 13) rfl rfl rfl rfl ?_
      refine ev_sp f_X8_readEither (nx := 16) (v := 300) rfl (by decide) rfl ?_
      refine ev_if f_X8_readEither (t1 := 65) (t2 := 19) rfl rfl rfl (fun h6 => ?_) (fun h6 => ?_)
      · have l7 : 300 ≤ y5_2.toInt := t_lel h6 (by decide : (300:Int) ≤ (300:Int32).toInt)
        refine ev_ic f_X8_readEither (nx := 66) (v := 1) rfl (by decide) rfl ?_
        exact ev_ret f_X8_readEither rfl rfl rfl ⟨_, _, _, rfl, hI, hX, ⟨_, rfl, (Int.le_trans (by decide : (0:Int) ≤ 1) (by decide : (1:Int) ≤ (1:Int32).toInt)), (by decide : (1:Int32).toInt ≤ (1:Int))⟩⟩
      · have u8 : y5_2.toInt ≤ 299 := t_ltu (t_nle h6) (by decide : (300:Int32).toInt ≤ (300:Int)) rfl
        refine ev_loc f_X8_readEither (nx := 20) rfl rfl rfl rfl ?_
        obtain ⟨a9, e9, p9⟩ := p_a0.2.1
        refine ev_getR f_X8_readEither (nx := 23) rfl p_a0.1 rfl rfl e9 rfl rfl ?_
        have k10 := hI.2.2.2.1.2.2.2.2.2 a9 p9.1
        obtain ⟨v10, e10⟩ : ∃ v, gr5 a9 7 = v := ⟨_, rfl⟩
        rw [e10] at k10
        refine ev_getR f_X8_readEither (nx := 26) rfl p9.1 rfl rfl e10 (t_KwR k10) rfl ?_
        refine ev_heap f_X8_readEither (nx := 29) rfl rfl rfl rfl ?_
        refine ev_ack f_X8_readEither (t1 := 32) (t2 := 65) rfl rfl rfl (t_knw k10) rfl (fun h11 => ?_) (fun h11 => ?_)
        · refine ev_loc f_X8_readEither (nx := 33) rfl rfl rfl rfl ?_
          refine ev_getR f_X8_readEither (nx := 36) (v := .ref a9) rfl p_a0.1 rfl rfl e9 rfl rfl ?_
          refine ev_c0 f_X8_readEither (nx := 39) (r := []) rfl rfl rfl rfl rfl rfl rfl (c_step hI (a9) p9) rfl hX rfl (fun gi12 gl12 gr12 hI hX hC12 => ?_)
          replace p_a0 := p_a0.ext hC12.2
          replace p9 := p9.ext hC12.2
          refine ev_loc f_X8_readEither (nx := 40) rfl rfl rfl rfl ?_
          refine ev_loc f_X8_readEither (nx := 41) rfl rfl rfl rfl ?_
          refine ev_cI f_X8_readEither (nx := 44) (r := []) rfl rfl rfl rfl rfl rfl rfl (c_readBoth2 hI (ar0) p_a0 (ar1) l_a1 u_a1) rfl hX rfl (fun w13 gi13 gl13 gr13 l13 u13 hI hX hC13 => ?_)
          replace p_a0 := p_a0.ext hC13.2
          replace p9 := p9.ext hC13.2
          refine ev_if f_X8_readEither (t1 := 47) (t2 := 49) rfl rfl rfl (fun h14 => ?_) (fun h14 => ?_)
          · have u15 : w13.toInt ≤ 0 := t_equ h14 (by decide : (0:Int32).toInt ≤ (0:Int))
            refine ev_ic f_X8_readEither (nx := 48) (v := 0) rfl (by decide) rfl ?_
            exact ev_ret f_X8_readEither rfl rfl rfl ⟨_, _, _, rfl, hI, hX, ⟨_, rfl, (by decide : (0:Int) ≤ (0:Int32).toInt), (Int.le_trans (by decide : (0:Int32).toInt ≤ (0:Int)) (by decide : (0:Int) ≤ 1))⟩⟩
          · have l16 : 1 ≤ w13.toInt := t_nel h14 l13 rfl rfl
            refine ev_loc f_X8_readEither (nx := 50) rfl rfl rfl rfl ?_
            obtain ⟨a17, e17, p17⟩ := p_a0.2.2
            refine ev_getR f_X8_readEither (nx := 53) rfl p_a0.1 rfl rfl e17 rfl rfl ?_
            refine ev_ic f_X8_readEither (nx := 54) (v := 5) rfl (by decide) rfl ?_
            refine ev_ic f_X8_readEither (nx := 55) (v := 0) rfl (by decide) rfl ?_
            refine ev_ic f_X8_readEither (nx := 56) (v := 0) rfl (by decide) rfl ?_
            refine ev_inV4 f_X8_readEither (nx := 59) (lo2 := [(0, .ref a17), (1, .int 5), (2, .int 0), (3, .int 0)]) rfl rfl rfl rfl f_X7_addStep p17.1 rfl rfl rfl rfl rfl ?_
            refine ev_loc f_X7_addStep (nx := 1) rfl rfl rfl rfl ?_
            obtain ⟨hk18, d18, r1_18, r2_18, s1_18, s2_18, n18, hn18, r4_18, r5_18, r6_18, s4_18, s5_18, s6_18⟩ := id p17
            have q19 := hI.2.2.2.2.1 a17 n18 p17 s4_18
            refine ev_getI f_X7_addStep (nx := 4) rfl p17.1 rfl rfl rfl ?_
            obtain ⟨l20, u20⟩ := hI.b p17.1 (t_bdK rfl : t_bd 6 3 = some (0, 300))
            refine ev_loc f_X7_addStep (nx := 5) rfl rfl rfl rfl ?_
            refine ev_getR f_X7_addStep (nx := 8) (v := .ref (a17 + 3)) rfl p17.1 rfl rfl r4_18 rfl rfl ?_
            obtain ⟨l21, u21⟩ := t_lenb hn18
            refine ev_alen f_X7_addStep (nx := 9) rfl s4_18 rfl rfl ?_
            refine ev_if f_X7_addStep (t1 := 52) (t2 := 12) rfl rfl rfl (fun h22 => ?_) (fun h22 => ?_)
            · refine ev_retK0 f_X7_addStep rfl rfl rfl ?_
              refine ev_incR f_X8_readEither (nx := 62) (c := 1) (l := 1) (u := 300) rfl rfl (by decide) (by decide) l5_2 u8 rfl rfl (by decide) (by decide) rfl (fun z23 e23 l23 u23 => ?_)
              refine ev_jmp f_X8_readEither (nx := 12) rfl rfl rfl ?_
              refine ev_sub (lo := [(2, .int z23), (0, .ref ar0), (1, .int ar1)]) rfl (t_sc rfl (t_sc rfl (t_sc rfl t_sn))) ?_
              exact ih5 _ (by omega) gi13 gl13 gr13 (z23) hI hX p_a0 (Int.le_trans (by decide : (0:Int) ≤ 1) l23) u23 rfl
            · have u24 : (gi13 a17 3).toInt ≤ 299 := t_ltu (t_nle h22) u21 rfl
              have l25 : 1 ≤ (Int32.ofNat n18).toInt := t_ltl (t_nle h22) l20 rfl
              refine ev_loc f_X7_addStep (nx := 13) rfl rfl rfl rfl ?_
              refine ev_getR f_X7_addStep (nx := 16) (v := .ref (a17 + 3)) rfl p17.1 rfl rfl r4_18 rfl rfl ?_
              refine ev_loc f_X7_addStep (nx := 17) rfl rfl rfl rfl ?_
              refine ev_gvI f_X7_addStep (nx := 20) (w := (gi13 a17 3)) rfl p17.1 rfl rfl rfl rfl ?_
              refine ev_loc f_X7_addStep (nx := 21) rfl rfl rfl rfl ?_
              refine ev_iastS f_X7_addStep (nx := 22) rfl s4_18 (t_ixs l20 (t_lenlt (t_nle h22) hn18)) rfl (hI.astD s4_18 (by omega) (fun k hk e => absurd e (t_Ru.ne p17 hk (by decide)))) (hX.upI (t_inOD s4_18 (by omega) rfl)) (fun g26 e26 hI hX => ?_)
              refine ev_loc f_X7_addStep (nx := 23) rfl rfl rfl rfl ?_
              refine ev_getR f_X7_addStep (nx := 26) (v := .ref (a17 + 4)) rfl p17.1 rfl rfl r5_18 rfl rfl ?_
              refine ev_loc f_X7_addStep (nx := 27) rfl rfl rfl rfl ?_
              refine ev_gvI f_X7_addStep (nx := 30) (w := (gi13 a17 3)) rfl p17.1 rfl rfl ((by rw [e26]; exact x_up2_off (Or.inl (t_noobj s4_18 p17.1)) : g26 a17 3 = gi13 a17 3).trans rfl) rfl ?_
              refine ev_loc f_X7_addStep (nx := 31) rfl rfl rfl rfl ?_
              refine ev_iastS f_X7_addStep (nx := 32) rfl s5_18 (t_ixs l20 (t_lenlt (t_nle h22) hn18)) rfl (hI.astD s5_18 (by omega) (fun k hk e => absurd e (t_Ru.ne p17 hk (by decide)))) (hX.upI (t_inOD s5_18 (by omega) rfl)) (fun g27 e27 hI hX => ?_)
              refine ev_loc f_X7_addStep (nx := 33) rfl rfl rfl rfl ?_
              refine ev_getR f_X7_addStep (nx := 36) (v := .ref (a17 + 5)) rfl p17.1 rfl rfl r6_18 rfl rfl ?_
              refine ev_loc f_X7_addStep (nx := 37) rfl rfl rfl rfl ?_
              refine ev_gvI f_X7_addStep (nx := 40) (w := (gi13 a17 3)) rfl p17.1 rfl rfl ((by rw [e27]; exact x_up2_off (Or.inl (t_noobj s5_18 p17.1)) : g27 a17 3 = g26 a17 3).trans ((by rw [e26]; exact x_up2_off (Or.inl (t_noobj s4_18 p17.1)) : g26 a17 3 = gi13 a17 3).trans rfl)) rfl ?_
              refine ev_loc f_X7_addStep (nx := 41) rfl rfl rfl rfl ?_
              refine ev_iastS f_X7_addStep (nx := 42) rfl s6_18 (t_ixs l20 (t_lenlt (t_nle h22) hn18)) rfl (hI.astD s6_18 (by omega) (fun k hk e => absurd e (t_Ru.ne p17 hk (by decide)))) (hX.upI (t_inOD s6_18 (by omega) rfl)) (fun g28 e28 hI hX => ?_)
              refine ev_loc f_X7_addStep (nx := 43) rfl rfl rfl rfl ?_
              refine ev_alu f_X7_addStep (nx := 44) rfl rfl rfl rfl ?_
              refine ev_gvI f_X7_addStep (nx := 47) (w := (gi13 a17 3)) rfl p17.1 rfl rfl ((by rw [e28]; exact x_up2_off (Or.inl (t_noobj s6_18 p17.1)) : g28 a17 3 = g27 a17 3).trans ((by rw [e27]; exact x_up2_off (Or.inl (t_noobj s5_18 p17.1)) : g27 a17 3 = g26 a17 3).trans ((by rw [e26]; exact x_up2_off (Or.inl (t_noobj s4_18 p17.1)) : g26 a17 3 = gi13 a17 3).trans rfl))) rfl ?_
              refine ev_ic f_X7_addStep (nx := 48) (v := 1) rfl (by decide) rfl ?_
              refine ev_addC f_X7_addStep (nx := 49) (c := 1) (l := 1) (u := 300) rfl (by decide) l20 u24 rfl rfl (by decide) (by decide) rfl (fun z29 e29 l29 u29 => ?_)
              have q30 := t_lenlt (t_nle h22) hn18
              refine ev_putIT f_X7_addStep (nx := 52) rfl p17.1 rfl rfl rfl (hI.putG p17.1 (fun lo hi e => by have e : some ((0 : Int), (300 : Int)) = some (lo, hi) := e; have := hn18; cases e; exact ⟨by omega, by omega⟩) (fun _ _ n2 hn2 => by rw [s4_18] at hn2; cases hn2; omega)) (hX.upI (t_inO hI.wf p17.1 (t_outO hI.wf p17.1 rfl) rfl)) (fun g30 e30 hI hX => ?_)
              refine ev_retK0 f_X7_addStep rfl rfl rfl ?_
              refine ev_incR f_X8_readEither (nx := 62) (c := 1) (l := 1) (u := 300) rfl rfl (by decide) (by decide) l5_2 u8 rfl rfl (by decide) (by decide) rfl (fun z31 e31 l31 u31 => ?_)
              refine ev_jmp f_X8_readEither (nx := 12) rfl rfl rfl ?_
              refine ev_sub (lo := [(2, .int z31), (0, .ref ar0), (1, .int ar1)]) rfl (t_sc rfl (t_sc rfl (t_sc rfl t_sn))) ?_
              exact ih5 _ (by omega) g30 gl13 gr13 (z31) hI hX p_a0 (Int.le_trans (by decide : (0:Int) ≤ 1) l31) u31 rfl
        · refine ev_ic f_X8_readEither (nx := 66) (v := 1) rfl (by decide) rfl ?_
          exact ev_ret f_X8_readEither rfl rfl rfl ⟨_, _, _, rfl, hI, hX, ⟨_, rfl, (Int.le_trans (by decide : (0:Int) ≤ 1) (by decide : (1:Int) ≤ (1:Int32).toInt)), (by decide : (1:Int32).toInt ≤ (1:Int))⟩⟩
    refine ev_sub (lo := [(2, .int 0), (0, .ref ar0), (1, .int ar1)]) rfl (t_sc rfl (t_sc rfl (t_sc rfl t_sn))) ?_
    exact L5 _ gi1 gl1 gr1 (0) hI hX p_a0 (by decide : (0:Int) ≤ (0:Int32).toInt) (Int.le_trans (by decide : (0:Int32).toInt ≤ (0:Int)) (by decide : (0:Int) ≤ 300)) rfl
noncomputable def wl_readRule : List (Nat × Nat) := [(116, 0), (116, 3), (117, 2), (118, 2), (118, 3), (118, 4), (118, 5), (118, 6), (118, 7), (118, 8), (118, 9), (118, 10), (118, 11), (130, 9999)]
theorem c_readRule {X : x_Ext} {d : Nat} {sh : List (Nat ⊕ (Nat × Nat))} {gi : Nat → Nat → Int32} {gl : Nat → Nat → Int64} {gr : Nat → Nat → Value} (hI : t_I sh gi gr) (ar0 : Nat) (p_a0 : t_RL sh gr ar0) : x_Me X (d + 64) n_X8_readRule [.ref ar0] (sh, gi, gl, gr) (t_P wl_readRule sh gi gl gr (t_Ri 0 1)) := by
  have hX : t_X wl_readRule sh gi gl gr gi gl gr := t_X.rf
  refine me_i f_X8_readRule p_a0.1 rfl rfl rfl ?_
  refine ev_loc f_X8_readRule (nx := 1) rfl rfl rfl rfl ?_
  obtain ⟨a1, e1, p1⟩ := p_a0.2.1
  refine ev_getR f_X8_readRule (nx := 4) rfl p_a0.1 rfl rfl e1 rfl rfl ?_
  have k2 := hI.2.2.2.1.2.2.2.2.2 a1 p1.1
  obtain ⟨v2, e2⟩ : ∃ v, gr a1 7 = v := ⟨_, rfl⟩
  rw [e2] at k2
  refine ev_getR f_X8_readRule (nx := 7) rfl p1.1 rfl rfl e2 (t_KwR k2) rfl ?_
  refine ev_heap f_X8_readRule (nx := 10) rfl rfl rfl rfl ?_
  refine ev_ack f_X8_readRule (t1 := 13) (t2 := 35) rfl rfl rfl (t_knw k2) rfl (fun h3 => ?_) (fun h3 => ?_)
  · refine ev_loc f_X8_readRule (nx := 14) rfl rfl rfl rfl ?_
    obtain ⟨a4, e4, p4⟩ := p_a0.2.2
    refine ev_getR f_X8_readRule (nx := 17) rfl p_a0.1 rfl rfl e4 rfl rfl ?_
    refine ev_getI f_X8_readRule (nx := 20) rfl p4.1 rfl rfl rfl ?_
    obtain ⟨l5, u5⟩ := hI.b p4.1 (t_bdK rfl : t_bd 6 0 = some (0, 12))
    refine ev_bp f_X8_readRule (nx := 22) (v := 12) rfl (by decide) rfl ?_
    refine ev_if f_X8_readRule (t1 := 35) (t2 := 25) rfl rfl rfl (fun h6 => ?_) (fun h6 => ?_)
    · have u7 : (gi a4 0).toInt ≤ 11 := t_ltu h6 (by decide : (12:Int32).toInt ≤ (12:Int)) rfl
      refine ev_loc f_X8_readRule (nx := 36) rfl rfl rfl rfl ?_
      refine ev_getR f_X8_readRule (nx := 39) (v := .ref a1) rfl p_a0.1 rfl rfl e1 rfl rfl ?_
      refine ev_heap f_X8_readRule (nx := 42) rfl rfl rfl rfl ?_
      refine ev_inV2 f_X8_readRule (nx := 45) (lo2 := [(0, .ref a1), (1, .retAddr 13)]) rfl rfl rfl rfl f_X9_takeKeyword p1.1 rfl rfl rfl rfl rfl ?_
      refine ev_loc f_X9_takeKeyword (nx := 1) rfl rfl rfl rfl ?_
      refine ev_getR f_X9_takeKeyword (nx := 4) (v := v2) rfl p1.1 rfl rfl e2 (t_KwR k2) rfl ?_
      refine ev_loc f_X9_takeKeyword (nx := 5) rfl rfl rfl rfl ?_
      refine ev_ackT f_X9_takeKeyword (t1 := 14) (t2 := 8) rfl rfl rfl (t_knw k2) rfl h3 ?_
      refine ev_loc f_X9_takeKeyword (nx := 15) rfl rfl rfl rfl ?_
      refine ev_c0 f_X9_takeKeyword (nx := 18) (r := []) rfl rfl rfl rfl rfl rfl rfl (c_step hI (a1) p1) rfl hX rfl (fun gi8 gl8 gr8 hI hX hC8 => ?_)
      replace p_a0 := p_a0.ext hC8.2
      replace p1 := p1.ext hC8.2
      replace p4 := p4.ext hC8.2
      refine ev_ic f_X9_takeKeyword (nx := 19) (v := 1) rfl (by decide) rfl ?_
      refine ev_retK1 f_X9_takeKeyword rfl rfl rfl ?_
      refine ev_f f_X8_readRule (t1 := 69) (t2 := 48) rfl rfl rfl (by decide) ?_
      refine ev_loc f_X8_readRule (nx := 49) rfl rfl rfl rfl ?_
      refine ev_ic f_X8_readRule (nx := 50) (v := 0) rfl (by decide) rfl ?_
      refine ev_cI f_X8_readRule (nx := 53) (r := []) rfl rfl rfl rfl rfl rfl rfl (c_readEither2 hI (ar0) p_a0 (0) (by decide : (0:Int) ≤ (0:Int32).toInt) (Int.le_trans (by decide : (0:Int32).toInt ≤ (0:Int)) (by decide : (0:Int) ≤ 6))) rfl hX rfl (fun w9 gi9 gl9 gr9 l9 u9 hI hX hC9 => ?_)
      replace p_a0 := p_a0.ext hC9.2
      replace p1 := p1.ext hC9.2
      replace p4 := p4.ext hC9.2
      refine ev_if f_X8_readRule (t1 := 69) (t2 := 56) rfl rfl rfl (fun h10 => ?_) (fun h10 => ?_)
      · have u11 : w9.toInt ≤ 0 := t_equ h10 (by decide : (0:Int32).toInt ≤ (0:Int))
        refine ev_ic f_X8_readRule (nx := 70) (v := 0) rfl (by decide) rfl ?_
        exact ev_ret f_X8_readRule rfl rfl rfl ⟨_, _, _, rfl, hI, hX, ⟨_, rfl, (by decide : (0:Int) ≤ (0:Int32).toInt), (Int.le_trans (by decide : (0:Int32).toInt ≤ (0:Int)) (by decide : (0:Int) ≤ 1))⟩⟩
      · have l12 : 1 ≤ w9.toInt := t_nel h10 l9 rfl rfl
        refine ev_loc f_X8_readRule (nx := 57) rfl rfl rfl rfl ?_
        refine ev_getR f_X8_readRule (nx := 60) (v := .ref a1) rfl p_a0.1 rfl rfl ((hC9.1 ar0 0 (t_ninO hI.wf p_a0.1 (t_outO hI.wf p_a0.1 rfl) rfl)).2.2.trans ((hC8.1 ar0 0 (t_ninO hI.wf p_a0.1 (t_outO hI.wf p_a0.1 rfl) rfl)).2.2.trans e1)) rfl rfl ?_
        refine ev_heap f_X8_readRule (nx := 63) rfl rfl rfl rfl ?_
        refine ev_inV2 f_X8_readRule (nx := 66) (lo2 := [(0, .ref a1), (1, .retAddr 14)]) rfl rfl rfl rfl f_X9_takeKeyword p1.1 rfl rfl rfl rfl rfl ?_
        refine ev_loc f_X9_takeKeyword (nx := 1) rfl rfl rfl rfl ?_
        have k13 := hI.2.2.2.1.2.2.2.2.2 a1 p1.1
        obtain ⟨v13, e13⟩ : ∃ v, gr9 a1 7 = v := ⟨_, rfl⟩
        rw [e13] at k13
        refine ev_getR f_X9_takeKeyword (nx := 4) rfl p1.1 rfl rfl e13 (t_KwR k13) rfl ?_
        refine ev_loc f_X9_takeKeyword (nx := 5) rfl rfl rfl rfl ?_
        refine ev_ack f_X9_takeKeyword (t1 := 14) (t2 := 8) rfl rfl rfl (t_knw k13) rfl (fun h14 => ?_) (fun h14 => ?_)
        · refine ev_loc f_X9_takeKeyword (nx := 15) rfl rfl rfl rfl ?_
          refine ev_c0 f_X9_takeKeyword (nx := 18) (r := []) rfl rfl rfl rfl rfl rfl rfl (c_step hI (a1) p1) rfl hX rfl (fun gi15 gl15 gr15 hI hX hC15 => ?_)
          replace p_a0 := p_a0.ext hC15.2
          replace p1 := p1.ext hC15.2
          replace p4 := p4.ext hC15.2
          refine ev_ic f_X9_takeKeyword (nx := 19) (v := 1) rfl (by decide) rfl ?_
          refine ev_retK1 f_X9_takeKeyword rfl rfl rfl ?_
          refine ev_f f_X8_readRule (t1 := 69) (t2 := 71) rfl rfl rfl (by decide) ?_
          refine ev_loc f_X8_readRule (nx := 72) rfl rfl rfl rfl ?_
          refine ev_cI f_X8_readRule (nx := 75) (r := []) rfl rfl rfl rfl rfl rfl rfl (c_actTold hI (ar0) p_a0) rfl hX rfl (fun w16 gi16 gl16 gr16 l16 u16 hI hX hC16 => ?_)
          replace p_a0 := p_a0.ext hC16.2
          replace p1 := p1.ext hC16.2
          replace p4 := p4.ext hC16.2
          refine ev_loc f_X8_readRule (nx := 76) (lo' := [(1, .int w16), (0, .ref ar0)]) rfl rfl rfl rfl ?_
          refine ev_loc f_X8_readRule (nx := 77) rfl rfl rfl rfl ?_
          refine ev_ic f_X8_readRule (nx := 78) (v := -1) rfl (by decide) rfl ?_
          refine ev_if f_X8_readRule (t1 := 81) (t2 := 90) rfl rfl rfl (fun h17 => ?_) (fun h17 => ?_)
          · have u18 : w16.toInt ≤ (-1) := t_equ h17 (by decide : ((-1):Int32).toInt ≤ ((-1):Int))
            refine ev_loc f_X8_readRule (nx := 82) rfl rfl rfl rfl ?_
            refine ev_getR f_X8_readRule (nx := 85) (v := .ref a1) rfl p_a0.1 rfl rfl ((hC16.1 ar0 0 (t_ninO hI.wf p_a0.1 (t_outO hI.wf p_a0.1 rfl) rfl)).2.2.trans ((hC15.1 ar0 0 (t_ninO hI.wf p_a0.1 (t_outO hI.wf p_a0.1 rfl) rfl)).2.2.trans ((hC9.1 ar0 0 (t_ninO hI.wf p_a0.1 (t_outO hI.wf p_a0.1 rfl) rfl)).2.2.trans ((hC8.1 ar0 0 (t_ninO hI.wf p_a0.1 (t_outO hI.wf p_a0.1 rfl) rfl)).2.2.trans e1)))) rfl rfl ?_
            refine ev_ic f_X8_readRule (nx := 86) (v := 2) rfl (by decide) rfl ?_
            refine ev_inV2 f_X8_readRule (nx := 89) (lo2 := [(0, .ref a1), (1, .int 2)]) rfl rfl rfl rfl f_X9_refuseToken p1.1 rfl rfl rfl rfl rfl ?_
            refine ev_loc f_X9_refuseToken (nx := 1) rfl rfl rfl rfl ?_
            refine ev_loc f_X9_refuseToken (nx := 2) rfl rfl rfl rfl ?_
            refine ev_getI f_X9_refuseToken (nx := 5) rfl p1.1 rfl rfl rfl ?_
            refine ev_ic f_X9_refuseToken (nx := 6) (v := 4) rfl (by decide) rfl ?_
            refine ev_if f_X9_refuseToken (t1 := 9) (t2 := 13) rfl rfl rfl (fun h19 => ?_) (fun h19 => ?_)
            · have u20 : (gi16 a1 3).toInt ≤ 4 := t_equ h19 (by decide : (4:Int32).toInt ≤ (4:Int))
              have l21 : 4 ≤ (gi16 a1 3).toInt := t_eql h19 (by decide : (4:Int) ≤ (4:Int32).toInt)
              refine ev_ic f_X9_refuseToken (nx := 10) (v := 1) rfl (by decide) rfl ?_
              refine ev_jmp f_X9_refuseToken (nx := 14) rfl rfl rfl ?_
              refine ev_putIT f_X9_refuseToken (nx := 17) rfl p1.1 rfl rfl rfl (hI.put0 p1.1 rfl rfl) (hX.upI (t_inO hI.wf p1.1 (t_outO hI.wf p1.1 rfl) rfl)) (fun g22 e22 hI hX => ?_)
              refine ev_loc f_X9_refuseToken (nx := 18) rfl rfl rfl rfl ?_
              refine ev_loc f_X9_refuseToken (nx := 19) rfl rfl rfl rfl ?_
              refine ev_getI f_X9_refuseToken (nx := 22) rfl p1.1 rfl rfl rfl ?_
              obtain ⟨l23, u23⟩ := hI.b p1.1 (t_bdK rfl : t_bd 8 4 = some (0, 900))
              refine ev_putIT f_X9_refuseToken (nx := 25) rfl p1.1 rfl rfl rfl (hI.put0 p1.1 rfl rfl) (hX.upI (t_inO hI.wf p1.1 (t_outO hI.wf p1.1 rfl) rfl)) (fun g24 e24 hI hX => ?_)
              refine ev_ic f_X9_refuseToken (nx := 26) (v := 0) rfl (by decide) rfl ?_
              refine ev_retK1 f_X9_refuseToken rfl rfl rfl ?_
              exact ev_ret f_X8_readRule rfl rfl rfl ⟨_, _, _, rfl, hI, hX, ⟨_, rfl, (by decide : (0:Int) ≤ (0:Int32).toInt), (Int.le_trans (by decide : (0:Int32).toInt ≤ (0:Int)) (by decide : (0:Int) ≤ 1))⟩⟩
            · refine ev_loc f_X9_refuseToken (nx := 14) rfl rfl rfl rfl ?_
              refine ev_putIT f_X9_refuseToken (nx := 17) rfl p1.1 rfl rfl rfl (hI.put0 p1.1 rfl rfl) (hX.upI (t_inO hI.wf p1.1 (t_outO hI.wf p1.1 rfl) rfl)) (fun g25 e25 hI hX => ?_)
              refine ev_loc f_X9_refuseToken (nx := 18) rfl rfl rfl rfl ?_
              refine ev_loc f_X9_refuseToken (nx := 19) rfl rfl rfl rfl ?_
              refine ev_getI f_X9_refuseToken (nx := 22) rfl p1.1 rfl rfl rfl ?_
              obtain ⟨l26, u26⟩ := hI.b p1.1 (t_bdK rfl : t_bd 8 4 = some (0, 900))
              refine ev_putIT f_X9_refuseToken (nx := 25) rfl p1.1 rfl rfl rfl (hI.put0 p1.1 rfl rfl) (hX.upI (t_inO hI.wf p1.1 (t_outO hI.wf p1.1 rfl) rfl)) (fun g27 e27 hI hX => ?_)
              refine ev_ic f_X9_refuseToken (nx := 26) (v := 0) rfl (by decide) rfl ?_
              refine ev_retK1 f_X9_refuseToken rfl rfl rfl ?_
              exact ev_ret f_X8_readRule rfl rfl rfl ⟨_, _, _, rfl, hI, hX, ⟨_, rfl, (by decide : (0:Int) ≤ (0:Int32).toInt), (Int.le_trans (by decide : (0:Int32).toInt ≤ (0:Int)) (by decide : (0:Int) ≤ 1))⟩⟩
          · have l28 : 0 ≤ w16.toInt := t_nel h17 l16 rfl rfl
            refine ev_loc f_X8_readRule (nx := 91) rfl rfl rfl rfl ?_
            refine ev_getR f_X8_readRule (nx := 94) (v := .ref a1) rfl p_a0.1 rfl rfl ((hC16.1 ar0 0 (t_ninO hI.wf p_a0.1 (t_outO hI.wf p_a0.1 rfl) rfl)).2.2.trans ((hC15.1 ar0 0 (t_ninO hI.wf p_a0.1 (t_outO hI.wf p_a0.1 rfl) rfl)).2.2.trans ((hC9.1 ar0 0 (t_ninO hI.wf p_a0.1 (t_outO hI.wf p_a0.1 rfl) rfl)).2.2.trans ((hC8.1 ar0 0 (t_ninO hI.wf p_a0.1 (t_outO hI.wf p_a0.1 rfl) rfl)).2.2.trans e1)))) rfl rfl ?_
            refine ev_c0 f_X8_readRule (nx := 97) (r := []) rfl rfl rfl rfl rfl rfl rfl (c_step hI (a1) p1) rfl hX rfl (fun gi29 gl29 gr29 hI hX hC29 => ?_)
            replace p_a0 := p_a0.ext hC29.2
            replace p1 := p1.ext hC29.2
            replace p4 := p4.ext hC29.2
            refine ev_loc f_X8_readRule (nx := 98) rfl rfl rfl rfl ?_
            refine ev_getR f_X8_readRule (nx := 101) (v := .ref a4) rfl p_a0.1 rfl rfl ((hC29.1 ar0 1 (t_ninO hI.wf p_a0.1 (t_outO hI.wf p_a0.1 rfl) rfl)).2.2.trans ((hC16.1 ar0 1 (t_ninO hI.wf p_a0.1 (t_outO hI.wf p_a0.1 rfl) rfl)).2.2.trans ((hC15.1 ar0 1 (t_ninO hI.wf p_a0.1 (t_outO hI.wf p_a0.1 rfl) rfl)).2.2.trans ((hC9.1 ar0 1 (t_ninO hI.wf p_a0.1 (t_outO hI.wf p_a0.1 rfl) rfl)).2.2.trans ((hC8.1 ar0 1 (t_ninO hI.wf p_a0.1 (t_outO hI.wf p_a0.1 rfl) rfl)).2.2.trans e4))))) rfl rfl ?_
            refine ev_loc f_X8_readRule (nx := 102) rfl rfl rfl rfl ?_
            refine ev_inV2 f_X8_readRule (nx := 105) (lo2 := [(0, .ref a4), (1, .int w16)]) rfl rfl rfl rfl f_X7_endRule p4.1 rfl rfl rfl rfl rfl ?_
            refine ev_loc f_X7_endRule (nx := 1) rfl rfl rfl rfl ?_
            refine ev_gvI f_X7_endRule (nx := 4) (w := (gi a4 0)) rfl p4.1 rfl rfl ((hC29.1 a4 0 (t_ninO hI.wf p4.1 (t_outO hI.wf p4.1 rfl) rfl)).1.trans ((hC16.1 a4 0 (t_ninO hI.wf p4.1 (t_outO hI.wf p4.1 rfl) rfl)).1.trans ((hC15.1 a4 0 (t_ninO hI.wf p4.1 (t_outO hI.wf p4.1 rfl) rfl)).1.trans ((hC9.1 a4 0 (t_ninO hI.wf p4.1 (t_outO hI.wf p4.1 rfl) rfl)).1.trans ((hC8.1 a4 0 (t_ninO hI.wf p4.1 (t_outO hI.wf p4.1 rfl) rfl)).1.trans rfl))))) rfl ?_
            refine ev_bp f_X7_endRule (nx := 6) (v := 12) rfl (by decide) rfl ?_
            refine ev_f f_X7_endRule (t1 := 42) (t2 := 9) rfl rfl rfl (t_leF u7 (by decide : (12:Int) ≤ (12:Int32).toInt) (by decide)) ?_
            refine ev_loc f_X7_endRule (nx := 10) rfl rfl rfl rfl ?_
            obtain ⟨hk31, d31, r1_31, r2_31, s1_31, s2_31, n31, hn31, r4_31, r5_31, r6_31, s4_31, s5_31, s6_31⟩ := id p4
            refine ev_getR f_X7_endRule (nx := 13) (v := .ref (a4 + 1)) rfl p4.1 rfl rfl r1_31 rfl rfl ?_
            refine ev_loc f_X7_endRule (nx := 14) rfl rfl rfl rfl ?_
            refine ev_gvI f_X7_endRule (nx := 17) (w := (gi a4 0)) rfl p4.1 rfl rfl ((hC29.1 a4 0 (t_ninO hI.wf p4.1 (t_outO hI.wf p4.1 rfl) rfl)).1.trans ((hC16.1 a4 0 (t_ninO hI.wf p4.1 (t_outO hI.wf p4.1 rfl) rfl)).1.trans ((hC15.1 a4 0 (t_ninO hI.wf p4.1 (t_outO hI.wf p4.1 rfl) rfl)).1.trans ((hC9.1 a4 0 (t_ninO hI.wf p4.1 (t_outO hI.wf p4.1 rfl) rfl)).1.trans ((hC8.1 a4 0 (t_ninO hI.wf p4.1 (t_outO hI.wf p4.1 rfl) rfl)).1.trans rfl))))) rfl ?_
            refine ev_loc f_X7_endRule (nx := 18) rfl rfl rfl rfl ?_
            refine ev_iastT f_X7_endRule (nx := 19) rfl s1_31 l5 (by decide) u7 (by decide) rfl (hI.astD s1_31 (by omega) (fun k hk e => absurd e (t_Ru.ne p4 hk (by decide)))) (hX.upI (t_inOA hI.wf s1_31 (Or.inr (by omega)) rfl)) (fun g32 e32 hI hX => ?_)
            refine ev_loc f_X7_endRule (nx := 20) rfl rfl rfl rfl ?_
            refine ev_getR f_X7_endRule (nx := 23) (v := .ref (a4 + 2)) rfl p4.1 rfl rfl r2_31 rfl rfl ?_
            refine ev_loc f_X7_endRule (nx := 24) rfl rfl rfl rfl ?_
            refine ev_gvI f_X7_endRule (nx := 27) (w := (gi a4 0)) rfl p4.1 rfl rfl ((by rw [e32]; exact x_up2_off (Or.inl (t_noobj s1_31 p4.1)) : g32 a4 0 = gi29 a4 0).trans ((hC29.1 a4 0 (t_ninO hI.wf p4.1 (t_outO hI.wf p4.1 rfl) rfl)).1.trans ((hC16.1 a4 0 (t_ninO hI.wf p4.1 (t_outO hI.wf p4.1 rfl) rfl)).1.trans ((hC15.1 a4 0 (t_ninO hI.wf p4.1 (t_outO hI.wf p4.1 rfl) rfl)).1.trans ((hC9.1 a4 0 (t_ninO hI.wf p4.1 (t_outO hI.wf p4.1 rfl) rfl)).1.trans ((hC8.1 a4 0 (t_ninO hI.wf p4.1 (t_outO hI.wf p4.1 rfl) rfl)).1.trans rfl)))))) rfl ?_
            refine ev_loc f_X7_endRule (nx := 28) rfl rfl rfl rfl ?_
            have q33 := hI.2.2.2.2.1 a4 n31 p4 s4_31
            refine ev_getI f_X7_endRule (nx := 31) rfl p4.1 rfl rfl rfl ?_
            obtain ⟨l34, u34⟩ := hI.b p4.1 (t_bdK rfl : t_bd 6 3 = some (0, 300))
            refine ev_iastT f_X7_endRule (nx := 32) rfl s2_31 l5 (by decide) u7 (by decide) rfl (hI.astD s2_31 (by omega) (fun k hk e => l34)) (hX.upI (t_inOA hI.wf s2_31 (Or.inr (by omega)) rfl)) (fun g35 e35 hI hX => ?_)
            refine ev_loc f_X7_endRule (nx := 33) rfl rfl rfl rfl ?_
            refine ev_alu f_X7_endRule (nx := 34) rfl rfl rfl rfl ?_
            refine ev_gvI f_X7_endRule (nx := 37) (w := (gi a4 0)) rfl p4.1 rfl rfl ((by rw [e35]; exact x_up2_off (Or.inl (t_noobj s2_31 p4.1)) : g35 a4 0 = g32 a4 0).trans ((by rw [e32]; exact x_up2_off (Or.inl (t_noobj s1_31 p4.1)) : g32 a4 0 = gi29 a4 0).trans ((hC29.1 a4 0 (t_ninO hI.wf p4.1 (t_outO hI.wf p4.1 rfl) rfl)).1.trans ((hC16.1 a4 0 (t_ninO hI.wf p4.1 (t_outO hI.wf p4.1 rfl) rfl)).1.trans ((hC15.1 a4 0 (t_ninO hI.wf p4.1 (t_outO hI.wf p4.1 rfl) rfl)).1.trans ((hC9.1 a4 0 (t_ninO hI.wf p4.1 (t_outO hI.wf p4.1 rfl) rfl)).1.trans ((hC8.1 a4 0 (t_ninO hI.wf p4.1 (t_outO hI.wf p4.1 rfl) rfl)).1.trans rfl))))))) rfl ?_
            refine ev_ic f_X7_endRule (nx := 38) (v := 1) rfl (by decide) rfl ?_
            refine ev_addC f_X7_endRule (nx := 39) (c := 1) (l := 1) (u := 12) rfl (by decide) l5 u7 rfl rfl (by decide) (by decide) rfl (fun z36 e36 l36 u36 => ?_)
            refine ev_putIT f_X7_endRule (nx := 42) rfl p4.1 rfl rfl rfl (hI.putB p4.1 rfl rfl l36 (by decide) u36 (by decide)) (hX.upI (t_inO hI.wf p4.1 (t_outO hI.wf p4.1 rfl) rfl)) (fun g37 e37 hI hX => ?_)
            refine ev_retK0 f_X7_endRule rfl rfl rfl ?_
            refine ev_loc f_X8_readRule (nx := 106) rfl rfl rfl rfl ?_
            refine ev_getR f_X8_readRule (nx := 109) (v := .ref a1) rfl p_a0.1 rfl rfl ((hC29.1 ar0 0 (t_ninO hI.wf p_a0.1 (t_outO hI.wf p_a0.1 rfl) rfl)).2.2.trans ((hC16.1 ar0 0 (t_ninO hI.wf p_a0.1 (t_outO hI.wf p_a0.1 rfl) rfl)).2.2.trans ((hC15.1 ar0 0 (t_ninO hI.wf p_a0.1 (t_outO hI.wf p_a0.1 rfl) rfl)).2.2.trans ((hC9.1 ar0 0 (t_ninO hI.wf p_a0.1 (t_outO hI.wf p_a0.1 rfl) rfl)).2.2.trans ((hC8.1 ar0 0 (t_ninO hI.wf p_a0.1 (t_outO hI.wf p_a0.1 rfl) rfl)).2.2.trans e1))))) rfl rfl ?_
            refine ev_bp f_X8_readRule (nx := 111) (v := 59) rfl (by decide) rfl ?_
            refine ev_cI f_X8_readRule (nx := 114) (r := []) rfl rfl rfl rfl rfl rfl rfl (c_takeSign hI (a1) p1 (59)) rfl hX rfl (fun w38 gi38 gl38 gr38 l38 u38 hI hX hC38 => ?_)
            replace p_a0 := p_a0.ext hC38.2
            replace p1 := p1.ext hC38.2
            replace p4 := p4.ext hC38.2
            exact ev_retZ f_X8_readRule rfl l38 u38 ⟨_, _, _, rfl, hI, hX, ⟨_, rfl, l38, u38⟩⟩
        · refine ev_loc f_X9_takeKeyword (nx := 9) rfl rfl rfl rfl ?_
          refine ev_ic f_X9_takeKeyword (nx := 10) (v := 2) rfl (by decide) rfl ?_
          refine ev_inV2 f_X9_takeKeyword (nx := 13) (lo2 := [(0, .ref a1), (1, .int 2)]) rfl rfl rfl rfl f_X9_refuseToken p1.1 rfl rfl rfl rfl rfl ?_
          refine ev_loc f_X9_refuseToken (nx := 1) rfl rfl rfl rfl ?_
          refine ev_loc f_X9_refuseToken (nx := 2) rfl rfl rfl rfl ?_
          refine ev_getI f_X9_refuseToken (nx := 5) rfl p1.1 rfl rfl rfl ?_
          refine ev_ic f_X9_refuseToken (nx := 6) (v := 4) rfl (by decide) rfl ?_
          refine ev_if f_X9_refuseToken (t1 := 9) (t2 := 13) rfl rfl rfl (fun h39 => ?_) (fun h39 => ?_)
          · have u40 : (gi9 a1 3).toInt ≤ 4 := t_equ h39 (by decide : (4:Int32).toInt ≤ (4:Int))
            have l41 : 4 ≤ (gi9 a1 3).toInt := t_eql h39 (by decide : (4:Int) ≤ (4:Int32).toInt)
            refine ev_ic f_X9_refuseToken (nx := 10) (v := 1) rfl (by decide) rfl ?_
            refine ev_jmp f_X9_refuseToken (nx := 14) rfl rfl rfl ?_
            refine ev_putIT f_X9_refuseToken (nx := 17) rfl p1.1 rfl rfl rfl (hI.put0 p1.1 rfl rfl) (hX.upI (t_inO hI.wf p1.1 (t_outO hI.wf p1.1 rfl) rfl)) (fun g42 e42 hI hX => ?_)
            refine ev_loc f_X9_refuseToken (nx := 18) rfl rfl rfl rfl ?_
            refine ev_loc f_X9_refuseToken (nx := 19) rfl rfl rfl rfl ?_
            refine ev_getI f_X9_refuseToken (nx := 22) rfl p1.1 rfl rfl rfl ?_
            obtain ⟨l43, u43⟩ := hI.b p1.1 (t_bdK rfl : t_bd 8 4 = some (0, 900))
            refine ev_putIT f_X9_refuseToken (nx := 25) rfl p1.1 rfl rfl rfl (hI.put0 p1.1 rfl rfl) (hX.upI (t_inO hI.wf p1.1 (t_outO hI.wf p1.1 rfl) rfl)) (fun g44 e44 hI hX => ?_)
            refine ev_ic f_X9_refuseToken (nx := 26) (v := 0) rfl (by decide) rfl ?_
            refine ev_retK1 f_X9_refuseToken rfl rfl rfl ?_
            refine ev_retK1 f_X9_takeKeyword rfl rfl rfl ?_
            refine ev_t f_X8_readRule (t1 := 69) (t2 := 71) rfl rfl rfl (by decide) ?_
            refine ev_ic f_X8_readRule (nx := 70) (v := 0) rfl (by decide) rfl ?_
            exact ev_ret f_X8_readRule rfl rfl rfl ⟨_, _, _, rfl, hI, hX, ⟨_, rfl, (by decide : (0:Int) ≤ (0:Int32).toInt), (Int.le_trans (by decide : (0:Int32).toInt ≤ (0:Int)) (by decide : (0:Int) ≤ 1))⟩⟩
          · refine ev_loc f_X9_refuseToken (nx := 14) rfl rfl rfl rfl ?_
            refine ev_putIT f_X9_refuseToken (nx := 17) rfl p1.1 rfl rfl rfl (hI.put0 p1.1 rfl rfl) (hX.upI (t_inO hI.wf p1.1 (t_outO hI.wf p1.1 rfl) rfl)) (fun g45 e45 hI hX => ?_)
            refine ev_loc f_X9_refuseToken (nx := 18) rfl rfl rfl rfl ?_
            refine ev_loc f_X9_refuseToken (nx := 19) rfl rfl rfl rfl ?_
            refine ev_getI f_X9_refuseToken (nx := 22) rfl p1.1 rfl rfl rfl ?_
            obtain ⟨l46, u46⟩ := hI.b p1.1 (t_bdK rfl : t_bd 8 4 = some (0, 900))
            refine ev_putIT f_X9_refuseToken (nx := 25) rfl p1.1 rfl rfl rfl (hI.put0 p1.1 rfl rfl) (hX.upI (t_inO hI.wf p1.1 (t_outO hI.wf p1.1 rfl) rfl)) (fun g47 e47 hI hX => ?_)
            refine ev_ic f_X9_refuseToken (nx := 26) (v := 0) rfl (by decide) rfl ?_
            refine ev_retK1 f_X9_refuseToken rfl rfl rfl ?_
            refine ev_retK1 f_X9_takeKeyword rfl rfl rfl ?_
            refine ev_t f_X8_readRule (t1 := 69) (t2 := 71) rfl rfl rfl (by decide) ?_
            refine ev_ic f_X8_readRule (nx := 70) (v := 0) rfl (by decide) rfl ?_
            exact ev_ret f_X8_readRule rfl rfl rfl ⟨_, _, _, rfl, hI, hX, ⟨_, rfl, (by decide : (0:Int) ≤ (0:Int32).toInt), (Int.le_trans (by decide : (0:Int32).toInt ≤ (0:Int)) (by decide : (0:Int) ≤ 1))⟩⟩
    · have l48 : 12 ≤ (gi a4 0).toInt := t_lel (t_nlt h6) (by decide : (12:Int) ≤ (12:Int32).toInt)
      refine ev_loc f_X8_readRule (nx := 26) rfl rfl rfl rfl ?_
      refine ev_getR f_X8_readRule (nx := 29) (v := .ref a1) rfl p_a0.1 rfl rfl e1 rfl rfl ?_
      refine ev_bp f_X8_readRule (nx := 31) (v := 6) rfl (by decide) rfl ?_
      refine ev_inV2 f_X8_readRule (nx := 34) (lo2 := [(0, .ref a1), (1, .int 6)]) rfl rfl rfl rfl f_X9_refuseToken p1.1 rfl rfl rfl rfl rfl ?_
      refine ev_loc f_X9_refuseToken (nx := 1) rfl rfl rfl rfl ?_
      refine ev_loc f_X9_refuseToken (nx := 2) rfl rfl rfl rfl ?_
      refine ev_getI f_X9_refuseToken (nx := 5) rfl p1.1 rfl rfl rfl ?_
      refine ev_ic f_X9_refuseToken (nx := 6) (v := 4) rfl (by decide) rfl ?_
      refine ev_if f_X9_refuseToken (t1 := 9) (t2 := 13) rfl rfl rfl (fun h49 => ?_) (fun h49 => ?_)
      · have u50 : (gi a1 3).toInt ≤ 4 := t_equ h49 (by decide : (4:Int32).toInt ≤ (4:Int))
        have l51 : 4 ≤ (gi a1 3).toInt := t_eql h49 (by decide : (4:Int) ≤ (4:Int32).toInt)
        refine ev_ic f_X9_refuseToken (nx := 10) (v := 1) rfl (by decide) rfl ?_
        refine ev_jmp f_X9_refuseToken (nx := 14) rfl rfl rfl ?_
        refine ev_putIT f_X9_refuseToken (nx := 17) rfl p1.1 rfl rfl rfl (hI.put0 p1.1 rfl rfl) (hX.upI (t_inO hI.wf p1.1 (t_outO hI.wf p1.1 rfl) rfl)) (fun g52 e52 hI hX => ?_)
        refine ev_loc f_X9_refuseToken (nx := 18) rfl rfl rfl rfl ?_
        refine ev_loc f_X9_refuseToken (nx := 19) rfl rfl rfl rfl ?_
        refine ev_getI f_X9_refuseToken (nx := 22) rfl p1.1 rfl rfl rfl ?_
        obtain ⟨l53, u53⟩ := hI.b p1.1 (t_bdK rfl : t_bd 8 4 = some (0, 900))
        refine ev_putIT f_X9_refuseToken (nx := 25) rfl p1.1 rfl rfl rfl (hI.put0 p1.1 rfl rfl) (hX.upI (t_inO hI.wf p1.1 (t_outO hI.wf p1.1 rfl) rfl)) (fun g54 e54 hI hX => ?_)
        refine ev_ic f_X9_refuseToken (nx := 26) (v := 0) rfl (by decide) rfl ?_
        refine ev_retK1 f_X9_refuseToken rfl rfl rfl ?_
        exact ev_ret f_X8_readRule rfl rfl rfl ⟨_, _, _, rfl, hI, hX, ⟨_, rfl, (by decide : (0:Int) ≤ (0:Int32).toInt), (Int.le_trans (by decide : (0:Int32).toInt ≤ (0:Int)) (by decide : (0:Int) ≤ 1))⟩⟩
      · refine ev_loc f_X9_refuseToken (nx := 14) rfl rfl rfl rfl ?_
        refine ev_putIT f_X9_refuseToken (nx := 17) rfl p1.1 rfl rfl rfl (hI.put0 p1.1 rfl rfl) (hX.upI (t_inO hI.wf p1.1 (t_outO hI.wf p1.1 rfl) rfl)) (fun g55 e55 hI hX => ?_)
        refine ev_loc f_X9_refuseToken (nx := 18) rfl rfl rfl rfl ?_
        refine ev_loc f_X9_refuseToken (nx := 19) rfl rfl rfl rfl ?_
        refine ev_getI f_X9_refuseToken (nx := 22) rfl p1.1 rfl rfl rfl ?_
        obtain ⟨l56, u56⟩ := hI.b p1.1 (t_bdK rfl : t_bd 8 4 = some (0, 900))
        refine ev_putIT f_X9_refuseToken (nx := 25) rfl p1.1 rfl rfl rfl (hI.put0 p1.1 rfl rfl) (hX.upI (t_inO hI.wf p1.1 (t_outO hI.wf p1.1 rfl) rfl)) (fun g57 e57 hI hX => ?_)
        refine ev_ic f_X9_refuseToken (nx := 26) (v := 0) rfl (by decide) rfl ?_
        refine ev_retK1 f_X9_refuseToken rfl rfl rfl ?_
        exact ev_ret f_X8_readRule rfl rfl rfl ⟨_, _, _, rfl, hI, hX, ⟨_, rfl, (by decide : (0:Int) ≤ (0:Int32).toInt), (Int.le_trans (by decide : (0:Int32).toInt ≤ (0:Int)) (by decide : (0:Int) ≤ 1))⟩⟩
  · refine ev_loc f_X8_readRule (nx := 36) rfl rfl rfl rfl ?_
    refine ev_getR f_X8_readRule (nx := 39) (v := .ref a1) rfl p_a0.1 rfl rfl e1 rfl rfl ?_
    refine ev_heap f_X8_readRule (nx := 42) rfl rfl rfl rfl ?_
    refine ev_inV2 f_X8_readRule (nx := 45) (lo2 := [(0, .ref a1), (1, .retAddr 13)]) rfl rfl rfl rfl f_X9_takeKeyword p1.1 rfl rfl rfl rfl rfl ?_
    refine ev_loc f_X9_takeKeyword (nx := 1) rfl rfl rfl rfl ?_
    refine ev_getR f_X9_takeKeyword (nx := 4) (v := v2) rfl p1.1 rfl rfl e2 (t_KwR k2) rfl ?_
    refine ev_loc f_X9_takeKeyword (nx := 5) rfl rfl rfl rfl ?_
    refine ev_ackF f_X9_takeKeyword (t1 := 14) (t2 := 8) rfl rfl rfl (t_knw k2) rfl h3 ?_
    refine ev_loc f_X9_takeKeyword (nx := 9) rfl rfl rfl rfl ?_
    refine ev_ic f_X9_takeKeyword (nx := 10) (v := 2) rfl (by decide) rfl ?_
    refine ev_inV2 f_X9_takeKeyword (nx := 13) (lo2 := [(0, .ref a1), (1, .int 2)]) rfl rfl rfl rfl f_X9_refuseToken p1.1 rfl rfl rfl rfl rfl ?_
    refine ev_loc f_X9_refuseToken (nx := 1) rfl rfl rfl rfl ?_
    refine ev_loc f_X9_refuseToken (nx := 2) rfl rfl rfl rfl ?_
    refine ev_getI f_X9_refuseToken (nx := 5) rfl p1.1 rfl rfl rfl ?_
    refine ev_ic f_X9_refuseToken (nx := 6) (v := 4) rfl (by decide) rfl ?_
    refine ev_if f_X9_refuseToken (t1 := 9) (t2 := 13) rfl rfl rfl (fun h58 => ?_) (fun h58 => ?_)
    · have u59 : (gi a1 3).toInt ≤ 4 := t_equ h58 (by decide : (4:Int32).toInt ≤ (4:Int))
      have l60 : 4 ≤ (gi a1 3).toInt := t_eql h58 (by decide : (4:Int) ≤ (4:Int32).toInt)
      refine ev_ic f_X9_refuseToken (nx := 10) (v := 1) rfl (by decide) rfl ?_
      refine ev_jmp f_X9_refuseToken (nx := 14) rfl rfl rfl ?_
      refine ev_putIT f_X9_refuseToken (nx := 17) rfl p1.1 rfl rfl rfl (hI.put0 p1.1 rfl rfl) (hX.upI (t_inO hI.wf p1.1 (t_outO hI.wf p1.1 rfl) rfl)) (fun g61 e61 hI hX => ?_)
      refine ev_loc f_X9_refuseToken (nx := 18) rfl rfl rfl rfl ?_
      refine ev_loc f_X9_refuseToken (nx := 19) rfl rfl rfl rfl ?_
      refine ev_getI f_X9_refuseToken (nx := 22) rfl p1.1 rfl rfl rfl ?_
      obtain ⟨l62, u62⟩ := hI.b p1.1 (t_bdK rfl : t_bd 8 4 = some (0, 900))
      refine ev_putIT f_X9_refuseToken (nx := 25) rfl p1.1 rfl rfl rfl (hI.put0 p1.1 rfl rfl) (hX.upI (t_inO hI.wf p1.1 (t_outO hI.wf p1.1 rfl) rfl)) (fun g63 e63 hI hX => ?_)
      refine ev_ic f_X9_refuseToken (nx := 26) (v := 0) rfl (by decide) rfl ?_
      refine ev_retK1 f_X9_refuseToken rfl rfl rfl ?_
      refine ev_retK1 f_X9_takeKeyword rfl rfl rfl ?_
      refine ev_t f_X8_readRule (t1 := 69) (t2 := 48) rfl rfl rfl (by decide) ?_
      refine ev_ic f_X8_readRule (nx := 70) (v := 0) rfl (by decide) rfl ?_
      exact ev_ret f_X8_readRule rfl rfl rfl ⟨_, _, _, rfl, hI, hX, ⟨_, rfl, (by decide : (0:Int) ≤ (0:Int32).toInt), (Int.le_trans (by decide : (0:Int32).toInt ≤ (0:Int)) (by decide : (0:Int) ≤ 1))⟩⟩
    · refine ev_loc f_X9_refuseToken (nx := 14) rfl rfl rfl rfl ?_
      refine ev_putIT f_X9_refuseToken (nx := 17) rfl p1.1 rfl rfl rfl (hI.put0 p1.1 rfl rfl) (hX.upI (t_inO hI.wf p1.1 (t_outO hI.wf p1.1 rfl) rfl)) (fun g64 e64 hI hX => ?_)
      refine ev_loc f_X9_refuseToken (nx := 18) rfl rfl rfl rfl ?_
      refine ev_loc f_X9_refuseToken (nx := 19) rfl rfl rfl rfl ?_
      refine ev_getI f_X9_refuseToken (nx := 22) rfl p1.1 rfl rfl rfl ?_
      obtain ⟨l65, u65⟩ := hI.b p1.1 (t_bdK rfl : t_bd 8 4 = some (0, 900))
      refine ev_putIT f_X9_refuseToken (nx := 25) rfl p1.1 rfl rfl rfl (hI.put0 p1.1 rfl rfl) (hX.upI (t_inO hI.wf p1.1 (t_outO hI.wf p1.1 rfl) rfl)) (fun g66 e66 hI hX => ?_)
      refine ev_ic f_X9_refuseToken (nx := 26) (v := 0) rfl (by decide) rfl ?_
      refine ev_retK1 f_X9_refuseToken rfl rfl rfl ?_
      refine ev_retK1 f_X9_takeKeyword rfl rfl rfl ?_
      refine ev_t f_X8_readRule (t1 := 69) (t2 := 48) rfl rfl rfl (by decide) ?_
      refine ev_ic f_X8_readRule (nx := 70) (v := 0) rfl (by decide) rfl ?_
      exact ev_ret f_X8_readRule rfl rfl rfl ⟨_, _, _, rfl, hI, hX, ⟨_, rfl, (by decide : (0:Int) ≤ (0:Int32).toInt), (Int.le_trans (by decide : (0:Int32).toInt ≤ (0:Int)) (by decide : (0:Int) ≤ 1))⟩⟩
noncomputable def wl_rl_readAll : List (Nat × Nat) := [(116, 0), (116, 3), (117, 2), (118, 2), (118, 3), (118, 4), (118, 5), (118, 6), (118, 7), (118, 8), (118, 9), (118, 10), (118, 11), (130, 9999)]
theorem c_rl_readAll {X : x_Ext} {d : Nat} {sh : List (Nat ⊕ (Nat × Nat))} {gi : Nat → Nat → Int32} {gl : Nat → Nat → Int64} {gr : Nat → Nat → Value} (hI : t_I sh gi gr) (ar0 : Nat) (p_a0 : t_RL sh gr ar0) : x_Me X (d + 65) n_X8_readAll [.ref ar0] (sh, gi, gl, gr) (t_P wl_rl_readAll sh gi gl gr (t_Ri 0 1)) := by
  have hX : t_X wl_rl_readAll sh gi gl gr gi gl gr := t_X.rf
  refine me_i f_X8_readAll p_a0.1 rfl rfl rfl ?_
  refine ev_ic f_X8_readAll (nx := 1) (v := 0) rfl (by decide) rfl ?_
  refine ev_loc f_X8_readAll (nx := 2) (lo' := [(1, .int 0), (0, .ref ar0)]) rfl rfl rfl rfl ?_
  have L1 : ∀ (m1 : Nat) (gi1 : Nat → Nat → Int32) (gl1 : Nat → Nat → Int64) (gr1 : Nat → Nat → Value) (y1_1 : Int32), t_I sh gi1 gr1 → t_X wl_rl_readAll sh gi gl gr gi1 gl1 gr1 → t_RL sh gr1 ar0 → 0 ≤ y1_1.toInt → y1_1.toInt ≤ 13 → (13 - y1_1.toInt).toNat = m1 → x_Ev X (d + 65) n_X8_readAll 2 [(1, .int y1_1), (0, .ref ar0)] [] (sh, gi1, gl1, gr1) (t_P wl_rl_readAll sh gi gl gr (t_Ri 0 1)) := by
    intro m1
    induction m1 using Nat.strongRecOn with
    | _ m1 ih1 =>
    intro gi1 gl1 gr1 y1_1 hI hX p_a0 l1_1 u1_1 hm1
    refine ev_loc f_X8_readAll (nx := 3) rfl rfl rfl rfl ?_
    refine ev_bp f_X8_readAll (nx := 5) (v := 12) rfl (by decide) rfl ?_
    refine ev_if f_X8_readAll (t1 := 34) (t2 := 8) rfl rfl rfl (fun h2 => ?_) (fun h2 => ?_)
    · have l3 : 13 ≤ y1_1.toInt := t_ltl h2 (by decide : (12:Int) ≤ (12:Int32).toInt) rfl
      refine ev_ic f_X8_readAll (nx := 35) (v := 1) rfl (by decide) rfl ?_
      exact ev_ret f_X8_readAll rfl rfl rfl ⟨_, _, _, rfl, hI, hX, ⟨_, rfl, (Int.le_trans (by decide : (0:Int) ≤ 1) (by decide : (1:Int) ≤ (1:Int32).toInt)), (by decide : (1:Int32).toInt ≤ (1:Int))⟩⟩
    · have u4 : y1_1.toInt ≤ 12 := t_leu (t_nlt h2) (by decide : (12:Int32).toInt ≤ (12:Int))
      refine ev_loc f_X8_readAll (nx := 9) rfl rfl rfl rfl ?_
      obtain ⟨a5, e5, p5⟩ := p_a0.2.1
      refine ev_getR f_X8_readAll (nx := 12) rfl p_a0.1 rfl rfl e5 rfl rfl ?_
      refine ev_getI f_X8_readAll (nx := 15) rfl p5.1 rfl rfl rfl ?_
      refine ev_ic f_X8_readAll (nx := 16) (v := 3) rfl (by decide) rfl ?_
      refine ev_if f_X8_readAll (t1 := 34) (t2 := 19) rfl rfl rfl (fun h6 => ?_) (fun h6 => ?_)
      · have u7 : (gi1 a5 3).toInt ≤ 3 := t_equ h6 (by decide : (3:Int32).toInt ≤ (3:Int))
        have l8 : 3 ≤ (gi1 a5 3).toInt := t_eql h6 (by decide : (3:Int) ≤ (3:Int32).toInt)
        refine ev_ic f_X8_readAll (nx := 35) (v := 1) rfl (by decide) rfl ?_
        exact ev_ret f_X8_readAll rfl rfl rfl ⟨_, _, _, rfl, hI, hX, ⟨_, rfl, (Int.le_trans (by decide : (0:Int) ≤ 1) (by decide : (1:Int) ≤ (1:Int32).toInt)), (by decide : (1:Int32).toInt ≤ (1:Int))⟩⟩
      · refine ev_loc f_X8_readAll (nx := 20) rfl rfl rfl rfl ?_
        refine ev_cI f_X8_readAll (nx := 23) (r := []) rfl rfl rfl rfl rfl rfl rfl (c_readRule hI (ar0) p_a0) rfl hX rfl (fun w9 gi9 gl9 gr9 l9 u9 hI hX hC9 => ?_)
        replace p_a0 := p_a0.ext hC9.2
        replace p5 := p5.ext hC9.2
        refine ev_if f_X8_readAll (t1 := 26) (t2 := 28) rfl rfl rfl (fun h10 => ?_) (fun h10 => ?_)
        · have u11 : w9.toInt ≤ 0 := t_equ h10 (by decide : (0:Int32).toInt ≤ (0:Int))
          refine ev_ic f_X8_readAll (nx := 27) (v := 0) rfl (by decide) rfl ?_
          exact ev_ret f_X8_readAll rfl rfl rfl ⟨_, _, _, rfl, hI, hX, ⟨_, rfl, (by decide : (0:Int) ≤ (0:Int32).toInt), (Int.le_trans (by decide : (0:Int32).toInt ≤ (0:Int)) (by decide : (0:Int) ≤ 1))⟩⟩
        · have l12 : 1 ≤ w9.toInt := t_nel h10 l9 rfl rfl
          refine ev_incR f_X8_readAll (nx := 31) (c := 1) (l := 1) (u := 13) rfl rfl (by decide) (by decide) l1_1 u4 rfl rfl (by decide) (by decide) rfl (fun z13 e13 l13 u13 => ?_)
          refine ev_jmp f_X8_readAll (nx := 2) rfl rfl rfl ?_
          refine ev_sub (lo := [(1, .int z13), (0, .ref ar0)]) rfl (t_sc rfl (t_sc rfl t_sn)) ?_
          exact ih1 _ (by omega) gi9 gl9 gr9 (z13) hI hX p_a0 (Int.le_trans (by decide : (0:Int) ≤ 1) l13) u13 rfl
  refine ev_sub (lo := [(1, .int 0), (0, .ref ar0)]) rfl (t_sc rfl (t_sc rfl t_sn)) ?_
  exact L1 _ gi gl gr (0) hI hX p_a0 (by decide : (0:Int) ≤ (0:Int32).toInt) (Int.le_trans (by decide : (0:Int32).toInt ≤ (0:Int)) (by decide : (0:Int) ≤ 13)) rfl
noncomputable def wl_firstShipLeft : List (Nat × Nat) := []
theorem c_firstShipLeft {X : x_Ext} {d : Nat} {sh : List (Nat ⊕ (Nat × Nat))} {gi : Nat → Nat → Int32} {gl : Nat → Nat → Int64} {gr : Nat → Nat → Value} (hI : t_I sh gi gr) : x_Me X (d + 1) n_X2_firstShipLeft [.ref 45] (sh, gi, gl, gr) (t_P wl_firstShipLeft sh gi gl gr (t_Ri (-1) 5)) := by
  have hX : t_X wl_firstShipLeft sh gi gl gr gi gl gr := t_X.rf
  refine me_i f_X2_firstShipLeft (hI.wf.s rfl) rfl rfl rfl ?_
  refine ev_ic f_X2_firstShipLeft (nx := 1) (v := 0) rfl (by decide) rfl ?_
  refine ev_loc f_X2_firstShipLeft (nx := 2) (lo' := [(1, .int 0), (0, .ref 45)]) rfl rfl rfl rfl ?_
  have L1 : ∀ (m1 : Nat) (gi1 : Nat → Nat → Int32) (gl1 : Nat → Nat → Int64) (gr1 : Nat → Nat → Value) (y1_1 : Int32), t_I sh gi1 gr1 → t_X wl_firstShipLeft sh gi gl gr gi1 gl1 gr1 → 0 ≤ y1_1.toInt → y1_1.toInt ≤ 6 → (6 - y1_1.toInt).toNat = m1 → x_Ev X (d + 1) n_X2_firstShipLeft 2 [(1, .int y1_1), (0, .ref 45)] [] (sh, gi1, gl1, gr1) (t_P wl_firstShipLeft sh gi gl gr (t_Ri (-1) 5)) := by
    intro m1
    induction m1 using Nat.strongRecOn with
    | _ m1 ih1 =>
    intro gi1 gl1 gr1 y1_1 hI hX l1_1 u1_1 hm1
    refine ev_loc f_X2_firstShipLeft (nx := 3) rfl rfl rfl rfl ?_
    refine ev_loc f_X2_firstShipLeft (nx := 4) rfl rfl rfl rfl ?_
    refine ev_getR f_X2_firstShipLeft (nx := 7) rfl (hI.wf.s rfl) rfl rfl (hI.wf.r rfl) rfl rfl ?_
    refine ev_getI f_X2_firstShipLeft (nx := 10) rfl (hI.wf.s rfl) rfl rfl rfl ?_
    obtain ⟨l2, u2⟩ := hI.b (hI.wf.s (k := 46) rfl) (t_bdK rfl : t_bd 3 0 = some (0, 6))
    refine ev_if f_X2_firstShipLeft (t1 := 30) (t2 := 13) rfl rfl rfl (fun h3 => ?_) (fun h3 => ?_)
    · refine ev_ic f_X2_firstShipLeft (nx := 31) (v := -1) rfl (by decide) rfl ?_
      exact ev_ret f_X2_firstShipLeft rfl rfl rfl ⟨_, _, _, rfl, hI, hX, ⟨_, rfl, (by decide : ((-1):Int) ≤ ((-1):Int32).toInt), (Int.le_trans (by decide : ((-1):Int32).toInt ≤ ((-1):Int)) (by decide : ((-1):Int) ≤ 5))⟩⟩
    · have u4 : y1_1.toInt ≤ 5 := t_ltu (t_nle h3) u2 rfl
      have l5 : 1 ≤ (gi1 46 0).toInt := t_ltl (t_nle h3) l1_1 rfl
      refine ev_loc f_X2_firstShipLeft (nx := 14) rfl rfl rfl rfl ?_
      refine ev_getR f_X2_firstShipLeft (nx := 17) rfl (hI.wf.s rfl) rfl rfl (hI.wf.r rfl) rfl rfl ?_
      refine ev_loc f_X2_firstShipLeft (nx := 18) rfl rfl rfl rfl ?_
      refine ev_ialdT f_X2_firstShipLeft (nx := 19) rfl (hI.wf.s rfl) l1_1 (by decide) u4 (by decide) rfl (fun w6 e6 => ?_)
      refine ev_if f_X2_firstShipLeft (t1 := 22) (t2 := 24) rfl rfl rfl (fun h7 => ?_) (fun h7 => ?_)
      · have u8 : w6.toInt ≤ 0 := t_equ h7 (by decide : (0:Int32).toInt ≤ (0:Int))
        have l9 : 0 ≤ w6.toInt := t_eql h7 (by decide : (0:Int) ≤ (0:Int32).toInt)
        refine ev_loc f_X2_firstShipLeft (nx := 23) rfl rfl rfl rfl ?_
        exact ev_ret f_X2_firstShipLeft rfl rfl rfl ⟨_, _, _, rfl, hI, hX, ⟨_, rfl, (Int.le_trans (by decide : ((-1):Int) ≤ 0) l1_1), u4⟩⟩
      · refine ev_incR f_X2_firstShipLeft (nx := 27) (c := 1) (l := 1) (u := 6) rfl rfl (by decide) (by decide) l1_1 u4 rfl rfl (by decide) (by decide) rfl (fun z10 e10 l10 u10 => ?_)
        refine ev_jmp f_X2_firstShipLeft (nx := 2) rfl rfl rfl ?_
        refine ev_sub (lo := [(1, .int z10), (0, .ref 45)]) rfl (t_sc rfl (t_sc rfl t_sn)) ?_
        exact ih1 _ (by omega) gi1 gl1 gr1 (z10) hI hX  (Int.le_trans (by decide : (0:Int) ≤ 1) l10) u10 rfl
  refine ev_sub (lo := [(1, .int 0), (0, .ref 45)]) rfl (t_sc rfl (t_sc rfl t_sn)) ?_
  exact L1 _ gi gl gr (0) hI hX  (by decide : (0:Int) ≤ (0:Int32).toInt) (Int.le_trans (by decide : (0:Int32).toInt ≤ (0:Int)) (by decide : (0:Int) ≤ 6)) rfl
noncomputable def wl_left : List (Nat × Nat) := []
theorem c_left {X : x_Ext} {d : Nat} {sh : List (Nat ⊕ (Nat × Nat))} {gi : Nat → Nat → Int32} {gl : Nat → Nat → Int64} {gr : Nat → Nat → Value} (hI : t_I sh gi gr) : x_Me X (d + 1) n_X2_left [.ref 45] (sh, gi, gl, gr) (t_P wl_left sh gi gl gr (t_Ri (-2147483648) 2147483647)) := by
  have hX : t_X wl_left sh gi gl gr gi gl gr := t_X.rf
  refine me_i f_X2_left (hI.wf.s rfl) rfl rfl rfl ?_
  refine ev_loc f_X2_left (nx := 1) rfl rfl rfl rfl ?_
  refine ev_getR f_X2_left (nx := 4) rfl (hI.wf.s rfl) rfl rfl (hI.wf.r rfl) rfl rfl ?_
  refine ev_getI f_X2_left (nx := 7) rfl (hI.wf.s rfl) rfl rfl rfl ?_
  obtain ⟨l1, u1⟩ := hI.b (hI.wf.s (k := 52) rfl) (t_bdK rfl : t_bd 3 0 = some (0, 6))
  refine ev_loc f_X2_left (nx := 8) rfl rfl rfl rfl ?_
  refine ev_getI f_X2_left (nx := 11) rfl (hI.wf.s rfl) rfl rfl rfl ?_
  obtain ⟨l2, u2⟩ := hI.b (hI.wf.s (k := 45) rfl) (t_bdK rfl : t_bd 2 10 = some (0, 6))
  refine ev_subR f_X2_left (nx := 12) (l := (-6)) (u := 6) rfl l1 u1 l2 u2 rfl rfl (by decide) (by decide) rfl (fun z3 e3 l3 u3 => ?_)
  refine ev_loc f_X2_left (nx := 13) (lo' := [(1, .int z3), (0, .ref 45)]) rfl rfl rfl rfl ?_
  refine ev_ic f_X2_left (nx := 14) (v := 0) rfl (by decide) rfl ?_
  refine ev_loc f_X2_left (nx := 15) (lo' := [(2, .int 0), (1, .int z3), (0, .ref 45)]) rfl rfl rfl rfl ?_
  have L4 : ∀ (m4 : Nat) (gi4 : Nat → Nat → Int32) (gl4 : Nat → Nat → Int64) (gr4 : Nat → Nat → Value) (y4_2 : Int32) (y4_1 : Int32), t_I sh gi4 gr4 → t_X wl_left sh gi gl gr gi4 gl4 gr4 → 0 ≤ y4_2.toInt → y4_2.toInt ≤ 6 → gi4 45 10 = (gi 45 10) → gi4 52 0 = (gi 52 0) → (6 - y4_2.toInt).toNat = m4 → x_Ev X (d + 1) n_X2_left 15 [(2, .int y4_2), (1, .int y4_1), (0, .ref 45)] [] (sh, gi4, gl4, gr4) (t_P wl_left sh gi gl gr (t_Ri (-2147483648) 2147483647)) := by
    intro m4
    induction m4 using Nat.strongRecOn with
    | _ m4 ih4 =>
    intro gi4 gl4 gr4 y4_2 y4_1 hI hX l4_2 u4_2 c4_0 c4_1 hm4
    refine ev_loc f_X2_left (nx := 16) rfl rfl rfl rfl ?_
    refine ev_loc f_X2_left (nx := 17) rfl rfl rfl rfl ?_
    refine ev_getR f_X2_left (nx := 20) rfl (hI.wf.s rfl) rfl rfl (hI.wf.r rfl) rfl rfl ?_
    refine ev_getI f_X2_left (nx := 23) rfl (hI.wf.s rfl) rfl rfl rfl ?_
    obtain ⟨l5, u5⟩ := hI.b (hI.wf.s (k := 46) rfl) (t_bdK rfl : t_bd 3 0 = some (0, 6))
    refine ev_if f_X2_left (t1 := 44) (t2 := 26) rfl rfl rfl (fun h6 => ?_) (fun h6 => ?_)
    · refine ev_loc f_X2_left (nx := 45) rfl rfl rfl rfl ?_
      exact ev_ret f_X2_left rfl rfl rfl ⟨_, _, _, rfl, hI, hX, ⟨_, rfl, (t_lo y4_1), (t_hi y4_1)⟩⟩
    · have u7 : y4_2.toInt ≤ 5 := t_ltu (t_nle h6) u5 rfl
      have l8 : 1 ≤ (gi4 46 0).toInt := t_ltl (t_nle h6) l4_2 rfl
      refine ev_loc f_X2_left (nx := 27) rfl rfl rfl rfl ?_
      refine ev_getR f_X2_left (nx := 30) rfl (hI.wf.s rfl) rfl rfl (hI.wf.r rfl) rfl rfl ?_
      refine ev_loc f_X2_left (nx := 31) rfl rfl rfl rfl ?_
      refine ev_ialdT f_X2_left (nx := 32) rfl (hI.wf.s rfl) l4_2 (by decide) u7 (by decide) rfl (fun w9 e9 => ?_)
      refine ev_if f_X2_left (t1 := 35) (t2 := 38) rfl rfl rfl (fun h10 => ?_) (fun h10 => ?_)
      · have u11 : w9.toInt ≤ 0 := t_equ h10 (by decide : (0:Int32).toInt ≤ (0:Int))
        have l12 : 0 ≤ w9.toInt := t_eql h10 (by decide : (0:Int) ≤ (0:Int32).toInt)
        refine ev_incN f_X2_left (nx := 38) rfl rfl (by decide) rfl (fun z13 => ?_)
        refine ev_incR f_X2_left (nx := 41) (c := 1) (l := 1) (u := 6) rfl rfl (by decide) (by decide) l4_2 u7 rfl rfl (by decide) (by decide) rfl (fun z14 e14 l14 u14 => ?_)
        refine ev_jmp f_X2_left (nx := 15) rfl rfl rfl ?_
        refine ev_sub (lo := [(2, .int z14), (1, .int z13), (0, .ref 45)]) rfl (t_sc rfl (t_sc rfl (t_sc rfl t_sn))) ?_
        exact ih4 _ (by omega) gi4 gl4 gr4 (z14) (z13) hI hX  (Int.le_trans (by decide : (0:Int) ≤ 1) l14) u14 c4_0 c4_1 rfl
      · refine ev_incR f_X2_left (nx := 41) (c := 1) (l := 1) (u := 6) rfl rfl (by decide) (by decide) l4_2 u7 rfl rfl (by decide) (by decide) rfl (fun z15 e15 l15 u15 => ?_)
        refine ev_jmp f_X2_left (nx := 15) rfl rfl rfl ?_
        refine ev_sub (lo := [(2, .int z15), (1, .int y4_1), (0, .ref 45)]) rfl (t_sc rfl (t_sc rfl (t_sc rfl t_sn))) ?_
        exact ih4 _ (by omega) gi4 gl4 gr4 (z15) (y4_1) hI hX  (Int.le_trans (by decide : (0:Int) ≤ 1) l15) u15 c4_0 c4_1 rfl
  refine ev_sub (lo := [(2, .int 0), (1, .int z3), (0, .ref 45)]) rfl (t_sc rfl (t_sc rfl (t_sc rfl t_sn))) ?_
  exact L4 _ gi gl gr (0) (z3) hI hX  (by decide : (0:Int) ≤ (0:Int32).toInt) (Int.le_trans (by decide : (0:Int32).toInt ≤ (0:Int)) (by decide : (0:Int) ≤ 6)) rfl rfl rfl
