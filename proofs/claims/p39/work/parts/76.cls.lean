/-! ===== printed by cls.py: typed contracts of the class ===== -/
noncomputable def wl_readCase : List (Nat × Nat) := [(116, 3), (117, 2), (118, 2), (118, 3), (118, 4), (118, 5), (118, 6), (118, 7), (118, 8), (118, 9), (118, 10), (118, 11), (130, 9999)]
theorem c_readCase {X : x_Ext} {d : Nat} {sh : List (Nat ⊕ (Nat × Nat))} {gi : Nat → Nat → Int32} {gl : Nat → Nat → Int64} {gr : Nat → Nat → Value} (hI : t_I sh gi gr) (ar0 : Nat) (p_a0 : t_RL sh gr ar0) (ar1 : Int32) (l_a1 : 0 ≤ ar1.toInt) (u_a1 : ar1.toInt ≤ 5) : x_Me X (d + 4) n_X8_readCase [.ref ar0, .int ar1] (sh, gi, gl, gr) (t_P wl_readCase sh gi gl gr (t_Ri 0 1)) := by
  have hX : t_X wl_readCase sh gi gl gr gi gl gr := t_X.rf
  refine me_i f_X8_readCase p_a0.1 rfl rfl rfl ?_
  refine ev_loc f_X8_readCase (nx := 1) rfl rfl rfl rfl ?_
  refine ev_alu f_X8_readCase (nx := 2) rfl rfl rfl rfl ?_
  refine ev_getI f_X8_readCase (nx := 5) rfl p_a0.1 rfl rfl rfl ?_
  refine ev_ic f_X8_readCase (nx := 6) (v := 1) rfl (by decide) rfl ?_
  refine ev_anyI f_X8_readCase (nx := 7) rfl rfl rfl rfl (fun z1 => ?_)
  refine ev_putIT f_X8_readCase (nx := 10) rfl p_a0.1 rfl rfl rfl (hI.put0 p_a0.1 rfl rfl) (hX.upI (t_inO hI.wf p_a0.1 (t_outO hI.wf p_a0.1 rfl) rfl)) (fun g2 e2 hI hX => ?_)
  refine ev_loc f_X8_readCase (nx := 11) rfl rfl rfl rfl ?_
  refine ev_if f_X8_readCase (t1 := 14) (t2 := 50) rfl rfl rfl (fun h3 => ?_) (fun h3 => ?_)
  · have u4 : ar1.toInt ≤ 0 := t_equ h3 (by decide : (0:Int32).toInt ≤ (0:Int))
    refine ev_loc f_X8_readCase (nx := 15) rfl rfl rfl rfl ?_
    obtain ⟨a5, e5, p5⟩ := p_a0.2.2
    refine ev_getR f_X8_readCase (nx := 18) rfl p_a0.1 rfl rfl e5 rfl rfl ?_
    refine ev_ic f_X8_readCase (nx := 19) (v := 2) rfl (by decide) rfl ?_
    refine ev_loc f_X8_readCase (nx := 20) rfl rfl rfl rfl ?_
    refine ev_loc f_X8_readCase (nx := 21) rfl rfl rfl rfl ?_
    obtain ⟨a6, e6, p6⟩ := p_a0.2.1
    refine ev_getR f_X8_readCase (nx := 24) rfl p_a0.1 rfl rfl e6 rfl rfl ?_
    have k7 := hI.2.2.2.1.2.2.2.2.2 a6 p6.1
    obtain ⟨v7, e7⟩ : ∃ v, gr a6 7 = v := ⟨_, rfl⟩
    rw [e7] at k7
    refine ev_getR f_X8_readCase (nx := 27) rfl p6.1 rfl rfl e7 (t_KwR k7) rfl ?_
    refine ev_heap f_X8_readCase (nx := 30) rfl rfl rfl rfl ?_
    refine ev_ack f_X8_readCase (t1 := 33) (t2 := 37) rfl rfl rfl (t_knw k7) rfl (fun h8 => ?_) (fun h8 => ?_)
    · refine ev_ic f_X8_readCase (nx := 34) (v := 1) rfl (by decide) rfl ?_
      refine ev_jmp f_X8_readCase (nx := 38) rfl rfl rfl ?_
      refine ev_inV4 f_X8_readCase (nx := 41) (lo2 := [(0, .ref a5), (1, .int 2), (2, .int ar1), (3, .int 1)]) rfl rfl rfl rfl f_X7_addStep p5.1 rfl rfl rfl rfl rfl ?_
      refine ev_loc f_X7_addStep (nx := 1) rfl rfl rfl rfl ?_
      obtain ⟨hk9, d9, r1_9, r2_9, s1_9, s2_9, n9, hn9, r4_9, r5_9, r6_9, s4_9, s5_9, s6_9⟩ := id p5
      have q10 := hI.2.2.2.2.1 a5 n9 p5 s4_9
      refine ev_getI f_X7_addStep (nx := 4) rfl p5.1 rfl rfl rfl ?_
      obtain ⟨l11, u11⟩ := hI.b p5.1 (t_bdK rfl : t_bd 6 3 = some (0, 300))
      refine ev_loc f_X7_addStep (nx := 5) rfl rfl rfl rfl ?_
      refine ev_getR f_X7_addStep (nx := 8) (v := .ref (a5 + 3)) rfl p5.1 rfl rfl r4_9 rfl rfl ?_
      obtain ⟨l12, u12⟩ := t_lenb hn9
      refine ev_alen f_X7_addStep (nx := 9) rfl s4_9 rfl rfl ?_
      refine ev_if f_X7_addStep (t1 := 52) (t2 := 12) rfl rfl rfl (fun h13 => ?_) (fun h13 => ?_)
      · refine ev_retK0 f_X7_addStep rfl rfl rfl ?_
        refine ev_loc f_X8_readCase (nx := 42) rfl rfl rfl rfl ?_
        refine ev_getR f_X8_readCase (nx := 45) (v := .ref a6) rfl p_a0.1 rfl rfl e6 rfl rfl ?_
        refine ev_c0 f_X8_readCase (nx := 48) (r := []) rfl rfl rfl rfl rfl rfl rfl (c_step hI (a6) p6) rfl hX rfl (fun gi14 gl14 gr14 hI hX hC14 => ?_)
        replace p_a0 := p_a0.ext hC14.2
        replace p5 := p5.ext hC14.2
        replace p6 := p6.ext hC14.2
        refine ev_ic f_X8_readCase (nx := 49) (v := 1) rfl (by decide) rfl ?_
        exact ev_ret f_X8_readCase rfl rfl rfl ⟨_, _, _, rfl, hI, hX, ⟨_, rfl, (Int.le_trans (by decide : (0:Int) ≤ 1) (by decide : (1:Int) ≤ (1:Int32).toInt)), (by decide : (1:Int32).toInt ≤ (1:Int))⟩⟩
      · have u15 : (g2 a5 3).toInt ≤ 299 := t_ltu (t_nle h13) u12 rfl
        have l16 : 1 ≤ (Int32.ofNat n9).toInt := t_ltl (t_nle h13) l11 rfl
        refine ev_loc f_X7_addStep (nx := 13) rfl rfl rfl rfl ?_
        refine ev_getR f_X7_addStep (nx := 16) (v := .ref (a5 + 3)) rfl p5.1 rfl rfl r4_9 rfl rfl ?_
        refine ev_loc f_X7_addStep (nx := 17) rfl rfl rfl rfl ?_
        refine ev_gvI f_X7_addStep (nx := 20) (w := (g2 a5 3)) rfl p5.1 rfl rfl rfl rfl ?_
        refine ev_loc f_X7_addStep (nx := 21) rfl rfl rfl rfl ?_
        refine ev_iastS f_X7_addStep (nx := 22) rfl s4_9 (t_ixs l11 (t_lenlt (t_nle h13) hn9)) rfl (hI.astD s4_9 (by omega) (fun k hk e => absurd e (t_Ru.ne p5 hk (by decide)))) (hX.upI (t_inOD s4_9 (by omega) rfl)) (fun g17 e17 hI hX => ?_)
        refine ev_loc f_X7_addStep (nx := 23) rfl rfl rfl rfl ?_
        refine ev_getR f_X7_addStep (nx := 26) (v := .ref (a5 + 4)) rfl p5.1 rfl rfl r5_9 rfl rfl ?_
        refine ev_loc f_X7_addStep (nx := 27) rfl rfl rfl rfl ?_
        refine ev_gvI f_X7_addStep (nx := 30) (w := (g2 a5 3)) rfl p5.1 rfl rfl ((by rw [e17]; exact x_up2_off (Or.inl (t_noobj s4_9 p5.1)) : g17 a5 3 = g2 a5 3).trans rfl) rfl ?_
        refine ev_loc f_X7_addStep (nx := 31) rfl rfl rfl rfl ?_
        refine ev_iastS f_X7_addStep (nx := 32) rfl s5_9 (t_ixs l11 (t_lenlt (t_nle h13) hn9)) rfl (hI.astD s5_9 (by omega) (fun k hk e => absurd e (t_Ru.ne p5 hk (by decide)))) (hX.upI (t_inOD s5_9 (by omega) rfl)) (fun g18 e18 hI hX => ?_)
        refine ev_loc f_X7_addStep (nx := 33) rfl rfl rfl rfl ?_
        refine ev_getR f_X7_addStep (nx := 36) (v := .ref (a5 + 5)) rfl p5.1 rfl rfl r6_9 rfl rfl ?_
        refine ev_loc f_X7_addStep (nx := 37) rfl rfl rfl rfl ?_
        refine ev_gvI f_X7_addStep (nx := 40) (w := (g2 a5 3)) rfl p5.1 rfl rfl ((by rw [e18]; exact x_up2_off (Or.inl (t_noobj s5_9 p5.1)) : g18 a5 3 = g17 a5 3).trans ((by rw [e17]; exact x_up2_off (Or.inl (t_noobj s4_9 p5.1)) : g17 a5 3 = g2 a5 3).trans rfl)) rfl ?_
        refine ev_loc f_X7_addStep (nx := 41) rfl rfl rfl rfl ?_
        refine ev_iastS f_X7_addStep (nx := 42) rfl s6_9 (t_ixs l11 (t_lenlt (t_nle h13) hn9)) rfl (hI.astD s6_9 (by omega) (fun k hk e => absurd e (t_Ru.ne p5 hk (by decide)))) (hX.upI (t_inOD s6_9 (by omega) rfl)) (fun g19 e19 hI hX => ?_)
        refine ev_loc f_X7_addStep (nx := 43) rfl rfl rfl rfl ?_
        refine ev_alu f_X7_addStep (nx := 44) rfl rfl rfl rfl ?_
        refine ev_gvI f_X7_addStep (nx := 47) (w := (g2 a5 3)) rfl p5.1 rfl rfl ((by rw [e19]; exact x_up2_off (Or.inl (t_noobj s6_9 p5.1)) : g19 a5 3 = g18 a5 3).trans ((by rw [e18]; exact x_up2_off (Or.inl (t_noobj s5_9 p5.1)) : g18 a5 3 = g17 a5 3).trans ((by rw [e17]; exact x_up2_off (Or.inl (t_noobj s4_9 p5.1)) : g17 a5 3 = g2 a5 3).trans rfl))) rfl ?_
        refine ev_ic f_X7_addStep (nx := 48) (v := 1) rfl (by decide) rfl ?_
        refine ev_addC f_X7_addStep (nx := 49) (c := 1) (l := 1) (u := 300) rfl (by decide) l11 u15 rfl rfl (by decide) (by decide) rfl (fun z20 e20 l20 u20 => ?_)
        have q21 := t_lenlt (t_nle h13) hn9
        refine ev_putIT f_X7_addStep (nx := 52) rfl p5.1 rfl rfl rfl (hI.putG p5.1 (fun lo hi e => by have e : some ((0 : Int), (300 : Int)) = some (lo, hi) := e; have := hn9; cases e; exact ⟨by omega, by omega⟩) (fun _ _ n2 hn2 => by rw [s4_9] at hn2; cases hn2; omega)) (hX.upI (t_inO hI.wf p5.1 (t_outO hI.wf p5.1 rfl) rfl)) (fun g21 e21 hI hX => ?_)
        refine ev_retK0 f_X7_addStep rfl rfl rfl ?_
        refine ev_loc f_X8_readCase (nx := 42) rfl rfl rfl rfl ?_
        refine ev_getR f_X8_readCase (nx := 45) (v := .ref a6) rfl p_a0.1 rfl rfl e6 rfl rfl ?_
        refine ev_c0 f_X8_readCase (nx := 48) (r := []) rfl rfl rfl rfl rfl rfl rfl (c_step hI (a6) p6) rfl hX rfl (fun gi22 gl22 gr22 hI hX hC22 => ?_)
        replace p_a0 := p_a0.ext hC22.2
        replace p5 := p5.ext hC22.2
        replace p6 := p6.ext hC22.2
        refine ev_ic f_X8_readCase (nx := 49) (v := 1) rfl (by decide) rfl ?_
        exact ev_ret f_X8_readCase rfl rfl rfl ⟨_, _, _, rfl, hI, hX, ⟨_, rfl, (Int.le_trans (by decide : (0:Int) ≤ 1) (by decide : (1:Int) ≤ (1:Int32).toInt)), (by decide : (1:Int32).toInt ≤ (1:Int))⟩⟩
    · refine ev_ic f_X8_readCase (nx := 38) (v := 0) rfl (by decide) rfl ?_
      refine ev_inV4 f_X8_readCase (nx := 41) (lo2 := [(0, .ref a5), (1, .int 2), (2, .int ar1), (3, .int 0)]) rfl rfl rfl rfl f_X7_addStep p5.1 rfl rfl rfl rfl rfl ?_
      refine ev_loc f_X7_addStep (nx := 1) rfl rfl rfl rfl ?_
      obtain ⟨hk23, d23, r1_23, r2_23, s1_23, s2_23, n23, hn23, r4_23, r5_23, r6_23, s4_23, s5_23, s6_23⟩ := id p5
      have q24 := hI.2.2.2.2.1 a5 n23 p5 s4_23
      refine ev_getI f_X7_addStep (nx := 4) rfl p5.1 rfl rfl rfl ?_
      obtain ⟨l25, u25⟩ := hI.b p5.1 (t_bdK rfl : t_bd 6 3 = some (0, 300))
      refine ev_loc f_X7_addStep (nx := 5) rfl rfl rfl rfl ?_
      refine ev_getR f_X7_addStep (nx := 8) (v := .ref (a5 + 3)) rfl p5.1 rfl rfl r4_23 rfl rfl ?_
      obtain ⟨l26, u26⟩ := t_lenb hn23
      refine ev_alen f_X7_addStep (nx := 9) rfl s4_23 rfl rfl ?_
      refine ev_if f_X7_addStep (t1 := 52) (t2 := 12) rfl rfl rfl (fun h27 => ?_) (fun h27 => ?_)
      · refine ev_retK0 f_X7_addStep rfl rfl rfl ?_
        refine ev_loc f_X8_readCase (nx := 42) rfl rfl rfl rfl ?_
        refine ev_getR f_X8_readCase (nx := 45) (v := .ref a6) rfl p_a0.1 rfl rfl e6 rfl rfl ?_
        refine ev_c0 f_X8_readCase (nx := 48) (r := []) rfl rfl rfl rfl rfl rfl rfl (c_step hI (a6) p6) rfl hX rfl (fun gi28 gl28 gr28 hI hX hC28 => ?_)
        replace p_a0 := p_a0.ext hC28.2
        replace p5 := p5.ext hC28.2
        replace p6 := p6.ext hC28.2
        refine ev_ic f_X8_readCase (nx := 49) (v := 1) rfl (by decide) rfl ?_
        exact ev_ret f_X8_readCase rfl rfl rfl ⟨_, _, _, rfl, hI, hX, ⟨_, rfl, (Int.le_trans (by decide : (0:Int) ≤ 1) (by decide : (1:Int) ≤ (1:Int32).toInt)), (by decide : (1:Int32).toInt ≤ (1:Int))⟩⟩
      · have u29 : (g2 a5 3).toInt ≤ 299 := t_ltu (t_nle h27) u26 rfl
        have l30 : 1 ≤ (Int32.ofNat n23).toInt := t_ltl (t_nle h27) l25 rfl
        refine ev_loc f_X7_addStep (nx := 13) rfl rfl rfl rfl ?_
        refine ev_getR f_X7_addStep (nx := 16) (v := .ref (a5 + 3)) rfl p5.1 rfl rfl r4_23 rfl rfl ?_
        refine ev_loc f_X7_addStep (nx := 17) rfl rfl rfl rfl ?_
        refine ev_gvI f_X7_addStep (nx := 20) (w := (g2 a5 3)) rfl p5.1 rfl rfl rfl rfl ?_
        refine ev_loc f_X7_addStep (nx := 21) rfl rfl rfl rfl ?_
        refine ev_iastS f_X7_addStep (nx := 22) rfl s4_23 (t_ixs l25 (t_lenlt (t_nle h27) hn23)) rfl (hI.astD s4_23 (by omega) (fun k hk e => absurd e (t_Ru.ne p5 hk (by decide)))) (hX.upI (t_inOD s4_23 (by omega) rfl)) (fun g31 e31 hI hX => ?_)
        refine ev_loc f_X7_addStep (nx := 23) rfl rfl rfl rfl ?_
        refine ev_getR f_X7_addStep (nx := 26) (v := .ref (a5 + 4)) rfl p5.1 rfl rfl r5_23 rfl rfl ?_
        refine ev_loc f_X7_addStep (nx := 27) rfl rfl rfl rfl ?_
        refine ev_gvI f_X7_addStep (nx := 30) (w := (g2 a5 3)) rfl p5.1 rfl rfl ((by rw [e31]; exact x_up2_off (Or.inl (t_noobj s4_23 p5.1)) : g31 a5 3 = g2 a5 3).trans rfl) rfl ?_
        refine ev_loc f_X7_addStep (nx := 31) rfl rfl rfl rfl ?_
        refine ev_iastS f_X7_addStep (nx := 32) rfl s5_23 (t_ixs l25 (t_lenlt (t_nle h27) hn23)) rfl (hI.astD s5_23 (by omega) (fun k hk e => absurd e (t_Ru.ne p5 hk (by decide)))) (hX.upI (t_inOD s5_23 (by omega) rfl)) (fun g32 e32 hI hX => ?_)
        refine ev_loc f_X7_addStep (nx := 33) rfl rfl rfl rfl ?_
        refine ev_getR f_X7_addStep (nx := 36) (v := .ref (a5 + 5)) rfl p5.1 rfl rfl r6_23 rfl rfl ?_
        refine ev_loc f_X7_addStep (nx := 37) rfl rfl rfl rfl ?_
        refine ev_gvI f_X7_addStep (nx := 40) (w := (g2 a5 3)) rfl p5.1 rfl rfl ((by rw [e32]; exact x_up2_off (Or.inl (t_noobj s5_23 p5.1)) : g32 a5 3 = g31 a5 3).trans ((by rw [e31]; exact x_up2_off (Or.inl (t_noobj s4_23 p5.1)) : g31 a5 3 = g2 a5 3).trans rfl)) rfl ?_
        refine ev_loc f_X7_addStep (nx := 41) rfl rfl rfl rfl ?_
        refine ev_iastS f_X7_addStep (nx := 42) rfl s6_23 (t_ixs l25 (t_lenlt (t_nle h27) hn23)) rfl (hI.astD s6_23 (by omega) (fun k hk e => absurd e (t_Ru.ne p5 hk (by decide)))) (hX.upI (t_inOD s6_23 (by omega) rfl)) (fun g33 e33 hI hX => ?_)
        refine ev_loc f_X7_addStep (nx := 43) rfl rfl rfl rfl ?_
        refine ev_alu f_X7_addStep (nx := 44) rfl rfl rfl rfl ?_
        refine ev_gvI f_X7_addStep (nx := 47) (w := (g2 a5 3)) rfl p5.1 rfl rfl ((by rw [e33]; exact x_up2_off (Or.inl (t_noobj s6_23 p5.1)) : g33 a5 3 = g32 a5 3).trans ((by rw [e32]; exact x_up2_off (Or.inl (t_noobj s5_23 p5.1)) : g32 a5 3 = g31 a5 3).trans ((by rw [e31]; exact x_up2_off (Or.inl (t_noobj s4_23 p5.1)) : g31 a5 3 = g2 a5 3).trans rfl))) rfl ?_
        refine ev_ic f_X7_addStep (nx := 48) (v := 1) rfl (by decide) rfl ?_
        refine ev_addC f_X7_addStep (nx := 49) (c := 1) (l := 1) (u := 300) rfl (by decide) l25 u29 rfl rfl (by decide) (by decide) rfl (fun z34 e34 l34 u34 => ?_)
        have q35 := t_lenlt (t_nle h27) hn23
        refine ev_putIT f_X7_addStep (nx := 52) rfl p5.1 rfl rfl rfl (hI.putG p5.1 (fun lo hi e => by have e : some ((0 : Int), (300 : Int)) = some (lo, hi) := e; have := hn23; cases e; exact ⟨by omega, by omega⟩) (fun _ _ n2 hn2 => by rw [s4_23] at hn2; cases hn2; omega)) (hX.upI (t_inO hI.wf p5.1 (t_outO hI.wf p5.1 rfl) rfl)) (fun g35 e35 hI hX => ?_)
        refine ev_retK0 f_X7_addStep rfl rfl rfl ?_
        refine ev_loc f_X8_readCase (nx := 42) rfl rfl rfl rfl ?_
        refine ev_getR f_X8_readCase (nx := 45) (v := .ref a6) rfl p_a0.1 rfl rfl e6 rfl rfl ?_
        refine ev_c0 f_X8_readCase (nx := 48) (r := []) rfl rfl rfl rfl rfl rfl rfl (c_step hI (a6) p6) rfl hX rfl (fun gi36 gl36 gr36 hI hX hC36 => ?_)
        replace p_a0 := p_a0.ext hC36.2
        replace p5 := p5.ext hC36.2
        replace p6 := p6.ext hC36.2
        refine ev_ic f_X8_readCase (nx := 49) (v := 1) rfl (by decide) rfl ?_
        exact ev_ret f_X8_readCase rfl rfl rfl ⟨_, _, _, rfl, hI, hX, ⟨_, rfl, (Int.le_trans (by decide : (0:Int) ≤ 1) (by decide : (1:Int) ≤ (1:Int32).toInt)), (by decide : (1:Int32).toInt ≤ (1:Int))⟩⟩
  · have l37 : 1 ≤ ar1.toInt := t_nel h3 l_a1 rfl rfl
    refine ev_loc f_X8_readCase (nx := 51) rfl rfl rfl rfl ?_
    obtain ⟨a38, e38, p38⟩ := p_a0.2.1
    refine ev_getR f_X8_readCase (nx := 54) rfl p_a0.1 rfl rfl e38 rfl rfl ?_
    refine ev_c0 f_X8_readCase (nx := 57) (r := []) rfl rfl rfl rfl rfl rfl rfl (c_step hI (a38) p38) rfl hX rfl (fun gi39 gl39 gr39 hI hX hC39 => ?_)
    replace p_a0 := p_a0.ext hC39.2
    replace p38 := p38.ext hC39.2
    refine ev_loc f_X8_readCase (nx := 58) rfl rfl rfl rfl ?_
    refine ev_inV1 f_X8_readCase (nx := 61) (lo2 := [(0, .ref ar0)]) rfl rfl rfl rfl f_X8_comparesTold p_a0.1 rfl rfl rfl rfl rfl ?_
    refine ev_loc f_X8_comparesTold (nx := 1) rfl rfl rfl rfl ?_
    refine ev_getR f_X8_comparesTold (nx := 4) (v := .ref a38) rfl p_a0.1 rfl rfl ((hC39.1 ar0 0 (t_ninO hI.wf p_a0.1 (t_outO hI.wf p_a0.1 rfl) rfl)).2.2.trans e38) rfl rfl ?_
    refine ev_bp f_X8_comparesTold (nx := 6) (v := 60) rfl (by decide) rfl ?_
    refine ev_inV2 f_X8_comparesTold (nx := 9) (lo2 := [(0, .ref a38), (1, .int 60)]) rfl rfl rfl rfl f_X9_isSignOf p38.1 rfl rfl rfl rfl rfl ?_
    refine ev_loc f_X9_isSignOf (nx := 1) rfl rfl rfl rfl ?_
    refine ev_getI f_X9_isSignOf (nx := 4) rfl p38.1 rfl rfl rfl ?_
    refine ev_ic f_X9_isSignOf (nx := 5) (v := 2) rfl (by decide) rfl ?_
    refine ev_if f_X9_isSignOf (t1 := 8) (t2 := 20) rfl rfl rfl (fun h40 => ?_) (fun h40 => ?_)
    · have u41 : (gi39 a38 3).toInt ≤ 2 := t_equ h40 (by decide : (2:Int32).toInt ≤ (2:Int))
      have l42 : 2 ≤ (gi39 a38 3).toInt := t_eql h40 (by decide : (2:Int) ≤ (2:Int32).toInt)
      refine ev_loc f_X9_isSignOf (nx := 9) rfl rfl rfl rfl ?_
      refine ev_getI f_X9_isSignOf (nx := 12) rfl p38.1 rfl rfl rfl ?_
      refine ev_loc f_X9_isSignOf (nx := 13) rfl rfl rfl rfl ?_
      refine ev_if f_X9_isSignOf (t1 := 16) (t2 := 20) rfl rfl rfl (fun h43 => ?_) (fun h43 => ?_)
      · have u44 : (gi39 a38 9).toInt ≤ 60 := t_equ h43 (by decide : (60:Int32).toInt ≤ (60:Int))
        have l45 : 60 ≤ (gi39 a38 9).toInt := t_eql h43 (by decide : (60:Int) ≤ (60:Int32).toInt)
        refine ev_ic f_X9_isSignOf (nx := 17) (v := 1) rfl (by decide) rfl ?_
        refine ev_jmp f_X9_isSignOf (nx := 21) rfl rfl rfl ?_
        refine ev_retK1 f_X9_isSignOf rfl rfl rfl ?_
        refine ev_f f_X8_comparesTold (t1 := 14) (t2 := 12) rfl rfl rfl (by decide) ?_
        refine ev_ic f_X8_comparesTold (nx := 13) (v := 0) rfl (by decide) rfl ?_
        refine ev_retK1 f_X8_comparesTold rfl rfl rfl ?_
        refine ev_loc f_X8_readCase (nx := 62) (lo' := [(2, .int 0), (0, .ref ar0), (1, .int ar1)]) rfl rfl rfl rfl ?_
        refine ev_loc f_X8_readCase (nx := 63) rfl rfl rfl rfl ?_
        refine ev_ic f_X8_readCase (nx := 64) (v := -1) rfl (by decide) rfl ?_
        refine ev_f f_X8_readCase (t1 := 67) (t2 := 76) rfl rfl rfl (by decide) ?_
        refine ev_loc f_X8_readCase (nx := 77) rfl rfl rfl rfl ?_
        refine ev_getR f_X8_readCase (nx := 80) (v := .ref a38) rfl p_a0.1 rfl rfl ((hC39.1 ar0 0 (t_ninO hI.wf p_a0.1 (t_outO hI.wf p_a0.1 rfl) rfl)).2.2.trans e38) rfl rfl ?_
        refine ev_c0 f_X8_readCase (nx := 83) (r := []) rfl rfl rfl rfl rfl rfl rfl (c_step hI (a38) p38) rfl hX rfl (fun gi46 gl46 gr46 hI hX hC46 => ?_)
        replace p_a0 := p_a0.ext hC46.2
        replace p38 := p38.ext hC46.2
        refine ev_loc f_X8_readCase (nx := 84) rfl rfl rfl rfl ?_
        obtain ⟨a47, e47, p47⟩ := p_a0.2.2
        refine ev_getR f_X8_readCase (nx := 87) rfl p_a0.1 rfl rfl e47 rfl rfl ?_
        refine ev_loc f_X8_readCase (nx := 88) rfl rfl rfl rfl ?_
        refine ev_loc f_X8_readCase (nx := 89) rfl rfl rfl rfl ?_
        refine ev_loc f_X8_readCase (nx := 90) rfl rfl rfl rfl ?_
        refine ev_getR f_X8_readCase (nx := 93) (v := .ref a38) rfl p_a0.1 rfl rfl ((hC46.1 ar0 0 (t_ninO hI.wf p_a0.1 (t_outO hI.wf p_a0.1 rfl) rfl)).2.2.trans ((hC39.1 ar0 0 (t_ninO hI.wf p_a0.1 (t_outO hI.wf p_a0.1 rfl) rfl)).2.2.trans e38)) rfl rfl ?_
        refine ev_getI f_X8_readCase (nx := 96) rfl p38.1 rfl rfl rfl ?_
        refine ev_inV4 f_X8_readCase (nx := 99) (lo2 := [(0, .ref a47), (1, .int 0), (2, .int ar1), (3, .int (gi46 a38 8))]) rfl rfl rfl rfl f_X7_addStep p47.1 rfl rfl rfl rfl rfl ?_
        refine ev_loc f_X7_addStep (nx := 1) rfl rfl rfl rfl ?_
        obtain ⟨hk48, d48, r1_48, r2_48, s1_48, s2_48, n48, hn48, r4_48, r5_48, r6_48, s4_48, s5_48, s6_48⟩ := id p47
        have q49 := hI.2.2.2.2.1 a47 n48 p47 s4_48
        refine ev_getI f_X7_addStep (nx := 4) rfl p47.1 rfl rfl rfl ?_
        obtain ⟨l50, u50⟩ := hI.b p47.1 (t_bdK rfl : t_bd 6 3 = some (0, 300))
        refine ev_loc f_X7_addStep (nx := 5) rfl rfl rfl rfl ?_
        refine ev_getR f_X7_addStep (nx := 8) (v := .ref (a47 + 3)) rfl p47.1 rfl rfl r4_48 rfl rfl ?_
        obtain ⟨l51, u51⟩ := t_lenb hn48
        refine ev_alen f_X7_addStep (nx := 9) rfl s4_48 rfl rfl ?_
        refine ev_if f_X7_addStep (t1 := 52) (t2 := 12) rfl rfl rfl (fun h52 => ?_) (fun h52 => ?_)
        · refine ev_retK0 f_X7_addStep rfl rfl rfl ?_
          refine ev_loc f_X8_readCase (nx := 100) rfl rfl rfl rfl ?_
          refine ev_getR f_X8_readCase (nx := 103) (v := .ref a38) rfl p_a0.1 rfl rfl ((hC46.1 ar0 0 (t_ninO hI.wf p_a0.1 (t_outO hI.wf p_a0.1 rfl) rfl)).2.2.trans ((hC39.1 ar0 0 (t_ninO hI.wf p_a0.1 (t_outO hI.wf p_a0.1 rfl) rfl)).2.2.trans e38)) rfl rfl ?_
          refine ev_ic f_X8_readCase (nx := 104) (v := 0) rfl (by decide) rfl ?_
          refine ev_sp f_X8_readCase (nx := 107) (v := 300) rfl (by decide) rfl ?_
          refine ev_inV3 f_X8_readCase (nx := 110) (lo2 := [(0, .ref a38), (1, .int 0), (2, .int 300)]) rfl rfl rfl rfl f_X9_takeNumber p38.1 rfl rfl rfl rfl rfl ?_
          refine ev_loc f_X9_takeNumber (nx := 1) rfl rfl rfl rfl ?_
          refine ev_getI f_X9_takeNumber (nx := 4) rfl p38.1 rfl rfl rfl ?_
          refine ev_ic f_X9_takeNumber (nx := 5) (v := 1) rfl (by decide) rfl ?_
          refine ev_if f_X9_takeNumber (t1 := 14) (t2 := 8) rfl rfl rfl (fun h53 => ?_) (fun h53 => ?_)
          · have u54 : (gi46 a38 3).toInt ≤ 1 := t_equ h53 (by decide : (1:Int32).toInt ≤ (1:Int))
            have l55 : 1 ≤ (gi46 a38 3).toInt := t_eql h53 (by decide : (1:Int) ≤ (1:Int32).toInt)
            refine ev_loc f_X9_takeNumber (nx := 15) rfl rfl rfl rfl ?_
            refine ev_gvI f_X9_takeNumber (nx := 18) (w := (gi46 a38 8)) rfl p38.1 rfl rfl rfl rfl ?_
            refine ev_loc f_X9_takeNumber (nx := 19) rfl rfl rfl rfl ?_
            refine ev_if f_X9_takeNumber (t1 := 30) (t2 := 22) rfl rfl rfl (fun h56 => ?_) (fun h56 => ?_)
            · have u57 : (gi46 a38 8).toInt ≤ (-1) := t_ltu h56 (by decide : (0:Int32).toInt ≤ (0:Int)) rfl
              refine ev_loc f_X9_takeNumber (nx := 31) rfl rfl rfl rfl ?_
              refine ev_ic f_X9_takeNumber (nx := 32) (v := 4) rfl (by decide) rfl ?_
              refine ev_inV2 f_X9_takeNumber (nx := 35) (lo2 := [(0, .ref a38), (1, .int 4)]) rfl rfl rfl rfl f_X9_refuseToken p38.1 rfl rfl rfl rfl rfl ?_
              refine ev_loc f_X9_refuseToken (nx := 1) rfl rfl rfl rfl ?_
              refine ev_loc f_X9_refuseToken (nx := 2) rfl rfl rfl rfl ?_
              refine ev_gvI f_X9_refuseToken (nx := 5) (w := (gi46 a38 3)) rfl p38.1 rfl rfl rfl rfl ?_
              refine ev_ic f_X9_refuseToken (nx := 6) (v := 4) rfl (by decide) rfl ?_
              refine ev_f f_X9_refuseToken (t1 := 9) (t2 := 13) rfl rfl rfl (t_neT u54 (by decide : (4:Int) ≤ (4:Int32).toInt) (by decide)) ?_
              refine ev_loc f_X9_refuseToken (nx := 14) rfl rfl rfl rfl ?_
              refine ev_putIT f_X9_refuseToken (nx := 17) rfl p38.1 rfl rfl rfl (hI.put0 p38.1 rfl rfl) (hX.upI (t_inO hI.wf p38.1 (t_outO hI.wf p38.1 rfl) rfl)) (fun g58 e58 hI hX => ?_)
              refine ev_loc f_X9_refuseToken (nx := 18) rfl rfl rfl rfl ?_
              refine ev_loc f_X9_refuseToken (nx := 19) rfl rfl rfl rfl ?_
              refine ev_getI f_X9_refuseToken (nx := 22) rfl p38.1 rfl rfl rfl ?_
              obtain ⟨l59, u59⟩ := hI.b p38.1 (t_bdK rfl : t_bd 8 4 = some (0, 900))
              refine ev_putIT f_X9_refuseToken (nx := 25) rfl p38.1 rfl rfl rfl (hI.put0 p38.1 rfl rfl) (hX.upI (t_inO hI.wf p38.1 (t_outO hI.wf p38.1 rfl) rfl)) (fun g60 e60 hI hX => ?_)
              refine ev_ic f_X9_refuseToken (nx := 26) (v := 0) rfl (by decide) rfl ?_
              refine ev_retK1 f_X9_refuseToken rfl rfl rfl ?_
              refine ev_retK1 f_X9_takeNumber rfl rfl rfl ?_
              exact ev_ret f_X8_readCase rfl rfl rfl ⟨_, _, _, rfl, hI, hX, ⟨_, rfl, (by decide : (0:Int) ≤ (0:Int32).toInt), (Int.le_trans (by decide : (0:Int32).toInt ≤ (0:Int)) (by decide : (0:Int) ≤ 1))⟩⟩
            · have l61 : 0 ≤ (gi46 a38 8).toInt := t_lel (t_nlt h56) (by decide : (0:Int) ≤ (0:Int32).toInt)
              refine ev_loc f_X9_takeNumber (nx := 23) rfl rfl rfl rfl ?_
              refine ev_gvI f_X9_takeNumber (nx := 26) (w := (gi46 a38 8)) rfl p38.1 rfl rfl rfl rfl ?_
              refine ev_loc f_X9_takeNumber (nx := 27) rfl rfl rfl rfl ?_
              refine ev_if f_X9_takeNumber (t1 := 36) (t2 := 30) rfl rfl rfl (fun h62 => ?_) (fun h62 => ?_)
              · have u63 : (gi46 a38 8).toInt ≤ 300 := t_leu h62 (by decide : (300:Int32).toInt ≤ (300:Int))
                refine ev_loc f_X9_takeNumber (nx := 37) rfl rfl rfl rfl ?_
                refine ev_c0 f_X9_takeNumber (nx := 40) (r := []) rfl rfl rfl rfl rfl rfl rfl (c_step hI (a38) p38) rfl hX rfl (fun gi64 gl64 gr64 hI hX hC64 => ?_)
                replace p_a0 := p_a0.ext hC64.2
                replace p38 := p38.ext hC64.2
                replace p47 := p47.ext hC64.2
                refine ev_ic f_X9_takeNumber (nx := 41) (v := 1) rfl (by decide) rfl ?_
                refine ev_retK1 f_X9_takeNumber rfl rfl rfl ?_
                exact ev_ret f_X8_readCase rfl rfl rfl ⟨_, _, _, rfl, hI, hX, ⟨_, rfl, (Int.le_trans (by decide : (0:Int) ≤ 1) (by decide : (1:Int) ≤ (1:Int32).toInt)), (by decide : (1:Int32).toInt ≤ (1:Int))⟩⟩
              · have l65 : 301 ≤ (gi46 a38 8).toInt := t_ltl (t_nle h62) (by decide : (300:Int) ≤ (300:Int32).toInt) rfl
                refine ev_loc f_X9_takeNumber (nx := 31) rfl rfl rfl rfl ?_
                refine ev_ic f_X9_takeNumber (nx := 32) (v := 4) rfl (by decide) rfl ?_
                refine ev_inV2 f_X9_takeNumber (nx := 35) (lo2 := [(0, .ref a38), (1, .int 4)]) rfl rfl rfl rfl f_X9_refuseToken p38.1 rfl rfl rfl rfl rfl ?_
                refine ev_loc f_X9_refuseToken (nx := 1) rfl rfl rfl rfl ?_
                refine ev_loc f_X9_refuseToken (nx := 2) rfl rfl rfl rfl ?_
                refine ev_gvI f_X9_refuseToken (nx := 5) (w := (gi46 a38 3)) rfl p38.1 rfl rfl rfl rfl ?_
                refine ev_ic f_X9_refuseToken (nx := 6) (v := 4) rfl (by decide) rfl ?_
                refine ev_f f_X9_refuseToken (t1 := 9) (t2 := 13) rfl rfl rfl (t_neT u54 (by decide : (4:Int) ≤ (4:Int32).toInt) (by decide)) ?_
                refine ev_loc f_X9_refuseToken (nx := 14) rfl rfl rfl rfl ?_
                refine ev_putIT f_X9_refuseToken (nx := 17) rfl p38.1 rfl rfl rfl (hI.put0 p38.1 rfl rfl) (hX.upI (t_inO hI.wf p38.1 (t_outO hI.wf p38.1 rfl) rfl)) (fun g66 e66 hI hX => ?_)
                refine ev_loc f_X9_refuseToken (nx := 18) rfl rfl rfl rfl ?_
                refine ev_loc f_X9_refuseToken (nx := 19) rfl rfl rfl rfl ?_
                refine ev_getI f_X9_refuseToken (nx := 22) rfl p38.1 rfl rfl rfl ?_
                obtain ⟨l67, u67⟩ := hI.b p38.1 (t_bdK rfl : t_bd 8 4 = some (0, 900))
                refine ev_putIT f_X9_refuseToken (nx := 25) rfl p38.1 rfl rfl rfl (hI.put0 p38.1 rfl rfl) (hX.upI (t_inO hI.wf p38.1 (t_outO hI.wf p38.1 rfl) rfl)) (fun g68 e68 hI hX => ?_)
                refine ev_ic f_X9_refuseToken (nx := 26) (v := 0) rfl (by decide) rfl ?_
                refine ev_retK1 f_X9_refuseToken rfl rfl rfl ?_
                refine ev_retK1 f_X9_takeNumber rfl rfl rfl ?_
                exact ev_ret f_X8_readCase rfl rfl rfl ⟨_, _, _, rfl, hI, hX, ⟨_, rfl, (by decide : (0:Int) ≤ (0:Int32).toInt), (Int.le_trans (by decide : (0:Int32).toInt ≤ (0:Int)) (by decide : (0:Int) ≤ 1))⟩⟩
          · refine ev_loc f_X9_takeNumber (nx := 9) rfl rfl rfl rfl ?_
            refine ev_ic f_X9_takeNumber (nx := 10) (v := 2) rfl (by decide) rfl ?_
            refine ev_inV2 f_X9_takeNumber (nx := 13) (lo2 := [(0, .ref a38), (1, .int 2)]) rfl rfl rfl rfl f_X9_refuseToken p38.1 rfl rfl rfl rfl rfl ?_
            refine ev_loc f_X9_refuseToken (nx := 1) rfl rfl rfl rfl ?_
            refine ev_loc f_X9_refuseToken (nx := 2) rfl rfl rfl rfl ?_
            refine ev_gvI f_X9_refuseToken (nx := 5) (w := (gi46 a38 3)) rfl p38.1 rfl rfl rfl rfl ?_
            refine ev_ic f_X9_refuseToken (nx := 6) (v := 4) rfl (by decide) rfl ?_
            refine ev_if f_X9_refuseToken (t1 := 9) (t2 := 13) rfl rfl rfl (fun h69 => ?_) (fun h69 => ?_)
            · have u70 : (gi46 a38 3).toInt ≤ 4 := t_equ h69 (by decide : (4:Int32).toInt ≤ (4:Int))
              have l71 : 4 ≤ (gi46 a38 3).toInt := t_eql h69 (by decide : (4:Int) ≤ (4:Int32).toInt)
              refine ev_ic f_X9_refuseToken (nx := 10) (v := 1) rfl (by decide) rfl ?_
              refine ev_jmp f_X9_refuseToken (nx := 14) rfl rfl rfl ?_
              refine ev_putIT f_X9_refuseToken (nx := 17) rfl p38.1 rfl rfl rfl (hI.put0 p38.1 rfl rfl) (hX.upI (t_inO hI.wf p38.1 (t_outO hI.wf p38.1 rfl) rfl)) (fun g72 e72 hI hX => ?_)
              refine ev_loc f_X9_refuseToken (nx := 18) rfl rfl rfl rfl ?_
              refine ev_loc f_X9_refuseToken (nx := 19) rfl rfl rfl rfl ?_
              refine ev_getI f_X9_refuseToken (nx := 22) rfl p38.1 rfl rfl rfl ?_
              obtain ⟨l73, u73⟩ := hI.b p38.1 (t_bdK rfl : t_bd 8 4 = some (0, 900))
              refine ev_putIT f_X9_refuseToken (nx := 25) rfl p38.1 rfl rfl rfl (hI.put0 p38.1 rfl rfl) (hX.upI (t_inO hI.wf p38.1 (t_outO hI.wf p38.1 rfl) rfl)) (fun g74 e74 hI hX => ?_)
              refine ev_ic f_X9_refuseToken (nx := 26) (v := 0) rfl (by decide) rfl ?_
              refine ev_retK1 f_X9_refuseToken rfl rfl rfl ?_
              refine ev_retK1 f_X9_takeNumber rfl rfl rfl ?_
              exact ev_ret f_X8_readCase rfl rfl rfl ⟨_, _, _, rfl, hI, hX, ⟨_, rfl, (by decide : (0:Int) ≤ (0:Int32).toInt), (Int.le_trans (by decide : (0:Int32).toInt ≤ (0:Int)) (by decide : (0:Int) ≤ 1))⟩⟩
            · refine ev_loc f_X9_refuseToken (nx := 14) rfl rfl rfl rfl ?_
              refine ev_putIT f_X9_refuseToken (nx := 17) rfl p38.1 rfl rfl rfl (hI.put0 p38.1 rfl rfl) (hX.upI (t_inO hI.wf p38.1 (t_outO hI.wf p38.1 rfl) rfl)) (fun g75 e75 hI hX => ?_)
              refine ev_loc f_X9_refuseToken (nx := 18) rfl rfl rfl rfl ?_
              refine ev_loc f_X9_refuseToken (nx := 19) rfl rfl rfl rfl ?_
              refine ev_getI f_X9_refuseToken (nx := 22) rfl p38.1 rfl rfl rfl ?_
              obtain ⟨l76, u76⟩ := hI.b p38.1 (t_bdK rfl : t_bd 8 4 = some (0, 900))
              refine ev_putIT f_X9_refuseToken (nx := 25) rfl p38.1 rfl rfl rfl (hI.put0 p38.1 rfl rfl) (hX.upI (t_inO hI.wf p38.1 (t_outO hI.wf p38.1 rfl) rfl)) (fun g77 e77 hI hX => ?_)
              refine ev_ic f_X9_refuseToken (nx := 26) (v := 0) rfl (by decide) rfl ?_
              refine ev_retK1 f_X9_refuseToken rfl rfl rfl ?_
              refine ev_retK1 f_X9_takeNumber rfl rfl rfl ?_
              exact ev_ret f_X8_readCase rfl rfl rfl ⟨_, _, _, rfl, hI, hX, ⟨_, rfl, (by decide : (0:Int) ≤ (0:Int32).toInt), (Int.le_trans (by decide : (0:Int32).toInt ≤ (0:Int)) (by decide : (0:Int) ≤ 1))⟩⟩
        · have u78 : (gi46 a47 3).toInt ≤ 299 := t_ltu (t_nle h52) u51 rfl
          have l79 : 1 ≤ (Int32.ofNat n48).toInt := t_ltl (t_nle h52) l50 rfl
          refine ev_loc f_X7_addStep (nx := 13) rfl rfl rfl rfl ?_
          refine ev_getR f_X7_addStep (nx := 16) (v := .ref (a47 + 3)) rfl p47.1 rfl rfl r4_48 rfl rfl ?_
          refine ev_loc f_X7_addStep (nx := 17) rfl rfl rfl rfl ?_
          refine ev_gvI f_X7_addStep (nx := 20) (w := (gi46 a47 3)) rfl p47.1 rfl rfl rfl rfl ?_
          refine ev_loc f_X7_addStep (nx := 21) rfl rfl rfl rfl ?_
          refine ev_iastS f_X7_addStep (nx := 22) rfl s4_48 (t_ixs l50 (t_lenlt (t_nle h52) hn48)) rfl (hI.astD s4_48 (by omega) (fun k hk e => absurd e (t_Ru.ne p47 hk (by decide)))) (hX.upI (t_inOD s4_48 (by omega) rfl)) (fun g80 e80 hI hX => ?_)
          refine ev_loc f_X7_addStep (nx := 23) rfl rfl rfl rfl ?_
          refine ev_getR f_X7_addStep (nx := 26) (v := .ref (a47 + 4)) rfl p47.1 rfl rfl r5_48 rfl rfl ?_
          refine ev_loc f_X7_addStep (nx := 27) rfl rfl rfl rfl ?_
          refine ev_gvI f_X7_addStep (nx := 30) (w := (gi46 a47 3)) rfl p47.1 rfl rfl ((by rw [e80]; exact x_up2_off (Or.inl (t_noobj s4_48 p47.1)) : g80 a47 3 = gi46 a47 3).trans rfl) rfl ?_
          refine ev_loc f_X7_addStep (nx := 31) rfl rfl rfl rfl ?_
          refine ev_iastS f_X7_addStep (nx := 32) rfl s5_48 (t_ixs l50 (t_lenlt (t_nle h52) hn48)) rfl (hI.astD s5_48 (by omega) (fun k hk e => absurd e (t_Ru.ne p47 hk (by decide)))) (hX.upI (t_inOD s5_48 (by omega) rfl)) (fun g81 e81 hI hX => ?_)
          refine ev_loc f_X7_addStep (nx := 33) rfl rfl rfl rfl ?_
          refine ev_getR f_X7_addStep (nx := 36) (v := .ref (a47 + 5)) rfl p47.1 rfl rfl r6_48 rfl rfl ?_
          refine ev_loc f_X7_addStep (nx := 37) rfl rfl rfl rfl ?_
          refine ev_gvI f_X7_addStep (nx := 40) (w := (gi46 a47 3)) rfl p47.1 rfl rfl ((by rw [e81]; exact x_up2_off (Or.inl (t_noobj s5_48 p47.1)) : g81 a47 3 = g80 a47 3).trans ((by rw [e80]; exact x_up2_off (Or.inl (t_noobj s4_48 p47.1)) : g80 a47 3 = gi46 a47 3).trans rfl)) rfl ?_
          refine ev_loc f_X7_addStep (nx := 41) rfl rfl rfl rfl ?_
          refine ev_iastS f_X7_addStep (nx := 42) rfl s6_48 (t_ixs l50 (t_lenlt (t_nle h52) hn48)) rfl (hI.astD s6_48 (by omega) (fun k hk e => absurd e (t_Ru.ne p47 hk (by decide)))) (hX.upI (t_inOD s6_48 (by omega) rfl)) (fun g82 e82 hI hX => ?_)
          refine ev_loc f_X7_addStep (nx := 43) rfl rfl rfl rfl ?_
          refine ev_alu f_X7_addStep (nx := 44) rfl rfl rfl rfl ?_
          refine ev_gvI f_X7_addStep (nx := 47) (w := (gi46 a47 3)) rfl p47.1 rfl rfl ((by rw [e82]; exact x_up2_off (Or.inl (t_noobj s6_48 p47.1)) : g82 a47 3 = g81 a47 3).trans ((by rw [e81]; exact x_up2_off (Or.inl (t_noobj s5_48 p47.1)) : g81 a47 3 = g80 a47 3).trans ((by rw [e80]; exact x_up2_off (Or.inl (t_noobj s4_48 p47.1)) : g80 a47 3 = gi46 a47 3).trans rfl))) rfl ?_
          refine ev_ic f_X7_addStep (nx := 48) (v := 1) rfl (by decide) rfl ?_
          refine ev_addC f_X7_addStep (nx := 49) (c := 1) (l := 1) (u := 300) rfl (by decide) l50 u78 rfl rfl (by decide) (by decide) rfl (fun z83 e83 l83 u83 => ?_)
          have q84 := t_lenlt (t_nle h52) hn48
          refine ev_putIT f_X7_addStep (nx := 52) rfl p47.1 rfl rfl rfl (hI.putG p47.1 (fun lo hi e => by have e : some ((0 : Int), (300 : Int)) = some (lo, hi) := e; have := hn48; cases e; exact ⟨by omega, by omega⟩) (fun _ _ n2 hn2 => by rw [s4_48] at hn2; cases hn2; omega)) (hX.upI (t_inO hI.wf p47.1 (t_outO hI.wf p47.1 rfl) rfl)) (fun g84 e84 hI hX => ?_)
          refine ev_retK0 f_X7_addStep rfl rfl rfl ?_
          refine ev_loc f_X8_readCase (nx := 100) rfl rfl rfl rfl ?_
          refine ev_getR f_X8_readCase (nx := 103) (v := .ref a38) rfl p_a0.1 rfl rfl ((hC46.1 ar0 0 (t_ninO hI.wf p_a0.1 (t_outO hI.wf p_a0.1 rfl) rfl)).2.2.trans ((hC39.1 ar0 0 (t_ninO hI.wf p_a0.1 (t_outO hI.wf p_a0.1 rfl) rfl)).2.2.trans e38)) rfl rfl ?_
          refine ev_ic f_X8_readCase (nx := 104) (v := 0) rfl (by decide) rfl ?_
          refine ev_sp f_X8_readCase (nx := 107) (v := 300) rfl (by decide) rfl ?_
          refine ev_inV3 f_X8_readCase (nx := 110) (lo2 := [(0, .ref a38), (1, .int 0), (2, .int 300)]) rfl rfl rfl rfl f_X9_takeNumber p38.1 rfl rfl rfl rfl rfl ?_
          refine ev_loc f_X9_takeNumber (nx := 1) rfl rfl rfl rfl ?_
          refine ev_getI f_X9_takeNumber (nx := 4) rfl p38.1 rfl rfl rfl ?_
          refine ev_ic f_X9_takeNumber (nx := 5) (v := 1) rfl (by decide) rfl ?_
          refine ev_if f_X9_takeNumber (t1 := 14) (t2 := 8) rfl rfl rfl (fun h85 => ?_) (fun h85 => ?_)
          · have u86 : (g84 a38 3).toInt ≤ 1 := t_equ h85 (by decide : (1:Int32).toInt ≤ (1:Int))
            have l87 : 1 ≤ (g84 a38 3).toInt := t_eql h85 (by decide : (1:Int) ≤ (1:Int32).toInt)
            refine ev_loc f_X9_takeNumber (nx := 15) rfl rfl rfl rfl ?_
            refine ev_gvI f_X9_takeNumber (nx := 18) (w := (gi46 a38 8)) rfl p38.1 rfl rfl ((by rw [e84]; exact x_up2_off (Or.inr (by decide)) : g84 a38 8 = g82 a38 8).trans ((by rw [e82]; exact x_up2_off (Or.inl (t_noobj s6_48 p38.1)) : g82 a38 8 = g81 a38 8).trans ((by rw [e81]; exact x_up2_off (Or.inl (t_noobj s5_48 p38.1)) : g81 a38 8 = g80 a38 8).trans ((by rw [e80]; exact x_up2_off (Or.inl (t_noobj s4_48 p38.1)) : g80 a38 8 = gi46 a38 8).trans rfl)))) rfl ?_
            refine ev_loc f_X9_takeNumber (nx := 19) rfl rfl rfl rfl ?_
            refine ev_if f_X9_takeNumber (t1 := 30) (t2 := 22) rfl rfl rfl (fun h88 => ?_) (fun h88 => ?_)
            · have u89 : (gi46 a38 8).toInt ≤ (-1) := t_ltu h88 (by decide : (0:Int32).toInt ≤ (0:Int)) rfl
              refine ev_loc f_X9_takeNumber (nx := 31) rfl rfl rfl rfl ?_
              refine ev_ic f_X9_takeNumber (nx := 32) (v := 4) rfl (by decide) rfl ?_
              refine ev_inV2 f_X9_takeNumber (nx := 35) (lo2 := [(0, .ref a38), (1, .int 4)]) rfl rfl rfl rfl f_X9_refuseToken p38.1 rfl rfl rfl rfl rfl ?_
              refine ev_loc f_X9_refuseToken (nx := 1) rfl rfl rfl rfl ?_
              refine ev_loc f_X9_refuseToken (nx := 2) rfl rfl rfl rfl ?_
              refine ev_gvI f_X9_refuseToken (nx := 5) (w := (g84 a38 3)) rfl p38.1 rfl rfl rfl rfl ?_
              refine ev_ic f_X9_refuseToken (nx := 6) (v := 4) rfl (by decide) rfl ?_
              refine ev_f f_X9_refuseToken (t1 := 9) (t2 := 13) rfl rfl rfl (t_neT u86 (by decide : (4:Int) ≤ (4:Int32).toInt) (by decide)) ?_
              refine ev_loc f_X9_refuseToken (nx := 14) rfl rfl rfl rfl ?_
              refine ev_putIT f_X9_refuseToken (nx := 17) rfl p38.1 rfl rfl rfl (hI.put0 p38.1 rfl rfl) (hX.upI (t_inO hI.wf p38.1 (t_outO hI.wf p38.1 rfl) rfl)) (fun g90 e90 hI hX => ?_)
              refine ev_loc f_X9_refuseToken (nx := 18) rfl rfl rfl rfl ?_
              refine ev_loc f_X9_refuseToken (nx := 19) rfl rfl rfl rfl ?_
              refine ev_getI f_X9_refuseToken (nx := 22) rfl p38.1 rfl rfl rfl ?_
              obtain ⟨l91, u91⟩ := hI.b p38.1 (t_bdK rfl : t_bd 8 4 = some (0, 900))
              refine ev_putIT f_X9_refuseToken (nx := 25) rfl p38.1 rfl rfl rfl (hI.put0 p38.1 rfl rfl) (hX.upI (t_inO hI.wf p38.1 (t_outO hI.wf p38.1 rfl) rfl)) (fun g92 e92 hI hX => ?_)
              refine ev_ic f_X9_refuseToken (nx := 26) (v := 0) rfl (by decide) rfl ?_
              refine ev_retK1 f_X9_refuseToken rfl rfl rfl ?_
              refine ev_retK1 f_X9_takeNumber rfl rfl rfl ?_
              exact ev_ret f_X8_readCase rfl rfl rfl ⟨_, _, _, rfl, hI, hX, ⟨_, rfl, (by decide : (0:Int) ≤ (0:Int32).toInt), (Int.le_trans (by decide : (0:Int32).toInt ≤ (0:Int)) (by decide : (0:Int) ≤ 1))⟩⟩
            · have l93 : 0 ≤ (gi46 a38 8).toInt := t_lel (t_nlt h88) (by decide : (0:Int) ≤ (0:Int32).toInt)
              refine ev_loc f_X9_takeNumber (nx := 23) rfl rfl rfl rfl ?_
              refine ev_gvI f_X9_takeNumber (nx := 26) (w := (gi46 a38 8)) rfl p38.1 rfl rfl ((by rw [e84]; exact x_up2_off (Or.inr (by decide)) : g84 a38 8 = g82 a38 8).trans ((by rw [e82]; exact x_up2_off (Or.inl (t_noobj s6_48 p38.1)) : g82 a38 8 = g81 a38 8).trans ((by rw [e81]; exact x_up2_off (Or.inl (t_noobj s5_48 p38.1)) : g81 a38 8 = g80 a38 8).trans ((by rw [e80]; exact x_up2_off (Or.inl (t_noobj s4_48 p38.1)) : g80 a38 8 = gi46 a38 8).trans rfl)))) rfl ?_
              refine ev_loc f_X9_takeNumber (nx := 27) rfl rfl rfl rfl ?_
              refine ev_if f_X9_takeNumber (t1 := 36) (t2 := 30) rfl rfl rfl (fun h94 => ?_) (fun h94 => ?_)
              · have u95 : (gi46 a38 8).toInt ≤ 300 := t_leu h94 (by decide : (300:Int32).toInt ≤ (300:Int))
                refine ev_loc f_X9_takeNumber (nx := 37) rfl rfl rfl rfl ?_
                refine ev_c0 f_X9_takeNumber (nx := 40) (r := []) rfl rfl rfl rfl rfl rfl rfl (c_step hI (a38) p38) rfl hX rfl (fun gi96 gl96 gr96 hI hX hC96 => ?_)
                replace p_a0 := p_a0.ext hC96.2
                replace p38 := p38.ext hC96.2
                replace p47 := p47.ext hC96.2
                refine ev_ic f_X9_takeNumber (nx := 41) (v := 1) rfl (by decide) rfl ?_
                refine ev_retK1 f_X9_takeNumber rfl rfl rfl ?_
                exact ev_ret f_X8_readCase rfl rfl rfl ⟨_, _, _, rfl, hI, hX, ⟨_, rfl, (Int.le_trans (by decide : (0:Int) ≤ 1) (by decide : (1:Int) ≤ (1:Int32).toInt)), (by decide : (1:Int32).toInt ≤ (1:Int))⟩⟩
              · have l97 : 301 ≤ (gi46 a38 8).toInt := t_ltl (t_nle h94) (by decide : (300:Int) ≤ (300:Int32).toInt) rfl
                refine ev_loc f_X9_takeNumber (nx := 31) rfl rfl rfl rfl ?_
                refine ev_ic f_X9_takeNumber (nx := 32) (v := 4) rfl (by decide) rfl ?_
                refine ev_inV2 f_X9_takeNumber (nx := 35) (lo2 := [(0, .ref a38), (1, .int 4)]) rfl rfl rfl rfl f_X9_refuseToken p38.1 rfl rfl rfl rfl rfl ?_
                refine ev_loc f_X9_refuseToken (nx := 1) rfl rfl rfl rfl ?_
                refine ev_loc f_X9_refuseToken (nx := 2) rfl rfl rfl rfl ?_
                refine ev_gvI f_X9_refuseToken (nx := 5) (w := (g84 a38 3)) rfl p38.1 rfl rfl rfl rfl ?_
                refine ev_ic f_X9_refuseToken (nx := 6) (v := 4) rfl (by decide) rfl ?_
                refine ev_f f_X9_refuseToken (t1 := 9) (t2 := 13) rfl rfl rfl (t_neT u86 (by decide : (4:Int) ≤ (4:Int32).toInt) (by decide)) ?_
                refine ev_loc f_X9_refuseToken (nx := 14) rfl rfl rfl rfl ?_
                refine ev_putIT f_X9_refuseToken (nx := 17) rfl p38.1 rfl rfl rfl (hI.put0 p38.1 rfl rfl) (hX.upI (t_inO hI.wf p38.1 (t_outO hI.wf p38.1 rfl) rfl)) (fun g98 e98 hI hX => ?_)
                refine ev_loc f_X9_refuseToken (nx := 18) rfl rfl rfl rfl ?_
                refine ev_loc f_X9_refuseToken (nx := 19) rfl rfl rfl rfl ?_
                refine ev_getI f_X9_refuseToken (nx := 22) rfl p38.1 rfl rfl rfl ?_
                obtain ⟨l99, u99⟩ := hI.b p38.1 (t_bdK rfl : t_bd 8 4 = some (0, 900))
                refine ev_putIT f_X9_refuseToken (nx := 25) rfl p38.1 rfl rfl rfl (hI.put0 p38.1 rfl rfl) (hX.upI (t_inO hI.wf p38.1 (t_outO hI.wf p38.1 rfl) rfl)) (fun g100 e100 hI hX => ?_)
                refine ev_ic f_X9_refuseToken (nx := 26) (v := 0) rfl (by decide) rfl ?_
                refine ev_retK1 f_X9_refuseToken rfl rfl rfl ?_
                refine ev_retK1 f_X9_takeNumber rfl rfl rfl ?_
                exact ev_ret f_X8_readCase rfl rfl rfl ⟨_, _, _, rfl, hI, hX, ⟨_, rfl, (by decide : (0:Int) ≤ (0:Int32).toInt), (Int.le_trans (by decide : (0:Int32).toInt ≤ (0:Int)) (by decide : (0:Int) ≤ 1))⟩⟩
          · refine ev_loc f_X9_takeNumber (nx := 9) rfl rfl rfl rfl ?_
            refine ev_ic f_X9_takeNumber (nx := 10) (v := 2) rfl (by decide) rfl ?_
            refine ev_inV2 f_X9_takeNumber (nx := 13) (lo2 := [(0, .ref a38), (1, .int 2)]) rfl rfl rfl rfl f_X9_refuseToken p38.1 rfl rfl rfl rfl rfl ?_
            refine ev_loc f_X9_refuseToken (nx := 1) rfl rfl rfl rfl ?_
            refine ev_loc f_X9_refuseToken (nx := 2) rfl rfl rfl rfl ?_
            refine ev_gvI f_X9_refuseToken (nx := 5) (w := (g84 a38 3)) rfl p38.1 rfl rfl rfl rfl ?_
            refine ev_ic f_X9_refuseToken (nx := 6) (v := 4) rfl (by decide) rfl ?_
            refine ev_if f_X9_refuseToken (t1 := 9) (t2 := 13) rfl rfl rfl (fun h101 => ?_) (fun h101 => ?_)
            · have u102 : (g84 a38 3).toInt ≤ 4 := t_equ h101 (by decide : (4:Int32).toInt ≤ (4:Int))
              have l103 : 4 ≤ (g84 a38 3).toInt := t_eql h101 (by decide : (4:Int) ≤ (4:Int32).toInt)
              refine ev_ic f_X9_refuseToken (nx := 10) (v := 1) rfl (by decide) rfl ?_
              refine ev_jmp f_X9_refuseToken (nx := 14) rfl rfl rfl ?_
              refine ev_putIT f_X9_refuseToken (nx := 17) rfl p38.1 rfl rfl rfl (hI.put0 p38.1 rfl rfl) (hX.upI (t_inO hI.wf p38.1 (t_outO hI.wf p38.1 rfl) rfl)) (fun g104 e104 hI hX => ?_)
              refine ev_loc f_X9_refuseToken (nx := 18) rfl rfl rfl rfl ?_
              refine ev_loc f_X9_refuseToken (nx := 19) rfl rfl rfl rfl ?_
              refine ev_getI f_X9_refuseToken (nx := 22) rfl p38.1 rfl rfl rfl ?_
              obtain ⟨l105, u105⟩ := hI.b p38.1 (t_bdK rfl : t_bd 8 4 = some (0, 900))
              refine ev_putIT f_X9_refuseToken (nx := 25) rfl p38.1 rfl rfl rfl (hI.put0 p38.1 rfl rfl) (hX.upI (t_inO hI.wf p38.1 (t_outO hI.wf p38.1 rfl) rfl)) (fun g106 e106 hI hX => ?_)
              refine ev_ic f_X9_refuseToken (nx := 26) (v := 0) rfl (by decide) rfl ?_
              refine ev_retK1 f_X9_refuseToken rfl rfl rfl ?_
              refine ev_retK1 f_X9_takeNumber rfl rfl rfl ?_
              exact ev_ret f_X8_readCase rfl rfl rfl ⟨_, _, _, rfl, hI, hX, ⟨_, rfl, (by decide : (0:Int) ≤ (0:Int32).toInt), (Int.le_trans (by decide : (0:Int32).toInt ≤ (0:Int)) (by decide : (0:Int) ≤ 1))⟩⟩
            · refine ev_loc f_X9_refuseToken (nx := 14) rfl rfl rfl rfl ?_
              refine ev_putIT f_X9_refuseToken (nx := 17) rfl p38.1 rfl rfl rfl (hI.put0 p38.1 rfl rfl) (hX.upI (t_inO hI.wf p38.1 (t_outO hI.wf p38.1 rfl) rfl)) (fun g107 e107 hI hX => ?_)
              refine ev_loc f_X9_refuseToken (nx := 18) rfl rfl rfl rfl ?_
              refine ev_loc f_X9_refuseToken (nx := 19) rfl rfl rfl rfl ?_
              refine ev_getI f_X9_refuseToken (nx := 22) rfl p38.1 rfl rfl rfl ?_
              obtain ⟨l108, u108⟩ := hI.b p38.1 (t_bdK rfl : t_bd 8 4 = some (0, 900))
              refine ev_putIT f_X9_refuseToken (nx := 25) rfl p38.1 rfl rfl rfl (hI.put0 p38.1 rfl rfl) (hX.upI (t_inO hI.wf p38.1 (t_outO hI.wf p38.1 rfl) rfl)) (fun g109 e109 hI hX => ?_)
              refine ev_ic f_X9_refuseToken (nx := 26) (v := 0) rfl (by decide) rfl ?_
              refine ev_retK1 f_X9_refuseToken rfl rfl rfl ?_
              refine ev_retK1 f_X9_takeNumber rfl rfl rfl ?_
              exact ev_ret f_X8_readCase rfl rfl rfl ⟨_, _, _, rfl, hI, hX, ⟨_, rfl, (by decide : (0:Int) ≤ (0:Int32).toInt), (Int.le_trans (by decide : (0:Int32).toInt ≤ (0:Int)) (by decide : (0:Int) ≤ 1))⟩⟩
      · refine ev_ic f_X9_isSignOf (nx := 21) (v := 0) rfl (by decide) rfl ?_
        refine ev_retK1 f_X9_isSignOf rfl rfl rfl ?_
        refine ev_t f_X8_comparesTold (t1 := 14) (t2 := 12) rfl rfl rfl (by decide) ?_
        refine ev_loc f_X8_comparesTold (nx := 15) rfl rfl rfl rfl ?_
        refine ev_getR f_X8_comparesTold (nx := 18) (v := .ref a38) rfl p_a0.1 rfl rfl ((hC39.1 ar0 0 (t_ninO hI.wf p_a0.1 (t_outO hI.wf p_a0.1 rfl) rfl)).2.2.trans e38) rfl rfl ?_
        refine ev_bp f_X8_comparesTold (nx := 20) (v := 62) rfl (by decide) rfl ?_
        refine ev_inV2 f_X8_comparesTold (nx := 23) (lo2 := [(0, .ref a38), (1, .int 62)]) rfl rfl rfl rfl f_X9_isSignOf p38.1 rfl rfl rfl rfl rfl ?_
        refine ev_loc f_X9_isSignOf (nx := 1) rfl rfl rfl rfl ?_
        refine ev_gvI f_X9_isSignOf (nx := 4) (w := (gi39 a38 3)) rfl p38.1 rfl rfl rfl rfl ?_
        refine ev_ic f_X9_isSignOf (nx := 5) (v := 2) rfl (by decide) rfl ?_
        refine ev_t f_X9_isSignOf (t1 := 8) (t2 := 20) rfl rfl rfl (t_eqT u41 l42 (by decide : (2:Int32).toInt ≤ (2:Int)) (by decide : (2:Int) ≤ (2:Int32).toInt)) ?_
        refine ev_loc f_X9_isSignOf (nx := 9) rfl rfl rfl rfl ?_
        refine ev_gvI f_X9_isSignOf (nx := 12) (w := (gi39 a38 9)) rfl p38.1 rfl rfl rfl rfl ?_
        refine ev_loc f_X9_isSignOf (nx := 13) rfl rfl rfl rfl ?_
        refine ev_if f_X9_isSignOf (t1 := 16) (t2 := 20) rfl rfl rfl (fun h110 => ?_) (fun h110 => ?_)
        · have u111 : (gi39 a38 9).toInt ≤ 62 := t_equ h110 (by decide : (62:Int32).toInt ≤ (62:Int))
          have l112 : 62 ≤ (gi39 a38 9).toInt := t_eql h110 (by decide : (62:Int) ≤ (62:Int32).toInt)
          refine ev_ic f_X9_isSignOf (nx := 17) (v := 1) rfl (by decide) rfl ?_
          refine ev_jmp f_X9_isSignOf (nx := 21) rfl rfl rfl ?_
          refine ev_retK1 f_X9_isSignOf rfl rfl rfl ?_
          refine ev_f f_X8_comparesTold (t1 := 28) (t2 := 26) rfl rfl rfl (by decide) ?_
          refine ev_ic f_X8_comparesTold (nx := 27) (v := 1) rfl (by decide) rfl ?_
          refine ev_retK1 f_X8_comparesTold rfl rfl rfl ?_
          refine ev_loc f_X8_readCase (nx := 62) (lo' := [(2, .int 1), (0, .ref ar0), (1, .int ar1)]) rfl rfl rfl rfl ?_
          refine ev_loc f_X8_readCase (nx := 63) rfl rfl rfl rfl ?_
          refine ev_ic f_X8_readCase (nx := 64) (v := -1) rfl (by decide) rfl ?_
          refine ev_f f_X8_readCase (t1 := 67) (t2 := 76) rfl rfl rfl (by decide) ?_
          refine ev_loc f_X8_readCase (nx := 77) rfl rfl rfl rfl ?_
          refine ev_getR f_X8_readCase (nx := 80) (v := .ref a38) rfl p_a0.1 rfl rfl ((hC39.1 ar0 0 (t_ninO hI.wf p_a0.1 (t_outO hI.wf p_a0.1 rfl) rfl)).2.2.trans e38) rfl rfl ?_
          refine ev_c0 f_X8_readCase (nx := 83) (r := []) rfl rfl rfl rfl rfl rfl rfl (c_step hI (a38) p38) rfl hX rfl (fun gi113 gl113 gr113 hI hX hC113 => ?_)
          replace p_a0 := p_a0.ext hC113.2
          replace p38 := p38.ext hC113.2
          refine ev_loc f_X8_readCase (nx := 84) rfl rfl rfl rfl ?_
          obtain ⟨a114, e114, p114⟩ := p_a0.2.2
          refine ev_getR f_X8_readCase (nx := 87) rfl p_a0.1 rfl rfl e114 rfl rfl ?_
          refine ev_loc f_X8_readCase (nx := 88) rfl rfl rfl rfl ?_
          refine ev_loc f_X8_readCase (nx := 89) rfl rfl rfl rfl ?_
          refine ev_loc f_X8_readCase (nx := 90) rfl rfl rfl rfl ?_
          refine ev_getR f_X8_readCase (nx := 93) (v := .ref a38) rfl p_a0.1 rfl rfl ((hC113.1 ar0 0 (t_ninO hI.wf p_a0.1 (t_outO hI.wf p_a0.1 rfl) rfl)).2.2.trans ((hC39.1 ar0 0 (t_ninO hI.wf p_a0.1 (t_outO hI.wf p_a0.1 rfl) rfl)).2.2.trans e38)) rfl rfl ?_
          refine ev_getI f_X8_readCase (nx := 96) rfl p38.1 rfl rfl rfl ?_
          refine ev_inV4 f_X8_readCase (nx := 99) (lo2 := [(0, .ref a114), (1, .int 1), (2, .int ar1), (3, .int (gi113 a38 8))]) rfl rfl rfl rfl f_X7_addStep p114.1 rfl rfl rfl rfl rfl ?_
          refine ev_loc f_X7_addStep (nx := 1) rfl rfl rfl rfl ?_
          obtain ⟨hk115, d115, r1_115, r2_115, s1_115, s2_115, n115, hn115, r4_115, r5_115, r6_115, s4_115, s5_115, s6_115⟩ := id p114
          have q116 := hI.2.2.2.2.1 a114 n115 p114 s4_115
          refine ev_getI f_X7_addStep (nx := 4) rfl p114.1 rfl rfl rfl ?_
          obtain ⟨l117, u117⟩ := hI.b p114.1 (t_bdK rfl : t_bd 6 3 = some (0, 300))
          refine ev_loc f_X7_addStep (nx := 5) rfl rfl rfl rfl ?_
          refine ev_getR f_X7_addStep (nx := 8) (v := .ref (a114 + 3)) rfl p114.1 rfl rfl r4_115 rfl rfl ?_
          obtain ⟨l118, u118⟩ := t_lenb hn115
          refine ev_alen f_X7_addStep (nx := 9) rfl s4_115 rfl rfl ?_
          refine ev_if f_X7_addStep (t1 := 52) (t2 := 12) rfl rfl rfl (fun h119 => ?_) (fun h119 => ?_)
          · refine ev_retK0 f_X7_addStep rfl rfl rfl ?_
            refine ev_loc f_X8_readCase (nx := 100) rfl rfl rfl rfl ?_
            refine ev_getR f_X8_readCase (nx := 103) (v := .ref a38) rfl p_a0.1 rfl rfl ((hC113.1 ar0 0 (t_ninO hI.wf p_a0.1 (t_outO hI.wf p_a0.1 rfl) rfl)).2.2.trans ((hC39.1 ar0 0 (t_ninO hI.wf p_a0.1 (t_outO hI.wf p_a0.1 rfl) rfl)).2.2.trans e38)) rfl rfl ?_
            refine ev_ic f_X8_readCase (nx := 104) (v := 0) rfl (by decide) rfl ?_
            refine ev_sp f_X8_readCase (nx := 107) (v := 300) rfl (by decide) rfl ?_
            refine ev_inV3 f_X8_readCase (nx := 110) (lo2 := [(0, .ref a38), (1, .int 0), (2, .int 300)]) rfl rfl rfl rfl f_X9_takeNumber p38.1 rfl rfl rfl rfl rfl ?_
            refine ev_loc f_X9_takeNumber (nx := 1) rfl rfl rfl rfl ?_
            refine ev_getI f_X9_takeNumber (nx := 4) rfl p38.1 rfl rfl rfl ?_
            refine ev_ic f_X9_takeNumber (nx := 5) (v := 1) rfl (by decide) rfl ?_
            refine ev_if f_X9_takeNumber (t1 := 14) (t2 := 8) rfl rfl rfl (fun h120 => ?_) (fun h120 => ?_)
            · have u121 : (gi113 a38 3).toInt ≤ 1 := t_equ h120 (by decide : (1:Int32).toInt ≤ (1:Int))
              have l122 : 1 ≤ (gi113 a38 3).toInt := t_eql h120 (by decide : (1:Int) ≤ (1:Int32).toInt)
              refine ev_loc f_X9_takeNumber (nx := 15) rfl rfl rfl rfl ?_
              refine ev_gvI f_X9_takeNumber (nx := 18) (w := (gi113 a38 8)) rfl p38.1 rfl rfl rfl rfl ?_
              refine ev_loc f_X9_takeNumber (nx := 19) rfl rfl rfl rfl ?_
              refine ev_if f_X9_takeNumber (t1 := 30) (t2 := 22) rfl rfl rfl (fun h123 => ?_) (fun h123 => ?_)
              · have u124 : (gi113 a38 8).toInt ≤ (-1) := t_ltu h123 (by decide : (0:Int32).toInt ≤ (0:Int)) rfl
                refine ev_loc f_X9_takeNumber (nx := 31) rfl rfl rfl rfl ?_
                refine ev_ic f_X9_takeNumber (nx := 32) (v := 4) rfl (by decide) rfl ?_
                refine ev_inV2 f_X9_takeNumber (nx := 35) (lo2 := [(0, .ref a38), (1, .int 4)]) rfl rfl rfl rfl f_X9_refuseToken p38.1 rfl rfl rfl rfl rfl ?_
                refine ev_loc f_X9_refuseToken (nx := 1) rfl rfl rfl rfl ?_
                refine ev_loc f_X9_refuseToken (nx := 2) rfl rfl rfl rfl ?_
                refine ev_gvI f_X9_refuseToken (nx := 5) (w := (gi113 a38 3)) rfl p38.1 rfl rfl rfl rfl ?_
                refine ev_ic f_X9_refuseToken (nx := 6) (v := 4) rfl (by decide) rfl ?_
                refine ev_f f_X9_refuseToken (t1 := 9) (t2 := 13) rfl rfl rfl (t_neT u121 (by decide : (4:Int) ≤ (4:Int32).toInt) (by decide)) ?_
                refine ev_loc f_X9_refuseToken (nx := 14) rfl rfl rfl rfl ?_
                refine ev_putIT f_X9_refuseToken (nx := 17) rfl p38.1 rfl rfl rfl (hI.put0 p38.1 rfl rfl) (hX.upI (t_inO hI.wf p38.1 (t_outO hI.wf p38.1 rfl) rfl)) (fun g125 e125 hI hX => ?_)
                refine ev_loc f_X9_refuseToken (nx := 18) rfl rfl rfl rfl ?_
                refine ev_loc f_X9_refuseToken (nx := 19) rfl rfl rfl rfl ?_
                refine ev_getI f_X9_refuseToken (nx := 22) rfl p38.1 rfl rfl rfl ?_
                obtain ⟨l126, u126⟩ := hI.b p38.1 (t_bdK rfl : t_bd 8 4 = some (0, 900))
                refine ev_putIT f_X9_refuseToken (nx := 25) rfl p38.1 rfl rfl rfl (hI.put0 p38.1 rfl rfl) (hX.upI (t_inO hI.wf p38.1 (t_outO hI.wf p38.1 rfl) rfl)) (fun g127 e127 hI hX => ?_)
                refine ev_ic f_X9_refuseToken (nx := 26) (v := 0) rfl (by decide) rfl ?_
                refine ev_retK1 f_X9_refuseToken rfl rfl rfl ?_
                refine ev_retK1 f_X9_takeNumber rfl rfl rfl ?_
                exact ev_ret f_X8_readCase rfl rfl rfl ⟨_, _, _, rfl, hI, hX, ⟨_, rfl, (by decide : (0:Int) ≤ (0:Int32).toInt), (Int.le_trans (by decide : (0:Int32).toInt ≤ (0:Int)) (by decide : (0:Int) ≤ 1))⟩⟩
              · have l128 : 0 ≤ (gi113 a38 8).toInt := t_lel (t_nlt h123) (by decide : (0:Int) ≤ (0:Int32).toInt)
                refine ev_loc f_X9_takeNumber (nx := 23) rfl rfl rfl rfl ?_
                refine ev_gvI f_X9_takeNumber (nx := 26) (w := (gi113 a38 8)) rfl p38.1 rfl rfl rfl rfl ?_
                refine ev_loc f_X9_takeNumber (nx := 27) rfl rfl rfl rfl ?_
                refine ev_if f_X9_takeNumber (t1 := 36) (t2 := 30) rfl rfl rfl (fun h129 => ?_) (fun h129 => ?_)
                · have u130 : (gi113 a38 8).toInt ≤ 300 := t_leu h129 (by decide : (300:Int32).toInt ≤ (300:Int))
                  refine ev_loc f_X9_takeNumber (nx := 37) rfl rfl rfl rfl ?_
                  refine ev_c0 f_X9_takeNumber (nx := 40) (r := []) rfl rfl rfl rfl rfl rfl rfl (c_step hI (a38) p38) rfl hX rfl (fun gi131 gl131 gr131 hI hX hC131 => ?_)
                  replace p_a0 := p_a0.ext hC131.2
                  replace p38 := p38.ext hC131.2
                  replace p114 := p114.ext hC131.2
                  refine ev_ic f_X9_takeNumber (nx := 41) (v := 1) rfl (by decide) rfl ?_
                  refine ev_retK1 f_X9_takeNumber rfl rfl rfl ?_
                  exact ev_ret f_X8_readCase rfl rfl rfl ⟨_, _, _, rfl, hI, hX, ⟨_, rfl, (Int.le_trans (by decide : (0:Int) ≤ 1) (by decide : (1:Int) ≤ (1:Int32).toInt)), (by decide : (1:Int32).toInt ≤ (1:Int))⟩⟩
                · have l132 : 301 ≤ (gi113 a38 8).toInt := t_ltl (t_nle h129) (by decide : (300:Int) ≤ (300:Int32).toInt) rfl
                  refine ev_loc f_X9_takeNumber (nx := 31) rfl rfl rfl rfl ?_
                  refine ev_ic f_X9_takeNumber (nx := 32) (v := 4) rfl (by decide) rfl ?_
                  refine ev_inV2 f_X9_takeNumber (nx := 35) (lo2 := [(0, .ref a38), (1, .int 4)]) rfl rfl rfl rfl f_X9_refuseToken p38.1 rfl rfl rfl rfl rfl ?_
                  refine ev_loc f_X9_refuseToken (nx := 1) rfl rfl rfl rfl ?_
                  refine ev_loc f_X9_refuseToken (nx := 2) rfl rfl rfl rfl ?_
                  refine ev_gvI f_X9_refuseToken (nx := 5) (w := (gi113 a38 3)) rfl p38.1 rfl rfl rfl rfl ?_
                  refine ev_ic f_X9_refuseToken (nx := 6) (v := 4) rfl (by decide) rfl ?_
                  refine ev_f f_X9_refuseToken (t1 := 9) (t2 := 13) rfl rfl rfl (t_neT u121 (by decide : (4:Int) ≤ (4:Int32).toInt) (by decide)) ?_
                  refine ev_loc f_X9_refuseToken (nx := 14) rfl rfl rfl rfl ?_
                  refine ev_putIT f_X9_refuseToken (nx := 17) rfl p38.1 rfl rfl rfl (hI.put0 p38.1 rfl rfl) (hX.upI (t_inO hI.wf p38.1 (t_outO hI.wf p38.1 rfl) rfl)) (fun g133 e133 hI hX => ?_)
                  refine ev_loc f_X9_refuseToken (nx := 18) rfl rfl rfl rfl ?_
                  refine ev_loc f_X9_refuseToken (nx := 19) rfl rfl rfl rfl ?_
                  refine ev_getI f_X9_refuseToken (nx := 22) rfl p38.1 rfl rfl rfl ?_
                  obtain ⟨l134, u134⟩ := hI.b p38.1 (t_bdK rfl : t_bd 8 4 = some (0, 900))
                  refine ev_putIT f_X9_refuseToken (nx := 25) rfl p38.1 rfl rfl rfl (hI.put0 p38.1 rfl rfl) (hX.upI (t_inO hI.wf p38.1 (t_outO hI.wf p38.1 rfl) rfl)) (fun g135 e135 hI hX => ?_)
                  refine ev_ic f_X9_refuseToken (nx := 26) (v := 0) rfl (by decide) rfl ?_
                  refine ev_retK1 f_X9_refuseToken rfl rfl rfl ?_
                  refine ev_retK1 f_X9_takeNumber rfl rfl rfl ?_
                  exact ev_ret f_X8_readCase rfl rfl rfl ⟨_, _, _, rfl, hI, hX, ⟨_, rfl, (by decide : (0:Int) ≤ (0:Int32).toInt), (Int.le_trans (by decide : (0:Int32).toInt ≤ (0:Int)) (by decide : (0:Int) ≤ 1))⟩⟩
            · refine ev_loc f_X9_takeNumber (nx := 9) rfl rfl rfl rfl ?_
              refine ev_ic f_X9_takeNumber (nx := 10) (v := 2) rfl (by decide) rfl ?_
              refine ev_inV2 f_X9_takeNumber (nx := 13) (lo2 := [(0, .ref a38), (1, .int 2)]) rfl rfl rfl rfl f_X9_refuseToken p38.1 rfl rfl rfl rfl rfl ?_
              refine ev_loc f_X9_refuseToken (nx := 1) rfl rfl rfl rfl ?_
              refine ev_loc f_X9_refuseToken (nx := 2) rfl rfl rfl rfl ?_
              refine ev_gvI f_X9_refuseToken (nx := 5) (w := (gi113 a38 3)) rfl p38.1 rfl rfl rfl rfl ?_
              refine ev_ic f_X9_refuseToken (nx := 6) (v := 4) rfl (by decide) rfl ?_
              refine ev_if f_X9_refuseToken (t1 := 9) (t2 := 13) rfl rfl rfl (fun h136 => ?_) (fun h136 => ?_)
              · have u137 : (gi113 a38 3).toInt ≤ 4 := t_equ h136 (by decide : (4:Int32).toInt ≤ (4:Int))
                have l138 : 4 ≤ (gi113 a38 3).toInt := t_eql h136 (by decide : (4:Int) ≤ (4:Int32).toInt)
                refine ev_ic f_X9_refuseToken (nx := 10) (v := 1) rfl (by decide) rfl ?_
                refine ev_jmp f_X9_refuseToken (nx := 14) rfl rfl rfl ?_
                refine ev_putIT f_X9_refuseToken (nx := 17) rfl p38.1 rfl rfl rfl (hI.put0 p38.1 rfl rfl) (hX.upI (t_inO hI.wf p38.1 (t_outO hI.wf p38.1 rfl) rfl)) (fun g139 e139 hI hX => ?_)
                refine ev_loc f_X9_refuseToken (nx := 18) rfl rfl rfl rfl ?_
                refine ev_loc f_X9_refuseToken (nx := 19) rfl rfl rfl rfl ?_
                refine ev_getI f_X9_refuseToken (nx := 22) rfl p38.1 rfl rfl rfl ?_
                obtain ⟨l140, u140⟩ := hI.b p38.1 (t_bdK rfl : t_bd 8 4 = some (0, 900))
                refine ev_putIT f_X9_refuseToken (nx := 25) rfl p38.1 rfl rfl rfl (hI.put0 p38.1 rfl rfl) (hX.upI (t_inO hI.wf p38.1 (t_outO hI.wf p38.1 rfl) rfl)) (fun g141 e141 hI hX => ?_)
                refine ev_ic f_X9_refuseToken (nx := 26) (v := 0) rfl (by decide) rfl ?_
                refine ev_retK1 f_X9_refuseToken rfl rfl rfl ?_
                refine ev_retK1 f_X9_takeNumber rfl rfl rfl ?_
                exact ev_ret f_X8_readCase rfl rfl rfl ⟨_, _, _, rfl, hI, hX, ⟨_, rfl, (by decide : (0:Int) ≤ (0:Int32).toInt), (Int.le_trans (by decide : (0:Int32).toInt ≤ (0:Int)) (by decide : (0:Int) ≤ 1))⟩⟩
              · refine ev_loc f_X9_refuseToken (nx := 14) rfl rfl rfl rfl ?_
                refine ev_putIT f_X9_refuseToken (nx := 17) rfl p38.1 rfl rfl rfl (hI.put0 p38.1 rfl rfl) (hX.upI (t_inO hI.wf p38.1 (t_outO hI.wf p38.1 rfl) rfl)) (fun g142 e142 hI hX => ?_)
                refine ev_loc f_X9_refuseToken (nx := 18) rfl rfl rfl rfl ?_
                refine ev_loc f_X9_refuseToken (nx := 19) rfl rfl rfl rfl ?_
                refine ev_getI f_X9_refuseToken (nx := 22) rfl p38.1 rfl rfl rfl ?_
                obtain ⟨l143, u143⟩ := hI.b p38.1 (t_bdK rfl : t_bd 8 4 = some (0, 900))
                refine ev_putIT f_X9_refuseToken (nx := 25) rfl p38.1 rfl rfl rfl (hI.put0 p38.1 rfl rfl) (hX.upI (t_inO hI.wf p38.1 (t_outO hI.wf p38.1 rfl) rfl)) (fun g144 e144 hI hX => ?_)
                refine ev_ic f_X9_refuseToken (nx := 26) (v := 0) rfl (by decide) rfl ?_
                refine ev_retK1 f_X9_refuseToken rfl rfl rfl ?_
                refine ev_retK1 f_X9_takeNumber rfl rfl rfl ?_
                exact ev_ret f_X8_readCase rfl rfl rfl ⟨_, _, _, rfl, hI, hX, ⟨_, rfl, (by decide : (0:Int) ≤ (0:Int32).toInt), (Int.le_trans (by decide : (0:Int32).toInt ≤ (0:Int)) (by decide : (0:Int) ≤ 1))⟩⟩
          · have u145 : (gi113 a114 3).toInt ≤ 299 := t_ltu (t_nle h119) u118 rfl
            have l146 : 1 ≤ (Int32.ofNat n115).toInt := t_ltl (t_nle h119) l117 rfl
            refine ev_loc f_X7_addStep (nx := 13) rfl rfl rfl rfl ?_
            refine ev_getR f_X7_addStep (nx := 16) (v := .ref (a114 + 3)) rfl p114.1 rfl rfl r4_115 rfl rfl ?_
            refine ev_loc f_X7_addStep (nx := 17) rfl rfl rfl rfl ?_
            refine ev_gvI f_X7_addStep (nx := 20) (w := (gi113 a114 3)) rfl p114.1 rfl rfl rfl rfl ?_
            refine ev_loc f_X7_addStep (nx := 21) rfl rfl rfl rfl ?_
            refine ev_iastS f_X7_addStep (nx := 22) rfl s4_115 (t_ixs l117 (t_lenlt (t_nle h119) hn115)) rfl (hI.astD s4_115 (by omega) (fun k hk e => absurd e (t_Ru.ne p114 hk (by decide)))) (hX.upI (t_inOD s4_115 (by omega) rfl)) (fun g147 e147 hI hX => ?_)
            refine ev_loc f_X7_addStep (nx := 23) rfl rfl rfl rfl ?_
            refine ev_getR f_X7_addStep (nx := 26) (v := .ref (a114 + 4)) rfl p114.1 rfl rfl r5_115 rfl rfl ?_
            refine ev_loc f_X7_addStep (nx := 27) rfl rfl rfl rfl ?_
            refine ev_gvI f_X7_addStep (nx := 30) (w := (gi113 a114 3)) rfl p114.1 rfl rfl ((by rw [e147]; exact x_up2_off (Or.inl (t_noobj s4_115 p114.1)) : g147 a114 3 = gi113 a114 3).trans rfl) rfl ?_
            refine ev_loc f_X7_addStep (nx := 31) rfl rfl rfl rfl ?_
            refine ev_iastS f_X7_addStep (nx := 32) rfl s5_115 (t_ixs l117 (t_lenlt (t_nle h119) hn115)) rfl (hI.astD s5_115 (by omega) (fun k hk e => absurd e (t_Ru.ne p114 hk (by decide)))) (hX.upI (t_inOD s5_115 (by omega) rfl)) (fun g148 e148 hI hX => ?_)
            refine ev_loc f_X7_addStep (nx := 33) rfl rfl rfl rfl ?_
            refine ev_getR f_X7_addStep (nx := 36) (v := .ref (a114 + 5)) rfl p114.1 rfl rfl r6_115 rfl rfl ?_
            refine ev_loc f_X7_addStep (nx := 37) rfl rfl rfl rfl ?_
            refine ev_gvI f_X7_addStep (nx := 40) (w := (gi113 a114 3)) rfl p114.1 rfl rfl ((by rw [e148]; exact x_up2_off (Or.inl (t_noobj s5_115 p114.1)) : g148 a114 3 = g147 a114 3).trans ((by rw [e147]; exact x_up2_off (Or.inl (t_noobj s4_115 p114.1)) : g147 a114 3 = gi113 a114 3).trans rfl)) rfl ?_
            refine ev_loc f_X7_addStep (nx := 41) rfl rfl rfl rfl ?_
            refine ev_iastS f_X7_addStep (nx := 42) rfl s6_115 (t_ixs l117 (t_lenlt (t_nle h119) hn115)) rfl (hI.astD s6_115 (by omega) (fun k hk e => absurd e (t_Ru.ne p114 hk (by decide)))) (hX.upI (t_inOD s6_115 (by omega) rfl)) (fun g149 e149 hI hX => ?_)
            refine ev_loc f_X7_addStep (nx := 43) rfl rfl rfl rfl ?_
            refine ev_alu f_X7_addStep (nx := 44) rfl rfl rfl rfl ?_
            refine ev_gvI f_X7_addStep (nx := 47) (w := (gi113 a114 3)) rfl p114.1 rfl rfl ((by rw [e149]; exact x_up2_off (Or.inl (t_noobj s6_115 p114.1)) : g149 a114 3 = g148 a114 3).trans ((by rw [e148]; exact x_up2_off (Or.inl (t_noobj s5_115 p114.1)) : g148 a114 3 = g147 a114 3).trans ((by rw [e147]; exact x_up2_off (Or.inl (t_noobj s4_115 p114.1)) : g147 a114 3 = gi113 a114 3).trans rfl))) rfl ?_
            refine ev_ic f_X7_addStep (nx := 48) (v := 1) rfl (by decide) rfl ?_
            refine ev_addC f_X7_addStep (nx := 49) (c := 1) (l := 1) (u := 300) rfl (by decide) l117 u145 rfl rfl (by decide) (by decide) rfl (fun z150 e150 l150 u150 => ?_)
            have q151 := t_lenlt (t_nle h119) hn115
            refine ev_putIT f_X7_addStep (nx := 52) rfl p114.1 rfl rfl rfl (hI.putG p114.1 (fun lo hi e => by have e : some ((0 : Int), (300 : Int)) = some (lo, hi) := e; have := hn115; cases e; exact ⟨by omega, by omega⟩) (fun _ _ n2 hn2 => by rw [s4_115] at hn2; cases hn2; omega)) (hX.upI (t_inO hI.wf p114.1 (t_outO hI.wf p114.1 rfl) rfl)) (fun g151 e151 hI hX => ?_)
            refine ev_retK0 f_X7_addStep rfl rfl rfl ?_
            refine ev_loc f_X8_readCase (nx := 100) rfl rfl rfl rfl ?_
            refine ev_getR f_X8_readCase (nx := 103) (v := .ref a38) rfl p_a0.1 rfl rfl ((hC113.1 ar0 0 (t_ninO hI.wf p_a0.1 (t_outO hI.wf p_a0.1 rfl) rfl)).2.2.trans ((hC39.1 ar0 0 (t_ninO hI.wf p_a0.1 (t_outO hI.wf p_a0.1 rfl) rfl)).2.2.trans e38)) rfl rfl ?_
            refine ev_ic f_X8_readCase (nx := 104) (v := 0) rfl (by decide) rfl ?_
            refine ev_sp f_X8_readCase (nx := 107) (v := 300) rfl (by decide) rfl ?_
            refine ev_inV3 f_X8_readCase (nx := 110) (lo2 := [(0, .ref a38), (1, .int 0), (2, .int 300)]) rfl rfl rfl rfl f_X9_takeNumber p38.1 rfl rfl rfl rfl rfl ?_
            refine ev_loc f_X9_takeNumber (nx := 1) rfl rfl rfl rfl ?_
            refine ev_getI f_X9_takeNumber (nx := 4) rfl p38.1 rfl rfl rfl ?_
            refine ev_ic f_X9_takeNumber (nx := 5) (v := 1) rfl (by decide) rfl ?_
            refine ev_if f_X9_takeNumber (t1 := 14) (t2 := 8) rfl rfl rfl (fun h152 => ?_) (fun h152 => ?_)
            · have u153 : (g151 a38 3).toInt ≤ 1 := t_equ h152 (by decide : (1:Int32).toInt ≤ (1:Int))
              have l154 : 1 ≤ (g151 a38 3).toInt := t_eql h152 (by decide : (1:Int) ≤ (1:Int32).toInt)
              refine ev_loc f_X9_takeNumber (nx := 15) rfl rfl rfl rfl ?_
              refine ev_gvI f_X9_takeNumber (nx := 18) (w := (gi113 a38 8)) rfl p38.1 rfl rfl ((by rw [e151]; exact x_up2_off (Or.inr (by decide)) : g151 a38 8 = g149 a38 8).trans ((by rw [e149]; exact x_up2_off (Or.inl (t_noobj s6_115 p38.1)) : g149 a38 8 = g148 a38 8).trans ((by rw [e148]; exact x_up2_off (Or.inl (t_noobj s5_115 p38.1)) : g148 a38 8 = g147 a38 8).trans ((by rw [e147]; exact x_up2_off (Or.inl (t_noobj s4_115 p38.1)) : g147 a38 8 = gi113 a38 8).trans rfl)))) rfl ?_
              refine ev_loc f_X9_takeNumber (nx := 19) rfl rfl rfl rfl ?_
              refine ev_if f_X9_takeNumber (t1 := 30) (t2 := 22) rfl rfl rfl (fun h155 => ?_) (fun h155 => ?_)
              · have u156 : (gi113 a38 8).toInt ≤ (-1) := t_ltu h155 (by decide : (0:Int32).toInt ≤ (0:Int)) rfl
                refine ev_loc f_X9_takeNumber (nx := 31) rfl rfl rfl rfl ?_
                refine ev_ic f_X9_takeNumber (nx := 32) (v := 4) rfl (by decide) rfl ?_
                refine ev_inV2 f_X9_takeNumber (nx := 35) (lo2 := [(0, .ref a38), (1, .int 4)]) rfl rfl rfl rfl f_X9_refuseToken p38.1 rfl rfl rfl rfl rfl ?_
                refine ev_loc f_X9_refuseToken (nx := 1) rfl rfl rfl rfl ?_
                refine ev_loc f_X9_refuseToken (nx := 2) rfl rfl rfl rfl ?_
                refine ev_gvI f_X9_refuseToken (nx := 5) (w := (g151 a38 3)) rfl p38.1 rfl rfl rfl rfl ?_
                refine ev_ic f_X9_refuseToken (nx := 6) (v := 4) rfl (by decide) rfl ?_
                refine ev_f f_X9_refuseToken (t1 := 9) (t2 := 13) rfl rfl rfl (t_neT u153 (by decide : (4:Int) ≤ (4:Int32).toInt) (by decide)) ?_
                refine ev_loc f_X9_refuseToken (nx := 14) rfl rfl rfl rfl ?_
                refine ev_putIT f_X9_refuseToken (nx := 17) rfl p38.1 rfl rfl rfl (hI.put0 p38.1 rfl rfl) (hX.upI (t_inO hI.wf p38.1 (t_outO hI.wf p38.1 rfl) rfl)) (fun g157 e157 hI hX => ?_)
                refine ev_loc f_X9_refuseToken (nx := 18) rfl rfl rfl rfl ?_
                refine ev_loc f_X9_refuseToken (nx := 19) rfl rfl rfl rfl ?_
                refine ev_getI f_X9_refuseToken (nx := 22) rfl p38.1 rfl rfl rfl ?_
                obtain ⟨l158, u158⟩ := hI.b p38.1 (t_bdK rfl : t_bd 8 4 = some (0, 900))
                refine ev_putIT f_X9_refuseToken (nx := 25) rfl p38.1 rfl rfl rfl (hI.put0 p38.1 rfl rfl) (hX.upI (t_inO hI.wf p38.1 (t_outO hI.wf p38.1 rfl) rfl)) (fun g159 e159 hI hX => ?_)
                refine ev_ic f_X9_refuseToken (nx := 26) (v := 0) rfl (by decide) rfl ?_
                refine ev_retK1 f_X9_refuseToken rfl rfl rfl ?_
                refine ev_retK1 f_X9_takeNumber rfl rfl rfl ?_
                exact ev_ret f_X8_readCase rfl rfl rfl ⟨_, _, _, rfl, hI, hX, ⟨_, rfl, (by decide : (0:Int) ≤ (0:Int32).toInt), (Int.le_trans (by decide : (0:Int32).toInt ≤ (0:Int)) (by decide : (0:Int) ≤ 1))⟩⟩
              · have l160 : 0 ≤ (gi113 a38 8).toInt := t_lel (t_nlt h155) (by decide : (0:Int) ≤ (0:Int32).toInt)
                refine ev_loc f_X9_takeNumber (nx := 23) rfl rfl rfl rfl ?_
                refine ev_gvI f_X9_takeNumber (nx := 26) (w := (gi113 a38 8)) rfl p38.1 rfl rfl ((by rw [e151]; exact x_up2_off (Or.inr (by decide)) : g151 a38 8 = g149 a38 8).trans ((by rw [e149]; exact x_up2_off (Or.inl (t_noobj s6_115 p38.1)) : g149 a38 8 = g148 a38 8).trans ((by rw [e148]; exact x_up2_off (Or.inl (t_noobj s5_115 p38.1)) : g148 a38 8 = g147 a38 8).trans ((by rw [e147]; exact x_up2_off (Or.inl (t_noobj s4_115 p38.1)) : g147 a38 8 = gi113 a38 8).trans rfl)))) rfl ?_
                refine ev_loc f_X9_takeNumber (nx := 27) rfl rfl rfl rfl ?_
                refine ev_if f_X9_takeNumber (t1 := 36) (t2 := 30) rfl rfl rfl (fun h161 => ?_) (fun h161 => ?_)
                · have u162 : (gi113 a38 8).toInt ≤ 300 := t_leu h161 (by decide : (300:Int32).toInt ≤ (300:Int))
                  refine ev_loc f_X9_takeNumber (nx := 37) rfl rfl rfl rfl ?_
                  refine ev_c0 f_X9_takeNumber (nx := 40) (r := []) rfl rfl rfl rfl rfl rfl rfl (c_step hI (a38) p38) rfl hX rfl (fun gi163 gl163 gr163 hI hX hC163 => ?_)
                  replace p_a0 := p_a0.ext hC163.2
                  replace p38 := p38.ext hC163.2
                  replace p114 := p114.ext hC163.2
                  refine ev_ic f_X9_takeNumber (nx := 41) (v := 1) rfl (by decide) rfl ?_
                  refine ev_retK1 f_X9_takeNumber rfl rfl rfl ?_
                  exact ev_ret f_X8_readCase rfl rfl rfl ⟨_, _, _, rfl, hI, hX, ⟨_, rfl, (Int.le_trans (by decide : (0:Int) ≤ 1) (by decide : (1:Int) ≤ (1:Int32).toInt)), (by decide : (1:Int32).toInt ≤ (1:Int))⟩⟩
                · have l164 : 301 ≤ (gi113 a38 8).toInt := t_ltl (t_nle h161) (by decide : (300:Int) ≤ (300:Int32).toInt) rfl
                  refine ev_loc f_X9_takeNumber (nx := 31) rfl rfl rfl rfl ?_
                  refine ev_ic f_X9_takeNumber (nx := 32) (v := 4) rfl (by decide) rfl ?_
                  refine ev_inV2 f_X9_takeNumber (nx := 35) (lo2 := [(0, .ref a38), (1, .int 4)]) rfl rfl rfl rfl f_X9_refuseToken p38.1 rfl rfl rfl rfl rfl ?_
                  refine ev_loc f_X9_refuseToken (nx := 1) rfl rfl rfl rfl ?_
                  refine ev_loc f_X9_refuseToken (nx := 2) rfl rfl rfl rfl ?_
                  refine ev_gvI f_X9_refuseToken (nx := 5) (w := (g151 a38 3)) rfl p38.1 rfl rfl rfl rfl ?_
                  refine ev_ic f_X9_refuseToken (nx := 6) (v := 4) rfl (by decide) rfl ?_
                  refine ev_f f_X9_refuseToken (t1 := 9) (t2 := 13) rfl rfl rfl (t_neT u153 (by decide : (4:Int) ≤ (4:Int32).toInt) (by decide)) ?_
                  refine ev_loc f_X9_refuseToken (nx := 14) rfl rfl rfl rfl ?_
                  refine ev_putIT f_X9_refuseToken (nx := 17) rfl p38.1 rfl rfl rfl (hI.put0 p38.1 rfl rfl) (hX.upI (t_inO hI.wf p38.1 (t_outO hI.wf p38.1 rfl) rfl)) (fun g165 e165 hI hX => ?_)
                  refine ev_loc f_X9_refuseToken (nx := 18) rfl rfl rfl rfl ?_
                  refine ev_loc f_X9_refuseToken (nx := 19) rfl rfl rfl rfl ?_
                  refine ev_getI f_X9_refuseToken (nx := 22) rfl p38.1 rfl rfl rfl ?_
                  obtain ⟨l166, u166⟩ := hI.b p38.1 (t_bdK rfl : t_bd 8 4 = some (0, 900))
                  refine ev_putIT f_X9_refuseToken (nx := 25) rfl p38.1 rfl rfl rfl (hI.put0 p38.1 rfl rfl) (hX.upI (t_inO hI.wf p38.1 (t_outO hI.wf p38.1 rfl) rfl)) (fun g167 e167 hI hX => ?_)
                  refine ev_ic f_X9_refuseToken (nx := 26) (v := 0) rfl (by decide) rfl ?_
                  refine ev_retK1 f_X9_refuseToken rfl rfl rfl ?_
                  refine ev_retK1 f_X9_takeNumber rfl rfl rfl ?_
                  exact ev_ret f_X8_readCase rfl rfl rfl ⟨_, _, _, rfl, hI, hX, ⟨_, rfl, (by decide : (0:Int) ≤ (0:Int32).toInt), (Int.le_trans (by decide : (0:Int32).toInt ≤ (0:Int)) (by decide : (0:Int) ≤ 1))⟩⟩
            · refine ev_loc f_X9_takeNumber (nx := 9) rfl rfl rfl rfl ?_
              refine ev_ic f_X9_takeNumber (nx := 10) (v := 2) rfl (by decide) rfl ?_
              refine ev_inV2 f_X9_takeNumber (nx := 13) (lo2 := [(0, .ref a38), (1, .int 2)]) rfl rfl rfl rfl f_X9_refuseToken p38.1 rfl rfl rfl rfl rfl ?_
              refine ev_loc f_X9_refuseToken (nx := 1) rfl rfl rfl rfl ?_
              refine ev_loc f_X9_refuseToken (nx := 2) rfl rfl rfl rfl ?_
              refine ev_gvI f_X9_refuseToken (nx := 5) (w := (g151 a38 3)) rfl p38.1 rfl rfl rfl rfl ?_
              refine ev_ic f_X9_refuseToken (nx := 6) (v := 4) rfl (by decide) rfl ?_
              refine ev_if f_X9_refuseToken (t1 := 9) (t2 := 13) rfl rfl rfl (fun h168 => ?_) (fun h168 => ?_)
              · have u169 : (g151 a38 3).toInt ≤ 4 := t_equ h168 (by decide : (4:Int32).toInt ≤ (4:Int))
                have l170 : 4 ≤ (g151 a38 3).toInt := t_eql h168 (by decide : (4:Int) ≤ (4:Int32).toInt)
                refine ev_ic f_X9_refuseToken (nx := 10) (v := 1) rfl (by decide) rfl ?_
                refine ev_jmp f_X9_refuseToken (nx := 14) rfl rfl rfl ?_
                refine ev_putIT f_X9_refuseToken (nx := 17) rfl p38.1 rfl rfl rfl (hI.put0 p38.1 rfl rfl) (hX.upI (t_inO hI.wf p38.1 (t_outO hI.wf p38.1 rfl) rfl)) (fun g171 e171 hI hX => ?_)
                refine ev_loc f_X9_refuseToken (nx := 18) rfl rfl rfl rfl ?_
                refine ev_loc f_X9_refuseToken (nx := 19) rfl rfl rfl rfl ?_
                refine ev_getI f_X9_refuseToken (nx := 22) rfl p38.1 rfl rfl rfl ?_
                obtain ⟨l172, u172⟩ := hI.b p38.1 (t_bdK rfl : t_bd 8 4 = some (0, 900))
                refine ev_putIT f_X9_refuseToken (nx := 25) rfl p38.1 rfl rfl rfl (hI.put0 p38.1 rfl rfl) (hX.upI (t_inO hI.wf p38.1 (t_outO hI.wf p38.1 rfl) rfl)) (fun g173 e173 hI hX => ?_)
                refine ev_ic f_X9_refuseToken (nx := 26) (v := 0) rfl (by decide) rfl ?_
                refine ev_retK1 f_X9_refuseToken rfl rfl rfl ?_
                refine ev_retK1 f_X9_takeNumber rfl rfl rfl ?_
                exact ev_ret f_X8_readCase rfl rfl rfl ⟨_, _, _, rfl, hI, hX, ⟨_, rfl, (by decide : (0:Int) ≤ (0:Int32).toInt), (Int.le_trans (by decide : (0:Int32).toInt ≤ (0:Int)) (by decide : (0:Int) ≤ 1))⟩⟩
              · refine ev_loc f_X9_refuseToken (nx := 14) rfl rfl rfl rfl ?_
                refine ev_putIT f_X9_refuseToken (nx := 17) rfl p38.1 rfl rfl rfl (hI.put0 p38.1 rfl rfl) (hX.upI (t_inO hI.wf p38.1 (t_outO hI.wf p38.1 rfl) rfl)) (fun g174 e174 hI hX => ?_)
                refine ev_loc f_X9_refuseToken (nx := 18) rfl rfl rfl rfl ?_
                refine ev_loc f_X9_refuseToken (nx := 19) rfl rfl rfl rfl ?_
                refine ev_getI f_X9_refuseToken (nx := 22) rfl p38.1 rfl rfl rfl ?_
                obtain ⟨l175, u175⟩ := hI.b p38.1 (t_bdK rfl : t_bd 8 4 = some (0, 900))
                refine ev_putIT f_X9_refuseToken (nx := 25) rfl p38.1 rfl rfl rfl (hI.put0 p38.1 rfl rfl) (hX.upI (t_inO hI.wf p38.1 (t_outO hI.wf p38.1 rfl) rfl)) (fun g176 e176 hI hX => ?_)
                refine ev_ic f_X9_refuseToken (nx := 26) (v := 0) rfl (by decide) rfl ?_
                refine ev_retK1 f_X9_refuseToken rfl rfl rfl ?_
                refine ev_retK1 f_X9_takeNumber rfl rfl rfl ?_
                exact ev_ret f_X8_readCase rfl rfl rfl ⟨_, _, _, rfl, hI, hX, ⟨_, rfl, (by decide : (0:Int) ≤ (0:Int32).toInt), (Int.le_trans (by decide : (0:Int32).toInt ≤ (0:Int)) (by decide : (0:Int) ≤ 1))⟩⟩
        · refine ev_ic f_X9_isSignOf (nx := 21) (v := 0) rfl (by decide) rfl ?_
          refine ev_retK1 f_X9_isSignOf rfl rfl rfl ?_
          refine ev_t f_X8_comparesTold (t1 := 28) (t2 := 26) rfl rfl rfl (by decide) ?_
          refine ev_loc f_X8_comparesTold (nx := 29) rfl rfl rfl rfl ?_
          refine ev_getR f_X8_comparesTold (nx := 32) (v := .ref a38) rfl p_a0.1 rfl rfl ((hC39.1 ar0 0 (t_ninO hI.wf p_a0.1 (t_outO hI.wf p_a0.1 rfl) rfl)).2.2.trans e38) rfl rfl ?_
          refine ev_bp f_X8_comparesTold (nx := 34) (v := 61) rfl (by decide) rfl ?_
          refine ev_inV2 f_X8_comparesTold (nx := 37) (lo2 := [(0, .ref a38), (1, .int 61)]) rfl rfl rfl rfl f_X9_isSignOf p38.1 rfl rfl rfl rfl rfl ?_
          refine ev_loc f_X9_isSignOf (nx := 1) rfl rfl rfl rfl ?_
          refine ev_gvI f_X9_isSignOf (nx := 4) (w := (gi39 a38 3)) rfl p38.1 rfl rfl rfl rfl ?_
          refine ev_ic f_X9_isSignOf (nx := 5) (v := 2) rfl (by decide) rfl ?_
          refine ev_t f_X9_isSignOf (t1 := 8) (t2 := 20) rfl rfl rfl (t_eqT u41 l42 (by decide : (2:Int32).toInt ≤ (2:Int)) (by decide : (2:Int) ≤ (2:Int32).toInt)) ?_
          refine ev_loc f_X9_isSignOf (nx := 9) rfl rfl rfl rfl ?_
          refine ev_gvI f_X9_isSignOf (nx := 12) (w := (gi39 a38 9)) rfl p38.1 rfl rfl rfl rfl ?_
          refine ev_loc f_X9_isSignOf (nx := 13) rfl rfl rfl rfl ?_
          refine ev_if f_X9_isSignOf (t1 := 16) (t2 := 20) rfl rfl rfl (fun h177 => ?_) (fun h177 => ?_)
          · have u178 : (gi39 a38 9).toInt ≤ 61 := t_equ h177 (by decide : (61:Int32).toInt ≤ (61:Int))
            have l179 : 61 ≤ (gi39 a38 9).toInt := t_eql h177 (by decide : (61:Int) ≤ (61:Int32).toInt)
            refine ev_ic f_X9_isSignOf (nx := 17) (v := 1) rfl (by decide) rfl ?_
            refine ev_jmp f_X9_isSignOf (nx := 21) rfl rfl rfl ?_
            refine ev_retK1 f_X9_isSignOf rfl rfl rfl ?_
            refine ev_f f_X8_comparesTold (t1 := 44) (t2 := 40) rfl rfl rfl (by decide) ?_
            refine ev_ic f_X8_comparesTold (nx := 41) (v := 2) rfl (by decide) rfl ?_
            refine ev_jmp f_X8_comparesTold (nx := 45) rfl rfl rfl ?_
            refine ev_retK1 f_X8_comparesTold rfl rfl rfl ?_
            refine ev_loc f_X8_readCase (nx := 62) (lo' := [(2, .int 2), (0, .ref ar0), (1, .int ar1)]) rfl rfl rfl rfl ?_
            refine ev_loc f_X8_readCase (nx := 63) rfl rfl rfl rfl ?_
            refine ev_ic f_X8_readCase (nx := 64) (v := -1) rfl (by decide) rfl ?_
            refine ev_f f_X8_readCase (t1 := 67) (t2 := 76) rfl rfl rfl (by decide) ?_
            refine ev_loc f_X8_readCase (nx := 77) rfl rfl rfl rfl ?_
            refine ev_getR f_X8_readCase (nx := 80) (v := .ref a38) rfl p_a0.1 rfl rfl ((hC39.1 ar0 0 (t_ninO hI.wf p_a0.1 (t_outO hI.wf p_a0.1 rfl) rfl)).2.2.trans e38) rfl rfl ?_
            refine ev_c0 f_X8_readCase (nx := 83) (r := []) rfl rfl rfl rfl rfl rfl rfl (c_step hI (a38) p38) rfl hX rfl (fun gi180 gl180 gr180 hI hX hC180 => ?_)
            replace p_a0 := p_a0.ext hC180.2
            replace p38 := p38.ext hC180.2
            refine ev_loc f_X8_readCase (nx := 84) rfl rfl rfl rfl ?_
            obtain ⟨a181, e181, p181⟩ := p_a0.2.2
            refine ev_getR f_X8_readCase (nx := 87) rfl p_a0.1 rfl rfl e181 rfl rfl ?_
            refine ev_loc f_X8_readCase (nx := 88) rfl rfl rfl rfl ?_
            refine ev_loc f_X8_readCase (nx := 89) rfl rfl rfl rfl ?_
            refine ev_loc f_X8_readCase (nx := 90) rfl rfl rfl rfl ?_
            refine ev_getR f_X8_readCase (nx := 93) (v := .ref a38) rfl p_a0.1 rfl rfl ((hC180.1 ar0 0 (t_ninO hI.wf p_a0.1 (t_outO hI.wf p_a0.1 rfl) rfl)).2.2.trans ((hC39.1 ar0 0 (t_ninO hI.wf p_a0.1 (t_outO hI.wf p_a0.1 rfl) rfl)).2.2.trans e38)) rfl rfl ?_
            refine ev_getI f_X8_readCase (nx := 96) rfl p38.1 rfl rfl rfl ?_
            refine ev_inV4 f_X8_readCase (nx := 99) (lo2 := [(0, .ref a181), (1, .int 2), (2, .int ar1), (3, .int (gi180 a38 8))]) rfl rfl rfl rfl f_X7_addStep p181.1 rfl rfl rfl rfl rfl ?_
            refine ev_loc f_X7_addStep (nx := 1) rfl rfl rfl rfl ?_
            obtain ⟨hk182, d182, r1_182, r2_182, s1_182, s2_182, n182, hn182, r4_182, r5_182, r6_182, s4_182, s5_182, s6_182⟩ := id p181
            have q183 := hI.2.2.2.2.1 a181 n182 p181 s4_182
            refine ev_getI f_X7_addStep (nx := 4) rfl p181.1 rfl rfl rfl ?_
            obtain ⟨l184, u184⟩ := hI.b p181.1 (t_bdK rfl : t_bd 6 3 = some (0, 300))
            refine ev_loc f_X7_addStep (nx := 5) rfl rfl rfl rfl ?_
            refine ev_getR f_X7_addStep (nx := 8) (v := .ref (a181 + 3)) rfl p181.1 rfl rfl r4_182 rfl rfl ?_
            obtain ⟨l185, u185⟩ := t_lenb hn182
            refine ev_alen f_X7_addStep (nx := 9) rfl s4_182 rfl rfl ?_
            refine ev_if f_X7_addStep (t1 := 52) (t2 := 12) rfl rfl rfl (fun h186 => ?_) (fun h186 => ?_)
            · refine ev_retK0 f_X7_addStep rfl rfl rfl ?_
              refine ev_loc f_X8_readCase (nx := 100) rfl rfl rfl rfl ?_
              refine ev_getR f_X8_readCase (nx := 103) (v := .ref a38) rfl p_a0.1 rfl rfl ((hC180.1 ar0 0 (t_ninO hI.wf p_a0.1 (t_outO hI.wf p_a0.1 rfl) rfl)).2.2.trans ((hC39.1 ar0 0 (t_ninO hI.wf p_a0.1 (t_outO hI.wf p_a0.1 rfl) rfl)).2.2.trans e38)) rfl rfl ?_
              refine ev_ic f_X8_readCase (nx := 104) (v := 0) rfl (by decide) rfl ?_
              refine ev_sp f_X8_readCase (nx := 107) (v := 300) rfl (by decide) rfl ?_
              refine ev_inV3 f_X8_readCase (nx := 110) (lo2 := [(0, .ref a38), (1, .int 0), (2, .int 300)]) rfl rfl rfl rfl f_X9_takeNumber p38.1 rfl rfl rfl rfl rfl ?_
              refine ev_loc f_X9_takeNumber (nx := 1) rfl rfl rfl rfl ?_
              refine ev_getI f_X9_takeNumber (nx := 4) rfl p38.1 rfl rfl rfl ?_
              refine ev_ic f_X9_takeNumber (nx := 5) (v := 1) rfl (by decide) rfl ?_
              refine ev_if f_X9_takeNumber (t1 := 14) (t2 := 8) rfl rfl rfl (fun h187 => ?_) (fun h187 => ?_)
              · have u188 : (gi180 a38 3).toInt ≤ 1 := t_equ h187 (by decide : (1:Int32).toInt ≤ (1:Int))
                have l189 : 1 ≤ (gi180 a38 3).toInt := t_eql h187 (by decide : (1:Int) ≤ (1:Int32).toInt)
                refine ev_loc f_X9_takeNumber (nx := 15) rfl rfl rfl rfl ?_
                refine ev_gvI f_X9_takeNumber (nx := 18) (w := (gi180 a38 8)) rfl p38.1 rfl rfl rfl rfl ?_
                refine ev_loc f_X9_takeNumber (nx := 19) rfl rfl rfl rfl ?_
                refine ev_if f_X9_takeNumber (t1 := 30) (t2 := 22) rfl rfl rfl (fun h190 => ?_) (fun h190 => ?_)
                · have u191 : (gi180 a38 8).toInt ≤ (-1) := t_ltu h190 (by decide : (0:Int32).toInt ≤ (0:Int)) rfl
                  refine ev_loc f_X9_takeNumber (nx := 31) rfl rfl rfl rfl ?_
                  refine ev_ic f_X9_takeNumber (nx := 32) (v := 4) rfl (by decide) rfl ?_
                  refine ev_inV2 f_X9_takeNumber (nx := 35) (lo2 := [(0, .ref a38), (1, .int 4)]) rfl rfl rfl rfl f_X9_refuseToken p38.1 rfl rfl rfl rfl rfl ?_
                  refine ev_loc f_X9_refuseToken (nx := 1) rfl rfl rfl rfl ?_
                  refine ev_loc f_X9_refuseToken (nx := 2) rfl rfl rfl rfl ?_
                  refine ev_gvI f_X9_refuseToken (nx := 5) (w := (gi180 a38 3)) rfl p38.1 rfl rfl rfl rfl ?_
                  refine ev_ic f_X9_refuseToken (nx := 6) (v := 4) rfl (by decide) rfl ?_
                  refine ev_f f_X9_refuseToken (t1 := 9) (t2 := 13) rfl rfl rfl (t_neT u188 (by decide : (4:Int) ≤ (4:Int32).toInt) (by decide)) ?_
                  refine ev_loc f_X9_refuseToken (nx := 14) rfl rfl rfl rfl ?_
                  refine ev_putIT f_X9_refuseToken (nx := 17) rfl p38.1 rfl rfl rfl (hI.put0 p38.1 rfl rfl) (hX.upI (t_inO hI.wf p38.1 (t_outO hI.wf p38.1 rfl) rfl)) (fun g192 e192 hI hX => ?_)
                  refine ev_loc f_X9_refuseToken (nx := 18) rfl rfl rfl rfl ?_
                  refine ev_loc f_X9_refuseToken (nx := 19) rfl rfl rfl rfl ?_
                  refine ev_getI f_X9_refuseToken (nx := 22) rfl p38.1 rfl rfl rfl ?_
                  obtain ⟨l193, u193⟩ := hI.b p38.1 (t_bdK rfl : t_bd 8 4 = some (0, 900))
                  refine ev_putIT f_X9_refuseToken (nx := 25) rfl p38.1 rfl rfl rfl (hI.put0 p38.1 rfl rfl) (hX.upI (t_inO hI.wf p38.1 (t_outO hI.wf p38.1 rfl) rfl)) (fun g194 e194 hI hX => ?_)
                  refine ev_ic f_X9_refuseToken (nx := 26) (v := 0) rfl (by decide) rfl ?_
                  refine ev_retK1 f_X9_refuseToken rfl rfl rfl ?_
                  refine ev_retK1 f_X9_takeNumber rfl rfl rfl ?_
                  exact ev_ret f_X8_readCase rfl rfl rfl ⟨_, _, _, rfl, hI, hX, ⟨_, rfl, (by decide : (0:Int) ≤ (0:Int32).toInt), (Int.le_trans (by decide : (0:Int32).toInt ≤ (0:Int)) (by decide : (0:Int) ≤ 1))⟩⟩
                · have l195 : 0 ≤ (gi180 a38 8).toInt := t_lel (t_nlt h190) (by decide : (0:Int) ≤ (0:Int32).toInt)
                  refine ev_loc f_X9_takeNumber (nx := 23) rfl rfl rfl rfl ?_
                  refine ev_gvI f_X9_takeNumber (nx := 26) (w := (gi180 a38 8)) rfl p38.1 rfl rfl rfl rfl ?_
                  refine ev_loc f_X9_takeNumber (nx := 27) rfl rfl rfl rfl ?_
                  refine ev_if f_X9_takeNumber (t1 := 36) (t2 := 30) rfl rfl rfl (fun h196 => ?_) (fun h196 => ?_)
                  · have u197 : (gi180 a38 8).toInt ≤ 300 := t_leu h196 (by decide : (300:Int32).toInt ≤ (300:Int))
                    refine ev_loc f_X9_takeNumber (nx := 37) rfl rfl rfl rfl ?_
                    refine ev_c0 f_X9_takeNumber (nx := 40) (r := []) rfl rfl rfl rfl rfl rfl rfl (c_step hI (a38) p38) rfl hX rfl (fun gi198 gl198 gr198 hI hX hC198 => ?_)
                    replace p_a0 := p_a0.ext hC198.2
                    replace p38 := p38.ext hC198.2
                    replace p181 := p181.ext hC198.2
                    refine ev_ic f_X9_takeNumber (nx := 41) (v := 1) rfl (by decide) rfl ?_
                    refine ev_retK1 f_X9_takeNumber rfl rfl rfl ?_
                    exact ev_ret f_X8_readCase rfl rfl rfl ⟨_, _, _, rfl, hI, hX, ⟨_, rfl, (Int.le_trans (by decide : (0:Int) ≤ 1) (by decide : (1:Int) ≤ (1:Int32).toInt)), (by decide : (1:Int32).toInt ≤ (1:Int))⟩⟩
                  · have l199 : 301 ≤ (gi180 a38 8).toInt := t_ltl (t_nle h196) (by decide : (300:Int) ≤ (300:Int32).toInt) rfl
                    refine ev_loc f_X9_takeNumber (nx := 31) rfl rfl rfl rfl ?_
                    refine ev_ic f_X9_takeNumber (nx := 32) (v := 4) rfl (by decide) rfl ?_
                    refine ev_inV2 f_X9_takeNumber (nx := 35) (lo2 := [(0, .ref a38), (1, .int 4)]) rfl rfl rfl rfl f_X9_refuseToken p38.1 rfl rfl rfl rfl rfl ?_
                    refine ev_loc f_X9_refuseToken (nx := 1) rfl rfl rfl rfl ?_
                    refine ev_loc f_X9_refuseToken (nx := 2) rfl rfl rfl rfl ?_
                    refine ev_gvI f_X9_refuseToken (nx := 5) (w := (gi180 a38 3)) rfl p38.1 rfl rfl rfl rfl ?_
                    refine ev_ic f_X9_refuseToken (nx := 6) (v := 4) rfl (by decide) rfl ?_
                    refine ev_f f_X9_refuseToken (t1 := 9) (t2 := 13) rfl rfl rfl (t_neT u188 (by decide : (4:Int) ≤ (4:Int32).toInt) (by decide)) ?_
                    refine ev_loc f_X9_refuseToken (nx := 14) rfl rfl rfl rfl ?_
                    refine ev_putIT f_X9_refuseToken (nx := 17) rfl p38.1 rfl rfl rfl (hI.put0 p38.1 rfl rfl) (hX.upI (t_inO hI.wf p38.1 (t_outO hI.wf p38.1 rfl) rfl)) (fun g200 e200 hI hX => ?_)
                    refine ev_loc f_X9_refuseToken (nx := 18) rfl rfl rfl rfl ?_
                    refine ev_loc f_X9_refuseToken (nx := 19) rfl rfl rfl rfl ?_
                    refine ev_getI f_X9_refuseToken (nx := 22) rfl p38.1 rfl rfl rfl ?_
                    obtain ⟨l201, u201⟩ := hI.b p38.1 (t_bdK rfl : t_bd 8 4 = some (0, 900))
                    refine ev_putIT f_X9_refuseToken (nx := 25) rfl p38.1 rfl rfl rfl (hI.put0 p38.1 rfl rfl) (hX.upI (t_inO hI.wf p38.1 (t_outO hI.wf p38.1 rfl) rfl)) (fun g202 e202 hI hX => ?_)
                    refine ev_ic f_X9_refuseToken (nx := 26) (v := 0) rfl (by decide) rfl ?_
                    refine ev_retK1 f_X9_refuseToken rfl rfl rfl ?_
                    refine ev_retK1 f_X9_takeNumber rfl rfl rfl ?_
                    exact ev_ret f_X8_readCase rfl rfl rfl ⟨_, _, _, rfl, hI, hX, ⟨_, rfl, (by decide : (0:Int) ≤ (0:Int32).toInt), (Int.le_trans (by decide : (0:Int32).toInt ≤ (0:Int)) (by decide : (0:Int) ≤ 1))⟩⟩
              · refine ev_loc f_X9_takeNumber (nx := 9) rfl rfl rfl rfl ?_
                refine ev_ic f_X9_takeNumber (nx := 10) (v := 2) rfl (by decide) rfl ?_
                refine ev_inV2 f_X9_takeNumber (nx := 13) (lo2 := [(0, .ref a38), (1, .int 2)]) rfl rfl rfl rfl f_X9_refuseToken p38.1 rfl rfl rfl rfl rfl ?_
                refine ev_loc f_X9_refuseToken (nx := 1) rfl rfl rfl rfl ?_
                refine ev_loc f_X9_refuseToken (nx := 2) rfl rfl rfl rfl ?_
                refine ev_gvI f_X9_refuseToken (nx := 5) (w := (gi180 a38 3)) rfl p38.1 rfl rfl rfl rfl ?_
                refine ev_ic f_X9_refuseToken (nx := 6) (v := 4) rfl (by decide) rfl ?_
                refine ev_if f_X9_refuseToken (t1 := 9) (t2 := 13) rfl rfl rfl (fun h203 => ?_) (fun h203 => ?_)
                · have u204 : (gi180 a38 3).toInt ≤ 4 := t_equ h203 (by decide : (4:Int32).toInt ≤ (4:Int))
                  have l205 : 4 ≤ (gi180 a38 3).toInt := t_eql h203 (by decide : (4:Int) ≤ (4:Int32).toInt)
                  refine ev_ic f_X9_refuseToken (nx := 10) (v := 1) rfl (by decide) rfl ?_
                  refine ev_jmp f_X9_refuseToken (nx := 14) rfl rfl rfl ?_
                  refine ev_putIT f_X9_refuseToken (nx := 17) rfl p38.1 rfl rfl rfl (hI.put0 p38.1 rfl rfl) (hX.upI (t_inO hI.wf p38.1 (t_outO hI.wf p38.1 rfl) rfl)) (fun g206 e206 hI hX => ?_)
                  refine ev_loc f_X9_refuseToken (nx := 18) rfl rfl rfl rfl ?_
                  refine ev_loc f_X9_refuseToken (nx := 19) rfl rfl rfl rfl ?_
                  refine ev_getI f_X9_refuseToken (nx := 22) rfl p38.1 rfl rfl rfl ?_
                  obtain ⟨l207, u207⟩ := hI.b p38.1 (t_bdK rfl : t_bd 8 4 = some (0, 900))
                  refine ev_putIT f_X9_refuseToken (nx := 25) rfl p38.1 rfl rfl rfl (hI.put0 p38.1 rfl rfl) (hX.upI (t_inO hI.wf p38.1 (t_outO hI.wf p38.1 rfl) rfl)) (fun g208 e208 hI hX => ?_)
                  refine ev_ic f_X9_refuseToken (nx := 26) (v := 0) rfl (by decide) rfl ?_
                  refine ev_retK1 f_X9_refuseToken rfl rfl rfl ?_
                  refine ev_retK1 f_X9_takeNumber rfl rfl rfl ?_
                  exact ev_ret f_X8_readCase rfl rfl rfl ⟨_, _, _, rfl, hI, hX, ⟨_, rfl, (by decide : (0:Int) ≤ (0:Int32).toInt), (Int.le_trans (by decide : (0:Int32).toInt ≤ (0:Int)) (by decide : (0:Int) ≤ 1))⟩⟩
                · refine ev_loc f_X9_refuseToken (nx := 14) rfl rfl rfl rfl ?_
                  refine ev_putIT f_X9_refuseToken (nx := 17) rfl p38.1 rfl rfl rfl (hI.put0 p38.1 rfl rfl) (hX.upI (t_inO hI.wf p38.1 (t_outO hI.wf p38.1 rfl) rfl)) (fun g209 e209 hI hX => ?_)
                  refine ev_loc f_X9_refuseToken (nx := 18) rfl rfl rfl rfl ?_
                  refine ev_loc f_X9_refuseToken (nx := 19) rfl rfl rfl rfl ?_
                  refine ev_getI f_X9_refuseToken (nx := 22) rfl p38.1 rfl rfl rfl ?_
                  obtain ⟨l210, u210⟩ := hI.b p38.1 (t_bdK rfl : t_bd 8 4 = some (0, 900))
                  refine ev_putIT f_X9_refuseToken (nx := 25) rfl p38.1 rfl rfl rfl (hI.put0 p38.1 rfl rfl) (hX.upI (t_inO hI.wf p38.1 (t_outO hI.wf p38.1 rfl) rfl)) (fun g211 e211 hI hX => ?_)
                  refine ev_ic f_X9_refuseToken (nx := 26) (v := 0) rfl (by decide) rfl ?_
                  refine ev_retK1 f_X9_refuseToken rfl rfl rfl ?_
                  refine ev_retK1 f_X9_takeNumber rfl rfl rfl ?_
                  exact ev_ret f_X8_readCase rfl rfl rfl ⟨_, _, _, rfl, hI, hX, ⟨_, rfl, (by decide : (0:Int) ≤ (0:Int32).toInt), (Int.le_trans (by decide : (0:Int32).toInt ≤ (0:Int)) (by decide : (0:Int) ≤ 1))⟩⟩
            · have u212 : (gi180 a181 3).toInt ≤ 299 := t_ltu (t_nle h186) u185 rfl
              have l213 : 1 ≤ (Int32.ofNat n182).toInt := t_ltl (t_nle h186) l184 rfl
              refine ev_loc f_X7_addStep (nx := 13) rfl rfl rfl rfl ?_
              refine ev_getR f_X7_addStep (nx := 16) (v := .ref (a181 + 3)) rfl p181.1 rfl rfl r4_182 rfl rfl ?_
              refine ev_loc f_X7_addStep (nx := 17) rfl rfl rfl rfl ?_
              refine ev_gvI f_X7_addStep (nx := 20) (w := (gi180 a181 3)) rfl p181.1 rfl rfl rfl rfl ?_
              refine ev_loc f_X7_addStep (nx := 21) rfl rfl rfl rfl ?_
              refine ev_iastS f_X7_addStep (nx := 22) rfl s4_182 (t_ixs l184 (t_lenlt (t_nle h186) hn182)) rfl (hI.astD s4_182 (by omega) (fun k hk e => absurd e (t_Ru.ne p181 hk (by decide)))) (hX.upI (t_inOD s4_182 (by omega) rfl)) (fun g214 e214 hI hX => ?_)
              refine ev_loc f_X7_addStep (nx := 23) rfl rfl rfl rfl ?_
              refine ev_getR f_X7_addStep (nx := 26) (v := .ref (a181 + 4)) rfl p181.1 rfl rfl r5_182 rfl rfl ?_
              refine ev_loc f_X7_addStep (nx := 27) rfl rfl rfl rfl ?_
              refine ev_gvI f_X7_addStep (nx := 30) (w := (gi180 a181 3)) rfl p181.1 rfl rfl ((by rw [e214]; exact x_up2_off (Or.inl (t_noobj s4_182 p181.1)) : g214 a181 3 = gi180 a181 3).trans rfl) rfl ?_
              refine ev_loc f_X7_addStep (nx := 31) rfl rfl rfl rfl ?_
              refine ev_iastS f_X7_addStep (nx := 32) rfl s5_182 (t_ixs l184 (t_lenlt (t_nle h186) hn182)) rfl (hI.astD s5_182 (by omega) (fun k hk e => absurd e (t_Ru.ne p181 hk (by decide)))) (hX.upI (t_inOD s5_182 (by omega) rfl)) (fun g215 e215 hI hX => ?_)
              refine ev_loc f_X7_addStep (nx := 33) rfl rfl rfl rfl ?_
              refine ev_getR f_X7_addStep (nx := 36) (v := .ref (a181 + 5)) rfl p181.1 rfl rfl r6_182 rfl rfl ?_
              refine ev_loc f_X7_addStep (nx := 37) rfl rfl rfl rfl ?_
              refine ev_gvI f_X7_addStep (nx := 40) (w := (gi180 a181 3)) rfl p181.1 rfl rfl ((by rw [e215]; exact x_up2_off (Or.inl (t_noobj s5_182 p181.1)) : g215 a181 3 = g214 a181 3).trans ((by rw [e214]; exact x_up2_off (Or.inl (t_noobj s4_182 p181.1)) : g214 a181 3 = gi180 a181 3).trans rfl)) rfl ?_
              refine ev_loc f_X7_addStep (nx := 41) rfl rfl rfl rfl ?_
              refine ev_iastS f_X7_addStep (nx := 42) rfl s6_182 (t_ixs l184 (t_lenlt (t_nle h186) hn182)) rfl (hI.astD s6_182 (by omega) (fun k hk e => absurd e (t_Ru.ne p181 hk (by decide)))) (hX.upI (t_inOD s6_182 (by omega) rfl)) (fun g216 e216 hI hX => ?_)
              refine ev_loc f_X7_addStep (nx := 43) rfl rfl rfl rfl ?_
              refine ev_alu f_X7_addStep (nx := 44) rfl rfl rfl rfl ?_
              refine ev_gvI f_X7_addStep (nx := 47) (w := (gi180 a181 3)) rfl p181.1 rfl rfl ((by rw [e216]; exact x_up2_off (Or.inl (t_noobj s6_182 p181.1)) : g216 a181 3 = g215 a181 3).trans ((by rw [e215]; exact x_up2_off (Or.inl (t_noobj s5_182 p181.1)) : g215 a181 3 = g214 a181 3).trans ((by rw [e214]; exact x_up2_off (Or.inl (t_noobj s4_182 p181.1)) : g214 a181 3 = gi180 a181 3).trans rfl))) rfl ?_
              refine ev_ic f_X7_addStep (nx := 48) (v := 1) rfl (by decide) rfl ?_
              refine ev_addC f_X7_addStep (nx := 49) (c := 1) (l := 1) (u := 300) rfl (by decide) l184 u212 rfl rfl (by decide) (by decide) rfl (fun z217 e217 l217 u217 => ?_)
              have q218 := t_lenlt (t_nle h186) hn182
              refine ev_putIT f_X7_addStep (nx := 52) rfl p181.1 rfl rfl rfl (hI.putG p181.1 (fun lo hi e => by have e : some ((0 : Int), (300 : Int)) = some (lo, hi) := e; have := hn182; cases e; exact ⟨by omega, by omega⟩) (fun _ _ n2 hn2 => by rw [s4_182] at hn2; cases hn2; omega)) (hX.upI (t_inO hI.wf p181.1 (t_outO hI.wf p181.1 rfl) rfl)) (fun g218 e218 hI hX => ?_)
              refine ev_retK0 f_X7_addStep rfl rfl rfl ?_
              refine ev_loc f_X8_readCase (nx := 100) rfl rfl rfl rfl ?_
              refine ev_getR f_X8_readCase (nx := 103) (v := .ref a38) rfl p_a0.1 rfl rfl ((hC180.1 ar0 0 (t_ninO hI.wf p_a0.1 (t_outO hI.wf p_a0.1 rfl) rfl)).2.2.trans ((hC39.1 ar0 0 (t_ninO hI.wf p_a0.1 (t_outO hI.wf p_a0.1 rfl) rfl)).2.2.trans e38)) rfl rfl ?_
              refine ev_ic f_X8_readCase (nx := 104) (v := 0) rfl (by decide) rfl ?_
              refine ev_sp f_X8_readCase (nx := 107) (v := 300) rfl (by decide) rfl ?_
              refine ev_inV3 f_X8_readCase (nx := 110) (lo2 := [(0, .ref a38), (1, .int 0), (2, .int 300)]) rfl rfl rfl rfl f_X9_takeNumber p38.1 rfl rfl rfl rfl rfl ?_
              refine ev_loc f_X9_takeNumber (nx := 1) rfl rfl rfl rfl ?_
              refine ev_getI f_X9_takeNumber (nx := 4) rfl p38.1 rfl rfl rfl ?_
              refine ev_ic f_X9_takeNumber (nx := 5) (v := 1) rfl (by decide) rfl ?_
              refine ev_if f_X9_takeNumber (t1 := 14) (t2 := 8) rfl rfl rfl (fun h219 => ?_) (fun h219 => ?_)
              · have u220 : (g218 a38 3).toInt ≤ 1 := t_equ h219 (by decide : (1:Int32).toInt ≤ (1:Int))
                have l221 : 1 ≤ (g218 a38 3).toInt := t_eql h219 (by decide : (1:Int) ≤ (1:Int32).toInt)
                refine ev_loc f_X9_takeNumber (nx := 15) rfl rfl rfl rfl ?_
                refine ev_gvI f_X9_takeNumber (nx := 18) (w := (gi180 a38 8)) rfl p38.1 rfl rfl ((by rw [e218]; exact x_up2_off (Or.inr (by decide)) : g218 a38 8 = g216 a38 8).trans ((by rw [e216]; exact x_up2_off (Or.inl (t_noobj s6_182 p38.1)) : g216 a38 8 = g215 a38 8).trans ((by rw [e215]; exact x_up2_off (Or.inl (t_noobj s5_182 p38.1)) : g215 a38 8 = g214 a38 8).trans ((by rw [e214]; exact x_up2_off (Or.inl (t_noobj s4_182 p38.1)) : g214 a38 8 = gi180 a38 8).trans rfl)))) rfl ?_
                refine ev_loc f_X9_takeNumber (nx := 19) rfl rfl rfl rfl ?_
                refine ev_if f_X9_takeNumber (t1 := 30) (t2 := 22) rfl rfl rfl (fun h222 => ?_) (fun h222 => ?_)
                · have u223 : (gi180 a38 8).toInt ≤ (-1) := t_ltu h222 (by decide : (0:Int32).toInt ≤ (0:Int)) rfl
                  refine ev_loc f_X9_takeNumber (nx := 31) rfl rfl rfl rfl ?_
                  refine ev_ic f_X9_takeNumber (nx := 32) (v := 4) rfl (by decide) rfl ?_
                  refine ev_inV2 f_X9_takeNumber (nx := 35) (lo2 := [(0, .ref a38), (1, .int 4)]) rfl rfl rfl rfl f_X9_refuseToken p38.1 rfl rfl rfl rfl rfl ?_
                  refine ev_loc f_X9_refuseToken (nx := 1) rfl rfl rfl rfl ?_
                  refine ev_loc f_X9_refuseToken (nx := 2) rfl rfl rfl rfl ?_
                  refine ev_gvI f_X9_refuseToken (nx := 5) (w := (g218 a38 3)) rfl p38.1 rfl rfl rfl rfl ?_
                  refine ev_ic f_X9_refuseToken (nx := 6) (v := 4) rfl (by decide) rfl ?_
                  refine ev_f f_X9_refuseToken (t1 := 9) (t2 := 13) rfl rfl rfl (t_neT u220 (by decide : (4:Int) ≤ (4:Int32).toInt) (by decide)) ?_
                  refine ev_loc f_X9_refuseToken (nx := 14) rfl rfl rfl rfl ?_
                  refine ev_putIT f_X9_refuseToken (nx := 17) rfl p38.1 rfl rfl rfl (hI.put0 p38.1 rfl rfl) (hX.upI (t_inO hI.wf p38.1 (t_outO hI.wf p38.1 rfl) rfl)) (fun g224 e224 hI hX => ?_)
                  refine ev_loc f_X9_refuseToken (nx := 18) rfl rfl rfl rfl ?_
                  refine ev_loc f_X9_refuseToken (nx := 19) rfl rfl rfl rfl ?_
                  refine ev_getI f_X9_refuseToken (nx := 22) rfl p38.1 rfl rfl rfl ?_
                  obtain ⟨l225, u225⟩ := hI.b p38.1 (t_bdK rfl : t_bd 8 4 = some (0, 900))
                  refine ev_putIT f_X9_refuseToken (nx := 25) rfl p38.1 rfl rfl rfl (hI.put0 p38.1 rfl rfl) (hX.upI (t_inO hI.wf p38.1 (t_outO hI.wf p38.1 rfl) rfl)) (fun g226 e226 hI hX => ?_)
                  refine ev_ic f_X9_refuseToken (nx := 26) (v := 0) rfl (by decide) rfl ?_
                  refine ev_retK1 f_X9_refuseToken rfl rfl rfl ?_
                  refine ev_retK1 f_X9_takeNumber rfl rfl rfl ?_
                  exact ev_ret f_X8_readCase rfl rfl rfl ⟨_, _, _, rfl, hI, hX, ⟨_, rfl, (by decide : (0:Int) ≤ (0:Int32).toInt), (Int.le_trans (by decide : (0:Int32).toInt ≤ (0:Int)) (by decide : (0:Int) ≤ 1))⟩⟩
                · have l227 : 0 ≤ (gi180 a38 8).toInt := t_lel (t_nlt h222) (by decide : (0:Int) ≤ (0:Int32).toInt)
                  refine ev_loc f_X9_takeNumber (nx := 23) rfl rfl rfl rfl ?_
                  refine ev_gvI f_X9_takeNumber (nx := 26) (w := (gi180 a38 8)) rfl p38.1 rfl rfl ((by rw [e218]; exact x_up2_off (Or.inr (by decide)) : g218 a38 8 = g216 a38 8).trans ((by rw [e216]; exact x_up2_off (Or.inl (t_noobj s6_182 p38.1)) : g216 a38 8 = g215 a38 8).trans ((by rw [e215]; exact x_up2_off (Or.inl (t_noobj s5_182 p38.1)) : g215 a38 8 = g214 a38 8).trans ((by rw [e214]; exact x_up2_off (Or.inl (t_noobj s4_182 p38.1)) : g214 a38 8 = gi180 a38 8).trans rfl)))) rfl ?_
                  refine ev_loc f_X9_takeNumber (nx := 27) rfl rfl rfl rfl ?_
                  refine ev_if f_X9_takeNumber (t1 := 36) (t2 := 30) rfl rfl rfl (fun h228 => ?_) (fun h228 => ?_)
                  · have u229 : (gi180 a38 8).toInt ≤ 300 := t_leu h228 (by decide : (300:Int32).toInt ≤ (300:Int))
                    refine ev_loc f_X9_takeNumber (nx := 37) rfl rfl rfl rfl ?_
                    refine ev_c0 f_X9_takeNumber (nx := 40) (r := []) rfl rfl rfl rfl rfl rfl rfl (c_step hI (a38) p38) rfl hX rfl (fun gi230 gl230 gr230 hI hX hC230 => ?_)
                    replace p_a0 := p_a0.ext hC230.2
                    replace p38 := p38.ext hC230.2
                    replace p181 := p181.ext hC230.2
                    refine ev_ic f_X9_takeNumber (nx := 41) (v := 1) rfl (by decide) rfl ?_
                    refine ev_retK1 f_X9_takeNumber rfl rfl rfl ?_
                    exact ev_ret f_X8_readCase rfl rfl rfl ⟨_, _, _, rfl, hI, hX, ⟨_, rfl, (Int.le_trans (by decide : (0:Int) ≤ 1) (by decide : (1:Int) ≤ (1:Int32).toInt)), (by decide : (1:Int32).toInt ≤ (1:Int))⟩⟩
                  · have l231 : 301 ≤ (gi180 a38 8).toInt := t_ltl (t_nle h228) (by decide : (300:Int) ≤ (300:Int32).toInt) rfl
                    refine ev_loc f_X9_takeNumber (nx := 31) rfl rfl rfl rfl ?_
                    refine ev_ic f_X9_takeNumber (nx := 32) (v := 4) rfl (by decide) rfl ?_
                    refine ev_inV2 f_X9_takeNumber (nx := 35) (lo2 := [(0, .ref a38), (1, .int 4)]) rfl rfl rfl rfl f_X9_refuseToken p38.1 rfl rfl rfl rfl rfl ?_
                    refine ev_loc f_X9_refuseToken (nx := 1) rfl rfl rfl rfl ?_
                    refine ev_loc f_X9_refuseToken (nx := 2) rfl rfl rfl rfl ?_
                    refine ev_gvI f_X9_refuseToken (nx := 5) (w := (g218 a38 3)) rfl p38.1 rfl rfl rfl rfl ?_
                    refine ev_ic f_X9_refuseToken (nx := 6) (v := 4) rfl (by decide) rfl ?_
                    refine ev_f f_X9_refuseToken (t1 := 9) (t2 := 13) rfl rfl rfl (t_neT u220 (by decide : (4:Int) ≤ (4:Int32).toInt) (by decide)) ?_
                    refine ev_loc f_X9_refuseToken (nx := 14) rfl rfl rfl rfl ?_
                    refine ev_putIT f_X9_refuseToken (nx := 17) rfl p38.1 rfl rfl rfl (hI.put0 p38.1 rfl rfl) (hX.upI (t_inO hI.wf p38.1 (t_outO hI.wf p38.1 rfl) rfl)) (fun g232 e232 hI hX => ?_)
                    refine ev_loc f_X9_refuseToken (nx := 18) rfl rfl rfl rfl ?_
                    refine ev_loc f_X9_refuseToken (nx := 19) rfl rfl rfl rfl ?_
                    refine ev_getI f_X9_refuseToken (nx := 22) rfl p38.1 rfl rfl rfl ?_
                    obtain ⟨l233, u233⟩ := hI.b p38.1 (t_bdK rfl : t_bd 8 4 = some (0, 900))
                    refine ev_putIT f_X9_refuseToken (nx := 25) rfl p38.1 rfl rfl rfl (hI.put0 p38.1 rfl rfl) (hX.upI (t_inO hI.wf p38.1 (t_outO hI.wf p38.1 rfl) rfl)) (fun g234 e234 hI hX => ?_)
                    refine ev_ic f_X9_refuseToken (nx := 26) (v := 0) rfl (by decide) rfl ?_
                    refine ev_retK1 f_X9_refuseToken rfl rfl rfl ?_
                    refine ev_retK1 f_X9_takeNumber rfl rfl rfl ?_
                    exact ev_ret f_X8_readCase rfl rfl rfl ⟨_, _, _, rfl, hI, hX, ⟨_, rfl, (by decide : (0:Int) ≤ (0:Int32).toInt), (Int.le_trans (by decide : (0:Int32).toInt ≤ (0:Int)) (by decide : (0:Int) ≤ 1))⟩⟩
              · refine ev_loc f_X9_takeNumber (nx := 9) rfl rfl rfl rfl ?_
                refine ev_ic f_X9_takeNumber (nx := 10) (v := 2) rfl (by decide) rfl ?_
                refine ev_inV2 f_X9_takeNumber (nx := 13) (lo2 := [(0, .ref a38), (1, .int 2)]) rfl rfl rfl rfl f_X9_refuseToken p38.1 rfl rfl rfl rfl rfl ?_
                refine ev_loc f_X9_refuseToken (nx := 1) rfl rfl rfl rfl ?_
                refine ev_loc f_X9_refuseToken (nx := 2) rfl rfl rfl rfl ?_
                refine ev_gvI f_X9_refuseToken (nx := 5) (w := (g218 a38 3)) rfl p38.1 rfl rfl rfl rfl ?_
                refine ev_ic f_X9_refuseToken (nx := 6) (v := 4) rfl (by decide) rfl ?_
                refine ev_if f_X9_refuseToken (t1 := 9) (t2 := 13) rfl rfl rfl (fun h235 => ?_) (fun h235 => ?_)
                · have u236 : (g218 a38 3).toInt ≤ 4 := t_equ h235 (by decide : (4:Int32).toInt ≤ (4:Int))
                  have l237 : 4 ≤ (g218 a38 3).toInt := t_eql h235 (by decide : (4:Int) ≤ (4:Int32).toInt)
                  refine ev_ic f_X9_refuseToken (nx := 10) (v := 1) rfl (by decide) rfl ?_
                  refine ev_jmp f_X9_refuseToken (nx := 14) rfl rfl rfl ?_
                  refine ev_putIT f_X9_refuseToken (nx := 17) rfl p38.1 rfl rfl rfl (hI.put0 p38.1 rfl rfl) (hX.upI (t_inO hI.wf p38.1 (t_outO hI.wf p38.1 rfl) rfl)) (fun g238 e238 hI hX => ?_)
                  refine ev_loc f_X9_refuseToken (nx := 18) rfl rfl rfl rfl ?_
                  refine ev_loc f_X9_refuseToken (nx := 19) rfl rfl rfl rfl ?_
                  refine ev_getI f_X9_refuseToken (nx := 22) rfl p38.1 rfl rfl rfl ?_
                  obtain ⟨l239, u239⟩ := hI.b p38.1 (t_bdK rfl : t_bd 8 4 = some (0, 900))
                  refine ev_putIT f_X9_refuseToken (nx := 25) rfl p38.1 rfl rfl rfl (hI.put0 p38.1 rfl rfl) (hX.upI (t_inO hI.wf p38.1 (t_outO hI.wf p38.1 rfl) rfl)) (fun g240 e240 hI hX => ?_)
                  refine ev_ic f_X9_refuseToken (nx := 26) (v := 0) rfl (by decide) rfl ?_
                  refine ev_retK1 f_X9_refuseToken rfl rfl rfl ?_
                  refine ev_retK1 f_X9_takeNumber rfl rfl rfl ?_
                  exact ev_ret f_X8_readCase rfl rfl rfl ⟨_, _, _, rfl, hI, hX, ⟨_, rfl, (by decide : (0:Int) ≤ (0:Int32).toInt), (Int.le_trans (by decide : (0:Int32).toInt ≤ (0:Int)) (by decide : (0:Int) ≤ 1))⟩⟩
                · refine ev_loc f_X9_refuseToken (nx := 14) rfl rfl rfl rfl ?_
                  refine ev_putIT f_X9_refuseToken (nx := 17) rfl p38.1 rfl rfl rfl (hI.put0 p38.1 rfl rfl) (hX.upI (t_inO hI.wf p38.1 (t_outO hI.wf p38.1 rfl) rfl)) (fun g241 e241 hI hX => ?_)
                  refine ev_loc f_X9_refuseToken (nx := 18) rfl rfl rfl rfl ?_
                  refine ev_loc f_X9_refuseToken (nx := 19) rfl rfl rfl rfl ?_
                  refine ev_getI f_X9_refuseToken (nx := 22) rfl p38.1 rfl rfl rfl ?_
                  obtain ⟨l242, u242⟩ := hI.b p38.1 (t_bdK rfl : t_bd 8 4 = some (0, 900))
                  refine ev_putIT f_X9_refuseToken (nx := 25) rfl p38.1 rfl rfl rfl (hI.put0 p38.1 rfl rfl) (hX.upI (t_inO hI.wf p38.1 (t_outO hI.wf p38.1 rfl) rfl)) (fun g243 e243 hI hX => ?_)
                  refine ev_ic f_X9_refuseToken (nx := 26) (v := 0) rfl (by decide) rfl ?_
                  refine ev_retK1 f_X9_refuseToken rfl rfl rfl ?_
                  refine ev_retK1 f_X9_takeNumber rfl rfl rfl ?_
                  exact ev_ret f_X8_readCase rfl rfl rfl ⟨_, _, _, rfl, hI, hX, ⟨_, rfl, (by decide : (0:Int) ≤ (0:Int32).toInt), (Int.le_trans (by decide : (0:Int32).toInt ≤ (0:Int)) (by decide : (0:Int) ≤ 1))⟩⟩
          · refine ev_ic f_X9_isSignOf (nx := 21) (v := 0) rfl (by decide) rfl ?_
            refine ev_retK1 f_X9_isSignOf rfl rfl rfl ?_
            refine ev_t f_X8_comparesTold (t1 := 44) (t2 := 40) rfl rfl rfl (by decide) ?_
            refine ev_ic f_X8_comparesTold (nx := 45) (v := -1) rfl (by decide) rfl ?_
            refine ev_retK1 f_X8_comparesTold rfl rfl rfl ?_
            refine ev_loc f_X8_readCase (nx := 62) (lo' := [(2, .int (-1)), (0, .ref ar0), (1, .int ar1)]) rfl rfl rfl rfl ?_
            refine ev_loc f_X8_readCase (nx := 63) rfl rfl rfl rfl ?_
            refine ev_ic f_X8_readCase (nx := 64) (v := -1) rfl (by decide) rfl ?_
            refine ev_t f_X8_readCase (t1 := 67) (t2 := 76) rfl rfl rfl (by decide) ?_
            refine ev_loc f_X8_readCase (nx := 68) rfl rfl rfl rfl ?_
            refine ev_getR f_X8_readCase (nx := 71) (v := .ref a38) rfl p_a0.1 rfl rfl ((hC39.1 ar0 0 (t_ninO hI.wf p_a0.1 (t_outO hI.wf p_a0.1 rfl) rfl)).2.2.trans e38) rfl rfl ?_
            refine ev_ic f_X8_readCase (nx := 72) (v := 2) rfl (by decide) rfl ?_
            refine ev_inV2 f_X8_readCase (nx := 75) (lo2 := [(0, .ref a38), (1, .int 2)]) rfl rfl rfl rfl f_X9_refuseToken p38.1 rfl rfl rfl rfl rfl ?_
            refine ev_loc f_X9_refuseToken (nx := 1) rfl rfl rfl rfl ?_
            refine ev_loc f_X9_refuseToken (nx := 2) rfl rfl rfl rfl ?_
            refine ev_gvI f_X9_refuseToken (nx := 5) (w := (gi39 a38 3)) rfl p38.1 rfl rfl rfl rfl ?_
            refine ev_ic f_X9_refuseToken (nx := 6) (v := 4) rfl (by decide) rfl ?_
            refine ev_f f_X9_refuseToken (t1 := 9) (t2 := 13) rfl rfl rfl (t_neT u41 (by decide : (4:Int) ≤ (4:Int32).toInt) (by decide)) ?_
            refine ev_loc f_X9_refuseToken (nx := 14) rfl rfl rfl rfl ?_
            refine ev_putIT f_X9_refuseToken (nx := 17) rfl p38.1 rfl rfl rfl (hI.put0 p38.1 rfl rfl) (hX.upI (t_inO hI.wf p38.1 (t_outO hI.wf p38.1 rfl) rfl)) (fun g244 e244 hI hX => ?_)
            refine ev_loc f_X9_refuseToken (nx := 18) rfl rfl rfl rfl ?_
            refine ev_loc f_X9_refuseToken (nx := 19) rfl rfl rfl rfl ?_
            refine ev_getI f_X9_refuseToken (nx := 22) rfl p38.1 rfl rfl rfl ?_
            obtain ⟨l245, u245⟩ := hI.b p38.1 (t_bdK rfl : t_bd 8 4 = some (0, 900))
            refine ev_putIT f_X9_refuseToken (nx := 25) rfl p38.1 rfl rfl rfl (hI.put0 p38.1 rfl rfl) (hX.upI (t_inO hI.wf p38.1 (t_outO hI.wf p38.1 rfl) rfl)) (fun g246 e246 hI hX => ?_)
            refine ev_ic f_X9_refuseToken (nx := 26) (v := 0) rfl (by decide) rfl ?_
            refine ev_retK1 f_X9_refuseToken rfl rfl rfl ?_
            exact ev_ret f_X8_readCase rfl rfl rfl ⟨_, _, _, rfl, hI, hX, ⟨_, rfl, (by decide : (0:Int) ≤ (0:Int32).toInt), (Int.le_trans (by decide : (0:Int32).toInt ≤ (0:Int)) (by decide : (0:Int) ≤ 1))⟩⟩
    · refine ev_ic f_X9_isSignOf (nx := 21) (v := 0) rfl (by decide) rfl ?_
      refine ev_retK1 f_X9_isSignOf rfl rfl rfl ?_
      refine ev_t f_X8_comparesTold (t1 := 14) (t2 := 12) rfl rfl rfl (by decide) ?_
      refine ev_loc f_X8_comparesTold (nx := 15) rfl rfl rfl rfl ?_
      refine ev_getR f_X8_comparesTold (nx := 18) (v := .ref a38) rfl p_a0.1 rfl rfl ((hC39.1 ar0 0 (t_ninO hI.wf p_a0.1 (t_outO hI.wf p_a0.1 rfl) rfl)).2.2.trans e38) rfl rfl ?_
      refine ev_bp f_X8_comparesTold (nx := 20) (v := 62) rfl (by decide) rfl ?_
      refine ev_inV2 f_X8_comparesTold (nx := 23) (lo2 := [(0, .ref a38), (1, .int 62)]) rfl rfl rfl rfl f_X9_isSignOf p38.1 rfl rfl rfl rfl rfl ?_
      refine ev_loc f_X9_isSignOf (nx := 1) rfl rfl rfl rfl ?_
      refine ev_gvI f_X9_isSignOf (nx := 4) (w := (gi39 a38 3)) rfl p38.1 rfl rfl rfl rfl ?_
      refine ev_ic f_X9_isSignOf (nx := 5) (v := 2) rfl (by decide) rfl ?_
      refine ev_if f_X9_isSignOf (t1 := 8) (t2 := 20) rfl rfl rfl (fun h247 => ?_) (fun h247 => ?_)
      · have u248 : (gi39 a38 3).toInt ≤ 2 := t_equ h247 (by decide : (2:Int32).toInt ≤ (2:Int))
        have l249 : 2 ≤ (gi39 a38 3).toInt := t_eql h247 (by decide : (2:Int) ≤ (2:Int32).toInt)
        refine ev_loc f_X9_isSignOf (nx := 9) rfl rfl rfl rfl ?_
        refine ev_getI f_X9_isSignOf (nx := 12) rfl p38.1 rfl rfl rfl ?_
        refine ev_loc f_X9_isSignOf (nx := 13) rfl rfl rfl rfl ?_
        refine ev_if f_X9_isSignOf (t1 := 16) (t2 := 20) rfl rfl rfl (fun h250 => ?_) (fun h250 => ?_)
        · have u251 : (gi39 a38 9).toInt ≤ 62 := t_equ h250 (by decide : (62:Int32).toInt ≤ (62:Int))
          have l252 : 62 ≤ (gi39 a38 9).toInt := t_eql h250 (by decide : (62:Int) ≤ (62:Int32).toInt)
          refine ev_ic f_X9_isSignOf (nx := 17) (v := 1) rfl (by decide) rfl ?_
          refine ev_jmp f_X9_isSignOf (nx := 21) rfl rfl rfl ?_
          refine ev_retK1 f_X9_isSignOf rfl rfl rfl ?_
          refine ev_f f_X8_comparesTold (t1 := 28) (t2 := 26) rfl rfl rfl (by decide) ?_
          refine ev_ic f_X8_comparesTold (nx := 27) (v := 1) rfl (by decide) rfl ?_
          refine ev_retK1 f_X8_comparesTold rfl rfl rfl ?_
          refine ev_loc f_X8_readCase (nx := 62) (lo' := [(2, .int 1), (0, .ref ar0), (1, .int ar1)]) rfl rfl rfl rfl ?_
          refine ev_loc f_X8_readCase (nx := 63) rfl rfl rfl rfl ?_
          refine ev_ic f_X8_readCase (nx := 64) (v := -1) rfl (by decide) rfl ?_
          refine ev_f f_X8_readCase (t1 := 67) (t2 := 76) rfl rfl rfl (by decide) ?_
          refine ev_loc f_X8_readCase (nx := 77) rfl rfl rfl rfl ?_
          refine ev_getR f_X8_readCase (nx := 80) (v := .ref a38) rfl p_a0.1 rfl rfl ((hC39.1 ar0 0 (t_ninO hI.wf p_a0.1 (t_outO hI.wf p_a0.1 rfl) rfl)).2.2.trans e38) rfl rfl ?_
          refine ev_c0 f_X8_readCase (nx := 83) (r := []) rfl rfl rfl rfl rfl rfl rfl (c_step hI (a38) p38) rfl hX rfl (fun gi253 gl253 gr253 hI hX hC253 => ?_)
          replace p_a0 := p_a0.ext hC253.2
          replace p38 := p38.ext hC253.2
          refine ev_loc f_X8_readCase (nx := 84) rfl rfl rfl rfl ?_
          obtain ⟨a254, e254, p254⟩ := p_a0.2.2
          refine ev_getR f_X8_readCase (nx := 87) rfl p_a0.1 rfl rfl e254 rfl rfl ?_
          refine ev_loc f_X8_readCase (nx := 88) rfl rfl rfl rfl ?_
          refine ev_loc f_X8_readCase (nx := 89) rfl rfl rfl rfl ?_
          refine ev_loc f_X8_readCase (nx := 90) rfl rfl rfl rfl ?_
          refine ev_getR f_X8_readCase (nx := 93) (v := .ref a38) rfl p_a0.1 rfl rfl ((hC253.1 ar0 0 (t_ninO hI.wf p_a0.1 (t_outO hI.wf p_a0.1 rfl) rfl)).2.2.trans ((hC39.1 ar0 0 (t_ninO hI.wf p_a0.1 (t_outO hI.wf p_a0.1 rfl) rfl)).2.2.trans e38)) rfl rfl ?_
          refine ev_getI f_X8_readCase (nx := 96) rfl p38.1 rfl rfl rfl ?_
          refine ev_inV4 f_X8_readCase (nx := 99) (lo2 := [(0, .ref a254), (1, .int 1), (2, .int ar1), (3, .int (gi253 a38 8))]) rfl rfl rfl rfl f_X7_addStep p254.1 rfl rfl rfl rfl rfl ?_
          refine ev_loc f_X7_addStep (nx := 1) rfl rfl rfl rfl ?_
          obtain ⟨hk255, d255, r1_255, r2_255, s1_255, s2_255, n255, hn255, r4_255, r5_255, r6_255, s4_255, s5_255, s6_255⟩ := id p254
          have q256 := hI.2.2.2.2.1 a254 n255 p254 s4_255
          refine ev_getI f_X7_addStep (nx := 4) rfl p254.1 rfl rfl rfl ?_
          obtain ⟨l257, u257⟩ := hI.b p254.1 (t_bdK rfl : t_bd 6 3 = some (0, 300))
          refine ev_loc f_X7_addStep (nx := 5) rfl rfl rfl rfl ?_
          refine ev_getR f_X7_addStep (nx := 8) (v := .ref (a254 + 3)) rfl p254.1 rfl rfl r4_255 rfl rfl ?_
          obtain ⟨l258, u258⟩ := t_lenb hn255
          refine ev_alen f_X7_addStep (nx := 9) rfl s4_255 rfl rfl ?_
          refine ev_if f_X7_addStep (t1 := 52) (t2 := 12) rfl rfl rfl (fun h259 => ?_) (fun h259 => ?_)
          · refine ev_retK0 f_X7_addStep rfl rfl rfl ?_
            refine ev_loc f_X8_readCase (nx := 100) rfl rfl rfl rfl ?_
            refine ev_getR f_X8_readCase (nx := 103) (v := .ref a38) rfl p_a0.1 rfl rfl ((hC253.1 ar0 0 (t_ninO hI.wf p_a0.1 (t_outO hI.wf p_a0.1 rfl) rfl)).2.2.trans ((hC39.1 ar0 0 (t_ninO hI.wf p_a0.1 (t_outO hI.wf p_a0.1 rfl) rfl)).2.2.trans e38)) rfl rfl ?_
            refine ev_ic f_X8_readCase (nx := 104) (v := 0) rfl (by decide) rfl ?_
            refine ev_sp f_X8_readCase (nx := 107) (v := 300) rfl (by decide) rfl ?_
            refine ev_inV3 f_X8_readCase (nx := 110) (lo2 := [(0, .ref a38), (1, .int 0), (2, .int 300)]) rfl rfl rfl rfl f_X9_takeNumber p38.1 rfl rfl rfl rfl rfl ?_
            refine ev_loc f_X9_takeNumber (nx := 1) rfl rfl rfl rfl ?_
            refine ev_getI f_X9_takeNumber (nx := 4) rfl p38.1 rfl rfl rfl ?_
            refine ev_ic f_X9_takeNumber (nx := 5) (v := 1) rfl (by decide) rfl ?_
            refine ev_if f_X9_takeNumber (t1 := 14) (t2 := 8) rfl rfl rfl (fun h260 => ?_) (fun h260 => ?_)
            · have u261 : (gi253 a38 3).toInt ≤ 1 := t_equ h260 (by decide : (1:Int32).toInt ≤ (1:Int))
              have l262 : 1 ≤ (gi253 a38 3).toInt := t_eql h260 (by decide : (1:Int) ≤ (1:Int32).toInt)
              refine ev_loc f_X9_takeNumber (nx := 15) rfl rfl rfl rfl ?_
              refine ev_gvI f_X9_takeNumber (nx := 18) (w := (gi253 a38 8)) rfl p38.1 rfl rfl rfl rfl ?_
              refine ev_loc f_X9_takeNumber (nx := 19) rfl rfl rfl rfl ?_
              refine ev_if f_X9_takeNumber (t1 := 30) (t2 := 22) rfl rfl rfl (fun h263 => ?_) (fun h263 => ?_)
              · have u264 : (gi253 a38 8).toInt ≤ (-1) := t_ltu h263 (by decide : (0:Int32).toInt ≤ (0:Int)) rfl
                refine ev_loc f_X9_takeNumber (nx := 31) rfl rfl rfl rfl ?_
                refine ev_ic f_X9_takeNumber (nx := 32) (v := 4) rfl (by decide) rfl ?_
                refine ev_inV2 f_X9_takeNumber (nx := 35) (lo2 := [(0, .ref a38), (1, .int 4)]) rfl rfl rfl rfl f_X9_refuseToken p38.1 rfl rfl rfl rfl rfl ?_
                refine ev_loc f_X9_refuseToken (nx := 1) rfl rfl rfl rfl ?_
                refine ev_loc f_X9_refuseToken (nx := 2) rfl rfl rfl rfl ?_
                refine ev_gvI f_X9_refuseToken (nx := 5) (w := (gi253 a38 3)) rfl p38.1 rfl rfl rfl rfl ?_
                refine ev_ic f_X9_refuseToken (nx := 6) (v := 4) rfl (by decide) rfl ?_
                refine ev_f f_X9_refuseToken (t1 := 9) (t2 := 13) rfl rfl rfl (t_neT u261 (by decide : (4:Int) ≤ (4:Int32).toInt) (by decide)) ?_
                refine ev_loc f_X9_refuseToken (nx := 14) rfl rfl rfl rfl ?_
                refine ev_putIT f_X9_refuseToken (nx := 17) rfl p38.1 rfl rfl rfl (hI.put0 p38.1 rfl rfl) (hX.upI (t_inO hI.wf p38.1 (t_outO hI.wf p38.1 rfl) rfl)) (fun g265 e265 hI hX => ?_)
                refine ev_loc f_X9_refuseToken (nx := 18) rfl rfl rfl rfl ?_
                refine ev_loc f_X9_refuseToken (nx := 19) rfl rfl rfl rfl ?_
                refine ev_getI f_X9_refuseToken (nx := 22) rfl p38.1 rfl rfl rfl ?_
                obtain ⟨l266, u266⟩ := hI.b p38.1 (t_bdK rfl : t_bd 8 4 = some (0, 900))
                refine ev_putIT f_X9_refuseToken (nx := 25) rfl p38.1 rfl rfl rfl (hI.put0 p38.1 rfl rfl) (hX.upI (t_inO hI.wf p38.1 (t_outO hI.wf p38.1 rfl) rfl)) (fun g267 e267 hI hX => ?_)
                refine ev_ic f_X9_refuseToken (nx := 26) (v := 0) rfl (by decide) rfl ?_
                refine ev_retK1 f_X9_refuseToken rfl rfl rfl ?_
                refine ev_retK1 f_X9_takeNumber rfl rfl rfl ?_
                exact ev_ret f_X8_readCase rfl rfl rfl ⟨_, _, _, rfl, hI, hX, ⟨_, rfl, (by decide : (0:Int) ≤ (0:Int32).toInt), (Int.le_trans (by decide : (0:Int32).toInt ≤ (0:Int)) (by decide : (0:Int) ≤ 1))⟩⟩
              · have l268 : 0 ≤ (gi253 a38 8).toInt := t_lel (t_nlt h263) (by decide : (0:Int) ≤ (0:Int32).toInt)
                refine ev_loc f_X9_takeNumber (nx := 23) rfl rfl rfl rfl ?_
                refine ev_gvI f_X9_takeNumber (nx := 26) (w := (gi253 a38 8)) rfl p38.1 rfl rfl rfl rfl ?_
                refine ev_loc f_X9_takeNumber (nx := 27) rfl rfl rfl rfl ?_
                refine ev_if f_X9_takeNumber (t1 := 36) (t2 := 30) rfl rfl rfl (fun h269 => ?_) (fun h269 => ?_)
                · have u270 : (gi253 a38 8).toInt ≤ 300 := t_leu h269 (by decide : (300:Int32).toInt ≤ (300:Int))
                  refine ev_loc f_X9_takeNumber (nx := 37) rfl rfl rfl rfl ?_
                  refine ev_c0 f_X9_takeNumber (nx := 40) (r := []) rfl rfl rfl rfl rfl rfl rfl (c_step hI (a38) p38) rfl hX rfl (fun gi271 gl271 gr271 hI hX hC271 => ?_)
                  replace p_a0 := p_a0.ext hC271.2
                  replace p38 := p38.ext hC271.2
                  replace p254 := p254.ext hC271.2
                  refine ev_ic f_X9_takeNumber (nx := 41) (v := 1) rfl (by decide) rfl ?_
                  refine ev_retK1 f_X9_takeNumber rfl rfl rfl ?_
                  exact ev_ret f_X8_readCase rfl rfl rfl ⟨_, _, _, rfl, hI, hX, ⟨_, rfl, (Int.le_trans (by decide : (0:Int) ≤ 1) (by decide : (1:Int) ≤ (1:Int32).toInt)), (by decide : (1:Int32).toInt ≤ (1:Int))⟩⟩
                · have l272 : 301 ≤ (gi253 a38 8).toInt := t_ltl (t_nle h269) (by decide : (300:Int) ≤ (300:Int32).toInt) rfl
                  refine ev_loc f_X9_takeNumber (nx := 31) rfl rfl rfl rfl ?_
                  refine ev_ic f_X9_takeNumber (nx := 32) (v := 4) rfl (by decide) rfl ?_
                  refine ev_inV2 f_X9_takeNumber (nx := 35) (lo2 := [(0, .ref a38), (1, .int 4)]) rfl rfl rfl rfl f_X9_refuseToken p38.1 rfl rfl rfl rfl rfl ?_
                  refine ev_loc f_X9_refuseToken (nx := 1) rfl rfl rfl rfl ?_
                  refine ev_loc f_X9_refuseToken (nx := 2) rfl rfl rfl rfl ?_
                  refine ev_gvI f_X9_refuseToken (nx := 5) (w := (gi253 a38 3)) rfl p38.1 rfl rfl rfl rfl ?_
                  refine ev_ic f_X9_refuseToken (nx := 6) (v := 4) rfl (by decide) rfl ?_
                  refine ev_f f_X9_refuseToken (t1 := 9) (t2 := 13) rfl rfl rfl (t_neT u261 (by decide : (4:Int) ≤ (4:Int32).toInt) (by decide)) ?_
                  refine ev_loc f_X9_refuseToken (nx := 14) rfl rfl rfl rfl ?_
                  refine ev_putIT f_X9_refuseToken (nx := 17) rfl p38.1 rfl rfl rfl (hI.put0 p38.1 rfl rfl) (hX.upI (t_inO hI.wf p38.1 (t_outO hI.wf p38.1 rfl) rfl)) (fun g273 e273 hI hX => ?_)
                  refine ev_loc f_X9_refuseToken (nx := 18) rfl rfl rfl rfl ?_
                  refine ev_loc f_X9_refuseToken (nx := 19) rfl rfl rfl rfl ?_
                  refine ev_getI f_X9_refuseToken (nx := 22) rfl p38.1 rfl rfl rfl ?_
                  obtain ⟨l274, u274⟩ := hI.b p38.1 (t_bdK rfl : t_bd 8 4 = some (0, 900))
                  refine ev_putIT f_X9_refuseToken (nx := 25) rfl p38.1 rfl rfl rfl (hI.put0 p38.1 rfl rfl) (hX.upI (t_inO hI.wf p38.1 (t_outO hI.wf p38.1 rfl) rfl)) (fun g275 e275 hI hX => ?_)
                  refine ev_ic f_X9_refuseToken (nx := 26) (v := 0) rfl (by decide) rfl ?_
                  refine ev_retK1 f_X9_refuseToken rfl rfl rfl ?_
                  refine ev_retK1 f_X9_takeNumber rfl rfl rfl ?_
                  exact ev_ret f_X8_readCase rfl rfl rfl ⟨_, _, _, rfl, hI, hX, ⟨_, rfl, (by decide : (0:Int) ≤ (0:Int32).toInt), (Int.le_trans (by decide : (0:Int32).toInt ≤ (0:Int)) (by decide : (0:Int) ≤ 1))⟩⟩
            · refine ev_loc f_X9_takeNumber (nx := 9) rfl rfl rfl rfl ?_
              refine ev_ic f_X9_takeNumber (nx := 10) (v := 2) rfl (by decide) rfl ?_
              refine ev_inV2 f_X9_takeNumber (nx := 13) (lo2 := [(0, .ref a38), (1, .int 2)]) rfl rfl rfl rfl f_X9_refuseToken p38.1 rfl rfl rfl rfl rfl ?_
              refine ev_loc f_X9_refuseToken (nx := 1) rfl rfl rfl rfl ?_
              refine ev_loc f_X9_refuseToken (nx := 2) rfl rfl rfl rfl ?_
              refine ev_gvI f_X9_refuseToken (nx := 5) (w := (gi253 a38 3)) rfl p38.1 rfl rfl rfl rfl ?_
              refine ev_ic f_X9_refuseToken (nx := 6) (v := 4) rfl (by decide) rfl ?_
              refine ev_if f_X9_refuseToken (t1 := 9) (t2 := 13) rfl rfl rfl (fun h276 => ?_) (fun h276 => ?_)
              · have u277 : (gi253 a38 3).toInt ≤ 4 := t_equ h276 (by decide : (4:Int32).toInt ≤ (4:Int))
                have l278 : 4 ≤ (gi253 a38 3).toInt := t_eql h276 (by decide : (4:Int) ≤ (4:Int32).toInt)
                refine ev_ic f_X9_refuseToken (nx := 10) (v := 1) rfl (by decide) rfl ?_
                refine ev_jmp f_X9_refuseToken (nx := 14) rfl rfl rfl ?_
                refine ev_putIT f_X9_refuseToken (nx := 17) rfl p38.1 rfl rfl rfl (hI.put0 p38.1 rfl rfl) (hX.upI (t_inO hI.wf p38.1 (t_outO hI.wf p38.1 rfl) rfl)) (fun g279 e279 hI hX => ?_)
                refine ev_loc f_X9_refuseToken (nx := 18) rfl rfl rfl rfl ?_
                refine ev_loc f_X9_refuseToken (nx := 19) rfl rfl rfl rfl ?_
                refine ev_getI f_X9_refuseToken (nx := 22) rfl p38.1 rfl rfl rfl ?_
                obtain ⟨l280, u280⟩ := hI.b p38.1 (t_bdK rfl : t_bd 8 4 = some (0, 900))
                refine ev_putIT f_X9_refuseToken (nx := 25) rfl p38.1 rfl rfl rfl (hI.put0 p38.1 rfl rfl) (hX.upI (t_inO hI.wf p38.1 (t_outO hI.wf p38.1 rfl) rfl)) (fun g281 e281 hI hX => ?_)
                refine ev_ic f_X9_refuseToken (nx := 26) (v := 0) rfl (by decide) rfl ?_
                refine ev_retK1 f_X9_refuseToken rfl rfl rfl ?_
                refine ev_retK1 f_X9_takeNumber rfl rfl rfl ?_
                exact ev_ret f_X8_readCase rfl rfl rfl ⟨_, _, _, rfl, hI, hX, ⟨_, rfl, (by decide : (0:Int) ≤ (0:Int32).toInt), (Int.le_trans (by decide : (0:Int32).toInt ≤ (0:Int)) (by decide : (0:Int) ≤ 1))⟩⟩
              · refine ev_loc f_X9_refuseToken (nx := 14) rfl rfl rfl rfl ?_
                refine ev_putIT f_X9_refuseToken (nx := 17) rfl p38.1 rfl rfl rfl (hI.put0 p38.1 rfl rfl) (hX.upI (t_inO hI.wf p38.1 (t_outO hI.wf p38.1 rfl) rfl)) (fun g282 e282 hI hX => ?_)
                refine ev_loc f_X9_refuseToken (nx := 18) rfl rfl rfl rfl ?_
                refine ev_loc f_X9_refuseToken (nx := 19) rfl rfl rfl rfl ?_
                refine ev_getI f_X9_refuseToken (nx := 22) rfl p38.1 rfl rfl rfl ?_
                obtain ⟨l283, u283⟩ := hI.b p38.1 (t_bdK rfl : t_bd 8 4 = some (0, 900))
                refine ev_putIT f_X9_refuseToken (nx := 25) rfl p38.1 rfl rfl rfl (hI.put0 p38.1 rfl rfl) (hX.upI (t_inO hI.wf p38.1 (t_outO hI.wf p38.1 rfl) rfl)) (fun g284 e284 hI hX => ?_)
                refine ev_ic f_X9_refuseToken (nx := 26) (v := 0) rfl (by decide) rfl ?_
                refine ev_retK1 f_X9_refuseToken rfl rfl rfl ?_
                refine ev_retK1 f_X9_takeNumber rfl rfl rfl ?_
                exact ev_ret f_X8_readCase rfl rfl rfl ⟨_, _, _, rfl, hI, hX, ⟨_, rfl, (by decide : (0:Int) ≤ (0:Int32).toInt), (Int.le_trans (by decide : (0:Int32).toInt ≤ (0:Int)) (by decide : (0:Int) ≤ 1))⟩⟩
          · have u285 : (gi253 a254 3).toInt ≤ 299 := t_ltu (t_nle h259) u258 rfl
            have l286 : 1 ≤ (Int32.ofNat n255).toInt := t_ltl (t_nle h259) l257 rfl
            refine ev_loc f_X7_addStep (nx := 13) rfl rfl rfl rfl ?_
            refine ev_getR f_X7_addStep (nx := 16) (v := .ref (a254 + 3)) rfl p254.1 rfl rfl r4_255 rfl rfl ?_
            refine ev_loc f_X7_addStep (nx := 17) rfl rfl rfl rfl ?_
            refine ev_gvI f_X7_addStep (nx := 20) (w := (gi253 a254 3)) rfl p254.1 rfl rfl rfl rfl ?_
            refine ev_loc f_X7_addStep (nx := 21) rfl rfl rfl rfl ?_
            refine ev_iastS f_X7_addStep (nx := 22) rfl s4_255 (t_ixs l257 (t_lenlt (t_nle h259) hn255)) rfl (hI.astD s4_255 (by omega) (fun k hk e => absurd e (t_Ru.ne p254 hk (by decide)))) (hX.upI (t_inOD s4_255 (by omega) rfl)) (fun g287 e287 hI hX => ?_)
            refine ev_loc f_X7_addStep (nx := 23) rfl rfl rfl rfl ?_
            refine ev_getR f_X7_addStep (nx := 26) (v := .ref (a254 + 4)) rfl p254.1 rfl rfl r5_255 rfl rfl ?_
            refine ev_loc f_X7_addStep (nx := 27) rfl rfl rfl rfl ?_
            refine ev_gvI f_X7_addStep (nx := 30) (w := (gi253 a254 3)) rfl p254.1 rfl rfl ((by rw [e287]; exact x_up2_off (Or.inl (t_noobj s4_255 p254.1)) : g287 a254 3 = gi253 a254 3).trans rfl) rfl ?_
            refine ev_loc f_X7_addStep (nx := 31) rfl rfl rfl rfl ?_
            refine ev_iastS f_X7_addStep (nx := 32) rfl s5_255 (t_ixs l257 (t_lenlt (t_nle h259) hn255)) rfl (hI.astD s5_255 (by omega) (fun k hk e => absurd e (t_Ru.ne p254 hk (by decide)))) (hX.upI (t_inOD s5_255 (by omega) rfl)) (fun g288 e288 hI hX => ?_)
            refine ev_loc f_X7_addStep (nx := 33) rfl rfl rfl rfl ?_
            refine ev_getR f_X7_addStep (nx := 36) (v := .ref (a254 + 5)) rfl p254.1 rfl rfl r6_255 rfl rfl ?_
            refine ev_loc f_X7_addStep (nx := 37) rfl rfl rfl rfl ?_
            refine ev_gvI f_X7_addStep (nx := 40) (w := (gi253 a254 3)) rfl p254.1 rfl rfl ((by rw [e288]; exact x_up2_off (Or.inl (t_noobj s5_255 p254.1)) : g288 a254 3 = g287 a254 3).trans ((by rw [e287]; exact x_up2_off (Or.inl (t_noobj s4_255 p254.1)) : g287 a254 3 = gi253 a254 3).trans rfl)) rfl ?_
            refine ev_loc f_X7_addStep (nx := 41) rfl rfl rfl rfl ?_
            refine ev_iastS f_X7_addStep (nx := 42) rfl s6_255 (t_ixs l257 (t_lenlt (t_nle h259) hn255)) rfl (hI.astD s6_255 (by omega) (fun k hk e => absurd e (t_Ru.ne p254 hk (by decide)))) (hX.upI (t_inOD s6_255 (by omega) rfl)) (fun g289 e289 hI hX => ?_)
            refine ev_loc f_X7_addStep (nx := 43) rfl rfl rfl rfl ?_
            refine ev_alu f_X7_addStep (nx := 44) rfl rfl rfl rfl ?_
            refine ev_gvI f_X7_addStep (nx := 47) (w := (gi253 a254 3)) rfl p254.1 rfl rfl ((by rw [e289]; exact x_up2_off (Or.inl (t_noobj s6_255 p254.1)) : g289 a254 3 = g288 a254 3).trans ((by rw [e288]; exact x_up2_off (Or.inl (t_noobj s5_255 p254.1)) : g288 a254 3 = g287 a254 3).trans ((by rw [e287]; exact x_up2_off (Or.inl (t_noobj s4_255 p254.1)) : g287 a254 3 = gi253 a254 3).trans rfl))) rfl ?_
            refine ev_ic f_X7_addStep (nx := 48) (v := 1) rfl (by decide) rfl ?_
            refine ev_addC f_X7_addStep (nx := 49) (c := 1) (l := 1) (u := 300) rfl (by decide) l257 u285 rfl rfl (by decide) (by decide) rfl (fun z290 e290 l290 u290 => ?_)
            have q291 := t_lenlt (t_nle h259) hn255
            refine ev_putIT f_X7_addStep (nx := 52) rfl p254.1 rfl rfl rfl (hI.putG p254.1 (fun lo hi e => by have e : some ((0 : Int), (300 : Int)) = some (lo, hi) := e; have := hn255; cases e; exact ⟨by omega, by omega⟩) (fun _ _ n2 hn2 => by rw [s4_255] at hn2; cases hn2; omega)) (hX.upI (t_inO hI.wf p254.1 (t_outO hI.wf p254.1 rfl) rfl)) (fun g291 e291 hI hX => ?_)
            refine ev_retK0 f_X7_addStep rfl rfl rfl ?_
            refine ev_loc f_X8_readCase (nx := 100) rfl rfl rfl rfl ?_
            refine ev_getR f_X8_readCase (nx := 103) (v := .ref a38) rfl p_a0.1 rfl rfl ((hC253.1 ar0 0 (t_ninO hI.wf p_a0.1 (t_outO hI.wf p_a0.1 rfl) rfl)).2.2.trans ((hC39.1 ar0 0 (t_ninO hI.wf p_a0.1 (t_outO hI.wf p_a0.1 rfl) rfl)).2.2.trans e38)) rfl rfl ?_
            refine ev_ic f_X8_readCase (nx := 104) (v := 0) rfl (by decide) rfl ?_
            refine ev_sp f_X8_readCase (nx := 107) (v := 300) rfl (by decide) rfl ?_
            refine ev_inV3 f_X8_readCase (nx := 110) (lo2 := [(0, .ref a38), (1, .int 0), (2, .int 300)]) rfl rfl rfl rfl f_X9_takeNumber p38.1 rfl rfl rfl rfl rfl ?_
            refine ev_loc f_X9_takeNumber (nx := 1) rfl rfl rfl rfl ?_
            refine ev_getI f_X9_takeNumber (nx := 4) rfl p38.1 rfl rfl rfl ?_
            refine ev_ic f_X9_takeNumber (nx := 5) (v := 1) rfl (by decide) rfl ?_
            refine ev_if f_X9_takeNumber (t1 := 14) (t2 := 8) rfl rfl rfl (fun h292 => ?_) (fun h292 => ?_)
            · have u293 : (g291 a38 3).toInt ≤ 1 := t_equ h292 (by decide : (1:Int32).toInt ≤ (1:Int))
              have l294 : 1 ≤ (g291 a38 3).toInt := t_eql h292 (by decide : (1:Int) ≤ (1:Int32).toInt)
              refine ev_loc f_X9_takeNumber (nx := 15) rfl rfl rfl rfl ?_
              refine ev_gvI f_X9_takeNumber (nx := 18) (w := (gi253 a38 8)) rfl p38.1 rfl rfl ((by rw [e291]; exact x_up2_off (Or.inr (by decide)) : g291 a38 8 = g289 a38 8).trans ((by rw [e289]; exact x_up2_off (Or.inl (t_noobj s6_255 p38.1)) : g289 a38 8 = g288 a38 8).trans ((by rw [e288]; exact x_up2_off (Or.inl (t_noobj s5_255 p38.1)) : g288 a38 8 = g287 a38 8).trans ((by rw [e287]; exact x_up2_off (Or.inl (t_noobj s4_255 p38.1)) : g287 a38 8 = gi253 a38 8).trans rfl)))) rfl ?_
              refine ev_loc f_X9_takeNumber (nx := 19) rfl rfl rfl rfl ?_
              refine ev_if f_X9_takeNumber (t1 := 30) (t2 := 22) rfl rfl rfl (fun h295 => ?_) (fun h295 => ?_)
              · have u296 : (gi253 a38 8).toInt ≤ (-1) := t_ltu h295 (by decide : (0:Int32).toInt ≤ (0:Int)) rfl
                refine ev_loc f_X9_takeNumber (nx := 31) rfl rfl rfl rfl ?_
                refine ev_ic f_X9_takeNumber (nx := 32) (v := 4) rfl (by decide) rfl ?_
                refine ev_inV2 f_X9_takeNumber (nx := 35) (lo2 := [(0, .ref a38), (1, .int 4)]) rfl rfl rfl rfl f_X9_refuseToken p38.1 rfl rfl rfl rfl rfl ?_
                refine ev_loc f_X9_refuseToken (nx := 1) rfl rfl rfl rfl ?_
                refine ev_loc f_X9_refuseToken (nx := 2) rfl rfl rfl rfl ?_
                refine ev_gvI f_X9_refuseToken (nx := 5) (w := (g291 a38 3)) rfl p38.1 rfl rfl rfl rfl ?_
                refine ev_ic f_X9_refuseToken (nx := 6) (v := 4) rfl (by decide) rfl ?_
                refine ev_f f_X9_refuseToken (t1 := 9) (t2 := 13) rfl rfl rfl (t_neT u293 (by decide : (4:Int) ≤ (4:Int32).toInt) (by decide)) ?_
                refine ev_loc f_X9_refuseToken (nx := 14) rfl rfl rfl rfl ?_
                refine ev_putIT f_X9_refuseToken (nx := 17) rfl p38.1 rfl rfl rfl (hI.put0 p38.1 rfl rfl) (hX.upI (t_inO hI.wf p38.1 (t_outO hI.wf p38.1 rfl) rfl)) (fun g297 e297 hI hX => ?_)
                refine ev_loc f_X9_refuseToken (nx := 18) rfl rfl rfl rfl ?_
                refine ev_loc f_X9_refuseToken (nx := 19) rfl rfl rfl rfl ?_
                refine ev_getI f_X9_refuseToken (nx := 22) rfl p38.1 rfl rfl rfl ?_
                obtain ⟨l298, u298⟩ := hI.b p38.1 (t_bdK rfl : t_bd 8 4 = some (0, 900))
                refine ev_putIT f_X9_refuseToken (nx := 25) rfl p38.1 rfl rfl rfl (hI.put0 p38.1 rfl rfl) (hX.upI (t_inO hI.wf p38.1 (t_outO hI.wf p38.1 rfl) rfl)) (fun g299 e299 hI hX => ?_)
                refine ev_ic f_X9_refuseToken (nx := 26) (v := 0) rfl (by decide) rfl ?_
                refine ev_retK1 f_X9_refuseToken rfl rfl rfl ?_
                refine ev_retK1 f_X9_takeNumber rfl rfl rfl ?_
                exact ev_ret f_X8_readCase rfl rfl rfl ⟨_, _, _, rfl, hI, hX, ⟨_, rfl, (by decide : (0:Int) ≤ (0:Int32).toInt), (Int.le_trans (by decide : (0:Int32).toInt ≤ (0:Int)) (by decide : (0:Int) ≤ 1))⟩⟩
              · have l300 : 0 ≤ (gi253 a38 8).toInt := t_lel (t_nlt h295) (by decide : (0:Int) ≤ (0:Int32).toInt)
                refine ev_loc f_X9_takeNumber (nx := 23) rfl rfl rfl rfl ?_
                refine ev_gvI f_X9_takeNumber (nx := 26) (w := (gi253 a38 8)) rfl p38.1 rfl rfl ((by rw [e291]; exact x_up2_off (Or.inr (by decide)) : g291 a38 8 = g289 a38 8).trans ((by rw [e289]; exact x_up2_off (Or.inl (t_noobj s6_255 p38.1)) : g289 a38 8 = g288 a38 8).trans ((by rw [e288]; exact x_up2_off (Or.inl (t_noobj s5_255 p38.1)) : g288 a38 8 = g287 a38 8).trans ((by rw [e287]; exact x_up2_off (Or.inl (t_noobj s4_255 p38.1)) : g287 a38 8 = gi253 a38 8).trans rfl)))) rfl ?_
                refine ev_loc f_X9_takeNumber (nx := 27) rfl rfl rfl rfl ?_
                refine ev_if f_X9_takeNumber (t1 := 36) (t2 := 30) rfl rfl rfl (fun h301 => ?_) (fun h301 => ?_)
                · have u302 : (gi253 a38 8).toInt ≤ 300 := t_leu h301 (by decide : (300:Int32).toInt ≤ (300:Int))
                  refine ev_loc f_X9_takeNumber (nx := 37) rfl rfl rfl rfl ?_
                  refine ev_c0 f_X9_takeNumber (nx := 40) (r := []) rfl rfl rfl rfl rfl rfl rfl (c_step hI (a38) p38) rfl hX rfl (fun gi303 gl303 gr303 hI hX hC303 => ?_)
                  replace p_a0 := p_a0.ext hC303.2
                  replace p38 := p38.ext hC303.2
                  replace p254 := p254.ext hC303.2
                  refine ev_ic f_X9_takeNumber (nx := 41) (v := 1) rfl (by decide) rfl ?_
                  refine ev_retK1 f_X9_takeNumber rfl rfl rfl ?_
                  exact ev_ret f_X8_readCase rfl rfl rfl ⟨_, _, _, rfl, hI, hX, ⟨_, rfl, (Int.le_trans (by decide : (0:Int) ≤ 1) (by decide : (1:Int) ≤ (1:Int32).toInt)), (by decide : (1:Int32).toInt ≤ (1:Int))⟩⟩
                · have l304 : 301 ≤ (gi253 a38 8).toInt := t_ltl (t_nle h301) (by decide : (300:Int) ≤ (300:Int32).toInt) rfl
                  refine ev_loc f_X9_takeNumber (nx := 31) rfl rfl rfl rfl ?_
                  refine ev_ic f_X9_takeNumber (nx := 32) (v := 4) rfl (by decide) rfl ?_
                  refine ev_inV2 f_X9_takeNumber (nx := 35) (lo2 := [(0, .ref a38), (1, .int 4)]) rfl rfl rfl rfl f_X9_refuseToken p38.1 rfl rfl rfl rfl rfl ?_
                  refine ev_loc f_X9_refuseToken (nx := 1) rfl rfl rfl rfl ?_
                  refine ev_loc f_X9_refuseToken (nx := 2) rfl rfl rfl rfl ?_
                  refine ev_gvI f_X9_refuseToken (nx := 5) (w := (g291 a38 3)) rfl p38.1 rfl rfl rfl rfl ?_
                  refine ev_ic f_X9_refuseToken (nx := 6) (v := 4) rfl (by decide) rfl ?_
                  refine ev_f f_X9_refuseToken (t1 := 9) (t2 := 13) rfl rfl rfl (t_neT u293 (by decide : (4:Int) ≤ (4:Int32).toInt) (by decide)) ?_
                  refine ev_loc f_X9_refuseToken (nx := 14) rfl rfl rfl rfl ?_
                  refine ev_putIT f_X9_refuseToken (nx := 17) rfl p38.1 rfl rfl rfl (hI.put0 p38.1 rfl rfl) (hX.upI (t_inO hI.wf p38.1 (t_outO hI.wf p38.1 rfl) rfl)) (fun g305 e305 hI hX => ?_)
                  refine ev_loc f_X9_refuseToken (nx := 18) rfl rfl rfl rfl ?_
                  refine ev_loc f_X9_refuseToken (nx := 19) rfl rfl rfl rfl ?_
                  refine ev_getI f_X9_refuseToken (nx := 22) rfl p38.1 rfl rfl rfl ?_
                  obtain ⟨l306, u306⟩ := hI.b p38.1 (t_bdK rfl : t_bd 8 4 = some (0, 900))
                  refine ev_putIT f_X9_refuseToken (nx := 25) rfl p38.1 rfl rfl rfl (hI.put0 p38.1 rfl rfl) (hX.upI (t_inO hI.wf p38.1 (t_outO hI.wf p38.1 rfl) rfl)) (fun g307 e307 hI hX => ?_)
                  refine ev_ic f_X9_refuseToken (nx := 26) (v := 0) rfl (by decide) rfl ?_
                  refine ev_retK1 f_X9_refuseToken rfl rfl rfl ?_
                  refine ev_retK1 f_X9_takeNumber rfl rfl rfl ?_
                  exact ev_ret f_X8_readCase rfl rfl rfl ⟨_, _, _, rfl, hI, hX, ⟨_, rfl, (by decide : (0:Int) ≤ (0:Int32).toInt), (Int.le_trans (by decide : (0:Int32).toInt ≤ (0:Int)) (by decide : (0:Int) ≤ 1))⟩⟩
            · refine ev_loc f_X9_takeNumber (nx := 9) rfl rfl rfl rfl ?_
              refine ev_ic f_X9_takeNumber (nx := 10) (v := 2) rfl (by decide) rfl ?_
              refine ev_inV2 f_X9_takeNumber (nx := 13) (lo2 := [(0, .ref a38), (1, .int 2)]) rfl rfl rfl rfl f_X9_refuseToken p38.1 rfl rfl rfl rfl rfl ?_
              refine ev_loc f_X9_refuseToken (nx := 1) rfl rfl rfl rfl ?_
              refine ev_loc f_X9_refuseToken (nx := 2) rfl rfl rfl rfl ?_
              refine ev_gvI f_X9_refuseToken (nx := 5) (w := (g291 a38 3)) rfl p38.1 rfl rfl rfl rfl ?_
              refine ev_ic f_X9_refuseToken (nx := 6) (v := 4) rfl (by decide) rfl ?_
              refine ev_if f_X9_refuseToken (t1 := 9) (t2 := 13) rfl rfl rfl (fun h308 => ?_) (fun h308 => ?_)
              · have u309 : (g291 a38 3).toInt ≤ 4 := t_equ h308 (by decide : (4:Int32).toInt ≤ (4:Int))
                have l310 : 4 ≤ (g291 a38 3).toInt := t_eql h308 (by decide : (4:Int) ≤ (4:Int32).toInt)
                refine ev_ic f_X9_refuseToken (nx := 10) (v := 1) rfl (by decide) rfl ?_
                refine ev_jmp f_X9_refuseToken (nx := 14) rfl rfl rfl ?_
                refine ev_putIT f_X9_refuseToken (nx := 17) rfl p38.1 rfl rfl rfl (hI.put0 p38.1 rfl rfl) (hX.upI (t_inO hI.wf p38.1 (t_outO hI.wf p38.1 rfl) rfl)) (fun g311 e311 hI hX => ?_)
                refine ev_loc f_X9_refuseToken (nx := 18) rfl rfl rfl rfl ?_
                refine ev_loc f_X9_refuseToken (nx := 19) rfl rfl rfl rfl ?_
                refine ev_getI f_X9_refuseToken (nx := 22) rfl p38.1 rfl rfl rfl ?_
                obtain ⟨l312, u312⟩ := hI.b p38.1 (t_bdK rfl : t_bd 8 4 = some (0, 900))
                refine ev_putIT f_X9_refuseToken (nx := 25) rfl p38.1 rfl rfl rfl (hI.put0 p38.1 rfl rfl) (hX.upI (t_inO hI.wf p38.1 (t_outO hI.wf p38.1 rfl) rfl)) (fun g313 e313 hI hX => ?_)
                refine ev_ic f_X9_refuseToken (nx := 26) (v := 0) rfl (by decide) rfl ?_
                refine ev_retK1 f_X9_refuseToken rfl rfl rfl ?_
                refine ev_retK1 f_X9_takeNumber rfl rfl rfl ?_
                exact ev_ret f_X8_readCase rfl rfl rfl ⟨_, _, _, rfl, hI, hX, ⟨_, rfl, (by decide : (0:Int) ≤ (0:Int32).toInt), (Int.le_trans (by decide : (0:Int32).toInt ≤ (0:Int)) (by decide : (0:Int) ≤ 1))⟩⟩
              · refine ev_loc f_X9_refuseToken (nx := 14) rfl rfl rfl rfl ?_
                refine ev_putIT f_X9_refuseToken (nx := 17) rfl p38.1 rfl rfl rfl (hI.put0 p38.1 rfl rfl) (hX.upI (t_inO hI.wf p38.1 (t_outO hI.wf p38.1 rfl) rfl)) (fun g314 e314 hI hX => ?_)
                refine ev_loc f_X9_refuseToken (nx := 18) rfl rfl rfl rfl ?_
                refine ev_loc f_X9_refuseToken (nx := 19) rfl rfl rfl rfl ?_
                refine ev_getI f_X9_refuseToken (nx := 22) rfl p38.1 rfl rfl rfl ?_
                obtain ⟨l315, u315⟩ := hI.b p38.1 (t_bdK rfl : t_bd 8 4 = some (0, 900))
                refine ev_putIT f_X9_refuseToken (nx := 25) rfl p38.1 rfl rfl rfl (hI.put0 p38.1 rfl rfl) (hX.upI (t_inO hI.wf p38.1 (t_outO hI.wf p38.1 rfl) rfl)) (fun g316 e316 hI hX => ?_)
                refine ev_ic f_X9_refuseToken (nx := 26) (v := 0) rfl (by decide) rfl ?_
                refine ev_retK1 f_X9_refuseToken rfl rfl rfl ?_
                refine ev_retK1 f_X9_takeNumber rfl rfl rfl ?_
                exact ev_ret f_X8_readCase rfl rfl rfl ⟨_, _, _, rfl, hI, hX, ⟨_, rfl, (by decide : (0:Int) ≤ (0:Int32).toInt), (Int.le_trans (by decide : (0:Int32).toInt ≤ (0:Int)) (by decide : (0:Int) ≤ 1))⟩⟩
        · refine ev_ic f_X9_isSignOf (nx := 21) (v := 0) rfl (by decide) rfl ?_
          refine ev_retK1 f_X9_isSignOf rfl rfl rfl ?_
          refine ev_t f_X8_comparesTold (t1 := 28) (t2 := 26) rfl rfl rfl (by decide) ?_
          refine ev_loc f_X8_comparesTold (nx := 29) rfl rfl rfl rfl ?_
          refine ev_getR f_X8_comparesTold (nx := 32) (v := .ref a38) rfl p_a0.1 rfl rfl ((hC39.1 ar0 0 (t_ninO hI.wf p_a0.1 (t_outO hI.wf p_a0.1 rfl) rfl)).2.2.trans e38) rfl rfl ?_
          refine ev_bp f_X8_comparesTold (nx := 34) (v := 61) rfl (by decide) rfl ?_
          refine ev_inV2 f_X8_comparesTold (nx := 37) (lo2 := [(0, .ref a38), (1, .int 61)]) rfl rfl rfl rfl f_X9_isSignOf p38.1 rfl rfl rfl rfl rfl ?_
          refine ev_loc f_X9_isSignOf (nx := 1) rfl rfl rfl rfl ?_
          refine ev_gvI f_X9_isSignOf (nx := 4) (w := (gi39 a38 3)) rfl p38.1 rfl rfl rfl rfl ?_
          refine ev_ic f_X9_isSignOf (nx := 5) (v := 2) rfl (by decide) rfl ?_
          refine ev_t f_X9_isSignOf (t1 := 8) (t2 := 20) rfl rfl rfl (t_eqT u248 l249 (by decide : (2:Int32).toInt ≤ (2:Int)) (by decide : (2:Int) ≤ (2:Int32).toInt)) ?_
          refine ev_loc f_X9_isSignOf (nx := 9) rfl rfl rfl rfl ?_
          refine ev_gvI f_X9_isSignOf (nx := 12) (w := (gi39 a38 9)) rfl p38.1 rfl rfl rfl rfl ?_
          refine ev_loc f_X9_isSignOf (nx := 13) rfl rfl rfl rfl ?_
          refine ev_if f_X9_isSignOf (t1 := 16) (t2 := 20) rfl rfl rfl (fun h317 => ?_) (fun h317 => ?_)
          · have u318 : (gi39 a38 9).toInt ≤ 61 := t_equ h317 (by decide : (61:Int32).toInt ≤ (61:Int))
            have l319 : 61 ≤ (gi39 a38 9).toInt := t_eql h317 (by decide : (61:Int) ≤ (61:Int32).toInt)
            refine ev_ic f_X9_isSignOf (nx := 17) (v := 1) rfl (by decide) rfl ?_
            refine ev_jmp f_X9_isSignOf (nx := 21) rfl rfl rfl ?_
            refine ev_retK1 f_X9_isSignOf rfl rfl rfl ?_
            refine ev_f f_X8_comparesTold (t1 := 44) (t2 := 40) rfl rfl rfl (by decide) ?_
            refine ev_ic f_X8_comparesTold (nx := 41) (v := 2) rfl (by decide) rfl ?_
            refine ev_jmp f_X8_comparesTold (nx := 45) rfl rfl rfl ?_
            refine ev_retK1 f_X8_comparesTold rfl rfl rfl ?_
            refine ev_loc f_X8_readCase (nx := 62) (lo' := [(2, .int 2), (0, .ref ar0), (1, .int ar1)]) rfl rfl rfl rfl ?_
            refine ev_loc f_X8_readCase (nx := 63) rfl rfl rfl rfl ?_
            refine ev_ic f_X8_readCase (nx := 64) (v := -1) rfl (by decide) rfl ?_
            refine ev_f f_X8_readCase (t1 := 67) (t2 := 76) rfl rfl rfl (by decide) ?_
            refine ev_loc f_X8_readCase (nx := 77) rfl rfl rfl rfl ?_
            refine ev_getR f_X8_readCase (nx := 80) (v := .ref a38) rfl p_a0.1 rfl rfl ((hC39.1 ar0 0 (t_ninO hI.wf p_a0.1 (t_outO hI.wf p_a0.1 rfl) rfl)).2.2.trans e38) rfl rfl ?_
            refine ev_c0 f_X8_readCase (nx := 83) (r := []) rfl rfl rfl rfl rfl rfl rfl (c_step hI (a38) p38) rfl hX rfl (fun gi320 gl320 gr320 hI hX hC320 => ?_)
            replace p_a0 := p_a0.ext hC320.2
            replace p38 := p38.ext hC320.2
            refine ev_loc f_X8_readCase (nx := 84) rfl rfl rfl rfl ?_
            obtain ⟨a321, e321, p321⟩ := p_a0.2.2
            refine ev_getR f_X8_readCase (nx := 87) rfl p_a0.1 rfl rfl e321 rfl rfl ?_
            refine ev_loc f_X8_readCase (nx := 88) rfl rfl rfl rfl ?_
            refine ev_loc f_X8_readCase (nx := 89) rfl rfl rfl rfl ?_
            refine ev_loc f_X8_readCase (nx := 90) rfl rfl rfl rfl ?_
            refine ev_getR f_X8_readCase (nx := 93) (v := .ref a38) rfl p_a0.1 rfl rfl ((hC320.1 ar0 0 (t_ninO hI.wf p_a0.1 (t_outO hI.wf p_a0.1 rfl) rfl)).2.2.trans ((hC39.1 ar0 0 (t_ninO hI.wf p_a0.1 (t_outO hI.wf p_a0.1 rfl) rfl)).2.2.trans e38)) rfl rfl ?_
            refine ev_getI f_X8_readCase (nx := 96) rfl p38.1 rfl rfl rfl ?_
            refine ev_inV4 f_X8_readCase (nx := 99) (lo2 := [(0, .ref a321), (1, .int 2), (2, .int ar1), (3, .int (gi320 a38 8))]) rfl rfl rfl rfl f_X7_addStep p321.1 rfl rfl rfl rfl rfl ?_
            refine ev_loc f_X7_addStep (nx := 1) rfl rfl rfl rfl ?_
            obtain ⟨hk322, d322, r1_322, r2_322, s1_322, s2_322, n322, hn322, r4_322, r5_322, r6_322, s4_322, s5_322, s6_322⟩ := id p321
            have q323 := hI.2.2.2.2.1 a321 n322 p321 s4_322
            refine ev_getI f_X7_addStep (nx := 4) rfl p321.1 rfl rfl rfl ?_
            obtain ⟨l324, u324⟩ := hI.b p321.1 (t_bdK rfl : t_bd 6 3 = some (0, 300))
            refine ev_loc f_X7_addStep (nx := 5) rfl rfl rfl rfl ?_
            refine ev_getR f_X7_addStep (nx := 8) (v := .ref (a321 + 3)) rfl p321.1 rfl rfl r4_322 rfl rfl ?_
            obtain ⟨l325, u325⟩ := t_lenb hn322
            refine ev_alen f_X7_addStep (nx := 9) rfl s4_322 rfl rfl ?_
            refine ev_if f_X7_addStep (t1 := 52) (t2 := 12) rfl rfl rfl (fun h326 => ?_) (fun h326 => ?_)
            · refine ev_retK0 f_X7_addStep rfl rfl rfl ?_
              refine ev_loc f_X8_readCase (nx := 100) rfl rfl rfl rfl ?_
              refine ev_getR f_X8_readCase (nx := 103) (v := .ref a38) rfl p_a0.1 rfl rfl ((hC320.1 ar0 0 (t_ninO hI.wf p_a0.1 (t_outO hI.wf p_a0.1 rfl) rfl)).2.2.trans ((hC39.1 ar0 0 (t_ninO hI.wf p_a0.1 (t_outO hI.wf p_a0.1 rfl) rfl)).2.2.trans e38)) rfl rfl ?_
              refine ev_ic f_X8_readCase (nx := 104) (v := 0) rfl (by decide) rfl ?_
              refine ev_sp f_X8_readCase (nx := 107) (v := 300) rfl (by decide) rfl ?_
              refine ev_inV3 f_X8_readCase (nx := 110) (lo2 := [(0, .ref a38), (1, .int 0), (2, .int 300)]) rfl rfl rfl rfl f_X9_takeNumber p38.1 rfl rfl rfl rfl rfl ?_
              refine ev_loc f_X9_takeNumber (nx := 1) rfl rfl rfl rfl ?_
              refine ev_getI f_X9_takeNumber (nx := 4) rfl p38.1 rfl rfl rfl ?_
              refine ev_ic f_X9_takeNumber (nx := 5) (v := 1) rfl (by decide) rfl ?_
              refine ev_if f_X9_takeNumber (t1 := 14) (t2 := 8) rfl rfl rfl (fun h327 => ?_) (fun h327 => ?_)
              · have u328 : (gi320 a38 3).toInt ≤ 1 := t_equ h327 (by decide : (1:Int32).toInt ≤ (1:Int))
                have l329 : 1 ≤ (gi320 a38 3).toInt := t_eql h327 (by decide : (1:Int) ≤ (1:Int32).toInt)
                refine ev_loc f_X9_takeNumber (nx := 15) rfl rfl rfl rfl ?_
                refine ev_gvI f_X9_takeNumber (nx := 18) (w := (gi320 a38 8)) rfl p38.1 rfl rfl rfl rfl ?_
                refine ev_loc f_X9_takeNumber (nx := 19) rfl rfl rfl rfl ?_
                refine ev_if f_X9_takeNumber (t1 := 30) (t2 := 22) rfl rfl rfl (fun h330 => ?_) (fun h330 => ?_)
                · have u331 : (gi320 a38 8).toInt ≤ (-1) := t_ltu h330 (by decide : (0:Int32).toInt ≤ (0:Int)) rfl
                  refine ev_loc f_X9_takeNumber (nx := 31) rfl rfl rfl rfl ?_
                  refine ev_ic f_X9_takeNumber (nx := 32) (v := 4) rfl (by decide) rfl ?_
                  refine ev_inV2 f_X9_takeNumber (nx := 35) (lo2 := [(0, .ref a38), (1, .int 4)]) rfl rfl rfl rfl f_X9_refuseToken p38.1 rfl rfl rfl rfl rfl ?_
                  refine ev_loc f_X9_refuseToken (nx := 1) rfl rfl rfl rfl ?_
                  refine ev_loc f_X9_refuseToken (nx := 2) rfl rfl rfl rfl ?_
                  refine ev_gvI f_X9_refuseToken (nx := 5) (w := (gi320 a38 3)) rfl p38.1 rfl rfl rfl rfl ?_
                  refine ev_ic f_X9_refuseToken (nx := 6) (v := 4) rfl (by decide) rfl ?_
                  refine ev_f f_X9_refuseToken (t1 := 9) (t2 := 13) rfl rfl rfl (t_neT u328 (by decide : (4:Int) ≤ (4:Int32).toInt) (by decide)) ?_
                  refine ev_loc f_X9_refuseToken (nx := 14) rfl rfl rfl rfl ?_
                  refine ev_putIT f_X9_refuseToken (nx := 17) rfl p38.1 rfl rfl rfl (hI.put0 p38.1 rfl rfl) (hX.upI (t_inO hI.wf p38.1 (t_outO hI.wf p38.1 rfl) rfl)) (fun g332 e332 hI hX => ?_)
                  refine ev_loc f_X9_refuseToken (nx := 18) rfl rfl rfl rfl ?_
                  refine ev_loc f_X9_refuseToken (nx := 19) rfl rfl rfl rfl ?_
                  refine ev_getI f_X9_refuseToken (nx := 22) rfl p38.1 rfl rfl rfl ?_
                  obtain ⟨l333, u333⟩ := hI.b p38.1 (t_bdK rfl : t_bd 8 4 = some (0, 900))
                  refine ev_putIT f_X9_refuseToken (nx := 25) rfl p38.1 rfl rfl rfl (hI.put0 p38.1 rfl rfl) (hX.upI (t_inO hI.wf p38.1 (t_outO hI.wf p38.1 rfl) rfl)) (fun g334 e334 hI hX => ?_)
                  refine ev_ic f_X9_refuseToken (nx := 26) (v := 0) rfl (by decide) rfl ?_
                  refine ev_retK1 f_X9_refuseToken rfl rfl rfl ?_
                  refine ev_retK1 f_X9_takeNumber rfl rfl rfl ?_
                  exact ev_ret f_X8_readCase rfl rfl rfl ⟨_, _, _, rfl, hI, hX, ⟨_, rfl, (by decide : (0:Int) ≤ (0:Int32).toInt), (Int.le_trans (by decide : (0:Int32).toInt ≤ (0:Int)) (by decide : (0:Int) ≤ 1))⟩⟩
                · have l335 : 0 ≤ (gi320 a38 8).toInt := t_lel (t_nlt h330) (by decide : (0:Int) ≤ (0:Int32).toInt)
                  refine ev_loc f_X9_takeNumber (nx := 23) rfl rfl rfl rfl ?_
                  refine ev_gvI f_X9_takeNumber (nx := 26) (w := (gi320 a38 8)) rfl p38.1 rfl rfl rfl rfl ?_
                  refine ev_loc f_X9_takeNumber (nx := 27) rfl rfl rfl rfl ?_
                  refine ev_if f_X9_takeNumber (t1 := 36) (t2 := 30) rfl rfl rfl (fun h336 => ?_) (fun h336 => ?_)
                  · have u337 : (gi320 a38 8).toInt ≤ 300 := t_leu h336 (by decide : (300:Int32).toInt ≤ (300:Int))
                    refine ev_loc f_X9_takeNumber (nx := 37) rfl rfl rfl rfl ?_
                    refine ev_c0 f_X9_takeNumber (nx := 40) (r := []) rfl rfl rfl rfl rfl rfl rfl (c_step hI (a38) p38) rfl hX rfl (fun gi338 gl338 gr338 hI hX hC338 => ?_)
                    replace p_a0 := p_a0.ext hC338.2
                    replace p38 := p38.ext hC338.2
                    replace p321 := p321.ext hC338.2
                    refine ev_ic f_X9_takeNumber (nx := 41) (v := 1) rfl (by decide) rfl ?_
                    refine ev_retK1 f_X9_takeNumber rfl rfl rfl ?_
                    exact ev_ret f_X8_readCase rfl rfl rfl ⟨_, _, _, rfl, hI, hX, ⟨_, rfl, (Int.le_trans (by decide : (0:Int) ≤ 1) (by decide : (1:Int) ≤ (1:Int32).toInt)), (by decide : (1:Int32).toInt ≤ (1:Int))⟩⟩
                  · have l339 : 301 ≤ (gi320 a38 8).toInt := t_ltl (t_nle h336) (by decide : (300:Int) ≤ (300:Int32).toInt) rfl
                    refine ev_loc f_X9_takeNumber (nx := 31) rfl rfl rfl rfl ?_
                    refine ev_ic f_X9_takeNumber (nx := 32) (v := 4) rfl (by decide) rfl ?_
                    refine ev_inV2 f_X9_takeNumber (nx := 35) (lo2 := [(0, .ref a38), (1, .int 4)]) rfl rfl rfl rfl f_X9_refuseToken p38.1 rfl rfl rfl rfl rfl ?_
                    refine ev_loc f_X9_refuseToken (nx := 1) rfl rfl rfl rfl ?_
                    refine ev_loc f_X9_refuseToken (nx := 2) rfl rfl rfl rfl ?_
                    refine ev_gvI f_X9_refuseToken (nx := 5) (w := (gi320 a38 3)) rfl p38.1 rfl rfl rfl rfl ?_
                    refine ev_ic f_X9_refuseToken (nx := 6) (v := 4) rfl (by decide) rfl ?_
                    refine ev_f f_X9_refuseToken (t1 := 9) (t2 := 13) rfl rfl rfl (t_neT u328 (by decide : (4:Int) ≤ (4:Int32).toInt) (by decide)) ?_
                    refine ev_loc f_X9_refuseToken (nx := 14) rfl rfl rfl rfl ?_
                    refine ev_putIT f_X9_refuseToken (nx := 17) rfl p38.1 rfl rfl rfl (hI.put0 p38.1 rfl rfl) (hX.upI (t_inO hI.wf p38.1 (t_outO hI.wf p38.1 rfl) rfl)) (fun g340 e340 hI hX => ?_)
                    refine ev_loc f_X9_refuseToken (nx := 18) rfl rfl rfl rfl ?_
                    refine ev_loc f_X9_refuseToken (nx := 19) rfl rfl rfl rfl ?_
                    refine ev_getI f_X9_refuseToken (nx := 22) rfl p38.1 rfl rfl rfl ?_
                    obtain ⟨l341, u341⟩ := hI.b p38.1 (t_bdK rfl : t_bd 8 4 = some (0, 900))
                    refine ev_putIT f_X9_refuseToken (nx := 25) rfl p38.1 rfl rfl rfl (hI.put0 p38.1 rfl rfl) (hX.upI (t_inO hI.wf p38.1 (t_outO hI.wf p38.1 rfl) rfl)) (fun g342 e342 hI hX => ?_)
                    refine ev_ic f_X9_refuseToken (nx := 26) (v := 0) rfl (by decide) rfl ?_
                    refine ev_retK1 f_X9_refuseToken rfl rfl rfl ?_
                    refine ev_retK1 f_X9_takeNumber rfl rfl rfl ?_
                    exact ev_ret f_X8_readCase rfl rfl rfl ⟨_, _, _, rfl, hI, hX, ⟨_, rfl, (by decide : (0:Int) ≤ (0:Int32).toInt), (Int.le_trans (by decide : (0:Int32).toInt ≤ (0:Int)) (by decide : (0:Int) ≤ 1))⟩⟩
              · refine ev_loc f_X9_takeNumber (nx := 9) rfl rfl rfl rfl ?_
                refine ev_ic f_X9_takeNumber (nx := 10) (v := 2) rfl (by decide) rfl ?_
                refine ev_inV2 f_X9_takeNumber (nx := 13) (lo2 := [(0, .ref a38), (1, .int 2)]) rfl rfl rfl rfl f_X9_refuseToken p38.1 rfl rfl rfl rfl rfl ?_
                refine ev_loc f_X9_refuseToken (nx := 1) rfl rfl rfl rfl ?_
                refine ev_loc f_X9_refuseToken (nx := 2) rfl rfl rfl rfl ?_
                refine ev_gvI f_X9_refuseToken (nx := 5) (w := (gi320 a38 3)) rfl p38.1 rfl rfl rfl rfl ?_
                refine ev_ic f_X9_refuseToken (nx := 6) (v := 4) rfl (by decide) rfl ?_
                refine ev_if f_X9_refuseToken (t1 := 9) (t2 := 13) rfl rfl rfl (fun h343 => ?_) (fun h343 => ?_)
                · have u344 : (gi320 a38 3).toInt ≤ 4 := t_equ h343 (by decide : (4:Int32).toInt ≤ (4:Int))
                  have l345 : 4 ≤ (gi320 a38 3).toInt := t_eql h343 (by decide : (4:Int) ≤ (4:Int32).toInt)
                  refine ev_ic f_X9_refuseToken (nx := 10) (v := 1) rfl (by decide) rfl ?_
                  refine ev_jmp f_X9_refuseToken (nx := 14) rfl rfl rfl ?_
                  refine ev_putIT f_X9_refuseToken (nx := 17) rfl p38.1 rfl rfl rfl (hI.put0 p38.1 rfl rfl) (hX.upI (t_inO hI.wf p38.1 (t_outO hI.wf p38.1 rfl) rfl)) (fun g346 e346 hI hX => ?_)
                  refine ev_loc f_X9_refuseToken (nx := 18) rfl rfl rfl rfl ?_
                  refine ev_loc f_X9_refuseToken (nx := 19) rfl rfl rfl rfl ?_
                  refine ev_getI f_X9_refuseToken (nx := 22) rfl p38.1 rfl rfl rfl ?_
                  obtain ⟨l347, u347⟩ := hI.b p38.1 (t_bdK rfl : t_bd 8 4 = some (0, 900))
                  refine ev_putIT f_X9_refuseToken (nx := 25) rfl p38.1 rfl rfl rfl (hI.put0 p38.1 rfl rfl) (hX.upI (t_inO hI.wf p38.1 (t_outO hI.wf p38.1 rfl) rfl)) (fun g348 e348 hI hX => ?_)
                  refine ev_ic f_X9_refuseToken (nx := 26) (v := 0) rfl (by decide) rfl ?_
                  refine ev_retK1 f_X9_refuseToken rfl rfl rfl ?_
                  refine ev_retK1 f_X9_takeNumber rfl rfl rfl ?_
                  exact ev_ret f_X8_readCase rfl rfl rfl ⟨_, _, _, rfl, hI, hX, ⟨_, rfl, (by decide : (0:Int) ≤ (0:Int32).toInt), (Int.le_trans (by decide : (0:Int32).toInt ≤ (0:Int)) (by decide : (0:Int) ≤ 1))⟩⟩
                · refine ev_loc f_X9_refuseToken (nx := 14) rfl rfl rfl rfl ?_
                  refine ev_putIT f_X9_refuseToken (nx := 17) rfl p38.1 rfl rfl rfl (hI.put0 p38.1 rfl rfl) (hX.upI (t_inO hI.wf p38.1 (t_outO hI.wf p38.1 rfl) rfl)) (fun g349 e349 hI hX => ?_)
                  refine ev_loc f_X9_refuseToken (nx := 18) rfl rfl rfl rfl ?_
                  refine ev_loc f_X9_refuseToken (nx := 19) rfl rfl rfl rfl ?_
                  refine ev_getI f_X9_refuseToken (nx := 22) rfl p38.1 rfl rfl rfl ?_
                  obtain ⟨l350, u350⟩ := hI.b p38.1 (t_bdK rfl : t_bd 8 4 = some (0, 900))
                  refine ev_putIT f_X9_refuseToken (nx := 25) rfl p38.1 rfl rfl rfl (hI.put0 p38.1 rfl rfl) (hX.upI (t_inO hI.wf p38.1 (t_outO hI.wf p38.1 rfl) rfl)) (fun g351 e351 hI hX => ?_)
                  refine ev_ic f_X9_refuseToken (nx := 26) (v := 0) rfl (by decide) rfl ?_
                  refine ev_retK1 f_X9_refuseToken rfl rfl rfl ?_
                  refine ev_retK1 f_X9_takeNumber rfl rfl rfl ?_
                  exact ev_ret f_X8_readCase rfl rfl rfl ⟨_, _, _, rfl, hI, hX, ⟨_, rfl, (by decide : (0:Int) ≤ (0:Int32).toInt), (Int.le_trans (by decide : (0:Int32).toInt ≤ (0:Int)) (by decide : (0:Int) ≤ 1))⟩⟩
            · have u352 : (gi320 a321 3).toInt ≤ 299 := t_ltu (t_nle h326) u325 rfl
              have l353 : 1 ≤ (Int32.ofNat n322).toInt := t_ltl (t_nle h326) l324 rfl
              refine ev_loc f_X7_addStep (nx := 13) rfl rfl rfl rfl ?_
              refine ev_getR f_X7_addStep (nx := 16) (v := .ref (a321 + 3)) rfl p321.1 rfl rfl r4_322 rfl rfl ?_
              refine ev_loc f_X7_addStep (nx := 17) rfl rfl rfl rfl ?_
              refine ev_gvI f_X7_addStep (nx := 20) (w := (gi320 a321 3)) rfl p321.1 rfl rfl rfl rfl ?_
              refine ev_loc f_X7_addStep (nx := 21) rfl rfl rfl rfl ?_
              refine ev_iastS f_X7_addStep (nx := 22) rfl s4_322 (t_ixs l324 (t_lenlt (t_nle h326) hn322)) rfl (hI.astD s4_322 (by omega) (fun k hk e => absurd e (t_Ru.ne p321 hk (by decide)))) (hX.upI (t_inOD s4_322 (by omega) rfl)) (fun g354 e354 hI hX => ?_)
              refine ev_loc f_X7_addStep (nx := 23) rfl rfl rfl rfl ?_
              refine ev_getR f_X7_addStep (nx := 26) (v := .ref (a321 + 4)) rfl p321.1 rfl rfl r5_322 rfl rfl ?_
              refine ev_loc f_X7_addStep (nx := 27) rfl rfl rfl rfl ?_
              refine ev_gvI f_X7_addStep (nx := 30) (w := (gi320 a321 3)) rfl p321.1 rfl rfl ((by rw [e354]; exact x_up2_off (Or.inl (t_noobj s4_322 p321.1)) : g354 a321 3 = gi320 a321 3).trans rfl) rfl ?_
              refine ev_loc f_X7_addStep (nx := 31) rfl rfl rfl rfl ?_
              refine ev_iastS f_X7_addStep (nx := 32) rfl s5_322 (t_ixs l324 (t_lenlt (t_nle h326) hn322)) rfl (hI.astD s5_322 (by omega) (fun k hk e => absurd e (t_Ru.ne p321 hk (by decide)))) (hX.upI (t_inOD s5_322 (by omega) rfl)) (fun g355 e355 hI hX => ?_)
              refine ev_loc f_X7_addStep (nx := 33) rfl rfl rfl rfl ?_
              refine ev_getR f_X7_addStep (nx := 36) (v := .ref (a321 + 5)) rfl p321.1 rfl rfl r6_322 rfl rfl ?_
              refine ev_loc f_X7_addStep (nx := 37) rfl rfl rfl rfl ?_
              refine ev_gvI f_X7_addStep (nx := 40) (w := (gi320 a321 3)) rfl p321.1 rfl rfl ((by rw [e355]; exact x_up2_off (Or.inl (t_noobj s5_322 p321.1)) : g355 a321 3 = g354 a321 3).trans ((by rw [e354]; exact x_up2_off (Or.inl (t_noobj s4_322 p321.1)) : g354 a321 3 = gi320 a321 3).trans rfl)) rfl ?_
              refine ev_loc f_X7_addStep (nx := 41) rfl rfl rfl rfl ?_
              refine ev_iastS f_X7_addStep (nx := 42) rfl s6_322 (t_ixs l324 (t_lenlt (t_nle h326) hn322)) rfl (hI.astD s6_322 (by omega) (fun k hk e => absurd e (t_Ru.ne p321 hk (by decide)))) (hX.upI (t_inOD s6_322 (by omega) rfl)) (fun g356 e356 hI hX => ?_)
              refine ev_loc f_X7_addStep (nx := 43) rfl rfl rfl rfl ?_
              refine ev_alu f_X7_addStep (nx := 44) rfl rfl rfl rfl ?_
              refine ev_gvI f_X7_addStep (nx := 47) (w := (gi320 a321 3)) rfl p321.1 rfl rfl ((by rw [e356]; exact x_up2_off (Or.inl (t_noobj s6_322 p321.1)) : g356 a321 3 = g355 a321 3).trans ((by rw [e355]; exact x_up2_off (Or.inl (t_noobj s5_322 p321.1)) : g355 a321 3 = g354 a321 3).trans ((by rw [e354]; exact x_up2_off (Or.inl (t_noobj s4_322 p321.1)) : g354 a321 3 = gi320 a321 3).trans rfl))) rfl ?_
              refine ev_ic f_X7_addStep (nx := 48) (v := 1) rfl (by decide) rfl ?_
              refine ev_addC f_X7_addStep (nx := 49) (c := 1) (l := 1) (u := 300) rfl (by decide) l324 u352 rfl rfl (by decide) (by decide) rfl (fun z357 e357 l357 u357 => ?_)
              have q358 := t_lenlt (t_nle h326) hn322
              refine ev_putIT f_X7_addStep (nx := 52) rfl p321.1 rfl rfl rfl (hI.putG p321.1 (fun lo hi e => by have e : some ((0 : Int), (300 : Int)) = some (lo, hi) := e; have := hn322; cases e; exact ⟨by omega, by omega⟩) (fun _ _ n2 hn2 => by rw [s4_322] at hn2; cases hn2; omega)) (hX.upI (t_inO hI.wf p321.1 (t_outO hI.wf p321.1 rfl) rfl)) (fun g358 e358 hI hX => ?_)
              refine ev_retK0 f_X7_addStep rfl rfl rfl ?_
              refine ev_loc f_X8_readCase (nx := 100) rfl rfl rfl rfl ?_
              refine ev_getR f_X8_readCase (nx := 103) (v := .ref a38) rfl p_a0.1 rfl rfl ((hC320.1 ar0 0 (t_ninO hI.wf p_a0.1 (t_outO hI.wf p_a0.1 rfl) rfl)).2.2.trans ((hC39.1 ar0 0 (t_ninO hI.wf p_a0.1 (t_outO hI.wf p_a0.1 rfl) rfl)).2.2.trans e38)) rfl rfl ?_
              refine ev_ic f_X8_readCase (nx := 104) (v := 0) rfl (by decide) rfl ?_
              refine ev_sp f_X8_readCase (nx := 107) (v := 300) rfl (by decide) rfl ?_
              refine ev_inV3 f_X8_readCase (nx := 110) (lo2 := [(0, .ref a38), (1, .int 0), (2, .int 300)]) rfl rfl rfl rfl f_X9_takeNumber p38.1 rfl rfl rfl rfl rfl ?_
              refine ev_loc f_X9_takeNumber (nx := 1) rfl rfl rfl rfl ?_
              refine ev_getI f_X9_takeNumber (nx := 4) rfl p38.1 rfl rfl rfl ?_
              refine ev_ic f_X9_takeNumber (nx := 5) (v := 1) rfl (by decide) rfl ?_
              refine ev_if f_X9_takeNumber (t1 := 14) (t2 := 8) rfl rfl rfl (fun h359 => ?_) (fun h359 => ?_)
              · have u360 : (g358 a38 3).toInt ≤ 1 := t_equ h359 (by decide : (1:Int32).toInt ≤ (1:Int))
                have l361 : 1 ≤ (g358 a38 3).toInt := t_eql h359 (by decide : (1:Int) ≤ (1:Int32).toInt)
                refine ev_loc f_X9_takeNumber (nx := 15) rfl rfl rfl rfl ?_
                refine ev_gvI f_X9_takeNumber (nx := 18) (w := (gi320 a38 8)) rfl p38.1 rfl rfl ((by rw [e358]; exact x_up2_off (Or.inr (by decide)) : g358 a38 8 = g356 a38 8).trans ((by rw [e356]; exact x_up2_off (Or.inl (t_noobj s6_322 p38.1)) : g356 a38 8 = g355 a38 8).trans ((by rw [e355]; exact x_up2_off (Or.inl (t_noobj s5_322 p38.1)) : g355 a38 8 = g354 a38 8).trans ((by rw [e354]; exact x_up2_off (Or.inl (t_noobj s4_322 p38.1)) : g354 a38 8 = gi320 a38 8).trans rfl)))) rfl ?_
                refine ev_loc f_X9_takeNumber (nx := 19) rfl rfl rfl rfl ?_
                refine ev_if f_X9_takeNumber (t1 := 30) (t2 := 22) rfl rfl rfl (fun h362 => ?_) (fun h362 => ?_)
                · have u363 : (gi320 a38 8).toInt ≤ (-1) := t_ltu h362 (by decide : (0:Int32).toInt ≤ (0:Int)) rfl
                  refine ev_loc f_X9_takeNumber (nx := 31) rfl rfl rfl rfl ?_
                  refine ev_ic f_X9_takeNumber (nx := 32) (v := 4) rfl (by decide) rfl ?_
                  refine ev_inV2 f_X9_takeNumber (nx := 35) (lo2 := [(0, .ref a38), (1, .int 4)]) rfl rfl rfl rfl f_X9_refuseToken p38.1 rfl rfl rfl rfl rfl ?_
                  refine ev_loc f_X9_refuseToken (nx := 1) rfl rfl rfl rfl ?_
                  refine ev_loc f_X9_refuseToken (nx := 2) rfl rfl rfl rfl ?_
                  refine ev_gvI f_X9_refuseToken (nx := 5) (w := (g358 a38 3)) rfl p38.1 rfl rfl rfl rfl ?_
                  refine ev_ic f_X9_refuseToken (nx := 6) (v := 4) rfl (by decide) rfl ?_
                  refine ev_f f_X9_refuseToken (t1 := 9) (t2 := 13) rfl rfl rfl (t_neT u360 (by decide : (4:Int) ≤ (4:Int32).toInt) (by decide)) ?_
                  refine ev_loc f_X9_refuseToken (nx := 14) rfl rfl rfl rfl ?_
                  refine ev_putIT f_X9_refuseToken (nx := 17) rfl p38.1 rfl rfl rfl (hI.put0 p38.1 rfl rfl) (hX.upI (t_inO hI.wf p38.1 (t_outO hI.wf p38.1 rfl) rfl)) (fun g364 e364 hI hX => ?_)
                  refine ev_loc f_X9_refuseToken (nx := 18) rfl rfl rfl rfl ?_
                  refine ev_loc f_X9_refuseToken (nx := 19) rfl rfl rfl rfl ?_
                  refine ev_getI f_X9_refuseToken (nx := 22) rfl p38.1 rfl rfl rfl ?_
                  obtain ⟨l365, u365⟩ := hI.b p38.1 (t_bdK rfl : t_bd 8 4 = some (0, 900))
                  refine ev_putIT f_X9_refuseToken (nx := 25) rfl p38.1 rfl rfl rfl (hI.put0 p38.1 rfl rfl) (hX.upI (t_inO hI.wf p38.1 (t_outO hI.wf p38.1 rfl) rfl)) (fun g366 e366 hI hX => ?_)
                  refine ev_ic f_X9_refuseToken (nx := 26) (v := 0) rfl (by decide) rfl ?_
                  refine ev_retK1 f_X9_refuseToken rfl rfl rfl ?_
                  refine ev_retK1 f_X9_takeNumber rfl rfl rfl ?_
                  exact ev_ret f_X8_readCase rfl rfl rfl ⟨_, _, _, rfl, hI, hX, ⟨_, rfl, (by decide : (0:Int) ≤ (0:Int32).toInt), (Int.le_trans (by decide : (0:Int32).toInt ≤ (0:Int)) (by decide : (0:Int) ≤ 1))⟩⟩
                · have l367 : 0 ≤ (gi320 a38 8).toInt := t_lel (t_nlt h362) (by decide : (0:Int) ≤ (0:Int32).toInt)
                  refine ev_loc f_X9_takeNumber (nx := 23) rfl rfl rfl rfl ?_
                  refine ev_gvI f_X9_takeNumber (nx := 26) (w := (gi320 a38 8)) rfl p38.1 rfl rfl ((by rw [e358]; exact x_up2_off (Or.inr (by decide)) : g358 a38 8 = g356 a38 8).trans ((by rw [e356]; exact x_up2_off (Or.inl (t_noobj s6_322 p38.1)) : g356 a38 8 = g355 a38 8).trans ((by rw [e355]; exact x_up2_off (Or.inl (t_noobj s5_322 p38.1)) : g355 a38 8 = g354 a38 8).trans ((by rw [e354]; exact x_up2_off (Or.inl (t_noobj s4_322 p38.1)) : g354 a38 8 = gi320 a38 8).trans rfl)))) rfl ?_
                  refine ev_loc f_X9_takeNumber (nx := 27) rfl rfl rfl rfl ?_
                  refine ev_if f_X9_takeNumber (t1 := 36) (t2 := 30) rfl rfl rfl (fun h368 => ?_) (fun h368 => ?_)
                  · have u369 : (gi320 a38 8).toInt ≤ 300 := t_leu h368 (by decide : (300:Int32).toInt ≤ (300:Int))
                    refine ev_loc f_X9_takeNumber (nx := 37) rfl rfl rfl rfl ?_
                    refine ev_c0 f_X9_takeNumber (nx := 40) (r := []) rfl rfl rfl rfl rfl rfl rfl (c_step hI (a38) p38) rfl hX rfl (fun gi370 gl370 gr370 hI hX hC370 => ?_)
                    replace p_a0 := p_a0.ext hC370.2
                    replace p38 := p38.ext hC370.2
                    replace p321 := p321.ext hC370.2
                    refine ev_ic f_X9_takeNumber (nx := 41) (v := 1) rfl (by decide) rfl ?_
                    refine ev_retK1 f_X9_takeNumber rfl rfl rfl ?_
                    exact ev_ret f_X8_readCase rfl rfl rfl ⟨_, _, _, rfl, hI, hX, ⟨_, rfl, (Int.le_trans (by decide : (0:Int) ≤ 1) (by decide : (1:Int) ≤ (1:Int32).toInt)), (by decide : (1:Int32).toInt ≤ (1:Int))⟩⟩
                  · have l371 : 301 ≤ (gi320 a38 8).toInt := t_ltl (t_nle h368) (by decide : (300:Int) ≤ (300:Int32).toInt) rfl
                    refine ev_loc f_X9_takeNumber (nx := 31) rfl rfl rfl rfl ?_
                    refine ev_ic f_X9_takeNumber (nx := 32) (v := 4) rfl (by decide) rfl ?_
                    refine ev_inV2 f_X9_takeNumber (nx := 35) (lo2 := [(0, .ref a38), (1, .int 4)]) rfl rfl rfl rfl f_X9_refuseToken p38.1 rfl rfl rfl rfl rfl ?_
                    refine ev_loc f_X9_refuseToken (nx := 1) rfl rfl rfl rfl ?_
                    refine ev_loc f_X9_refuseToken (nx := 2) rfl rfl rfl rfl ?_
                    refine ev_gvI f_X9_refuseToken (nx := 5) (w := (g358 a38 3)) rfl p38.1 rfl rfl rfl rfl ?_
                    refine ev_ic f_X9_refuseToken (nx := 6) (v := 4) rfl (by decide) rfl ?_
                    refine ev_f f_X9_refuseToken (t1 := 9) (t2 := 13) rfl rfl rfl (t_neT u360 (by decide : (4:Int) ≤ (4:Int32).toInt) (by decide)) ?_
                    refine ev_loc f_X9_refuseToken (nx := 14) rfl rfl rfl rfl ?_
                    refine ev_putIT f_X9_refuseToken (nx := 17) rfl p38.1 rfl rfl rfl (hI.put0 p38.1 rfl rfl) (hX.upI (t_inO hI.wf p38.1 (t_outO hI.wf p38.1 rfl) rfl)) (fun g372 e372 hI hX => ?_)
                    refine ev_loc f_X9_refuseToken (nx := 18) rfl rfl rfl rfl ?_
                    refine ev_loc f_X9_refuseToken (nx := 19) rfl rfl rfl rfl ?_
                    refine ev_getI f_X9_refuseToken (nx := 22) rfl p38.1 rfl rfl rfl ?_
                    obtain ⟨l373, u373⟩ := hI.b p38.1 (t_bdK rfl : t_bd 8 4 = some (0, 900))
                    refine ev_putIT f_X9_refuseToken (nx := 25) rfl p38.1 rfl rfl rfl (hI.put0 p38.1 rfl rfl) (hX.upI (t_inO hI.wf p38.1 (t_outO hI.wf p38.1 rfl) rfl)) (fun g374 e374 hI hX => ?_)
                    refine ev_ic f_X9_refuseToken (nx := 26) (v := 0) rfl (by decide) rfl ?_
                    refine ev_retK1 f_X9_refuseToken rfl rfl rfl ?_
                    refine ev_retK1 f_X9_takeNumber rfl rfl rfl ?_
                    exact ev_ret f_X8_readCase rfl rfl rfl ⟨_, _, _, rfl, hI, hX, ⟨_, rfl, (by decide : (0:Int) ≤ (0:Int32).toInt), (Int.le_trans (by decide : (0:Int32).toInt ≤ (0:Int)) (by decide : (0:Int) ≤ 1))⟩⟩
              · refine ev_loc f_X9_takeNumber (nx := 9) rfl rfl rfl rfl ?_
                refine ev_ic f_X9_takeNumber (nx := 10) (v := 2) rfl (by decide) rfl ?_
                refine ev_inV2 f_X9_takeNumber (nx := 13) (lo2 := [(0, .ref a38), (1, .int 2)]) rfl rfl rfl rfl f_X9_refuseToken p38.1 rfl rfl rfl rfl rfl ?_
                refine ev_loc f_X9_refuseToken (nx := 1) rfl rfl rfl rfl ?_
                refine ev_loc f_X9_refuseToken (nx := 2) rfl rfl rfl rfl ?_
                refine ev_gvI f_X9_refuseToken (nx := 5) (w := (g358 a38 3)) rfl p38.1 rfl rfl rfl rfl ?_
                refine ev_ic f_X9_refuseToken (nx := 6) (v := 4) rfl (by decide) rfl ?_
                refine ev_if f_X9_refuseToken (t1 := 9) (t2 := 13) rfl rfl rfl (fun h375 => ?_) (fun h375 => ?_)
                · have u376 : (g358 a38 3).toInt ≤ 4 := t_equ h375 (by decide : (4:Int32).toInt ≤ (4:Int))
                  have l377 : 4 ≤ (g358 a38 3).toInt := t_eql h375 (by decide : (4:Int) ≤ (4:Int32).toInt)
                  refine ev_ic f_X9_refuseToken (nx := 10) (v := 1) rfl (by decide) rfl ?_
                  refine ev_jmp f_X9_refuseToken (nx := 14) rfl rfl rfl ?_
                  refine ev_putIT f_X9_refuseToken (nx := 17) rfl p38.1 rfl rfl rfl (hI.put0 p38.1 rfl rfl) (hX.upI (t_inO hI.wf p38.1 (t_outO hI.wf p38.1 rfl) rfl)) (fun g378 e378 hI hX => ?_)
                  refine ev_loc f_X9_refuseToken (nx := 18) rfl rfl rfl rfl ?_
                  refine ev_loc f_X9_refuseToken (nx := 19) rfl rfl rfl rfl ?_
                  refine ev_getI f_X9_refuseToken (nx := 22) rfl p38.1 rfl rfl rfl ?_
                  obtain ⟨l379, u379⟩ := hI.b p38.1 (t_bdK rfl : t_bd 8 4 = some (0, 900))
                  refine ev_putIT f_X9_refuseToken (nx := 25) rfl p38.1 rfl rfl rfl (hI.put0 p38.1 rfl rfl) (hX.upI (t_inO hI.wf p38.1 (t_outO hI.wf p38.1 rfl) rfl)) (fun g380 e380 hI hX => ?_)
                  refine ev_ic f_X9_refuseToken (nx := 26) (v := 0) rfl (by decide) rfl ?_
                  refine ev_retK1 f_X9_refuseToken rfl rfl rfl ?_
                  refine ev_retK1 f_X9_takeNumber rfl rfl rfl ?_
                  exact ev_ret f_X8_readCase rfl rfl rfl ⟨_, _, _, rfl, hI, hX, ⟨_, rfl, (by decide : (0:Int) ≤ (0:Int32).toInt), (Int.le_trans (by decide : (0:Int32).toInt ≤ (0:Int)) (by decide : (0:Int) ≤ 1))⟩⟩
                · refine ev_loc f_X9_refuseToken (nx := 14) rfl rfl rfl rfl ?_
                  refine ev_putIT f_X9_refuseToken (nx := 17) rfl p38.1 rfl rfl rfl (hI.put0 p38.1 rfl rfl) (hX.upI (t_inO hI.wf p38.1 (t_outO hI.wf p38.1 rfl) rfl)) (fun g381 e381 hI hX => ?_)
                  refine ev_loc f_X9_refuseToken (nx := 18) rfl rfl rfl rfl ?_
                  refine ev_loc f_X9_refuseToken (nx := 19) rfl rfl rfl rfl ?_
                  refine ev_getI f_X9_refuseToken (nx := 22) rfl p38.1 rfl rfl rfl ?_
                  obtain ⟨l382, u382⟩ := hI.b p38.1 (t_bdK rfl : t_bd 8 4 = some (0, 900))
                  refine ev_putIT f_X9_refuseToken (nx := 25) rfl p38.1 rfl rfl rfl (hI.put0 p38.1 rfl rfl) (hX.upI (t_inO hI.wf p38.1 (t_outO hI.wf p38.1 rfl) rfl)) (fun g383 e383 hI hX => ?_)
                  refine ev_ic f_X9_refuseToken (nx := 26) (v := 0) rfl (by decide) rfl ?_
                  refine ev_retK1 f_X9_refuseToken rfl rfl rfl ?_
                  refine ev_retK1 f_X9_takeNumber rfl rfl rfl ?_
                  exact ev_ret f_X8_readCase rfl rfl rfl ⟨_, _, _, rfl, hI, hX, ⟨_, rfl, (by decide : (0:Int) ≤ (0:Int32).toInt), (Int.le_trans (by decide : (0:Int32).toInt ≤ (0:Int)) (by decide : (0:Int) ≤ 1))⟩⟩
          · refine ev_ic f_X9_isSignOf (nx := 21) (v := 0) rfl (by decide) rfl ?_
            refine ev_retK1 f_X9_isSignOf rfl rfl rfl ?_
            refine ev_t f_X8_comparesTold (t1 := 44) (t2 := 40) rfl rfl rfl (by decide) ?_
            refine ev_ic f_X8_comparesTold (nx := 45) (v := -1) rfl (by decide) rfl ?_
            refine ev_retK1 f_X8_comparesTold rfl rfl rfl ?_
            refine ev_loc f_X8_readCase (nx := 62) (lo' := [(2, .int (-1)), (0, .ref ar0), (1, .int ar1)]) rfl rfl rfl rfl ?_
            refine ev_loc f_X8_readCase (nx := 63) rfl rfl rfl rfl ?_
            refine ev_ic f_X8_readCase (nx := 64) (v := -1) rfl (by decide) rfl ?_
            refine ev_t f_X8_readCase (t1 := 67) (t2 := 76) rfl rfl rfl (by decide) ?_
            refine ev_loc f_X8_readCase (nx := 68) rfl rfl rfl rfl ?_
            refine ev_getR f_X8_readCase (nx := 71) (v := .ref a38) rfl p_a0.1 rfl rfl ((hC39.1 ar0 0 (t_ninO hI.wf p_a0.1 (t_outO hI.wf p_a0.1 rfl) rfl)).2.2.trans e38) rfl rfl ?_
            refine ev_ic f_X8_readCase (nx := 72) (v := 2) rfl (by decide) rfl ?_
            refine ev_inV2 f_X8_readCase (nx := 75) (lo2 := [(0, .ref a38), (1, .int 2)]) rfl rfl rfl rfl f_X9_refuseToken p38.1 rfl rfl rfl rfl rfl ?_
            refine ev_loc f_X9_refuseToken (nx := 1) rfl rfl rfl rfl ?_
            refine ev_loc f_X9_refuseToken (nx := 2) rfl rfl rfl rfl ?_
            refine ev_gvI f_X9_refuseToken (nx := 5) (w := (gi39 a38 3)) rfl p38.1 rfl rfl rfl rfl ?_
            refine ev_ic f_X9_refuseToken (nx := 6) (v := 4) rfl (by decide) rfl ?_
            refine ev_f f_X9_refuseToken (t1 := 9) (t2 := 13) rfl rfl rfl (t_neT u248 (by decide : (4:Int) ≤ (4:Int32).toInt) (by decide)) ?_
            refine ev_loc f_X9_refuseToken (nx := 14) rfl rfl rfl rfl ?_
            refine ev_putIT f_X9_refuseToken (nx := 17) rfl p38.1 rfl rfl rfl (hI.put0 p38.1 rfl rfl) (hX.upI (t_inO hI.wf p38.1 (t_outO hI.wf p38.1 rfl) rfl)) (fun g384 e384 hI hX => ?_)
            refine ev_loc f_X9_refuseToken (nx := 18) rfl rfl rfl rfl ?_
            refine ev_loc f_X9_refuseToken (nx := 19) rfl rfl rfl rfl ?_
            refine ev_getI f_X9_refuseToken (nx := 22) rfl p38.1 rfl rfl rfl ?_
            obtain ⟨l385, u385⟩ := hI.b p38.1 (t_bdK rfl : t_bd 8 4 = some (0, 900))
            refine ev_putIT f_X9_refuseToken (nx := 25) rfl p38.1 rfl rfl rfl (hI.put0 p38.1 rfl rfl) (hX.upI (t_inO hI.wf p38.1 (t_outO hI.wf p38.1 rfl) rfl)) (fun g386 e386 hI hX => ?_)
            refine ev_ic f_X9_refuseToken (nx := 26) (v := 0) rfl (by decide) rfl ?_
            refine ev_retK1 f_X9_refuseToken rfl rfl rfl ?_
            exact ev_ret f_X8_readCase rfl rfl rfl ⟨_, _, _, rfl, hI, hX, ⟨_, rfl, (by decide : (0:Int) ≤ (0:Int32).toInt), (Int.le_trans (by decide : (0:Int32).toInt ≤ (0:Int)) (by decide : (0:Int) ≤ 1))⟩⟩
      · refine ev_ic f_X9_isSignOf (nx := 21) (v := 0) rfl (by decide) rfl ?_
        refine ev_retK1 f_X9_isSignOf rfl rfl rfl ?_
        refine ev_t f_X8_comparesTold (t1 := 28) (t2 := 26) rfl rfl rfl (by decide) ?_
        refine ev_loc f_X8_comparesTold (nx := 29) rfl rfl rfl rfl ?_
        refine ev_getR f_X8_comparesTold (nx := 32) (v := .ref a38) rfl p_a0.1 rfl rfl ((hC39.1 ar0 0 (t_ninO hI.wf p_a0.1 (t_outO hI.wf p_a0.1 rfl) rfl)).2.2.trans e38) rfl rfl ?_
        refine ev_bp f_X8_comparesTold (nx := 34) (v := 61) rfl (by decide) rfl ?_
        refine ev_inV2 f_X8_comparesTold (nx := 37) (lo2 := [(0, .ref a38), (1, .int 61)]) rfl rfl rfl rfl f_X9_isSignOf p38.1 rfl rfl rfl rfl rfl ?_
        refine ev_loc f_X9_isSignOf (nx := 1) rfl rfl rfl rfl ?_
        refine ev_gvI f_X9_isSignOf (nx := 4) (w := (gi39 a38 3)) rfl p38.1 rfl rfl rfl rfl ?_
        refine ev_ic f_X9_isSignOf (nx := 5) (v := 2) rfl (by decide) rfl ?_
        refine ev_if f_X9_isSignOf (t1 := 8) (t2 := 20) rfl rfl rfl (fun h387 => ?_) (fun h387 => ?_)
        · have u388 : (gi39 a38 3).toInt ≤ 2 := t_equ h387 (by decide : (2:Int32).toInt ≤ (2:Int))
          have l389 : 2 ≤ (gi39 a38 3).toInt := t_eql h387 (by decide : (2:Int) ≤ (2:Int32).toInt)
          refine ev_loc f_X9_isSignOf (nx := 9) rfl rfl rfl rfl ?_
          refine ev_getI f_X9_isSignOf (nx := 12) rfl p38.1 rfl rfl rfl ?_
          refine ev_loc f_X9_isSignOf (nx := 13) rfl rfl rfl rfl ?_
          refine ev_if f_X9_isSignOf (t1 := 16) (t2 := 20) rfl rfl rfl (fun h390 => ?_) (fun h390 => ?_)
          · have u391 : (gi39 a38 9).toInt ≤ 61 := t_equ h390 (by decide : (61:Int32).toInt ≤ (61:Int))
            have l392 : 61 ≤ (gi39 a38 9).toInt := t_eql h390 (by decide : (61:Int) ≤ (61:Int32).toInt)
            refine ev_ic f_X9_isSignOf (nx := 17) (v := 1) rfl (by decide) rfl ?_
            refine ev_jmp f_X9_isSignOf (nx := 21) rfl rfl rfl ?_
            refine ev_retK1 f_X9_isSignOf rfl rfl rfl ?_
            refine ev_f f_X8_comparesTold (t1 := 44) (t2 := 40) rfl rfl rfl (by decide) ?_
            refine ev_ic f_X8_comparesTold (nx := 41) (v := 2) rfl (by decide) rfl ?_
            refine ev_jmp f_X8_comparesTold (nx := 45) rfl rfl rfl ?_
            refine ev_retK1 f_X8_comparesTold rfl rfl rfl ?_
            refine ev_loc f_X8_readCase (nx := 62) (lo' := [(2, .int 2), (0, .ref ar0), (1, .int ar1)]) rfl rfl rfl rfl ?_
            refine ev_loc f_X8_readCase (nx := 63) rfl rfl rfl rfl ?_
            refine ev_ic f_X8_readCase (nx := 64) (v := -1) rfl (by decide) rfl ?_
            refine ev_f f_X8_readCase (t1 := 67) (t2 := 76) rfl rfl rfl (by decide) ?_
            refine ev_loc f_X8_readCase (nx := 77) rfl rfl rfl rfl ?_
            refine ev_getR f_X8_readCase (nx := 80) (v := .ref a38) rfl p_a0.1 rfl rfl ((hC39.1 ar0 0 (t_ninO hI.wf p_a0.1 (t_outO hI.wf p_a0.1 rfl) rfl)).2.2.trans e38) rfl rfl ?_
            refine ev_c0 f_X8_readCase (nx := 83) (r := []) rfl rfl rfl rfl rfl rfl rfl (c_step hI (a38) p38) rfl hX rfl (fun gi393 gl393 gr393 hI hX hC393 => ?_)
            replace p_a0 := p_a0.ext hC393.2
            replace p38 := p38.ext hC393.2
            refine ev_loc f_X8_readCase (nx := 84) rfl rfl rfl rfl ?_
            obtain ⟨a394, e394, p394⟩ := p_a0.2.2
            refine ev_getR f_X8_readCase (nx := 87) rfl p_a0.1 rfl rfl e394 rfl rfl ?_
            refine ev_loc f_X8_readCase (nx := 88) rfl rfl rfl rfl ?_
            refine ev_loc f_X8_readCase (nx := 89) rfl rfl rfl rfl ?_
            refine ev_loc f_X8_readCase (nx := 90) rfl rfl rfl rfl ?_
            refine ev_getR f_X8_readCase (nx := 93) (v := .ref a38) rfl p_a0.1 rfl rfl ((hC393.1 ar0 0 (t_ninO hI.wf p_a0.1 (t_outO hI.wf p_a0.1 rfl) rfl)).2.2.trans ((hC39.1 ar0 0 (t_ninO hI.wf p_a0.1 (t_outO hI.wf p_a0.1 rfl) rfl)).2.2.trans e38)) rfl rfl ?_
            refine ev_getI f_X8_readCase (nx := 96) rfl p38.1 rfl rfl rfl ?_
            refine ev_inV4 f_X8_readCase (nx := 99) (lo2 := [(0, .ref a394), (1, .int 2), (2, .int ar1), (3, .int (gi393 a38 8))]) rfl rfl rfl rfl f_X7_addStep p394.1 rfl rfl rfl rfl rfl ?_
            refine ev_loc f_X7_addStep (nx := 1) rfl rfl rfl rfl ?_
            obtain ⟨hk395, d395, r1_395, r2_395, s1_395, s2_395, n395, hn395, r4_395, r5_395, r6_395, s4_395, s5_395, s6_395⟩ := id p394
            have q396 := hI.2.2.2.2.1 a394 n395 p394 s4_395
            refine ev_getI f_X7_addStep (nx := 4) rfl p394.1 rfl rfl rfl ?_
            obtain ⟨l397, u397⟩ := hI.b p394.1 (t_bdK rfl : t_bd 6 3 = some (0, 300))
            refine ev_loc f_X7_addStep (nx := 5) rfl rfl rfl rfl ?_
            refine ev_getR f_X7_addStep (nx := 8) (v := .ref (a394 + 3)) rfl p394.1 rfl rfl r4_395 rfl rfl ?_
            obtain ⟨l398, u398⟩ := t_lenb hn395
            refine ev_alen f_X7_addStep (nx := 9) rfl s4_395 rfl rfl ?_
            refine ev_if f_X7_addStep (t1 := 52) (t2 := 12) rfl rfl rfl (fun h399 => ?_) (fun h399 => ?_)
            · refine ev_retK0 f_X7_addStep rfl rfl rfl ?_
              refine ev_loc f_X8_readCase (nx := 100) rfl rfl rfl rfl ?_
              refine ev_getR f_X8_readCase (nx := 103) (v := .ref a38) rfl p_a0.1 rfl rfl ((hC393.1 ar0 0 (t_ninO hI.wf p_a0.1 (t_outO hI.wf p_a0.1 rfl) rfl)).2.2.trans ((hC39.1 ar0 0 (t_ninO hI.wf p_a0.1 (t_outO hI.wf p_a0.1 rfl) rfl)).2.2.trans e38)) rfl rfl ?_
              refine ev_ic f_X8_readCase (nx := 104) (v := 0) rfl (by decide) rfl ?_
              refine ev_sp f_X8_readCase (nx := 107) (v := 300) rfl (by decide) rfl ?_
              refine ev_inV3 f_X8_readCase (nx := 110) (lo2 := [(0, .ref a38), (1, .int 0), (2, .int 300)]) rfl rfl rfl rfl f_X9_takeNumber p38.1 rfl rfl rfl rfl rfl ?_
              refine ev_loc f_X9_takeNumber (nx := 1) rfl rfl rfl rfl ?_
              refine ev_getI f_X9_takeNumber (nx := 4) rfl p38.1 rfl rfl rfl ?_
              refine ev_ic f_X9_takeNumber (nx := 5) (v := 1) rfl (by decide) rfl ?_
              refine ev_if f_X9_takeNumber (t1 := 14) (t2 := 8) rfl rfl rfl (fun h400 => ?_) (fun h400 => ?_)
              · have u401 : (gi393 a38 3).toInt ≤ 1 := t_equ h400 (by decide : (1:Int32).toInt ≤ (1:Int))
                have l402 : 1 ≤ (gi393 a38 3).toInt := t_eql h400 (by decide : (1:Int) ≤ (1:Int32).toInt)
                refine ev_loc f_X9_takeNumber (nx := 15) rfl rfl rfl rfl ?_
                refine ev_gvI f_X9_takeNumber (nx := 18) (w := (gi393 a38 8)) rfl p38.1 rfl rfl rfl rfl ?_
                refine ev_loc f_X9_takeNumber (nx := 19) rfl rfl rfl rfl ?_
                refine ev_if f_X9_takeNumber (t1 := 30) (t2 := 22) rfl rfl rfl (fun h403 => ?_) (fun h403 => ?_)
                · have u404 : (gi393 a38 8).toInt ≤ (-1) := t_ltu h403 (by decide : (0:Int32).toInt ≤ (0:Int)) rfl
                  refine ev_loc f_X9_takeNumber (nx := 31) rfl rfl rfl rfl ?_
                  refine ev_ic f_X9_takeNumber (nx := 32) (v := 4) rfl (by decide) rfl ?_
                  refine ev_inV2 f_X9_takeNumber (nx := 35) (lo2 := [(0, .ref a38), (1, .int 4)]) rfl rfl rfl rfl f_X9_refuseToken p38.1 rfl rfl rfl rfl rfl ?_
                  refine ev_loc f_X9_refuseToken (nx := 1) rfl rfl rfl rfl ?_
                  refine ev_loc f_X9_refuseToken (nx := 2) rfl rfl rfl rfl ?_
                  refine ev_gvI f_X9_refuseToken (nx := 5) (w := (gi393 a38 3)) rfl p38.1 rfl rfl rfl rfl ?_
                  refine ev_ic f_X9_refuseToken (nx := 6) (v := 4) rfl (by decide) rfl ?_
                  refine ev_f f_X9_refuseToken (t1 := 9) (t2 := 13) rfl rfl rfl (t_neT u401 (by decide : (4:Int) ≤ (4:Int32).toInt) (by decide)) ?_
                  refine ev_loc f_X9_refuseToken (nx := 14) rfl rfl rfl rfl ?_
                  refine ev_putIT f_X9_refuseToken (nx := 17) rfl p38.1 rfl rfl rfl (hI.put0 p38.1 rfl rfl) (hX.upI (t_inO hI.wf p38.1 (t_outO hI.wf p38.1 rfl) rfl)) (fun g405 e405 hI hX => ?_)
                  refine ev_loc f_X9_refuseToken (nx := 18) rfl rfl rfl rfl ?_
                  refine ev_loc f_X9_refuseToken (nx := 19) rfl rfl rfl rfl ?_
                  refine ev_getI f_X9_refuseToken (nx := 22) rfl p38.1 rfl rfl rfl ?_
                  obtain ⟨l406, u406⟩ := hI.b p38.1 (t_bdK rfl : t_bd 8 4 = some (0, 900))
                  refine ev_putIT f_X9_refuseToken (nx := 25) rfl p38.1 rfl rfl rfl (hI.put0 p38.1 rfl rfl) (hX.upI (t_inO hI.wf p38.1 (t_outO hI.wf p38.1 rfl) rfl)) (fun g407 e407 hI hX => ?_)
                  refine ev_ic f_X9_refuseToken (nx := 26) (v := 0) rfl (by decide) rfl ?_
                  refine ev_retK1 f_X9_refuseToken rfl rfl rfl ?_
                  refine ev_retK1 f_X9_takeNumber rfl rfl rfl ?_
                  exact ev_ret f_X8_readCase rfl rfl rfl ⟨_, _, _, rfl, hI, hX, ⟨_, rfl, (by decide : (0:Int) ≤ (0:Int32).toInt), (Int.le_trans (by decide : (0:Int32).toInt ≤ (0:Int)) (by decide : (0:Int) ≤ 1))⟩⟩
                · have l408 : 0 ≤ (gi393 a38 8).toInt := t_lel (t_nlt h403) (by decide : (0:Int) ≤ (0:Int32).toInt)
                  refine ev_loc f_X9_takeNumber (nx := 23) rfl rfl rfl rfl ?_
                  refine ev_gvI f_X9_takeNumber (nx := 26) (w := (gi393 a38 8)) rfl p38.1 rfl rfl rfl rfl ?_
                  refine ev_loc f_X9_takeNumber (nx := 27) rfl rfl rfl rfl ?_
                  refine ev_if f_X9_takeNumber (t1 := 36) (t2 := 30) rfl rfl rfl (fun h409 => ?_) (fun h409 => ?_)
                  · have u410 : (gi393 a38 8).toInt ≤ 300 := t_leu h409 (by decide : (300:Int32).toInt ≤ (300:Int))
                    refine ev_loc f_X9_takeNumber (nx := 37) rfl rfl rfl rfl ?_
                    refine ev_c0 f_X9_takeNumber (nx := 40) (r := []) rfl rfl rfl rfl rfl rfl rfl (c_step hI (a38) p38) rfl hX rfl (fun gi411 gl411 gr411 hI hX hC411 => ?_)
                    replace p_a0 := p_a0.ext hC411.2
                    replace p38 := p38.ext hC411.2
                    replace p394 := p394.ext hC411.2
                    refine ev_ic f_X9_takeNumber (nx := 41) (v := 1) rfl (by decide) rfl ?_
                    refine ev_retK1 f_X9_takeNumber rfl rfl rfl ?_
                    exact ev_ret f_X8_readCase rfl rfl rfl ⟨_, _, _, rfl, hI, hX, ⟨_, rfl, (Int.le_trans (by decide : (0:Int) ≤ 1) (by decide : (1:Int) ≤ (1:Int32).toInt)), (by decide : (1:Int32).toInt ≤ (1:Int))⟩⟩
                  · have l412 : 301 ≤ (gi393 a38 8).toInt := t_ltl (t_nle h409) (by decide : (300:Int) ≤ (300:Int32).toInt) rfl
                    refine ev_loc f_X9_takeNumber (nx := 31) rfl rfl rfl rfl ?_
                    refine ev_ic f_X9_takeNumber (nx := 32) (v := 4) rfl (by decide) rfl ?_
                    refine ev_inV2 f_X9_takeNumber (nx := 35) (lo2 := [(0, .ref a38), (1, .int 4)]) rfl rfl rfl rfl f_X9_refuseToken p38.1 rfl rfl rfl rfl rfl ?_
                    refine ev_loc f_X9_refuseToken (nx := 1) rfl rfl rfl rfl ?_
                    refine ev_loc f_X9_refuseToken (nx := 2) rfl rfl rfl rfl ?_
                    refine ev_gvI f_X9_refuseToken (nx := 5) (w := (gi393 a38 3)) rfl p38.1 rfl rfl rfl rfl ?_
                    refine ev_ic f_X9_refuseToken (nx := 6) (v := 4) rfl (by decide) rfl ?_
                    refine ev_f f_X9_refuseToken (t1 := 9) (t2 := 13) rfl rfl rfl (t_neT u401 (by decide : (4:Int) ≤ (4:Int32).toInt) (by decide)) ?_
                    refine ev_loc f_X9_refuseToken (nx := 14) rfl rfl rfl rfl ?_
                    refine ev_putIT f_X9_refuseToken (nx := 17) rfl p38.1 rfl rfl rfl (hI.put0 p38.1 rfl rfl) (hX.upI (t_inO hI.wf p38.1 (t_outO hI.wf p38.1 rfl) rfl)) (fun g413 e413 hI hX => ?_)
                    refine ev_loc f_X9_refuseToken (nx := 18) rfl rfl rfl rfl ?_
                    refine ev_loc f_X9_refuseToken (nx := 19) rfl rfl rfl rfl ?_
                    refine ev_getI f_X9_refuseToken (nx := 22) rfl p38.1 rfl rfl rfl ?_
                    obtain ⟨l414, u414⟩ := hI.b p38.1 (t_bdK rfl : t_bd 8 4 = some (0, 900))
                    refine ev_putIT f_X9_refuseToken (nx := 25) rfl p38.1 rfl rfl rfl (hI.put0 p38.1 rfl rfl) (hX.upI (t_inO hI.wf p38.1 (t_outO hI.wf p38.1 rfl) rfl)) (fun g415 e415 hI hX => ?_)
                    refine ev_ic f_X9_refuseToken (nx := 26) (v := 0) rfl (by decide) rfl ?_
                    refine ev_retK1 f_X9_refuseToken rfl rfl rfl ?_
                    refine ev_retK1 f_X9_takeNumber rfl rfl rfl ?_
                    exact ev_ret f_X8_readCase rfl rfl rfl ⟨_, _, _, rfl, hI, hX, ⟨_, rfl, (by decide : (0:Int) ≤ (0:Int32).toInt), (Int.le_trans (by decide : (0:Int32).toInt ≤ (0:Int)) (by decide : (0:Int) ≤ 1))⟩⟩
              · refine ev_loc f_X9_takeNumber (nx := 9) rfl rfl rfl rfl ?_
                refine ev_ic f_X9_takeNumber (nx := 10) (v := 2) rfl (by decide) rfl ?_
                refine ev_inV2 f_X9_takeNumber (nx := 13) (lo2 := [(0, .ref a38), (1, .int 2)]) rfl rfl rfl rfl f_X9_refuseToken p38.1 rfl rfl rfl rfl rfl ?_
                refine ev_loc f_X9_refuseToken (nx := 1) rfl rfl rfl rfl ?_
                refine ev_loc f_X9_refuseToken (nx := 2) rfl rfl rfl rfl ?_
                refine ev_gvI f_X9_refuseToken (nx := 5) (w := (gi393 a38 3)) rfl p38.1 rfl rfl rfl rfl ?_
                refine ev_ic f_X9_refuseToken (nx := 6) (v := 4) rfl (by decide) rfl ?_
                refine ev_if f_X9_refuseToken (t1 := 9) (t2 := 13) rfl rfl rfl (fun h416 => ?_) (fun h416 => ?_)
                · have u417 : (gi393 a38 3).toInt ≤ 4 := t_equ h416 (by decide : (4:Int32).toInt ≤ (4:Int))
                  have l418 : 4 ≤ (gi393 a38 3).toInt := t_eql h416 (by decide : (4:Int) ≤ (4:Int32).toInt)
                  refine ev_ic f_X9_refuseToken (nx := 10) (v := 1) rfl (by decide) rfl ?_
                  refine ev_jmp f_X9_refuseToken (nx := 14) rfl rfl rfl ?_
                  refine ev_putIT f_X9_refuseToken (nx := 17) rfl p38.1 rfl rfl rfl (hI.put0 p38.1 rfl rfl) (hX.upI (t_inO hI.wf p38.1 (t_outO hI.wf p38.1 rfl) rfl)) (fun g419 e419 hI hX => ?_)
                  refine ev_loc f_X9_refuseToken (nx := 18) rfl rfl rfl rfl ?_
                  refine ev_loc f_X9_refuseToken (nx := 19) rfl rfl rfl rfl ?_
                  refine ev_getI f_X9_refuseToken (nx := 22) rfl p38.1 rfl rfl rfl ?_
                  obtain ⟨l420, u420⟩ := hI.b p38.1 (t_bdK rfl : t_bd 8 4 = some (0, 900))
                  refine ev_putIT f_X9_refuseToken (nx := 25) rfl p38.1 rfl rfl rfl (hI.put0 p38.1 rfl rfl) (hX.upI (t_inO hI.wf p38.1 (t_outO hI.wf p38.1 rfl) rfl)) (fun g421 e421 hI hX => ?_)
                  refine ev_ic f_X9_refuseToken (nx := 26) (v := 0) rfl (by decide) rfl ?_
                  refine ev_retK1 f_X9_refuseToken rfl rfl rfl ?_
                  refine ev_retK1 f_X9_takeNumber rfl rfl rfl ?_
                  exact ev_ret f_X8_readCase rfl rfl rfl ⟨_, _, _, rfl, hI, hX, ⟨_, rfl, (by decide : (0:Int) ≤ (0:Int32).toInt), (Int.le_trans (by decide : (0:Int32).toInt ≤ (0:Int)) (by decide : (0:Int) ≤ 1))⟩⟩
                · refine ev_loc f_X9_refuseToken (nx := 14) rfl rfl rfl rfl ?_
                  refine ev_putIT f_X9_refuseToken (nx := 17) rfl p38.1 rfl rfl rfl (hI.put0 p38.1 rfl rfl) (hX.upI (t_inO hI.wf p38.1 (t_outO hI.wf p38.1 rfl) rfl)) (fun g422 e422 hI hX => ?_)
                  refine ev_loc f_X9_refuseToken (nx := 18) rfl rfl rfl rfl ?_
                  refine ev_loc f_X9_refuseToken (nx := 19) rfl rfl rfl rfl ?_
                  refine ev_getI f_X9_refuseToken (nx := 22) rfl p38.1 rfl rfl rfl ?_
                  obtain ⟨l423, u423⟩ := hI.b p38.1 (t_bdK rfl : t_bd 8 4 = some (0, 900))
                  refine ev_putIT f_X9_refuseToken (nx := 25) rfl p38.1 rfl rfl rfl (hI.put0 p38.1 rfl rfl) (hX.upI (t_inO hI.wf p38.1 (t_outO hI.wf p38.1 rfl) rfl)) (fun g424 e424 hI hX => ?_)
                  refine ev_ic f_X9_refuseToken (nx := 26) (v := 0) rfl (by decide) rfl ?_
                  refine ev_retK1 f_X9_refuseToken rfl rfl rfl ?_
                  refine ev_retK1 f_X9_takeNumber rfl rfl rfl ?_
                  exact ev_ret f_X8_readCase rfl rfl rfl ⟨_, _, _, rfl, hI, hX, ⟨_, rfl, (by decide : (0:Int) ≤ (0:Int32).toInt), (Int.le_trans (by decide : (0:Int32).toInt ≤ (0:Int)) (by decide : (0:Int) ≤ 1))⟩⟩
            · have u425 : (gi393 a394 3).toInt ≤ 299 := t_ltu (t_nle h399) u398 rfl
              have l426 : 1 ≤ (Int32.ofNat n395).toInt := t_ltl (t_nle h399) l397 rfl
              refine ev_loc f_X7_addStep (nx := 13) rfl rfl rfl rfl ?_
              refine ev_getR f_X7_addStep (nx := 16) (v := .ref (a394 + 3)) rfl p394.1 rfl rfl r4_395 rfl rfl ?_
              refine ev_loc f_X7_addStep (nx := 17) rfl rfl rfl rfl ?_
              refine ev_gvI f_X7_addStep (nx := 20) (w := (gi393 a394 3)) rfl p394.1 rfl rfl rfl rfl ?_
              refine ev_loc f_X7_addStep (nx := 21) rfl rfl rfl rfl ?_
              refine ev_iastS f_X7_addStep (nx := 22) rfl s4_395 (t_ixs l397 (t_lenlt (t_nle h399) hn395)) rfl (hI.astD s4_395 (by omega) (fun k hk e => absurd e (t_Ru.ne p394 hk (by decide)))) (hX.upI (t_inOD s4_395 (by omega) rfl)) (fun g427 e427 hI hX => ?_)
              refine ev_loc f_X7_addStep (nx := 23) rfl rfl rfl rfl ?_
              refine ev_getR f_X7_addStep (nx := 26) (v := .ref (a394 + 4)) rfl p394.1 rfl rfl r5_395 rfl rfl ?_
              refine ev_loc f_X7_addStep (nx := 27) rfl rfl rfl rfl ?_
              refine ev_gvI f_X7_addStep (nx := 30) (w := (gi393 a394 3)) rfl p394.1 rfl rfl ((by rw [e427]; exact x_up2_off (Or.inl (t_noobj s4_395 p394.1)) : g427 a394 3 = gi393 a394 3).trans rfl) rfl ?_
              refine ev_loc f_X7_addStep (nx := 31) rfl rfl rfl rfl ?_
              refine ev_iastS f_X7_addStep (nx := 32) rfl s5_395 (t_ixs l397 (t_lenlt (t_nle h399) hn395)) rfl (hI.astD s5_395 (by omega) (fun k hk e => absurd e (t_Ru.ne p394 hk (by decide)))) (hX.upI (t_inOD s5_395 (by omega) rfl)) (fun g428 e428 hI hX => ?_)
              refine ev_loc f_X7_addStep (nx := 33) rfl rfl rfl rfl ?_
              refine ev_getR f_X7_addStep (nx := 36) (v := .ref (a394 + 5)) rfl p394.1 rfl rfl r6_395 rfl rfl ?_
              refine ev_loc f_X7_addStep (nx := 37) rfl rfl rfl rfl ?_
              refine ev_gvI f_X7_addStep (nx := 40) (w := (gi393 a394 3)) rfl p394.1 rfl rfl ((by rw [e428]; exact x_up2_off (Or.inl (t_noobj s5_395 p394.1)) : g428 a394 3 = g427 a394 3).trans ((by rw [e427]; exact x_up2_off (Or.inl (t_noobj s4_395 p394.1)) : g427 a394 3 = gi393 a394 3).trans rfl)) rfl ?_
              refine ev_loc f_X7_addStep (nx := 41) rfl rfl rfl rfl ?_
              refine ev_iastS f_X7_addStep (nx := 42) rfl s6_395 (t_ixs l397 (t_lenlt (t_nle h399) hn395)) rfl (hI.astD s6_395 (by omega) (fun k hk e => absurd e (t_Ru.ne p394 hk (by decide)))) (hX.upI (t_inOD s6_395 (by omega) rfl)) (fun g429 e429 hI hX => ?_)
              refine ev_loc f_X7_addStep (nx := 43) rfl rfl rfl rfl ?_
              refine ev_alu f_X7_addStep (nx := 44) rfl rfl rfl rfl ?_
              refine ev_gvI f_X7_addStep (nx := 47) (w := (gi393 a394 3)) rfl p394.1 rfl rfl ((by rw [e429]; exact x_up2_off (Or.inl (t_noobj s6_395 p394.1)) : g429 a394 3 = g428 a394 3).trans ((by rw [e428]; exact x_up2_off (Or.inl (t_noobj s5_395 p394.1)) : g428 a394 3 = g427 a394 3).trans ((by rw [e427]; exact x_up2_off (Or.inl (t_noobj s4_395 p394.1)) : g427 a394 3 = gi393 a394 3).trans rfl))) rfl ?_
              refine ev_ic f_X7_addStep (nx := 48) (v := 1) rfl (by decide) rfl ?_
              refine ev_addC f_X7_addStep (nx := 49) (c := 1) (l := 1) (u := 300) rfl (by decide) l397 u425 rfl rfl (by decide) (by decide) rfl (fun z430 e430 l430 u430 => ?_)
              have q431 := t_lenlt (t_nle h399) hn395
              refine ev_putIT f_X7_addStep (nx := 52) rfl p394.1 rfl rfl rfl (hI.putG p394.1 (fun lo hi e => by have e : some ((0 : Int), (300 : Int)) = some (lo, hi) := e; have := hn395; cases e; exact ⟨by omega, by omega⟩) (fun _ _ n2 hn2 => by rw [s4_395] at hn2; cases hn2; omega)) (hX.upI (t_inO hI.wf p394.1 (t_outO hI.wf p394.1 rfl) rfl)) (fun g431 e431 hI hX => ?_)
              refine ev_retK0 f_X7_addStep rfl rfl rfl ?_
              refine ev_loc f_X8_readCase (nx := 100) rfl rfl rfl rfl ?_
              refine ev_getR f_X8_readCase (nx := 103) (v := .ref a38) rfl p_a0.1 rfl rfl ((hC393.1 ar0 0 (t_ninO hI.wf p_a0.1 (t_outO hI.wf p_a0.1 rfl) rfl)).2.2.trans ((hC39.1 ar0 0 (t_ninO hI.wf p_a0.1 (t_outO hI.wf p_a0.1 rfl) rfl)).2.2.trans e38)) rfl rfl ?_
              refine ev_ic f_X8_readCase (nx := 104) (v := 0) rfl (by decide) rfl ?_
              refine ev_sp f_X8_readCase (nx := 107) (v := 300) rfl (by decide) rfl ?_
              refine ev_inV3 f_X8_readCase (nx := 110) (lo2 := [(0, .ref a38), (1, .int 0), (2, .int 300)]) rfl rfl rfl rfl f_X9_takeNumber p38.1 rfl rfl rfl rfl rfl ?_
              refine ev_loc f_X9_takeNumber (nx := 1) rfl rfl rfl rfl ?_
              refine ev_getI f_X9_takeNumber (nx := 4) rfl p38.1 rfl rfl rfl ?_
              refine ev_ic f_X9_takeNumber (nx := 5) (v := 1) rfl (by decide) rfl ?_
              refine ev_if f_X9_takeNumber (t1 := 14) (t2 := 8) rfl rfl rfl (fun h432 => ?_) (fun h432 => ?_)
              · have u433 : (g431 a38 3).toInt ≤ 1 := t_equ h432 (by decide : (1:Int32).toInt ≤ (1:Int))
                have l434 : 1 ≤ (g431 a38 3).toInt := t_eql h432 (by decide : (1:Int) ≤ (1:Int32).toInt)
                refine ev_loc f_X9_takeNumber (nx := 15) rfl rfl rfl rfl ?_
                refine ev_gvI f_X9_takeNumber (nx := 18) (w := (gi393 a38 8)) rfl p38.1 rfl rfl ((by rw [e431]; exact x_up2_off (Or.inr (by decide)) : g431 a38 8 = g429 a38 8).trans ((by rw [e429]; exact x_up2_off (Or.inl (t_noobj s6_395 p38.1)) : g429 a38 8 = g428 a38 8).trans ((by rw [e428]; exact x_up2_off (Or.inl (t_noobj s5_395 p38.1)) : g428 a38 8 = g427 a38 8).trans ((by rw [e427]; exact x_up2_off (Or.inl (t_noobj s4_395 p38.1)) : g427 a38 8 = gi393 a38 8).trans rfl)))) rfl ?_
                refine ev_loc f_X9_takeNumber (nx := 19) rfl rfl rfl rfl ?_
                refine ev_if f_X9_takeNumber (t1 := 30) (t2 := 22) rfl rfl rfl (fun h435 => ?_) (fun h435 => ?_)
                · have u436 : (gi393 a38 8).toInt ≤ (-1) := t_ltu h435 (by decide : (0:Int32).toInt ≤ (0:Int)) rfl
                  refine ev_loc f_X9_takeNumber (nx := 31) rfl rfl rfl rfl ?_
                  refine ev_ic f_X9_takeNumber (nx := 32) (v := 4) rfl (by decide) rfl ?_
                  refine ev_inV2 f_X9_takeNumber (nx := 35) (lo2 := [(0, .ref a38), (1, .int 4)]) rfl rfl rfl rfl f_X9_refuseToken p38.1 rfl rfl rfl rfl rfl ?_
                  refine ev_loc f_X9_refuseToken (nx := 1) rfl rfl rfl rfl ?_
                  refine ev_loc f_X9_refuseToken (nx := 2) rfl rfl rfl rfl ?_
                  refine ev_gvI f_X9_refuseToken (nx := 5) (w := (g431 a38 3)) rfl p38.1 rfl rfl rfl rfl ?_
                  refine ev_ic f_X9_refuseToken (nx := 6) (v := 4) rfl (by decide) rfl ?_
                  refine ev_f f_X9_refuseToken (t1 := 9) (t2 := 13) rfl rfl rfl (t_neT u433 (by decide : (4:Int) ≤ (4:Int32).toInt) (by decide)) ?_
                  refine ev_loc f_X9_refuseToken (nx := 14) rfl rfl rfl rfl ?_
                  refine ev_putIT f_X9_refuseToken (nx := 17) rfl p38.1 rfl rfl rfl (hI.put0 p38.1 rfl rfl) (hX.upI (t_inO hI.wf p38.1 (t_outO hI.wf p38.1 rfl) rfl)) (fun g437 e437 hI hX => ?_)
                  refine ev_loc f_X9_refuseToken (nx := 18) rfl rfl rfl rfl ?_
                  refine ev_loc f_X9_refuseToken (nx := 19) rfl rfl rfl rfl ?_
                  refine ev_getI f_X9_refuseToken (nx := 22) rfl p38.1 rfl rfl rfl ?_
                  obtain ⟨l438, u438⟩ := hI.b p38.1 (t_bdK rfl : t_bd 8 4 = some (0, 900))
                  refine ev_putIT f_X9_refuseToken (nx := 25) rfl p38.1 rfl rfl rfl (hI.put0 p38.1 rfl rfl) (hX.upI (t_inO hI.wf p38.1 (t_outO hI.wf p38.1 rfl) rfl)) (fun g439 e439 hI hX => ?_)
                  refine ev_ic f_X9_refuseToken (nx := 26) (v := 0) rfl (by decide) rfl ?_
                  refine ev_retK1 f_X9_refuseToken rfl rfl rfl ?_
                  refine ev_retK1 f_X9_takeNumber rfl rfl rfl ?_
                  exact ev_ret f_X8_readCase rfl rfl rfl ⟨_, _, _, rfl, hI, hX, ⟨_, rfl, (by decide : (0:Int) ≤ (0:Int32).toInt), (Int.le_trans (by decide : (0:Int32).toInt ≤ (0:Int)) (by decide : (0:Int) ≤ 1))⟩⟩
                · have l440 : 0 ≤ (gi393 a38 8).toInt := t_lel (t_nlt h435) (by decide : (0:Int) ≤ (0:Int32).toInt)
                  refine ev_loc f_X9_takeNumber (nx := 23) rfl rfl rfl rfl ?_
                  refine ev_gvI f_X9_takeNumber (nx := 26) (w := (gi393 a38 8)) rfl p38.1 rfl rfl ((by rw [e431]; exact x_up2_off (Or.inr (by decide)) : g431 a38 8 = g429 a38 8).trans ((by rw [e429]; exact x_up2_off (Or.inl (t_noobj s6_395 p38.1)) : g429 a38 8 = g428 a38 8).trans ((by rw [e428]; exact x_up2_off (Or.inl (t_noobj s5_395 p38.1)) : g428 a38 8 = g427 a38 8).trans ((by rw [e427]; exact x_up2_off (Or.inl (t_noobj s4_395 p38.1)) : g427 a38 8 = gi393 a38 8).trans rfl)))) rfl ?_
                  refine ev_loc f_X9_takeNumber (nx := 27) rfl rfl rfl rfl ?_
                  refine ev_if f_X9_takeNumber (t1 := 36) (t2 := 30) rfl rfl rfl (fun h441 => ?_) (fun h441 => ?_)
                  · have u442 : (gi393 a38 8).toInt ≤ 300 := t_leu h441 (by decide : (300:Int32).toInt ≤ (300:Int))
                    refine ev_loc f_X9_takeNumber (nx := 37) rfl rfl rfl rfl ?_
                    refine ev_c0 f_X9_takeNumber (nx := 40) (r := []) rfl rfl rfl rfl rfl rfl rfl (c_step hI (a38) p38) rfl hX rfl (fun gi443 gl443 gr443 hI hX hC443 => ?_)
                    replace p_a0 := p_a0.ext hC443.2
                    replace p38 := p38.ext hC443.2
                    replace p394 := p394.ext hC443.2
                    refine ev_ic f_X9_takeNumber (nx := 41) (v := 1) rfl (by decide) rfl ?_
                    refine ev_retK1 f_X9_takeNumber rfl rfl rfl ?_
                    exact ev_ret f_X8_readCase rfl rfl rfl ⟨_, _, _, rfl, hI, hX, ⟨_, rfl, (Int.le_trans (by decide : (0:Int) ≤ 1) (by decide : (1:Int) ≤ (1:Int32).toInt)), (by decide : (1:Int32).toInt ≤ (1:Int))⟩⟩
                  · have l444 : 301 ≤ (gi393 a38 8).toInt := t_ltl (t_nle h441) (by decide : (300:Int) ≤ (300:Int32).toInt) rfl
                    refine ev_loc f_X9_takeNumber (nx := 31) rfl rfl rfl rfl ?_
                    refine ev_ic f_X9_takeNumber (nx := 32) (v := 4) rfl (by decide) rfl ?_
                    refine ev_inV2 f_X9_takeNumber (nx := 35) (lo2 := [(0, .ref a38), (1, .int 4)]) rfl rfl rfl rfl f_X9_refuseToken p38.1 rfl rfl rfl rfl rfl ?_
                    refine ev_loc f_X9_refuseToken (nx := 1) rfl rfl rfl rfl ?_
                    refine ev_loc f_X9_refuseToken (nx := 2) rfl rfl rfl rfl ?_
                    refine ev_gvI f_X9_refuseToken (nx := 5) (w := (g431 a38 3)) rfl p38.1 rfl rfl rfl rfl ?_
                    refine ev_ic f_X9_refuseToken (nx := 6) (v := 4) rfl (by decide) rfl ?_
                    refine ev_f f_X9_refuseToken (t1 := 9) (t2 := 13) rfl rfl rfl (t_neT u433 (by decide : (4:Int) ≤ (4:Int32).toInt) (by decide)) ?_
                    refine ev_loc f_X9_refuseToken (nx := 14) rfl rfl rfl rfl ?_
                    refine ev_putIT f_X9_refuseToken (nx := 17) rfl p38.1 rfl rfl rfl (hI.put0 p38.1 rfl rfl) (hX.upI (t_inO hI.wf p38.1 (t_outO hI.wf p38.1 rfl) rfl)) (fun g445 e445 hI hX => ?_)
                    refine ev_loc f_X9_refuseToken (nx := 18) rfl rfl rfl rfl ?_
                    refine ev_loc f_X9_refuseToken (nx := 19) rfl rfl rfl rfl ?_
                    refine ev_getI f_X9_refuseToken (nx := 22) rfl p38.1 rfl rfl rfl ?_
                    obtain ⟨l446, u446⟩ := hI.b p38.1 (t_bdK rfl : t_bd 8 4 = some (0, 900))
                    refine ev_putIT f_X9_refuseToken (nx := 25) rfl p38.1 rfl rfl rfl (hI.put0 p38.1 rfl rfl) (hX.upI (t_inO hI.wf p38.1 (t_outO hI.wf p38.1 rfl) rfl)) (fun g447 e447 hI hX => ?_)
                    refine ev_ic f_X9_refuseToken (nx := 26) (v := 0) rfl (by decide) rfl ?_
                    refine ev_retK1 f_X9_refuseToken rfl rfl rfl ?_
                    refine ev_retK1 f_X9_takeNumber rfl rfl rfl ?_
                    exact ev_ret f_X8_readCase rfl rfl rfl ⟨_, _, _, rfl, hI, hX, ⟨_, rfl, (by decide : (0:Int) ≤ (0:Int32).toInt), (Int.le_trans (by decide : (0:Int32).toInt ≤ (0:Int)) (by decide : (0:Int) ≤ 1))⟩⟩
              · refine ev_loc f_X9_takeNumber (nx := 9) rfl rfl rfl rfl ?_
                refine ev_ic f_X9_takeNumber (nx := 10) (v := 2) rfl (by decide) rfl ?_
                refine ev_inV2 f_X9_takeNumber (nx := 13) (lo2 := [(0, .ref a38), (1, .int 2)]) rfl rfl rfl rfl f_X9_refuseToken p38.1 rfl rfl rfl rfl rfl ?_
                refine ev_loc f_X9_refuseToken (nx := 1) rfl rfl rfl rfl ?_
                refine ev_loc f_X9_refuseToken (nx := 2) rfl rfl rfl rfl ?_
                refine ev_gvI f_X9_refuseToken (nx := 5) (w := (g431 a38 3)) rfl p38.1 rfl rfl rfl rfl ?_
                refine ev_ic f_X9_refuseToken (nx := 6) (v := 4) rfl (by decide) rfl ?_
                refine ev_if f_X9_refuseToken (t1 := 9) (t2 := 13) rfl rfl rfl (fun h448 => ?_) (fun h448 => ?_)
                · have u449 : (g431 a38 3).toInt ≤ 4 := t_equ h448 (by decide : (4:Int32).toInt ≤ (4:Int))
                  have l450 : 4 ≤ (g431 a38 3).toInt := t_eql h448 (by decide : (4:Int) ≤ (4:Int32).toInt)
                  refine ev_ic f_X9_refuseToken (nx := 10) (v := 1) rfl (by decide) rfl ?_
                  refine ev_jmp f_X9_refuseToken (nx := 14) rfl rfl rfl ?_
                  refine ev_putIT f_X9_refuseToken (nx := 17) rfl p38.1 rfl rfl rfl (hI.put0 p38.1 rfl rfl) (hX.upI (t_inO hI.wf p38.1 (t_outO hI.wf p38.1 rfl) rfl)) (fun g451 e451 hI hX => ?_)
                  refine ev_loc f_X9_refuseToken (nx := 18) rfl rfl rfl rfl ?_
                  refine ev_loc f_X9_refuseToken (nx := 19) rfl rfl rfl rfl ?_
                  refine ev_getI f_X9_refuseToken (nx := 22) rfl p38.1 rfl rfl rfl ?_
                  obtain ⟨l452, u452⟩ := hI.b p38.1 (t_bdK rfl : t_bd 8 4 = some (0, 900))
                  refine ev_putIT f_X9_refuseToken (nx := 25) rfl p38.1 rfl rfl rfl (hI.put0 p38.1 rfl rfl) (hX.upI (t_inO hI.wf p38.1 (t_outO hI.wf p38.1 rfl) rfl)) (fun g453 e453 hI hX => ?_)
                  refine ev_ic f_X9_refuseToken (nx := 26) (v := 0) rfl (by decide) rfl ?_
                  refine ev_retK1 f_X9_refuseToken rfl rfl rfl ?_
                  refine ev_retK1 f_X9_takeNumber rfl rfl rfl ?_
                  exact ev_ret f_X8_readCase rfl rfl rfl ⟨_, _, _, rfl, hI, hX, ⟨_, rfl, (by decide : (0:Int) ≤ (0:Int32).toInt), (Int.le_trans (by decide : (0:Int32).toInt ≤ (0:Int)) (by decide : (0:Int) ≤ 1))⟩⟩
                · refine ev_loc f_X9_refuseToken (nx := 14) rfl rfl rfl rfl ?_
                  refine ev_putIT f_X9_refuseToken (nx := 17) rfl p38.1 rfl rfl rfl (hI.put0 p38.1 rfl rfl) (hX.upI (t_inO hI.wf p38.1 (t_outO hI.wf p38.1 rfl) rfl)) (fun g454 e454 hI hX => ?_)
                  refine ev_loc f_X9_refuseToken (nx := 18) rfl rfl rfl rfl ?_
                  refine ev_loc f_X9_refuseToken (nx := 19) rfl rfl rfl rfl ?_
                  refine ev_getI f_X9_refuseToken (nx := 22) rfl p38.1 rfl rfl rfl ?_
                  obtain ⟨l455, u455⟩ := hI.b p38.1 (t_bdK rfl : t_bd 8 4 = some (0, 900))
                  refine ev_putIT f_X9_refuseToken (nx := 25) rfl p38.1 rfl rfl rfl (hI.put0 p38.1 rfl rfl) (hX.upI (t_inO hI.wf p38.1 (t_outO hI.wf p38.1 rfl) rfl)) (fun g456 e456 hI hX => ?_)
                  refine ev_ic f_X9_refuseToken (nx := 26) (v := 0) rfl (by decide) rfl ?_
                  refine ev_retK1 f_X9_refuseToken rfl rfl rfl ?_
                  refine ev_retK1 f_X9_takeNumber rfl rfl rfl ?_
                  exact ev_ret f_X8_readCase rfl rfl rfl ⟨_, _, _, rfl, hI, hX, ⟨_, rfl, (by decide : (0:Int) ≤ (0:Int32).toInt), (Int.le_trans (by decide : (0:Int32).toInt ≤ (0:Int)) (by decide : (0:Int) ≤ 1))⟩⟩
          · refine ev_ic f_X9_isSignOf (nx := 21) (v := 0) rfl (by decide) rfl ?_
            refine ev_retK1 f_X9_isSignOf rfl rfl rfl ?_
            refine ev_t f_X8_comparesTold (t1 := 44) (t2 := 40) rfl rfl rfl (by decide) ?_
            refine ev_ic f_X8_comparesTold (nx := 45) (v := -1) rfl (by decide) rfl ?_
            refine ev_retK1 f_X8_comparesTold rfl rfl rfl ?_
            refine ev_loc f_X8_readCase (nx := 62) (lo' := [(2, .int (-1)), (0, .ref ar0), (1, .int ar1)]) rfl rfl rfl rfl ?_
            refine ev_loc f_X8_readCase (nx := 63) rfl rfl rfl rfl ?_
            refine ev_ic f_X8_readCase (nx := 64) (v := -1) rfl (by decide) rfl ?_
            refine ev_t f_X8_readCase (t1 := 67) (t2 := 76) rfl rfl rfl (by decide) ?_
            refine ev_loc f_X8_readCase (nx := 68) rfl rfl rfl rfl ?_
            refine ev_getR f_X8_readCase (nx := 71) (v := .ref a38) rfl p_a0.1 rfl rfl ((hC39.1 ar0 0 (t_ninO hI.wf p_a0.1 (t_outO hI.wf p_a0.1 rfl) rfl)).2.2.trans e38) rfl rfl ?_
            refine ev_ic f_X8_readCase (nx := 72) (v := 2) rfl (by decide) rfl ?_
            refine ev_inV2 f_X8_readCase (nx := 75) (lo2 := [(0, .ref a38), (1, .int 2)]) rfl rfl rfl rfl f_X9_refuseToken p38.1 rfl rfl rfl rfl rfl ?_
            refine ev_loc f_X9_refuseToken (nx := 1) rfl rfl rfl rfl ?_
            refine ev_loc f_X9_refuseToken (nx := 2) rfl rfl rfl rfl ?_
            refine ev_gvI f_X9_refuseToken (nx := 5) (w := (gi39 a38 3)) rfl p38.1 rfl rfl rfl rfl ?_
            refine ev_ic f_X9_refuseToken (nx := 6) (v := 4) rfl (by decide) rfl ?_
            refine ev_f f_X9_refuseToken (t1 := 9) (t2 := 13) rfl rfl rfl (t_neT u388 (by decide : (4:Int) ≤ (4:Int32).toInt) (by decide)) ?_
            refine ev_loc f_X9_refuseToken (nx := 14) rfl rfl rfl rfl ?_
            refine ev_putIT f_X9_refuseToken (nx := 17) rfl p38.1 rfl rfl rfl (hI.put0 p38.1 rfl rfl) (hX.upI (t_inO hI.wf p38.1 (t_outO hI.wf p38.1 rfl) rfl)) (fun g457 e457 hI hX => ?_)
            refine ev_loc f_X9_refuseToken (nx := 18) rfl rfl rfl rfl ?_
            refine ev_loc f_X9_refuseToken (nx := 19) rfl rfl rfl rfl ?_
            refine ev_getI f_X9_refuseToken (nx := 22) rfl p38.1 rfl rfl rfl ?_
            obtain ⟨l458, u458⟩ := hI.b p38.1 (t_bdK rfl : t_bd 8 4 = some (0, 900))
            refine ev_putIT f_X9_refuseToken (nx := 25) rfl p38.1 rfl rfl rfl (hI.put0 p38.1 rfl rfl) (hX.upI (t_inO hI.wf p38.1 (t_outO hI.wf p38.1 rfl) rfl)) (fun g459 e459 hI hX => ?_)
            refine ev_ic f_X9_refuseToken (nx := 26) (v := 0) rfl (by decide) rfl ?_
            refine ev_retK1 f_X9_refuseToken rfl rfl rfl ?_
            exact ev_ret f_X8_readCase rfl rfl rfl ⟨_, _, _, rfl, hI, hX, ⟨_, rfl, (by decide : (0:Int) ≤ (0:Int32).toInt), (Int.le_trans (by decide : (0:Int32).toInt ≤ (0:Int)) (by decide : (0:Int) ≤ 1))⟩⟩
        · refine ev_ic f_X9_isSignOf (nx := 21) (v := 0) rfl (by decide) rfl ?_
          refine ev_retK1 f_X9_isSignOf rfl rfl rfl ?_
          refine ev_t f_X8_comparesTold (t1 := 44) (t2 := 40) rfl rfl rfl (by decide) ?_
          refine ev_ic f_X8_comparesTold (nx := 45) (v := -1) rfl (by decide) rfl ?_
          refine ev_retK1 f_X8_comparesTold rfl rfl rfl ?_
          refine ev_loc f_X8_readCase (nx := 62) (lo' := [(2, .int (-1)), (0, .ref ar0), (1, .int ar1)]) rfl rfl rfl rfl ?_
          refine ev_loc f_X8_readCase (nx := 63) rfl rfl rfl rfl ?_
          refine ev_ic f_X8_readCase (nx := 64) (v := -1) rfl (by decide) rfl ?_
          refine ev_t f_X8_readCase (t1 := 67) (t2 := 76) rfl rfl rfl (by decide) ?_
          refine ev_loc f_X8_readCase (nx := 68) rfl rfl rfl rfl ?_
          refine ev_getR f_X8_readCase (nx := 71) (v := .ref a38) rfl p_a0.1 rfl rfl ((hC39.1 ar0 0 (t_ninO hI.wf p_a0.1 (t_outO hI.wf p_a0.1 rfl) rfl)).2.2.trans e38) rfl rfl ?_
          refine ev_ic f_X8_readCase (nx := 72) (v := 2) rfl (by decide) rfl ?_
          refine ev_inV2 f_X8_readCase (nx := 75) (lo2 := [(0, .ref a38), (1, .int 2)]) rfl rfl rfl rfl f_X9_refuseToken p38.1 rfl rfl rfl rfl rfl ?_
          refine ev_loc f_X9_refuseToken (nx := 1) rfl rfl rfl rfl ?_
          refine ev_loc f_X9_refuseToken (nx := 2) rfl rfl rfl rfl ?_
          refine ev_gvI f_X9_refuseToken (nx := 5) (w := (gi39 a38 3)) rfl p38.1 rfl rfl rfl rfl ?_
          refine ev_ic f_X9_refuseToken (nx := 6) (v := 4) rfl (by decide) rfl ?_
          refine ev_if f_X9_refuseToken (t1 := 9) (t2 := 13) rfl rfl rfl (fun h460 => ?_) (fun h460 => ?_)
          · have u461 : (gi39 a38 3).toInt ≤ 4 := t_equ h460 (by decide : (4:Int32).toInt ≤ (4:Int))
            have l462 : 4 ≤ (gi39 a38 3).toInt := t_eql h460 (by decide : (4:Int) ≤ (4:Int32).toInt)
            refine ev_ic f_X9_refuseToken (nx := 10) (v := 1) rfl (by decide) rfl ?_
            refine ev_jmp f_X9_refuseToken (nx := 14) rfl rfl rfl ?_
            refine ev_putIT f_X9_refuseToken (nx := 17) rfl p38.1 rfl rfl rfl (hI.put0 p38.1 rfl rfl) (hX.upI (t_inO hI.wf p38.1 (t_outO hI.wf p38.1 rfl) rfl)) (fun g463 e463 hI hX => ?_)
            refine ev_loc f_X9_refuseToken (nx := 18) rfl rfl rfl rfl ?_
            refine ev_loc f_X9_refuseToken (nx := 19) rfl rfl rfl rfl ?_
            refine ev_getI f_X9_refuseToken (nx := 22) rfl p38.1 rfl rfl rfl ?_
            obtain ⟨l464, u464⟩ := hI.b p38.1 (t_bdK rfl : t_bd 8 4 = some (0, 900))
            refine ev_putIT f_X9_refuseToken (nx := 25) rfl p38.1 rfl rfl rfl (hI.put0 p38.1 rfl rfl) (hX.upI (t_inO hI.wf p38.1 (t_outO hI.wf p38.1 rfl) rfl)) (fun g465 e465 hI hX => ?_)
            refine ev_ic f_X9_refuseToken (nx := 26) (v := 0) rfl (by decide) rfl ?_
            refine ev_retK1 f_X9_refuseToken rfl rfl rfl ?_
            exact ev_ret f_X8_readCase rfl rfl rfl ⟨_, _, _, rfl, hI, hX, ⟨_, rfl, (by decide : (0:Int) ≤ (0:Int32).toInt), (Int.le_trans (by decide : (0:Int32).toInt ≤ (0:Int)) (by decide : (0:Int) ≤ 1))⟩⟩
          · refine ev_loc f_X9_refuseToken (nx := 14) rfl rfl rfl rfl ?_
            refine ev_putIT f_X9_refuseToken (nx := 17) rfl p38.1 rfl rfl rfl (hI.put0 p38.1 rfl rfl) (hX.upI (t_inO hI.wf p38.1 (t_outO hI.wf p38.1 rfl) rfl)) (fun g466 e466 hI hX => ?_)
            refine ev_loc f_X9_refuseToken (nx := 18) rfl rfl rfl rfl ?_
            refine ev_loc f_X9_refuseToken (nx := 19) rfl rfl rfl rfl ?_
            refine ev_getI f_X9_refuseToken (nx := 22) rfl p38.1 rfl rfl rfl ?_
            obtain ⟨l467, u467⟩ := hI.b p38.1 (t_bdK rfl : t_bd 8 4 = some (0, 900))
            refine ev_putIT f_X9_refuseToken (nx := 25) rfl p38.1 rfl rfl rfl (hI.put0 p38.1 rfl rfl) (hX.upI (t_inO hI.wf p38.1 (t_outO hI.wf p38.1 rfl) rfl)) (fun g468 e468 hI hX => ?_)
            refine ev_ic f_X9_refuseToken (nx := 26) (v := 0) rfl (by decide) rfl ?_
            refine ev_retK1 f_X9_refuseToken rfl rfl rfl ?_
            exact ev_ret f_X8_readCase rfl rfl rfl ⟨_, _, _, rfl, hI, hX, ⟨_, rfl, (by decide : (0:Int) ≤ (0:Int32).toInt), (Int.le_trans (by decide : (0:Int32).toInt ≤ (0:Int)) (by decide : (0:Int) ≤ 1))⟩⟩
