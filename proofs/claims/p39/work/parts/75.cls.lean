/-! ===== printed by cls.py: typed contracts of the class ===== -/
noncomputable def wl_canEndWithin : List (Nat × Nat) := [(28, 4), (28, 5)]
theorem c_canEndWithin {X : x_Ext} {d : Nat} {sh : List (Nat ⊕ (Nat × Nat))} {gi : Nat → Nat → Int32} {gl : Nat → Nat → Int64} {gr : Nat → Nat → Value} (hI : t_I sh gi gr) (ar1 : Int32) (ar2 : Int32) (l_a2 : 0 ≤ ar2.toInt) (u_a2 : ar2.toInt ≤ 1) (ar3 : Int32) (l_a3 : 0 ≤ ar3.toInt) (u_a3 : ar3.toInt ≤ 6) (ar4 : Int32) (l_a4 : 0 ≤ ar4.toInt) (u_a4 : ar4.toInt ≤ 6) (ar5 : Int32) : x_Me X (d + 17) n_X1_canEndWithin [.ref 28, .int ar1, .int ar2, .int ar3, .int ar4, .int ar5] (sh, gi, gl, gr) (t_P wl_canEndWithin sh gi gl gr (t_Ri 0 1)) := by
  have hX : t_X wl_canEndWithin sh gi gl gr gi gl gr := t_X.rf
  refine me_i f_X1_canEndWithin (hI.wf.s rfl) rfl rfl rfl ?_
  refine ev_loc f_X1_canEndWithin (nx := 1) rfl rfl rfl rfl ?_
  refine ev_loc f_X1_canEndWithin (nx := 3) rfl rfl rfl rfl ?_
  refine ev_ic f_X1_canEndWithin (nx := 4) (v := 1) rfl (by decide) rfl ?_
  refine ev_anyI f_X1_canEndWithin (nx := 5) rfl rfl rfl rfl (fun z1 => ?_)
  refine ev_putIT f_X1_canEndWithin (nx := 8) rfl (hI.wf.s rfl) rfl rfl rfl (hI.put0 (hI.wf.s rfl) rfl rfl) (hX.upI rfl) (fun g2 e2 hI hX => ?_)
  refine ev_loc f_X1_canEndWithin (nx := 9) rfl rfl rfl rfl ?_
  refine ev_loc f_X1_canEndWithin (nx := 11) rfl rfl rfl rfl ?_
  refine ev_putIT f_X1_canEndWithin (nx := 14) rfl (hI.wf.s rfl) rfl rfl rfl (hI.put0 (hI.wf.s rfl) rfl rfl) (hX.upI rfl) (fun g3 e3 hI hX => ?_)
  refine ev_loc f_X1_canEndWithin (nx := 15) rfl rfl rfl rfl ?_
  refine ev_loc f_X1_canEndWithin (nx := 16) rfl rfl rfl rfl ?_
  refine ev_loc f_X1_canEndWithin (nx := 17) rfl rfl rfl rfl ?_
  refine ev_loc f_X1_canEndWithin (nx := 18) rfl rfl rfl rfl ?_
  refine ev_loc f_X1_canEndWithin (nx := 20) rfl rfl rfl rfl ?_
  refine ev_ic f_X1_canEndWithin (nx := 21) (v := 0) rfl (by decide) rfl ?_
  refine ev_c0 f_X1_canEndWithin (nx := 24) (r := []) rfl rfl rfl rfl rfl rfl rfl (c_search hI (ar1) (ar2) l_a2 u_a2 (ar3) l_a3 u_a3 (ar4) l_a4 u_a4 (0)) rfl hX rfl (fun gi4 gl4 gr4 hI hX hC4 => ?_)
  refine ev_loc f_X1_canEndWithin (nx := 25) rfl rfl rfl rfl ?_
  refine ev_getI f_X1_canEndWithin (nx := 28) rfl (hI.wf.s rfl) rfl rfl rfl ?_
  refine ev_loc f_X1_canEndWithin (nx := 30) rfl rfl rfl rfl ?_
  refine ev_if f_X1_canEndWithin (t1 := 37) (t2 := 33) rfl rfl rfl (fun h5 => ?_) (fun h5 => ?_)
  · have u6 : ar5.toInt ≤ 2147483646 := t_ltu h5 (t_hi (gi4 28 4)) rfl
    have l7 : (-2147483647) ≤ (gi4 28 4).toInt := t_ltl h5 (t_lo ar5) rfl
    refine ev_ic f_X1_canEndWithin (nx := 38) (v := 0) rfl (by decide) rfl ?_
    exact ev_ret f_X1_canEndWithin rfl rfl rfl ⟨_, _, _, rfl, hI, hX, ⟨_, rfl, (by decide : (0:Int) ≤ (0:Int32).toInt), (Int.le_trans (by decide : (0:Int32).toInt ≤ (0:Int)) (by decide : (0:Int) ≤ 1))⟩⟩
  · refine ev_ic f_X1_canEndWithin (nx := 34) (v := 1) rfl (by decide) rfl ?_
    refine ev_jmp f_X1_canEndWithin (nx := 38) rfl rfl rfl ?_
    exact ev_ret f_X1_canEndWithin rfl rfl rfl ⟨_, _, _, rfl, hI, hX, ⟨_, rfl, (Int.le_trans (by decide : (0:Int) ≤ 1) (by decide : (1:Int) ≤ (1:Int32).toInt)), (by decide : (1:Int32).toInt ≤ (1:Int))⟩⟩
noncomputable def wl_addAct : List (Nat × Nat) := [(28, 6), (41, 9999)]
theorem c_addAct {X : x_Ext} {d : Nat} {sh : List (Nat ⊕ (Nat × Nat))} {gi : Nat → Nat → Int32} {gl : Nat → Nat → Int64} {gr : Nat → Nat → Value} (hI : t_I sh gi gr) (ar1 : Int32) (ar2 : Int32) (ar3 : Int32) : x_Me X (d + 1) n_X1_addAct [.ref 28, .int ar1, .int ar2, .int ar3] (sh, gi, gl, gr) (t_P wl_addAct sh gi gl gr t_Rn) := by
  have hX : t_X wl_addAct sh gi gl gr gi gl gr := t_X.rf
  refine me_i f_X1_addAct (hI.wf.s rfl) rfl rfl rfl ?_
  refine ev_loc f_X1_addAct (nx := 1) rfl rfl rfl rfl ?_
  refine ev_getI f_X1_addAct (nx := 4) rfl (hI.wf.s rfl) rfl rfl rfl ?_
  obtain ⟨l1, u1⟩ := hI.b (hI.wf.s (k := 28) rfl) (t_bdK rfl : t_bd 1 6 = some (0, 24))
  refine ev_bp f_X1_addAct (nx := 6) (v := 24) rfl (by decide) rfl ?_
  refine ev_if f_X1_addAct (t1 := 59) (t2 := 9) rfl rfl rfl (fun h2 => ?_) (fun h2 => ?_)
  · have l3 : 24 ≤ (gi 28 6).toInt := t_lel h2 (by decide : (24:Int) ≤ (24:Int32).toInt)
    exact ev_ret f_X1_addAct rfl rfl rfl ⟨_, _, _, rfl, hI, hX, rfl⟩
  · have u4 : (gi 28 6).toInt ≤ 23 := t_ltu (t_nle h2) (by decide : (24:Int32).toInt ≤ (24:Int)) rfl
    refine ev_loc f_X1_addAct (nx := 10) rfl rfl rfl rfl ?_
    refine ev_getR f_X1_addAct (nx := 13) rfl (hI.wf.s rfl) rfl rfl (hI.wf.r rfl) rfl rfl ?_
    refine ev_ic f_X1_addAct (nx := 14) (v := 3) rfl (by decide) rfl ?_
    refine ev_loc f_X1_addAct (nx := 15) rfl rfl rfl rfl ?_
    refine ev_gvI f_X1_addAct (nx := 18) (w := (gi 28 6)) rfl (hI.wf.s rfl) rfl rfl rfl rfl ?_
    refine ev_mulL f_X1_addAct (nx := 19) (c := 3) (l := 0) (u := 69) rfl (by decide) (by decide) l1 u4 rfl rfl (by decide) (by decide) rfl (fun z5 e5 l5 u5 => ?_)
    refine ev_loc f_X1_addAct (nx := 20) rfl rfl rfl rfl ?_
    refine ev_iastT f_X1_addAct (nx := 21) rfl (hI.wf.s rfl) l5 (by decide) u5 (by decide) rfl (hI.astO (hI.wf.s rfl) (Or.inl (by decide)) (by decide +kernel)) (hX.upI (t_inA_ok rfl)) (fun g6 e6 hI hX => ?_)
    refine ev_loc f_X1_addAct (nx := 22) rfl rfl rfl rfl ?_
    refine ev_getR f_X1_addAct (nx := 25) rfl (hI.wf.s rfl) rfl rfl (hI.wf.r rfl) rfl rfl ?_
    refine ev_ic f_X1_addAct (nx := 26) (v := 3) rfl (by decide) rfl ?_
    refine ev_loc f_X1_addAct (nx := 27) rfl rfl rfl rfl ?_
    refine ev_gvI f_X1_addAct (nx := 30) (w := (gi 28 6)) rfl (hI.wf.s rfl) rfl rfl ((by rw [e6]; exact x_up2_off (Or.inl (by decide)) : g6 28 6 = gi 28 6).trans rfl) rfl ?_
    refine ev_mulL f_X1_addAct (nx := 31) (c := 3) (l := 0) (u := 69) rfl (by decide) (by decide) l1 u4 rfl rfl (by decide) (by decide) rfl (fun z7 e7 l7 u7 => ?_)
    refine ev_ic f_X1_addAct (nx := 32) (v := 1) rfl (by decide) rfl ?_
    refine ev_addC f_X1_addAct (nx := 33) (c := 1) (l := 1) (u := 70) rfl (by decide) l7 u7 rfl rfl (by decide) (by decide) rfl (fun z8 e8 l8 u8 => ?_)
    refine ev_loc f_X1_addAct (nx := 34) rfl rfl rfl rfl ?_
    refine ev_iastT f_X1_addAct (nx := 35) rfl (hI.wf.s rfl) l8 (by decide) u8 (by decide) rfl (hI.astO (hI.wf.s rfl) (Or.inl (by decide)) (by decide +kernel)) (hX.upI (t_inA_ok rfl)) (fun g9 e9 hI hX => ?_)
    refine ev_loc f_X1_addAct (nx := 36) rfl rfl rfl rfl ?_
    refine ev_getR f_X1_addAct (nx := 39) rfl (hI.wf.s rfl) rfl rfl (hI.wf.r rfl) rfl rfl ?_
    refine ev_ic f_X1_addAct (nx := 40) (v := 3) rfl (by decide) rfl ?_
    refine ev_loc f_X1_addAct (nx := 41) rfl rfl rfl rfl ?_
    refine ev_gvI f_X1_addAct (nx := 44) (w := (gi 28 6)) rfl (hI.wf.s rfl) rfl rfl ((by rw [e9]; exact x_up2_off (Or.inl (by decide)) : g9 28 6 = g6 28 6).trans ((by rw [e6]; exact x_up2_off (Or.inl (by decide)) : g6 28 6 = gi 28 6).trans rfl)) rfl ?_
    refine ev_mulL f_X1_addAct (nx := 45) (c := 3) (l := 0) (u := 69) rfl (by decide) (by decide) l1 u4 rfl rfl (by decide) (by decide) rfl (fun z10 e10 l10 u10 => ?_)
    refine ev_ic f_X1_addAct (nx := 46) (v := 2) rfl (by decide) rfl ?_
    refine ev_addC f_X1_addAct (nx := 47) (c := 2) (l := 2) (u := 71) rfl (by decide) l10 u10 rfl rfl (by decide) (by decide) rfl (fun z11 e11 l11 u11 => ?_)
    refine ev_loc f_X1_addAct (nx := 48) rfl rfl rfl rfl ?_
    refine ev_iastT f_X1_addAct (nx := 49) rfl (hI.wf.s rfl) l11 (by decide) u11 (by decide) rfl (hI.astO (hI.wf.s rfl) (Or.inl (by decide)) (by decide +kernel)) (hX.upI (t_inA_ok rfl)) (fun g12 e12 hI hX => ?_)
    refine ev_loc f_X1_addAct (nx := 50) rfl rfl rfl rfl ?_
    refine ev_alu f_X1_addAct (nx := 51) rfl rfl rfl rfl ?_
    refine ev_gvI f_X1_addAct (nx := 54) (w := (gi 28 6)) rfl (hI.wf.s rfl) rfl rfl ((by rw [e12]; exact x_up2_off (Or.inl (by decide)) : g12 28 6 = g9 28 6).trans ((by rw [e9]; exact x_up2_off (Or.inl (by decide)) : g9 28 6 = g6 28 6).trans ((by rw [e6]; exact x_up2_off (Or.inl (by decide)) : g6 28 6 = gi 28 6).trans rfl))) rfl ?_
    refine ev_ic f_X1_addAct (nx := 55) (v := 1) rfl (by decide) rfl ?_
    refine ev_addC f_X1_addAct (nx := 56) (c := 1) (l := 1) (u := 24) rfl (by decide) l1 u4 rfl rfl (by decide) (by decide) rfl (fun z13 e13 l13 u13 => ?_)
    refine ev_putIT f_X1_addAct (nx := 59) rfl (hI.wf.s rfl) rfl rfl rfl (hI.putB (hI.wf.s rfl) rfl rfl l13 (by decide) u13 (by decide)) (hX.upI rfl) (fun g14 e14 hI hX => ?_)
    exact ev_ret f_X1_addAct rfl rfl rfl ⟨_, _, _, rfl, hI, hX, rfl⟩
noncomputable def wl_leastWaits : List (Nat × Nat) := [(28, 4), (28, 5)]
theorem c_leastWaits {X : x_Ext} {d : Nat} {sh : List (Nat ⊕ (Nat × Nat))} {gi : Nat → Nat → Int32} {gl : Nat → Nat → Int64} {gr : Nat → Nat → Value} (hI : t_I sh gi gr) : x_Me X (d + 17) n_X1_leastWaits [.ref 28] (sh, gi, gl, gr) (t_P wl_leastWaits sh gi gl gr (t_Ri (-2147483648) 2147483647)) := by
  have hX : t_X wl_leastWaits sh gi gl gr gi gl gr := t_X.rf
  refine me_i f_X1_leastWaits (hI.wf.s rfl) rfl rfl rfl ?_
  refine ev_loc f_X1_leastWaits (nx := 1) rfl rfl rfl rfl ?_
  refine ev_ldI f_X1_leastWaits (nx := 3) (v := 1000000000) rfl (by decide) rfl ?_
  refine ev_putIT f_X1_leastWaits (nx := 6) rfl (hI.wf.s rfl) rfl rfl rfl (hI.put0 (hI.wf.s rfl) rfl rfl) (hX.upI rfl) (fun g1 e1 hI hX => ?_)
  refine ev_loc f_X1_leastWaits (nx := 7) rfl rfl rfl rfl ?_
  refine ev_ic f_X1_leastWaits (nx := 8) (v := 0) rfl (by decide) rfl ?_
  refine ev_putIT f_X1_leastWaits (nx := 11) rfl (hI.wf.s rfl) rfl rfl rfl (hI.put0 (hI.wf.s rfl) rfl rfl) (hX.upI rfl) (fun g2 e2 hI hX => ?_)
  refine ev_loc f_X1_leastWaits (nx := 12) rfl rfl rfl rfl ?_
  refine ev_ic f_X1_leastWaits (nx := 13) (v := 0) rfl (by decide) rfl ?_
  refine ev_ic f_X1_leastWaits (nx := 14) (v := 0) rfl (by decide) rfl ?_
  refine ev_ic f_X1_leastWaits (nx := 15) (v := 0) rfl (by decide) rfl ?_
  refine ev_ic f_X1_leastWaits (nx := 16) (v := 0) rfl (by decide) rfl ?_
  refine ev_ic f_X1_leastWaits (nx := 17) (v := 0) rfl (by decide) rfl ?_
  refine ev_c0 f_X1_leastWaits (nx := 20) (r := []) rfl rfl rfl rfl rfl rfl rfl (c_search hI (0) (0) (by decide : (0:Int) ≤ (0:Int32).toInt) (Int.le_trans (by decide : (0:Int32).toInt ≤ (0:Int)) (by decide : (0:Int) ≤ 1)) (0) (by decide : (0:Int) ≤ (0:Int32).toInt) (Int.le_trans (by decide : (0:Int32).toInt ≤ (0:Int)) (by decide : (0:Int) ≤ 6)) (0) (by decide : (0:Int) ≤ (0:Int32).toInt) (Int.le_trans (by decide : (0:Int32).toInt ≤ (0:Int)) (by decide : (0:Int) ≤ 6)) (0)) rfl hX rfl (fun gi3 gl3 gr3 hI hX hC3 => ?_)
  refine ev_loc f_X1_leastWaits (nx := 21) rfl rfl rfl rfl ?_
  refine ev_getI f_X1_leastWaits (nx := 24) rfl (hI.wf.s rfl) rfl rfl rfl ?_
  exact ev_ret f_X1_leastWaits rfl rfl rfl ⟨_, _, _, rfl, hI, hX, ⟨_, rfl, (t_lo (gi3 28 4)), (t_hi (gi3 28 4))⟩⟩
noncomputable def wl_layPlan : List (Nat × Nat) := [(28, 4), (28, 5), (28, 6), (41, 9999), (43, 9999), (44, 9999)]
theorem c_layPlan {X : x_Ext} {d : Nat} {sh : List (Nat ⊕ (Nat × Nat))} {gi : Nat → Nat → Int32} {gl : Nat → Nat → Int64} {gr : Nat → Nat → Value} (hI : t_I sh gi gr) : x_Me X (d + 19) n_X1_layPlan [.ref 28] (sh, gi, gl, gr) (t_P wl_layPlan sh gi gl gr (t_Ri 0 1)) := by
  have hX : t_X wl_layPlan sh gi gl gr gi gl gr := t_X.rf
  refine me_i f_X1_layPlan (hI.wf.s rfl) rfl rfl rfl ?_
  refine ev_loc f_X1_layPlan (nx := 1) rfl rfl rfl rfl ?_
  refine ev_ic f_X1_layPlan (nx := 2) (v := 0) rfl (by decide) rfl ?_
  refine ev_putIT f_X1_layPlan (nx := 5) rfl (hI.wf.s rfl) rfl rfl rfl (hI.putB (hI.wf.s rfl) rfl rfl (by decide : (0:Int) ≤ (0:Int32).toInt) (by decide) (by decide : (0:Int32).toInt ≤ (0:Int)) (by decide)) (hX.upI rfl) (fun g1 e1 hI hX => ?_)
  refine ev_loc f_X1_layPlan (nx := 6) rfl rfl rfl rfl ?_
  refine ev_cI f_X1_layPlan (nx := 9) (r := []) rfl rfl rfl rfl rfl rfl rfl (c_leastWaits hI ) rfl hX rfl (fun w2 gi2 gl2 gr2 l2 u2 hI hX hC2 => ?_)
  refine ev_loc f_X1_layPlan (nx := 10) (lo' := [(1, .int w2), (0, .ref 28)]) rfl rfl rfl rfl ?_
  refine ev_loc f_X1_layPlan (nx := 11) rfl rfl rfl rfl ?_
  refine ev_ldI f_X1_layPlan (nx := 13) (v := 1000000000) rfl (by decide) rfl ?_
  refine ev_if f_X1_layPlan (t1 := 18) (t2 := 16) rfl rfl rfl (fun h3 => ?_) (fun h3 => ?_)
  · have u4 : w2.toInt ≤ 999999999 := t_ltu h3 (by decide : (1000000000:Int32).toInt ≤ (1000000000:Int)) rfl
    refine ev_ic f_X1_layPlan (nx := 19) (v := 0) rfl (by decide) rfl ?_
    refine ev_loc f_X1_layPlan (nx := 20) (lo' := [(2, .int 0), (1, .int w2), (0, .ref 28)]) rfl rfl rfl rfl ?_
    refine ev_ic f_X1_layPlan (nx := 21) (v := 0) rfl (by decide) rfl ?_
    refine ev_loc f_X1_layPlan (nx := 22) (lo' := [(3, .int 0), (2, .int 0), (1, .int w2), (0, .ref 28)]) rfl rfl rfl rfl ?_
    refine ev_ic f_X1_layPlan (nx := 23) (v := 0) rfl (by decide) rfl ?_
    refine ev_loc f_X1_layPlan (nx := 25) (lo' := [(4, .int 0), (3, .int 0), (2, .int 0), (1, .int w2), (0, .ref 28)]) rfl rfl rfl rfl ?_
    refine ev_ic f_X1_layPlan (nx := 26) (v := 0) rfl (by decide) rfl ?_
    refine ev_loc f_X1_layPlan (nx := 28) (lo' := [(5, .int 0), (4, .int 0), (3, .int 0), (2, .int 0), (1, .int w2), (0, .ref 28)]) rfl rfl rfl rfl ?_
    refine ev_ic f_X1_layPlan (nx := 29) (v := 0) rfl (by decide) rfl ?_
    refine ev_loc f_X1_layPlan (nx := 31) (lo' := [(6, .int 0), (5, .int 0), (4, .int 0), (3, .int 0), (2, .int 0), (1, .int w2), (0, .ref 28)]) rfl rfl rfl rfl ?_
    have L5 : ∀ (m5 : Nat) (gi5 : Nat → Nat → Int32) (gl5 : Nat → Nat → Int64) (gr5 : Nat → Nat → Value) (y5_6 : Int32) (y5_5 : Int32) (y5_4 : Int32) (y5_3 : Int32) (y5_2 : Int32) (y5_1 : Int32), t_I sh gi5 gr5 → t_X wl_layPlan sh gi gl gr gi5 gl5 gr5 → 0 ≤ y5_6.toInt → y5_6.toInt ≤ 241 → 0 ≤ y5_5.toInt → y5_5.toInt ≤ 6 → 0 ≤ y5_4.toInt → y5_4.toInt ≤ 6 → 0 ≤ y5_3.toInt → y5_3.toInt ≤ 1 → (241 - y5_6.toInt).toNat = m5 → x_Ev X (d + 19) n_X1_layPlan 31 [(6, .int y5_6), (5, .int y5_5), (4, .int y5_4), (3, .int y5_3), (2, .int y5_2), (1, .int y5_1), (0, .ref 28)] [] (sh, gi5, gl5, gr5) (t_P wl_layPlan sh gi gl gr (t_Ri 0 1)) := by
      intro m5
      induction m5 using Nat.strongRecOn with
      | _ m5 ih5 =>
      intro gi5 gl5 gr5 y5_6 y5_5 y5_4 y5_3 y5_2 y5_1 hI hX l5_6 u5_6 l5_5 u5_5 l5_4 u5_4 l5_3 u5_3 hm5
      refine ev_loc f_X1_layPlan (nx := 33) rfl rfl rfl rfl ?_
      refine ev_sp f_X1_layPlan (nx := 36) (v := 240) rfl (by decide) rfl ?_
      refine ev_if f_X1_layPlan (t1 := 259) (t2 := 39) rfl rfl rfl (fun h6 => ?_) (fun h6 => ?_)
      · have l7 : 241 ≤ y5_6.toInt := t_ltl h6 (by decide : (240:Int) ≤ (240:Int32).toInt) rfl
        refine ev_ic f_X1_layPlan (nx := 260) (v := 1) rfl (by decide) rfl ?_
        exact ev_ret f_X1_layPlan rfl rfl rfl ⟨_, _, _, rfl, hI, hX, ⟨_, rfl, (Int.le_trans (by decide : (0:Int) ≤ 1) (by decide : (1:Int) ≤ (1:Int32).toInt)), (by decide : (1:Int32).toInt ≤ (1:Int))⟩⟩
      · have u8 : y5_6.toInt ≤ 240 := t_leu (t_nlt h6) (by decide : (240:Int32).toInt ≤ (240:Int))
        refine ev_loc f_X1_layPlan (nx := 41) rfl rfl rfl rfl ?_
        refine ev_loc f_X1_layPlan (nx := 43) rfl rfl rfl rfl ?_
        refine ev_addR f_X1_layPlan (nx := 44) (l := 0) (u := 12) rfl l5_4 u5_4 l5_5 u5_5 rfl rfl (by decide) (by decide) rfl (fun z9 e9 l9 u9 => ?_)
        refine ev_loc f_X1_layPlan (nx := 45) rfl rfl rfl rfl ?_
        refine ev_getR f_X1_layPlan (nx := 48) rfl (hI.wf.s rfl) rfl rfl (hI.wf.r rfl) rfl rfl ?_
        refine ev_getI f_X1_layPlan (nx := 51) rfl (hI.wf.s rfl) rfl rfl rfl ?_
        obtain ⟨l10, u10⟩ := hI.b (hI.wf.s (k := 29) rfl) (t_bdK rfl : t_bd 3 0 = some (0, 6))
        refine ev_loc f_X1_layPlan (nx := 52) rfl rfl rfl rfl ?_
        refine ev_getR f_X1_layPlan (nx := 55) rfl (hI.wf.s rfl) rfl rfl (hI.wf.r rfl) rfl rfl ?_
        refine ev_getI f_X1_layPlan (nx := 58) rfl (hI.wf.s rfl) rfl rfl rfl ?_
        obtain ⟨l11, u11⟩ := hI.b (hI.wf.s (k := 35) rfl) (t_bdK rfl : t_bd 3 0 = some (0, 6))
        refine ev_addR f_X1_layPlan (nx := 59) (l := 0) (u := 12) rfl l10 u10 l11 u11 rfl rfl (by decide) (by decide) rfl (fun z12 e12 l12 u12 => ?_)
        refine ev_if f_X1_layPlan (t1 := 259) (t2 := 62) rfl rfl rfl (fun h13 => ?_) (fun h13 => ?_)
        · refine ev_ic f_X1_layPlan (nx := 260) (v := 1) rfl (by decide) rfl ?_
          exact ev_ret f_X1_layPlan rfl rfl rfl ⟨_, _, _, rfl, hI, hX, ⟨_, rfl, (Int.le_trans (by decide : (0:Int) ≤ 1) (by decide : (1:Int) ≤ (1:Int32).toInt)), (by decide : (1:Int32).toInt ≤ (1:Int))⟩⟩
        · have u14 : z9.toInt ≤ 11 := t_ltu (t_nle h13) u12 rfl
          have l15 : 1 ≤ z12.toInt := t_ltl (t_nle h13) l9 rfl
          refine ev_loc f_X1_layPlan (nx := 63) rfl rfl rfl rfl ?_
          refine ev_if f_X1_layPlan (t1 := 135) (t2 := 66) rfl rfl rfl (fun h16 => ?_) (fun h16 => ?_)
          · have u17 : y5_3.toInt ≤ 0 := t_equ h16 (by decide : (0:Int32).toInt ≤ (0:Int))
            refine ev_loc f_X1_layPlan (nx := 136) rfl rfl rfl rfl ?_
            refine ev_t f_X1_layPlan (t1 := 139) (t2 := 208) rfl rfl rfl (t_eqT u17 l5_3 (by decide : (0:Int32).toInt ≤ (0:Int)) (by decide : (0:Int) ≤ (0:Int32).toInt)) ?_
            refine ev_loc f_X1_layPlan (nx := 140) rfl rfl rfl rfl ?_
            refine ev_loc f_X1_layPlan (nx := 141) rfl rfl rfl rfl ?_
            refine ev_loc f_X1_layPlan (nx := 143) rfl rfl rfl rfl ?_
            refine ev_loc f_X1_layPlan (nx := 145) rfl rfl rfl rfl ?_
            refine ev_loc f_X1_layPlan (nx := 146) rfl rfl rfl rfl ?_
            refine ev_inV5 f_X1_layPlan (nx := 149) (lo2 := [(0, .ref 28), (1, .int y5_2), (2, .int y5_4), (3, .int y5_5), (4, .int y5_1)]) rfl rfl rfl rfl f_X1_cartMayBegin (hI.wf.s rfl) rfl rfl rfl rfl rfl ?_
            refine ev_loc f_X1_cartMayBegin (nx := 1) rfl rfl rfl rfl ?_
            refine ev_getR f_X1_cartMayBegin (nx := 4) rfl (hI.wf.s rfl) rfl rfl (hI.wf.r rfl) rfl rfl ?_
            refine ev_loc f_X1_cartMayBegin (nx := 5) rfl rfl rfl rfl ?_
            refine ev_loc f_X1_cartMayBegin (nx := 6) rfl rfl rfl rfl ?_
            refine ev_inS3 f_X1_cartMayBegin (nx := 9) (lo2 := [(0, .ref 35), (1, .int y5_5), (2, .int y5_2)]) rfl rfl rfl rfl f_X1_canBegin rfl rfl rfl rfl ?_
            refine ev_loc f_X1_canBegin (nx := 1) rfl rfl rfl rfl ?_
            refine ev_f f_X1_canBegin (t1 := 29) (t2 := 4) rfl rfl rfl (t_ltF (by decide : (0:Int32).toInt ≤ (0:Int)) l5_5 (by decide)) ?_
            refine ev_loc f_X1_canBegin (nx := 5) rfl rfl rfl rfl ?_
            refine ev_loc f_X1_canBegin (nx := 6) rfl rfl rfl rfl ?_
            refine ev_gvI f_X1_canBegin (nx := 9) (w := (gi5 35 0)) rfl (hI.wf.s rfl) rfl rfl rfl rfl ?_
            refine ev_if f_X1_canBegin (t1 := 29) (t2 := 12) rfl rfl rfl (fun h18 => ?_) (fun h18 => ?_)
            · refine ev_ic f_X1_canBegin (nx := 30) (v := 0) rfl (by decide) rfl ?_
              refine ev_retK1 f_X1_canBegin rfl rfl rfl ?_
              refine ev_t f_X1_cartMayBegin (t1 := 12) (t2 := 14) rfl rfl rfl (by decide) ?_
              refine ev_ic f_X1_cartMayBegin (nx := 13) (v := 0) rfl (by decide) rfl ?_
              refine ev_retK1 f_X1_cartMayBegin rfl rfl rfl ?_
              refine ev_t f_X1_layPlan (t1 := 208) (t2 := 152) rfl rfl rfl (by decide) ?_
              refine ev_loc f_X1_layPlan (nx := 209) rfl rfl rfl rfl ?_
              refine ev_loc f_X1_layPlan (nx := 210) rfl rfl rfl rfl ?_
              refine ev_ic f_X1_layPlan (nx := 211) (v := 1) rfl (by decide) rfl ?_
              refine ev_anyI f_X1_layPlan (nx := 212) rfl rfl rfl rfl (fun z19 => ?_)
              refine ev_loc f_X1_layPlan (nx := 213) rfl rfl rfl rfl ?_
              refine ev_loc f_X1_layPlan (nx := 215) rfl rfl rfl rfl ?_
              refine ev_loc f_X1_layPlan (nx := 217) rfl rfl rfl rfl ?_
              refine ev_loc f_X1_layPlan (nx := 218) rfl rfl rfl rfl ?_
              refine ev_cI f_X1_layPlan (nx := 221) (r := []) rfl rfl rfl rfl rfl rfl rfl (c_canEndWithin hI (z19) (y5_3) l5_3 (Int.le_trans u17 (by decide : (0:Int) ≤ 1)) (y5_4) l5_4 u5_4 (y5_5) l5_5 u5_5 (y5_1)) rfl hX rfl (fun w20 gi20 gl20 gr20 l20 u20 hI hX hC20 => ?_)
              refine ev_if f_X1_layPlan (t1 := 230) (t2 := 224) rfl rfl rfl (fun h21 => ?_) (fun h21 => ?_)
              · have u22 : w20.toInt ≤ 0 := t_equ h21 (by decide : (0:Int32).toInt ≤ (0:Int))
                refine ev_loc f_X1_layPlan (nx := 231) rfl rfl rfl rfl ?_
                refine ev_ic f_X1_layPlan (nx := 232) (v := 2) rfl (by decide) rfl ?_
                refine ev_loc f_X1_layPlan (nx := 233) rfl rfl rfl rfl ?_
                refine ev_ic f_X1_layPlan (nx := 234) (v := -1) rfl (by decide) rfl ?_
                refine ev_c0 f_X1_layPlan (nx := 237) (r := []) rfl rfl rfl rfl rfl rfl rfl (c_addAct hI (2) (y5_2) ((-1))) rfl hX rfl (fun gi23 gl23 gr23 hI hX hC23 => ?_)
                refine ev_loc f_X1_layPlan (nx := 238) rfl rfl rfl rfl ?_
                refine ev_loc f_X1_layPlan (nx := 239) rfl rfl rfl rfl ?_
                refine ev_cI f_X1_layPlan (nx := 242) (r := []) rfl rfl rfl rfl rfl rfl rfl (c_turnEnd hI (y5_2)) rfl hX rfl (fun w24 gi24 gl24 gr24 l24 u24 hI hX hC24 => ?_)
                refine ev_loc f_X1_layPlan (nx := 243) (lo' := [(2, .int w24), (6, .int y5_6), (5, .int y5_5), (4, .int y5_4), (3, .int y5_3), (1, .int y5_1), (0, .ref 28)]) rfl rfl rfl rfl ?_
                refine ev_loc f_X1_layPlan (nx := 244) rfl rfl rfl rfl ?_
                refine ev_t f_X1_layPlan (t1 := 247) (t2 := 251) rfl rfl rfl (t_eqT u17 l5_3 (by decide : (0:Int32).toInt ≤ (0:Int)) (by decide : (0:Int) ≤ (0:Int32).toInt)) ?_
                refine ev_ic f_X1_layPlan (nx := 248) (v := 1) rfl (by decide) rfl ?_
                refine ev_jmp f_X1_layPlan (nx := 252) rfl rfl rfl ?_
                refine ev_loc f_X1_layPlan (nx := 253) (lo' := [(3, .int 1), (2, .int w24), (6, .int y5_6), (5, .int y5_5), (4, .int y5_4), (1, .int y5_1), (0, .ref 28)]) rfl rfl rfl rfl ?_
                refine ev_incR f_X1_layPlan (nx := 256) (c := 1) (l := 1) (u := 241) rfl rfl (by decide) (by decide) l5_6 u8 rfl rfl (by decide) (by decide) rfl (fun z25 e25 l25 u25 => ?_)
                refine ev_jmp f_X1_layPlan (nx := 31) rfl rfl rfl ?_
                refine ev_sub (lo := [(6, .int z25), (5, .int y5_5), (4, .int y5_4), (3, .int 1), (2, .int w24), (1, .int y5_1), (0, .ref 28)]) rfl (t_sc rfl (t_sc rfl (t_sc rfl (t_sc rfl (t_sc rfl (t_sc rfl (t_sc rfl t_sn))))))) ?_
                exact ih5 _ (by omega) gi24 gl24 gr24 (z25) (y5_5) (y5_4) (1) (w24) (y5_1) hI hX  (Int.le_trans (by decide : (0:Int) ≤ 1) l25) u25 l5_5 u5_5 l5_4 u5_4 (Int.le_trans (by decide : (0:Int) ≤ 1) (by decide : (1:Int) ≤ (1:Int32).toInt)) (by decide : (1:Int32).toInt ≤ (1:Int)) rfl
              · have l26 : 1 ≤ w20.toInt := t_nel h21 l20 rfl rfl
                refine ev_incN f_X1_layPlan (nx := 227) rfl rfl (by decide) rfl (fun z27 => ?_)
                refine ev_jmp f_X1_layPlan (nx := 253) rfl rfl rfl ?_
                refine ev_incR f_X1_layPlan (nx := 256) (c := 1) (l := 1) (u := 241) rfl rfl (by decide) (by decide) l5_6 u8 rfl rfl (by decide) (by decide) rfl (fun z28 e28 l28 u28 => ?_)
                refine ev_jmp f_X1_layPlan (nx := 31) rfl rfl rfl ?_
                refine ev_sub (lo := [(6, .int z28), (5, .int y5_5), (4, .int y5_4), (3, .int y5_3), (2, .int z27), (1, .int y5_1), (0, .ref 28)]) rfl (t_sc rfl (t_sc rfl (t_sc rfl (t_sc rfl (t_sc rfl (t_sc rfl (t_sc rfl t_sn))))))) ?_
                exact ih5 _ (by omega) gi20 gl20 gr20 (z28) (y5_5) (y5_4) (y5_3) (z27) (y5_1) hI hX  (Int.le_trans (by decide : (0:Int) ≤ 1) l28) u28 l5_5 u5_5 l5_4 u5_4 l5_3 (Int.le_trans u17 (by decide : (0:Int) ≤ 1)) rfl
            · have u29 : y5_5.toInt ≤ 5 := t_ltu (t_nle h18) u11 rfl
              have l30 : 1 ≤ (gi5 35 0).toInt := t_ltl (t_nle h18) l5_5 rfl
              refine ev_loc f_X1_canBegin (nx := 13) rfl rfl rfl rfl ?_
              refine ev_sp f_X1_canBegin (nx := 16) (v := 240) rfl (by decide) rfl ?_
              refine ev_if f_X1_canBegin (t1 := 29) (t2 := 19) rfl rfl rfl (fun h31 => ?_) (fun h31 => ?_)
              · have l32 : 241 ≤ y5_2.toInt := t_ltl h31 (by decide : (240:Int) ≤ (240:Int32).toInt) rfl
                refine ev_ic f_X1_canBegin (nx := 30) (v := 0) rfl (by decide) rfl ?_
                refine ev_retK1 f_X1_canBegin rfl rfl rfl ?_
                refine ev_t f_X1_cartMayBegin (t1 := 12) (t2 := 14) rfl rfl rfl (by decide) ?_
                refine ev_ic f_X1_cartMayBegin (nx := 13) (v := 0) rfl (by decide) rfl ?_
                refine ev_retK1 f_X1_cartMayBegin rfl rfl rfl ?_
                refine ev_t f_X1_layPlan (t1 := 208) (t2 := 152) rfl rfl rfl (by decide) ?_
                refine ev_loc f_X1_layPlan (nx := 209) rfl rfl rfl rfl ?_
                refine ev_loc f_X1_layPlan (nx := 210) rfl rfl rfl rfl ?_
                refine ev_ic f_X1_layPlan (nx := 211) (v := 1) rfl (by decide) rfl ?_
                refine ev_anyI f_X1_layPlan (nx := 212) rfl rfl rfl rfl (fun z33 => ?_)
                refine ev_loc f_X1_layPlan (nx := 213) rfl rfl rfl rfl ?_
                refine ev_loc f_X1_layPlan (nx := 215) rfl rfl rfl rfl ?_
                refine ev_loc f_X1_layPlan (nx := 217) rfl rfl rfl rfl ?_
                refine ev_loc f_X1_layPlan (nx := 218) rfl rfl rfl rfl ?_
                refine ev_cI f_X1_layPlan (nx := 221) (r := []) rfl rfl rfl rfl rfl rfl rfl (c_canEndWithin hI (z33) (y5_3) l5_3 (Int.le_trans u17 (by decide : (0:Int) ≤ 1)) (y5_4) l5_4 u5_4 (y5_5) l5_5 (Int.le_trans u29 (by decide : (5:Int) ≤ 6)) (y5_1)) rfl hX rfl (fun w34 gi34 gl34 gr34 l34 u34 hI hX hC34 => ?_)
                refine ev_if f_X1_layPlan (t1 := 230) (t2 := 224) rfl rfl rfl (fun h35 => ?_) (fun h35 => ?_)
                · have u36 : w34.toInt ≤ 0 := t_equ h35 (by decide : (0:Int32).toInt ≤ (0:Int))
                  refine ev_loc f_X1_layPlan (nx := 231) rfl rfl rfl rfl ?_
                  refine ev_ic f_X1_layPlan (nx := 232) (v := 2) rfl (by decide) rfl ?_
                  refine ev_loc f_X1_layPlan (nx := 233) rfl rfl rfl rfl ?_
                  refine ev_ic f_X1_layPlan (nx := 234) (v := -1) rfl (by decide) rfl ?_
                  refine ev_c0 f_X1_layPlan (nx := 237) (r := []) rfl rfl rfl rfl rfl rfl rfl (c_addAct hI (2) (y5_2) ((-1))) rfl hX rfl (fun gi37 gl37 gr37 hI hX hC37 => ?_)
                  refine ev_loc f_X1_layPlan (nx := 238) rfl rfl rfl rfl ?_
                  refine ev_loc f_X1_layPlan (nx := 239) rfl rfl rfl rfl ?_
                  refine ev_cI f_X1_layPlan (nx := 242) (r := []) rfl rfl rfl rfl rfl rfl rfl (c_turnEnd hI (y5_2)) rfl hX rfl (fun w38 gi38 gl38 gr38 l38 u38 hI hX hC38 => ?_)
                  refine ev_loc f_X1_layPlan (nx := 243) (lo' := [(2, .int w38), (6, .int y5_6), (5, .int y5_5), (4, .int y5_4), (3, .int y5_3), (1, .int y5_1), (0, .ref 28)]) rfl rfl rfl rfl ?_
                  refine ev_loc f_X1_layPlan (nx := 244) rfl rfl rfl rfl ?_
                  refine ev_t f_X1_layPlan (t1 := 247) (t2 := 251) rfl rfl rfl (t_eqT u17 l5_3 (by decide : (0:Int32).toInt ≤ (0:Int)) (by decide : (0:Int) ≤ (0:Int32).toInt)) ?_
                  refine ev_ic f_X1_layPlan (nx := 248) (v := 1) rfl (by decide) rfl ?_
                  refine ev_jmp f_X1_layPlan (nx := 252) rfl rfl rfl ?_
                  refine ev_loc f_X1_layPlan (nx := 253) (lo' := [(3, .int 1), (2, .int w38), (6, .int y5_6), (5, .int y5_5), (4, .int y5_4), (1, .int y5_1), (0, .ref 28)]) rfl rfl rfl rfl ?_
                  refine ev_incR f_X1_layPlan (nx := 256) (c := 1) (l := 1) (u := 241) rfl rfl (by decide) (by decide) l5_6 u8 rfl rfl (by decide) (by decide) rfl (fun z39 e39 l39 u39 => ?_)
                  refine ev_jmp f_X1_layPlan (nx := 31) rfl rfl rfl ?_
                  refine ev_sub (lo := [(6, .int z39), (5, .int y5_5), (4, .int y5_4), (3, .int 1), (2, .int w38), (1, .int y5_1), (0, .ref 28)]) rfl (t_sc rfl (t_sc rfl (t_sc rfl (t_sc rfl (t_sc rfl (t_sc rfl (t_sc rfl t_sn))))))) ?_
                  exact ih5 _ (by omega) gi38 gl38 gr38 (z39) (y5_5) (y5_4) (1) (w38) (y5_1) hI hX  (Int.le_trans (by decide : (0:Int) ≤ 1) l39) u39 l5_5 (Int.le_trans u29 (by decide : (5:Int) ≤ 6)) l5_4 u5_4 (Int.le_trans (by decide : (0:Int) ≤ 1) (by decide : (1:Int) ≤ (1:Int32).toInt)) (by decide : (1:Int32).toInt ≤ (1:Int)) rfl
                · have l40 : 1 ≤ w34.toInt := t_nel h35 l34 rfl rfl
                  refine ev_incN f_X1_layPlan (nx := 227) rfl rfl (by decide) rfl (fun z41 => ?_)
                  refine ev_jmp f_X1_layPlan (nx := 253) rfl rfl rfl ?_
                  refine ev_incR f_X1_layPlan (nx := 256) (c := 1) (l := 1) (u := 241) rfl rfl (by decide) (by decide) l5_6 u8 rfl rfl (by decide) (by decide) rfl (fun z42 e42 l42 u42 => ?_)
                  refine ev_jmp f_X1_layPlan (nx := 31) rfl rfl rfl ?_
                  refine ev_sub (lo := [(6, .int z42), (5, .int y5_5), (4, .int y5_4), (3, .int y5_3), (2, .int z41), (1, .int y5_1), (0, .ref 28)]) rfl (t_sc rfl (t_sc rfl (t_sc rfl (t_sc rfl (t_sc rfl (t_sc rfl (t_sc rfl t_sn))))))) ?_
                  exact ih5 _ (by omega) gi34 gl34 gr34 (z42) (y5_5) (y5_4) (y5_3) (z41) (y5_1) hI hX  (Int.le_trans (by decide : (0:Int) ≤ 1) l42) u42 l5_5 (Int.le_trans u29 (by decide : (5:Int) ≤ 6)) l5_4 u5_4 l5_3 (Int.le_trans u17 (by decide : (0:Int) ≤ 1)) rfl
              · have u43 : y5_2.toInt ≤ 240 := t_leu (t_nlt h31) (by decide : (240:Int32).toInt ≤ (240:Int))
                refine ev_loc f_X1_canBegin (nx := 20) rfl rfl rfl rfl ?_
                refine ev_loc f_X1_canBegin (nx := 21) rfl rfl rfl rfl ?_
                refine ev_getR f_X1_canBegin (nx := 24) rfl (hI.wf.s rfl) rfl rfl (hI.wf.r rfl) rfl rfl ?_
                refine ev_loc f_X1_canBegin (nx := 25) rfl rfl rfl rfl ?_
                refine ev_ialdT f_X1_canBegin (nx := 26) rfl (hI.wf.s rfl) l5_5 (by decide) u29 (by decide) rfl (fun w44 e44 => ?_)
                refine ev_if f_X1_canBegin (t1 := 31) (t2 := 29) rfl rfl rfl (fun h45 => ?_) (fun h45 => ?_)
                · have u46 : w44.toInt ≤ 240 := t_leu h45 u43
                  refine ev_loc f_X1_canBegin (nx := 32) rfl rfl rfl rfl ?_
                  refine ev_getR f_X1_canBegin (nx := 35) rfl (hI.wf.s rfl) rfl rfl (hI.wf.r rfl) rfl rfl ?_
                  refine ev_loc f_X1_canBegin (nx := 36) rfl rfl rfl rfl ?_
                  refine ev_baldT f_X1_canBegin (nx := 37) rfl (hI.wf.s rfl) rfl l5_5 (by decide) u29 (by decide) rfl (fun w47 e47 => ?_)
                  refine ev_if f_X1_canBegin (t1 := 50) (t2 := 40) rfl rfl rfl (fun h48 => ?_) (fun h48 => ?_)
                  · have u49 : w47.toInt ≤ 0 := t_equ h48 (by decide : (0:Int32).toInt ≤ (0:Int))
                    have l50 : 0 ≤ w47.toInt := t_eql h48 (by decide : (0:Int) ≤ (0:Int32).toInt)
                    refine ev_ic f_X1_canBegin (nx := 51) (v := 1) rfl (by decide) rfl ?_
                    refine ev_jmp f_X1_canBegin (nx := 55) rfl rfl rfl ?_
                    refine ev_retK1 f_X1_canBegin rfl rfl rfl ?_
                    refine ev_f f_X1_cartMayBegin (t1 := 12) (t2 := 14) rfl rfl rfl (by decide) ?_
                    refine ev_loc f_X1_cartMayBegin (nx := 16) rfl rfl rfl rfl ?_
                    refine ev_loc f_X1_cartMayBegin (nx := 17) rfl rfl rfl rfl ?_
                    refine ev_getR f_X1_cartMayBegin (nx := 20) rfl (hI.wf.s rfl) rfl rfl (hI.wf.r rfl) rfl rfl ?_
                    refine ev_loc f_X1_cartMayBegin (nx := 21) rfl rfl rfl rfl ?_
                    refine ev_loc f_X1_cartMayBegin (nx := 22) rfl rfl rfl rfl ?_
                    refine ev_cI f_X1_cartMayBegin (nx := 25) (r := [.int y5_1]) rfl rfl rfl rfl rfl rfl rfl (c_waitsOf hI 35 (t_Ln35 hI.wf) (y5_5) (y5_2)) rfl hX rfl (fun w51 gi51 gl51 gr51 l51 u51 hI hX hC51 => ?_)
                    refine ev_anyI f_X1_cartMayBegin (nx := 26) rfl rfl rfl rfl (fun z52 => ?_)
                    refine ev_loc f_X1_cartMayBegin (nx := 28) (lo' := [(5, .int z52), (0, .ref 28), (1, .int y5_2), (2, .int y5_4), (3, .int y5_5), (4, .int y5_1)]) rfl rfl rfl rfl ?_
                    refine ev_loc f_X1_cartMayBegin (nx := 29) rfl rfl rfl rfl ?_
                    refine ev_loc f_X1_cartMayBegin (nx := 30) rfl rfl rfl rfl ?_
                    refine ev_loc f_X1_cartMayBegin (nx := 31) rfl rfl rfl rfl ?_
                    refine ev_getR f_X1_cartMayBegin (nx := 34) rfl (hI.wf.s rfl) rfl rfl (hI.wf.r rfl) rfl rfl ?_
                    refine ev_getR f_X1_cartMayBegin (nx := 37) rfl (hI.wf.s rfl) rfl rfl (hI.wf.r rfl) rfl rfl ?_
                    refine ev_loc f_X1_cartMayBegin (nx := 38) rfl rfl rfl rfl ?_
                    refine ev_ialdT f_X1_cartMayBegin (nx := 39) rfl (hI.wf.s rfl) l5_5 (by decide) u29 (by decide) rfl (fun w53 e53 => ?_)
                    refine ev_anyI f_X1_cartMayBegin (nx := 40) rfl rfl rfl rfl (fun z54 => ?_)
                    refine ev_ic f_X1_cartMayBegin (nx := 41) (v := 0) rfl (by decide) rfl ?_
                    refine ev_loc f_X1_cartMayBegin (nx := 42) rfl rfl rfl rfl ?_
                    refine ev_loc f_X1_cartMayBegin (nx := 43) rfl rfl rfl rfl ?_
                    refine ev_ic f_X1_cartMayBegin (nx := 44) (v := 1) rfl (by decide) rfl ?_
                    refine ev_addC f_X1_cartMayBegin (nx := 45) (c := 1) (l := 1) (u := 6) rfl (by decide) l5_5 u29 rfl rfl (by decide) (by decide) rfl (fun z55 e55 l55 u55 => ?_)
                    refine ev_loc f_X1_cartMayBegin (nx := 47) rfl rfl rfl rfl ?_
                    refine ev_cI f_X1_cartMayBegin (nx := 50) (r := []) rfl rfl rfl rfl rfl rfl rfl (c_canEndWithin hI (z54) (0) (by decide : (0:Int) ≤ (0:Int32).toInt) (Int.le_trans (by decide : (0:Int32).toInt ≤ (0:Int)) (by decide : (0:Int) ≤ 1)) (y5_4) l5_4 u5_4 (z55) (Int.le_trans (by decide : (0:Int) ≤ 1) l55) u55 (z52)) rfl hX rfl (fun w56 gi56 gl56 gr56 l56 u56 hI hX hC56 => ?_)
                    refine ev_retK1 f_X1_cartMayBegin rfl rfl (t_rz l56 u56) ?_
                    refine ev_if f_X1_layPlan (t1 := 208) (t2 := 152) rfl rfl rfl (fun h57 => ?_) (fun h57 => ?_)
                    · have u58 : w56.toInt ≤ 0 := t_equ h57 (by decide : (0:Int32).toInt ≤ (0:Int))
                      refine ev_loc f_X1_layPlan (nx := 209) rfl rfl rfl rfl ?_
                      refine ev_loc f_X1_layPlan (nx := 210) rfl rfl rfl rfl ?_
                      refine ev_ic f_X1_layPlan (nx := 211) (v := 1) rfl (by decide) rfl ?_
                      refine ev_addC f_X1_layPlan (nx := 212) (c := 1) (l := (-2147483647)) (u := 241) rfl (by decide) (t_lo y5_2) u43 rfl rfl (by decide) (by decide) rfl (fun z59 e59 l59 u59 => ?_)
                      refine ev_loc f_X1_layPlan (nx := 213) rfl rfl rfl rfl ?_
                      refine ev_loc f_X1_layPlan (nx := 215) rfl rfl rfl rfl ?_
                      refine ev_loc f_X1_layPlan (nx := 217) rfl rfl rfl rfl ?_
                      refine ev_loc f_X1_layPlan (nx := 218) rfl rfl rfl rfl ?_
                      refine ev_cI f_X1_layPlan (nx := 221) (r := []) rfl rfl rfl rfl rfl rfl rfl (c_canEndWithin hI (z59) (y5_3) l5_3 (Int.le_trans u17 (by decide : (0:Int) ≤ 1)) (y5_4) l5_4 u5_4 (y5_5) l5_5 (Int.le_trans u29 (by decide : (5:Int) ≤ 6)) (y5_1)) rfl hX rfl (fun w60 gi60 gl60 gr60 l60 u60 hI hX hC60 => ?_)
                      refine ev_if f_X1_layPlan (t1 := 230) (t2 := 224) rfl rfl rfl (fun h61 => ?_) (fun h61 => ?_)
                      · have u62 : w60.toInt ≤ 0 := t_equ h61 (by decide : (0:Int32).toInt ≤ (0:Int))
                        refine ev_loc f_X1_layPlan (nx := 231) rfl rfl rfl rfl ?_
                        refine ev_ic f_X1_layPlan (nx := 232) (v := 2) rfl (by decide) rfl ?_
                        refine ev_loc f_X1_layPlan (nx := 233) rfl rfl rfl rfl ?_
                        refine ev_ic f_X1_layPlan (nx := 234) (v := -1) rfl (by decide) rfl ?_
                        refine ev_c0 f_X1_layPlan (nx := 237) (r := []) rfl rfl rfl rfl rfl rfl rfl (c_addAct hI (2) (y5_2) ((-1))) rfl hX rfl (fun gi63 gl63 gr63 hI hX hC63 => ?_)
                        refine ev_loc f_X1_layPlan (nx := 238) rfl rfl rfl rfl ?_
                        refine ev_loc f_X1_layPlan (nx := 239) rfl rfl rfl rfl ?_
                        refine ev_cI f_X1_layPlan (nx := 242) (r := []) rfl rfl rfl rfl rfl rfl rfl (c_turnEnd hI (y5_2)) rfl hX rfl (fun w64 gi64 gl64 gr64 l64 u64 hI hX hC64 => ?_)
                        refine ev_loc f_X1_layPlan (nx := 243) (lo' := [(2, .int w64), (6, .int y5_6), (5, .int y5_5), (4, .int y5_4), (3, .int y5_3), (1, .int y5_1), (0, .ref 28)]) rfl rfl rfl rfl ?_
                        refine ev_loc f_X1_layPlan (nx := 244) rfl rfl rfl rfl ?_
                        refine ev_t f_X1_layPlan (t1 := 247) (t2 := 251) rfl rfl rfl (t_eqT u17 l5_3 (by decide : (0:Int32).toInt ≤ (0:Int)) (by decide : (0:Int) ≤ (0:Int32).toInt)) ?_
                        refine ev_ic f_X1_layPlan (nx := 248) (v := 1) rfl (by decide) rfl ?_
                        refine ev_jmp f_X1_layPlan (nx := 252) rfl rfl rfl ?_
                        refine ev_loc f_X1_layPlan (nx := 253) (lo' := [(3, .int 1), (2, .int w64), (6, .int y5_6), (5, .int y5_5), (4, .int y5_4), (1, .int y5_1), (0, .ref 28)]) rfl rfl rfl rfl ?_
                        refine ev_incR f_X1_layPlan (nx := 256) (c := 1) (l := 1) (u := 241) rfl rfl (by decide) (by decide) l5_6 u8 rfl rfl (by decide) (by decide) rfl (fun z65 e65 l65 u65 => ?_)
                        refine ev_jmp f_X1_layPlan (nx := 31) rfl rfl rfl ?_
                        refine ev_sub (lo := [(6, .int z65), (5, .int y5_5), (4, .int y5_4), (3, .int 1), (2, .int w64), (1, .int y5_1), (0, .ref 28)]) rfl (t_sc rfl (t_sc rfl (t_sc rfl (t_sc rfl (t_sc rfl (t_sc rfl (t_sc rfl t_sn))))))) ?_
                        exact ih5 _ (by omega) gi64 gl64 gr64 (z65) (y5_5) (y5_4) (1) (w64) (y5_1) hI hX  (Int.le_trans (by decide : (0:Int) ≤ 1) l65) u65 l5_5 (Int.le_trans u29 (by decide : (5:Int) ≤ 6)) l5_4 u5_4 (Int.le_trans (by decide : (0:Int) ≤ 1) (by decide : (1:Int) ≤ (1:Int32).toInt)) (by decide : (1:Int32).toInt ≤ (1:Int)) rfl
                      · have l66 : 1 ≤ w60.toInt := t_nel h61 l60 rfl rfl
                        refine ev_incR f_X1_layPlan (nx := 227) (c := 1) (l := (-2147483647)) (u := 241) rfl rfl (by decide) (by decide) (t_lo y5_2) u43 rfl rfl (by decide) (by decide) rfl (fun z67 e67 l67 u67 => ?_)
                        refine ev_jmp f_X1_layPlan (nx := 253) rfl rfl rfl ?_
                        refine ev_incR f_X1_layPlan (nx := 256) (c := 1) (l := 1) (u := 241) rfl rfl (by decide) (by decide) l5_6 u8 rfl rfl (by decide) (by decide) rfl (fun z68 e68 l68 u68 => ?_)
                        refine ev_jmp f_X1_layPlan (nx := 31) rfl rfl rfl ?_
                        refine ev_sub (lo := [(6, .int z68), (5, .int y5_5), (4, .int y5_4), (3, .int y5_3), (2, .int z67), (1, .int y5_1), (0, .ref 28)]) rfl (t_sc rfl (t_sc rfl (t_sc rfl (t_sc rfl (t_sc rfl (t_sc rfl (t_sc rfl t_sn))))))) ?_
                        exact ih5 _ (by omega) gi60 gl60 gr60 (z68) (y5_5) (y5_4) (y5_3) (z67) (y5_1) hI hX  (Int.le_trans (by decide : (0:Int) ≤ 1) l68) u68 l5_5 (Int.le_trans u29 (by decide : (5:Int) ≤ 6)) l5_4 u5_4 l5_3 (Int.le_trans u17 (by decide : (0:Int) ≤ 1)) rfl
                    · have l69 : 1 ≤ w56.toInt := t_nel h57 l56 rfl rfl
                      refine ev_loc f_X1_layPlan (nx := 153) rfl rfl rfl rfl ?_
                      refine ev_loc f_X1_layPlan (nx := 154) rfl rfl rfl rfl ?_
                      refine ev_getR f_X1_layPlan (nx := 157) rfl (hI.wf.s rfl) rfl rfl (hI.wf.r rfl) rfl rfl ?_
                      refine ev_loc f_X1_layPlan (nx := 159) rfl rfl rfl rfl ?_
                      refine ev_loc f_X1_layPlan (nx := 160) rfl rfl rfl rfl ?_
                      refine ev_cI f_X1_layPlan (nx := 163) (r := [.int y5_1]) rfl rfl rfl rfl rfl rfl rfl (c_waitsOf hI 35 (t_Ln35 hI.wf) (y5_5) (y5_2)) rfl hX rfl (fun w70 gi70 gl70 gr70 l70 u70 hI hX hC70 => ?_)
                      refine ev_anyI f_X1_layPlan (nx := 164) rfl rfl rfl rfl (fun z71 => ?_)
                      refine ev_loc f_X1_layPlan (nx := 165) (lo' := [(1, .int z71), (6, .int y5_6), (5, .int y5_5), (4, .int y5_4), (3, .int y5_3), (2, .int y5_2), (0, .ref 28)]) rfl rfl rfl rfl ?_
                      refine ev_loc f_X1_layPlan (nx := 166) rfl rfl rfl rfl ?_
                      refine ev_ic f_X1_layPlan (nx := 167) (v := 1) rfl (by decide) rfl ?_
                      refine ev_loc f_X1_layPlan (nx := 168) rfl rfl rfl rfl ?_
                      refine ev_loc f_X1_layPlan (nx := 169) rfl rfl rfl rfl ?_
                      refine ev_getR f_X1_layPlan (nx := 172) rfl (hI.wf.s rfl) rfl rfl (hI.wf.r rfl) rfl rfl ?_
                      refine ev_getR f_X1_layPlan (nx := 175) rfl (hI.wf.s rfl) rfl rfl (hI.wf.r rfl) rfl rfl ?_
                      refine ev_loc f_X1_layPlan (nx := 177) rfl rfl rfl rfl ?_
                      refine ev_ialdT f_X1_layPlan (nx := 178) rfl (hI.wf.s rfl) l5_5 (by decide) u29 (by decide) rfl (fun w72 e72 => ?_)
                      refine ev_c0 f_X1_layPlan (nx := 181) (r := []) rfl rfl rfl rfl rfl rfl rfl (c_addAct hI (1) (y5_2) (w72)) rfl hX rfl (fun gi73 gl73 gr73 hI hX hC73 => ?_)
                      refine ev_loc f_X1_layPlan (nx := 182) rfl rfl rfl rfl ?_
                      refine ev_getR f_X1_layPlan (nx := 185) rfl (hI.wf.s rfl) rfl rfl (hI.wf.r rfl) rfl rfl ?_
                      refine ev_loc f_X1_layPlan (nx := 187) rfl rfl rfl rfl ?_
                      refine ev_loc f_X1_layPlan (nx := 188) rfl rfl rfl rfl ?_
                      refine ev_iastT f_X1_layPlan (nx := 189) rfl (hI.wf.s rfl) l5_5 (by decide) u29 (by decide) rfl (hI.astO (hI.wf.s rfl) (Or.inl (by decide)) (by decide +kernel)) (hX.upI (t_inA_ok rfl)) (fun g74 e74 hI hX => ?_)
                      refine ev_loc f_X1_layPlan (nx := 190) rfl rfl rfl rfl ?_
                      refine ev_loc f_X1_layPlan (nx := 191) rfl rfl rfl rfl ?_
                      refine ev_getR f_X1_layPlan (nx := 194) rfl (hI.wf.s rfl) rfl rfl (hI.wf.r rfl) rfl rfl ?_
                      refine ev_getR f_X1_layPlan (nx := 197) rfl (hI.wf.s rfl) rfl rfl (hI.wf.r rfl) rfl rfl ?_
                      refine ev_loc f_X1_layPlan (nx := 199) rfl rfl rfl rfl ?_
                      refine ev_ialdT f_X1_layPlan (nx := 200) rfl (hI.wf.s rfl) l5_5 (by decide) u29 (by decide) rfl (fun w75 e75 => ?_)
                      refine ev_anyI f_X1_layPlan (nx := 201) rfl rfl rfl rfl (fun z76 => ?_)
                      refine ev_loc f_X1_layPlan (nx := 202) (lo' := [(2, .int z76), (1, .int z71), (6, .int y5_6), (5, .int y5_5), (4, .int y5_4), (3, .int y5_3), (0, .ref 28)]) rfl rfl rfl rfl ?_
                      refine ev_incR f_X1_layPlan (nx := 205) (c := 1) (l := 1) (u := 6) rfl rfl (by decide) (by decide) l5_5 u29 rfl rfl (by decide) (by decide) rfl (fun z77 e77 l77 u77 => ?_)
                      refine ev_jmp f_X1_layPlan (nx := 253) rfl rfl rfl ?_
                      refine ev_incR f_X1_layPlan (nx := 256) (c := 1) (l := 1) (u := 241) rfl rfl (by decide) (by decide) l5_6 u8 rfl rfl (by decide) (by decide) rfl (fun z78 e78 l78 u78 => ?_)
                      refine ev_jmp f_X1_layPlan (nx := 31) rfl rfl rfl ?_
                      refine ev_sub (lo := [(6, .int z78), (5, .int z77), (4, .int y5_4), (3, .int y5_3), (2, .int z76), (1, .int z71), (0, .ref 28)]) rfl (t_sc rfl (t_sc rfl (t_sc rfl (t_sc rfl (t_sc rfl (t_sc rfl (t_sc rfl t_sn))))))) ?_
                      exact ih5 _ (by omega) g74 gl73 gr73 (z78) (z77) (y5_4) (y5_3) (z76) (z71) hI hX  (Int.le_trans (by decide : (0:Int) ≤ 1) l78) u78 (Int.le_trans (by decide : (0:Int) ≤ 1) l77) u77 l5_4 u5_4 l5_3 (Int.le_trans u17 (by decide : (0:Int) ≤ 1)) rfl
                  · refine ev_loc f_X1_canBegin (nx := 41) rfl rfl rfl rfl ?_
                    refine ev_loc f_X1_canBegin (nx := 42) rfl rfl rfl rfl ?_
                    refine ev_getR f_X1_canBegin (nx := 45) rfl (hI.wf.s rfl) rfl rfl (hI.wf.r rfl) rfl rfl ?_
                    refine ev_loc f_X1_canBegin (nx := 46) rfl rfl rfl rfl ?_
                    refine ev_ialdT f_X1_canBegin (nx := 47) rfl (hI.wf.s rfl) l5_5 (by decide) u29 (by decide) rfl (fun w79 e79 => ?_)
                    refine ev_if f_X1_canBegin (t1 := 50) (t2 := 54) rfl rfl rfl (fun h80 => ?_) (fun h80 => ?_)
                    · have u81 : w79.toInt ≤ 240 := t_equ (Eq.symm h80) u43
                      refine ev_ic f_X1_canBegin (nx := 51) (v := 1) rfl (by decide) rfl ?_
                      refine ev_jmp f_X1_canBegin (nx := 55) rfl rfl rfl ?_
                      refine ev_retK1 f_X1_canBegin rfl rfl rfl ?_
                      refine ev_f f_X1_cartMayBegin (t1 := 12) (t2 := 14) rfl rfl rfl (by decide) ?_
                      refine ev_loc f_X1_cartMayBegin (nx := 16) rfl rfl rfl rfl ?_
                      refine ev_loc f_X1_cartMayBegin (nx := 17) rfl rfl rfl rfl ?_
                      refine ev_getR f_X1_cartMayBegin (nx := 20) rfl (hI.wf.s rfl) rfl rfl (hI.wf.r rfl) rfl rfl ?_
                      refine ev_loc f_X1_cartMayBegin (nx := 21) rfl rfl rfl rfl ?_
                      refine ev_loc f_X1_cartMayBegin (nx := 22) rfl rfl rfl rfl ?_
                      refine ev_cI f_X1_cartMayBegin (nx := 25) (r := [.int y5_1]) rfl rfl rfl rfl rfl rfl rfl (c_waitsOf hI 35 (t_Ln35 hI.wf) (y5_5) (y5_2)) rfl hX rfl (fun w82 gi82 gl82 gr82 l82 u82 hI hX hC82 => ?_)
                      refine ev_anyI f_X1_cartMayBegin (nx := 26) rfl rfl rfl rfl (fun z83 => ?_)
                      refine ev_loc f_X1_cartMayBegin (nx := 28) (lo' := [(5, .int z83), (0, .ref 28), (1, .int y5_2), (2, .int y5_4), (3, .int y5_5), (4, .int y5_1)]) rfl rfl rfl rfl ?_
                      refine ev_loc f_X1_cartMayBegin (nx := 29) rfl rfl rfl rfl ?_
                      refine ev_loc f_X1_cartMayBegin (nx := 30) rfl rfl rfl rfl ?_
                      refine ev_loc f_X1_cartMayBegin (nx := 31) rfl rfl rfl rfl ?_
                      refine ev_getR f_X1_cartMayBegin (nx := 34) rfl (hI.wf.s rfl) rfl rfl (hI.wf.r rfl) rfl rfl ?_
                      refine ev_getR f_X1_cartMayBegin (nx := 37) rfl (hI.wf.s rfl) rfl rfl (hI.wf.r rfl) rfl rfl ?_
                      refine ev_loc f_X1_cartMayBegin (nx := 38) rfl rfl rfl rfl ?_
                      refine ev_ialdT f_X1_cartMayBegin (nx := 39) rfl (hI.wf.s rfl) l5_5 (by decide) u29 (by decide) rfl (fun w84 e84 => ?_)
                      refine ev_anyI f_X1_cartMayBegin (nx := 40) rfl rfl rfl rfl (fun z85 => ?_)
                      refine ev_ic f_X1_cartMayBegin (nx := 41) (v := 0) rfl (by decide) rfl ?_
                      refine ev_loc f_X1_cartMayBegin (nx := 42) rfl rfl rfl rfl ?_
                      refine ev_loc f_X1_cartMayBegin (nx := 43) rfl rfl rfl rfl ?_
                      refine ev_ic f_X1_cartMayBegin (nx := 44) (v := 1) rfl (by decide) rfl ?_
                      refine ev_addC f_X1_cartMayBegin (nx := 45) (c := 1) (l := 1) (u := 6) rfl (by decide) l5_5 u29 rfl rfl (by decide) (by decide) rfl (fun z86 e86 l86 u86 => ?_)
                      refine ev_loc f_X1_cartMayBegin (nx := 47) rfl rfl rfl rfl ?_
                      refine ev_cI f_X1_cartMayBegin (nx := 50) (r := []) rfl rfl rfl rfl rfl rfl rfl (c_canEndWithin hI (z85) (0) (by decide : (0:Int) ≤ (0:Int32).toInt) (Int.le_trans (by decide : (0:Int32).toInt ≤ (0:Int)) (by decide : (0:Int) ≤ 1)) (y5_4) l5_4 u5_4 (z86) (Int.le_trans (by decide : (0:Int) ≤ 1) l86) u86 (z83)) rfl hX rfl (fun w87 gi87 gl87 gr87 l87 u87 hI hX hC87 => ?_)
                      refine ev_retK1 f_X1_cartMayBegin rfl rfl (t_rz l87 u87) ?_
                      refine ev_if f_X1_layPlan (t1 := 208) (t2 := 152) rfl rfl rfl (fun h88 => ?_) (fun h88 => ?_)
                      · have u89 : w87.toInt ≤ 0 := t_equ h88 (by decide : (0:Int32).toInt ≤ (0:Int))
                        refine ev_loc f_X1_layPlan (nx := 209) rfl rfl rfl rfl ?_
                        refine ev_loc f_X1_layPlan (nx := 210) rfl rfl rfl rfl ?_
                        refine ev_ic f_X1_layPlan (nx := 211) (v := 1) rfl (by decide) rfl ?_
                        refine ev_addC f_X1_layPlan (nx := 212) (c := 1) (l := (-2147483647)) (u := 241) rfl (by decide) (t_lo y5_2) u43 rfl rfl (by decide) (by decide) rfl (fun z90 e90 l90 u90 => ?_)
                        refine ev_loc f_X1_layPlan (nx := 213) rfl rfl rfl rfl ?_
                        refine ev_loc f_X1_layPlan (nx := 215) rfl rfl rfl rfl ?_
                        refine ev_loc f_X1_layPlan (nx := 217) rfl rfl rfl rfl ?_
                        refine ev_loc f_X1_layPlan (nx := 218) rfl rfl rfl rfl ?_
                        refine ev_cI f_X1_layPlan (nx := 221) (r := []) rfl rfl rfl rfl rfl rfl rfl (c_canEndWithin hI (z90) (y5_3) l5_3 (Int.le_trans u17 (by decide : (0:Int) ≤ 1)) (y5_4) l5_4 u5_4 (y5_5) l5_5 (Int.le_trans u29 (by decide : (5:Int) ≤ 6)) (y5_1)) rfl hX rfl (fun w91 gi91 gl91 gr91 l91 u91 hI hX hC91 => ?_)
                        refine ev_if f_X1_layPlan (t1 := 230) (t2 := 224) rfl rfl rfl (fun h92 => ?_) (fun h92 => ?_)
                        · have u93 : w91.toInt ≤ 0 := t_equ h92 (by decide : (0:Int32).toInt ≤ (0:Int))
                          refine ev_loc f_X1_layPlan (nx := 231) rfl rfl rfl rfl ?_
                          refine ev_ic f_X1_layPlan (nx := 232) (v := 2) rfl (by decide) rfl ?_
                          refine ev_loc f_X1_layPlan (nx := 233) rfl rfl rfl rfl ?_
                          refine ev_ic f_X1_layPlan (nx := 234) (v := -1) rfl (by decide) rfl ?_
                          refine ev_c0 f_X1_layPlan (nx := 237) (r := []) rfl rfl rfl rfl rfl rfl rfl (c_addAct hI (2) (y5_2) ((-1))) rfl hX rfl (fun gi94 gl94 gr94 hI hX hC94 => ?_)
                          refine ev_loc f_X1_layPlan (nx := 238) rfl rfl rfl rfl ?_
                          refine ev_loc f_X1_layPlan (nx := 239) rfl rfl rfl rfl ?_
                          refine ev_cI f_X1_layPlan (nx := 242) (r := []) rfl rfl rfl rfl rfl rfl rfl (c_turnEnd hI (y5_2)) rfl hX rfl (fun w95 gi95 gl95 gr95 l95 u95 hI hX hC95 => ?_)
                          refine ev_loc f_X1_layPlan (nx := 243) (lo' := [(2, .int w95), (6, .int y5_6), (5, .int y5_5), (4, .int y5_4), (3, .int y5_3), (1, .int y5_1), (0, .ref 28)]) rfl rfl rfl rfl ?_
                          refine ev_loc f_X1_layPlan (nx := 244) rfl rfl rfl rfl ?_
                          refine ev_t f_X1_layPlan (t1 := 247) (t2 := 251) rfl rfl rfl (t_eqT u17 l5_3 (by decide : (0:Int32).toInt ≤ (0:Int)) (by decide : (0:Int) ≤ (0:Int32).toInt)) ?_
                          refine ev_ic f_X1_layPlan (nx := 248) (v := 1) rfl (by decide) rfl ?_
                          refine ev_jmp f_X1_layPlan (nx := 252) rfl rfl rfl ?_
                          refine ev_loc f_X1_layPlan (nx := 253) (lo' := [(3, .int 1), (2, .int w95), (6, .int y5_6), (5, .int y5_5), (4, .int y5_4), (1, .int y5_1), (0, .ref 28)]) rfl rfl rfl rfl ?_
                          refine ev_incR f_X1_layPlan (nx := 256) (c := 1) (l := 1) (u := 241) rfl rfl (by decide) (by decide) l5_6 u8 rfl rfl (by decide) (by decide) rfl (fun z96 e96 l96 u96 => ?_)
                          refine ev_jmp f_X1_layPlan (nx := 31) rfl rfl rfl ?_
                          refine ev_sub (lo := [(6, .int z96), (5, .int y5_5), (4, .int y5_4), (3, .int 1), (2, .int w95), (1, .int y5_1), (0, .ref 28)]) rfl (t_sc rfl (t_sc rfl (t_sc rfl (t_sc rfl (t_sc rfl (t_sc rfl (t_sc rfl t_sn))))))) ?_
                          exact ih5 _ (by omega) gi95 gl95 gr95 (z96) (y5_5) (y5_4) (1) (w95) (y5_1) hI hX  (Int.le_trans (by decide : (0:Int) ≤ 1) l96) u96 l5_5 (Int.le_trans u29 (by decide : (5:Int) ≤ 6)) l5_4 u5_4 (Int.le_trans (by decide : (0:Int) ≤ 1) (by decide : (1:Int) ≤ (1:Int32).toInt)) (by decide : (1:Int32).toInt ≤ (1:Int)) rfl
                        · have l97 : 1 ≤ w91.toInt := t_nel h92 l91 rfl rfl
                          refine ev_incR f_X1_layPlan (nx := 227) (c := 1) (l := (-2147483647)) (u := 241) rfl rfl (by decide) (by decide) (t_lo y5_2) u43 rfl rfl (by decide) (by decide) rfl (fun z98 e98 l98 u98 => ?_)
                          refine ev_jmp f_X1_layPlan (nx := 253) rfl rfl rfl ?_
                          refine ev_incR f_X1_layPlan (nx := 256) (c := 1) (l := 1) (u := 241) rfl rfl (by decide) (by decide) l5_6 u8 rfl rfl (by decide) (by decide) rfl (fun z99 e99 l99 u99 => ?_)
                          refine ev_jmp f_X1_layPlan (nx := 31) rfl rfl rfl ?_
                          refine ev_sub (lo := [(6, .int z99), (5, .int y5_5), (4, .int y5_4), (3, .int y5_3), (2, .int z98), (1, .int y5_1), (0, .ref 28)]) rfl (t_sc rfl (t_sc rfl (t_sc rfl (t_sc rfl (t_sc rfl (t_sc rfl (t_sc rfl t_sn))))))) ?_
                          exact ih5 _ (by omega) gi91 gl91 gr91 (z99) (y5_5) (y5_4) (y5_3) (z98) (y5_1) hI hX  (Int.le_trans (by decide : (0:Int) ≤ 1) l99) u99 l5_5 (Int.le_trans u29 (by decide : (5:Int) ≤ 6)) l5_4 u5_4 l5_3 (Int.le_trans u17 (by decide : (0:Int) ≤ 1)) rfl
                      · have l100 : 1 ≤ w87.toInt := t_nel h88 l87 rfl rfl
                        refine ev_loc f_X1_layPlan (nx := 153) rfl rfl rfl rfl ?_
                        refine ev_loc f_X1_layPlan (nx := 154) rfl rfl rfl rfl ?_
                        refine ev_getR f_X1_layPlan (nx := 157) rfl (hI.wf.s rfl) rfl rfl (hI.wf.r rfl) rfl rfl ?_
                        refine ev_loc f_X1_layPlan (nx := 159) rfl rfl rfl rfl ?_
                        refine ev_loc f_X1_layPlan (nx := 160) rfl rfl rfl rfl ?_
                        refine ev_cI f_X1_layPlan (nx := 163) (r := [.int y5_1]) rfl rfl rfl rfl rfl rfl rfl (c_waitsOf hI 35 (t_Ln35 hI.wf) (y5_5) (y5_2)) rfl hX rfl (fun w101 gi101 gl101 gr101 l101 u101 hI hX hC101 => ?_)
                        refine ev_anyI f_X1_layPlan (nx := 164) rfl rfl rfl rfl (fun z102 => ?_)
                        refine ev_loc f_X1_layPlan (nx := 165) (lo' := [(1, .int z102), (6, .int y5_6), (5, .int y5_5), (4, .int y5_4), (3, .int y5_3), (2, .int y5_2), (0, .ref 28)]) rfl rfl rfl rfl ?_
                        refine ev_loc f_X1_layPlan (nx := 166) rfl rfl rfl rfl ?_
                        refine ev_ic f_X1_layPlan (nx := 167) (v := 1) rfl (by decide) rfl ?_
                        refine ev_loc f_X1_layPlan (nx := 168) rfl rfl rfl rfl ?_
                        refine ev_loc f_X1_layPlan (nx := 169) rfl rfl rfl rfl ?_
                        refine ev_getR f_X1_layPlan (nx := 172) rfl (hI.wf.s rfl) rfl rfl (hI.wf.r rfl) rfl rfl ?_
                        refine ev_getR f_X1_layPlan (nx := 175) rfl (hI.wf.s rfl) rfl rfl (hI.wf.r rfl) rfl rfl ?_
                        refine ev_loc f_X1_layPlan (nx := 177) rfl rfl rfl rfl ?_
                        refine ev_ialdT f_X1_layPlan (nx := 178) rfl (hI.wf.s rfl) l5_5 (by decide) u29 (by decide) rfl (fun w103 e103 => ?_)
                        refine ev_c0 f_X1_layPlan (nx := 181) (r := []) rfl rfl rfl rfl rfl rfl rfl (c_addAct hI (1) (y5_2) (w103)) rfl hX rfl (fun gi104 gl104 gr104 hI hX hC104 => ?_)
                        refine ev_loc f_X1_layPlan (nx := 182) rfl rfl rfl rfl ?_
                        refine ev_getR f_X1_layPlan (nx := 185) rfl (hI.wf.s rfl) rfl rfl (hI.wf.r rfl) rfl rfl ?_
                        refine ev_loc f_X1_layPlan (nx := 187) rfl rfl rfl rfl ?_
                        refine ev_loc f_X1_layPlan (nx := 188) rfl rfl rfl rfl ?_
                        refine ev_iastT f_X1_layPlan (nx := 189) rfl (hI.wf.s rfl) l5_5 (by decide) u29 (by decide) rfl (hI.astO (hI.wf.s rfl) (Or.inl (by decide)) (by decide +kernel)) (hX.upI (t_inA_ok rfl)) (fun g105 e105 hI hX => ?_)
                        refine ev_loc f_X1_layPlan (nx := 190) rfl rfl rfl rfl ?_
                        refine ev_loc f_X1_layPlan (nx := 191) rfl rfl rfl rfl ?_
                        refine ev_getR f_X1_layPlan (nx := 194) rfl (hI.wf.s rfl) rfl rfl (hI.wf.r rfl) rfl rfl ?_
                        refine ev_getR f_X1_layPlan (nx := 197) rfl (hI.wf.s rfl) rfl rfl (hI.wf.r rfl) rfl rfl ?_
                        refine ev_loc f_X1_layPlan (nx := 199) rfl rfl rfl rfl ?_
                        refine ev_ialdT f_X1_layPlan (nx := 200) rfl (hI.wf.s rfl) l5_5 (by decide) u29 (by decide) rfl (fun w106 e106 => ?_)
                        refine ev_anyI f_X1_layPlan (nx := 201) rfl rfl rfl rfl (fun z107 => ?_)
                        refine ev_loc f_X1_layPlan (nx := 202) (lo' := [(2, .int z107), (1, .int z102), (6, .int y5_6), (5, .int y5_5), (4, .int y5_4), (3, .int y5_3), (0, .ref 28)]) rfl rfl rfl rfl ?_
                        refine ev_incR f_X1_layPlan (nx := 205) (c := 1) (l := 1) (u := 6) rfl rfl (by decide) (by decide) l5_5 u29 rfl rfl (by decide) (by decide) rfl (fun z108 e108 l108 u108 => ?_)
                        refine ev_jmp f_X1_layPlan (nx := 253) rfl rfl rfl ?_
                        refine ev_incR f_X1_layPlan (nx := 256) (c := 1) (l := 1) (u := 241) rfl rfl (by decide) (by decide) l5_6 u8 rfl rfl (by decide) (by decide) rfl (fun z109 e109 l109 u109 => ?_)
                        refine ev_jmp f_X1_layPlan (nx := 31) rfl rfl rfl ?_
                        refine ev_sub (lo := [(6, .int z109), (5, .int z108), (4, .int y5_4), (3, .int y5_3), (2, .int z107), (1, .int z102), (0, .ref 28)]) rfl (t_sc rfl (t_sc rfl (t_sc rfl (t_sc rfl (t_sc rfl (t_sc rfl (t_sc rfl t_sn))))))) ?_
                        exact ih5 _ (by omega) g105 gl104 gr104 (z109) (z108) (y5_4) (y5_3) (z107) (z102) hI hX  (Int.le_trans (by decide : (0:Int) ≤ 1) l109) u109 (Int.le_trans (by decide : (0:Int) ≤ 1) l108) u108 l5_4 u5_4 l5_3 (Int.le_trans u17 (by decide : (0:Int) ≤ 1)) rfl
                    · refine ev_ic f_X1_canBegin (nx := 55) (v := 0) rfl (by decide) rfl ?_
                      refine ev_retK1 f_X1_canBegin rfl rfl rfl ?_
                      refine ev_t f_X1_cartMayBegin (t1 := 12) (t2 := 14) rfl rfl rfl (by decide) ?_
                      refine ev_ic f_X1_cartMayBegin (nx := 13) (v := 0) rfl (by decide) rfl ?_
                      refine ev_retK1 f_X1_cartMayBegin rfl rfl rfl ?_
                      refine ev_t f_X1_layPlan (t1 := 208) (t2 := 152) rfl rfl rfl (by decide) ?_
                      refine ev_loc f_X1_layPlan (nx := 209) rfl rfl rfl rfl ?_
                      refine ev_loc f_X1_layPlan (nx := 210) rfl rfl rfl rfl ?_
                      refine ev_ic f_X1_layPlan (nx := 211) (v := 1) rfl (by decide) rfl ?_
                      refine ev_addC f_X1_layPlan (nx := 212) (c := 1) (l := (-2147483647)) (u := 241) rfl (by decide) (t_lo y5_2) u43 rfl rfl (by decide) (by decide) rfl (fun z110 e110 l110 u110 => ?_)
                      refine ev_loc f_X1_layPlan (nx := 213) rfl rfl rfl rfl ?_
                      refine ev_loc f_X1_layPlan (nx := 215) rfl rfl rfl rfl ?_
                      refine ev_loc f_X1_layPlan (nx := 217) rfl rfl rfl rfl ?_
                      refine ev_loc f_X1_layPlan (nx := 218) rfl rfl rfl rfl ?_
                      refine ev_cI f_X1_layPlan (nx := 221) (r := []) rfl rfl rfl rfl rfl rfl rfl (c_canEndWithin hI (z110) (y5_3) l5_3 (Int.le_trans u17 (by decide : (0:Int) ≤ 1)) (y5_4) l5_4 u5_4 (y5_5) l5_5 (Int.le_trans u29 (by decide : (5:Int) ≤ 6)) (y5_1)) rfl hX rfl (fun w111 gi111 gl111 gr111 l111 u111 hI hX hC111 => ?_)
                      refine ev_if f_X1_layPlan (t1 := 230) (t2 := 224) rfl rfl rfl (fun h112 => ?_) (fun h112 => ?_)
                      · have u113 : w111.toInt ≤ 0 := t_equ h112 (by decide : (0:Int32).toInt ≤ (0:Int))
                        refine ev_loc f_X1_layPlan (nx := 231) rfl rfl rfl rfl ?_
                        refine ev_ic f_X1_layPlan (nx := 232) (v := 2) rfl (by decide) rfl ?_
                        refine ev_loc f_X1_layPlan (nx := 233) rfl rfl rfl rfl ?_
                        refine ev_ic f_X1_layPlan (nx := 234) (v := -1) rfl (by decide) rfl ?_
                        refine ev_c0 f_X1_layPlan (nx := 237) (r := []) rfl rfl rfl rfl rfl rfl rfl (c_addAct hI (2) (y5_2) ((-1))) rfl hX rfl (fun gi114 gl114 gr114 hI hX hC114 => ?_)
                        refine ev_loc f_X1_layPlan (nx := 238) rfl rfl rfl rfl ?_
                        refine ev_loc f_X1_layPlan (nx := 239) rfl rfl rfl rfl ?_
                        refine ev_cI f_X1_layPlan (nx := 242) (r := []) rfl rfl rfl rfl rfl rfl rfl (c_turnEnd hI (y5_2)) rfl hX rfl (fun w115 gi115 gl115 gr115 l115 u115 hI hX hC115 => ?_)
                        refine ev_loc f_X1_layPlan (nx := 243) (lo' := [(2, .int w115), (6, .int y5_6), (5, .int y5_5), (4, .int y5_4), (3, .int y5_3), (1, .int y5_1), (0, .ref 28)]) rfl rfl rfl rfl ?_
                        refine ev_loc f_X1_layPlan (nx := 244) rfl rfl rfl rfl ?_
                        refine ev_t f_X1_layPlan (t1 := 247) (t2 := 251) rfl rfl rfl (t_eqT u17 l5_3 (by decide : (0:Int32).toInt ≤ (0:Int)) (by decide : (0:Int) ≤ (0:Int32).toInt)) ?_
                        refine ev_ic f_X1_layPlan (nx := 248) (v := 1) rfl (by decide) rfl ?_
                        refine ev_jmp f_X1_layPlan (nx := 252) rfl rfl rfl ?_
                        refine ev_loc f_X1_layPlan (nx := 253) (lo' := [(3, .int 1), (2, .int w115), (6, .int y5_6), (5, .int y5_5), (4, .int y5_4), (1, .int y5_1), (0, .ref 28)]) rfl rfl rfl rfl ?_
                        refine ev_incR f_X1_layPlan (nx := 256) (c := 1) (l := 1) (u := 241) rfl rfl (by decide) (by decide) l5_6 u8 rfl rfl (by decide) (by decide) rfl (fun z116 e116 l116 u116 => ?_)
                        refine ev_jmp f_X1_layPlan (nx := 31) rfl rfl rfl ?_
                        refine ev_sub (lo := [(6, .int z116), (5, .int y5_5), (4, .int y5_4), (3, .int 1), (2, .int w115), (1, .int y5_1), (0, .ref 28)]) rfl (t_sc rfl (t_sc rfl (t_sc rfl (t_sc rfl (t_sc rfl (t_sc rfl (t_sc rfl t_sn))))))) ?_
                        exact ih5 _ (by omega) gi115 gl115 gr115 (z116) (y5_5) (y5_4) (1) (w115) (y5_1) hI hX  (Int.le_trans (by decide : (0:Int) ≤ 1) l116) u116 l5_5 (Int.le_trans u29 (by decide : (5:Int) ≤ 6)) l5_4 u5_4 (Int.le_trans (by decide : (0:Int) ≤ 1) (by decide : (1:Int) ≤ (1:Int32).toInt)) (by decide : (1:Int32).toInt ≤ (1:Int)) rfl
                      · have l117 : 1 ≤ w111.toInt := t_nel h112 l111 rfl rfl
                        refine ev_incR f_X1_layPlan (nx := 227) (c := 1) (l := (-2147483647)) (u := 241) rfl rfl (by decide) (by decide) (t_lo y5_2) u43 rfl rfl (by decide) (by decide) rfl (fun z118 e118 l118 u118 => ?_)
                        refine ev_jmp f_X1_layPlan (nx := 253) rfl rfl rfl ?_
                        refine ev_incR f_X1_layPlan (nx := 256) (c := 1) (l := 1) (u := 241) rfl rfl (by decide) (by decide) l5_6 u8 rfl rfl (by decide) (by decide) rfl (fun z119 e119 l119 u119 => ?_)
                        refine ev_jmp f_X1_layPlan (nx := 31) rfl rfl rfl ?_
                        refine ev_sub (lo := [(6, .int z119), (5, .int y5_5), (4, .int y5_4), (3, .int y5_3), (2, .int z118), (1, .int y5_1), (0, .ref 28)]) rfl (t_sc rfl (t_sc rfl (t_sc rfl (t_sc rfl (t_sc rfl (t_sc rfl (t_sc rfl t_sn))))))) ?_
                        exact ih5 _ (by omega) gi111 gl111 gr111 (z119) (y5_5) (y5_4) (y5_3) (z118) (y5_1) hI hX  (Int.le_trans (by decide : (0:Int) ≤ 1) l119) u119 l5_5 (Int.le_trans u29 (by decide : (5:Int) ≤ 6)) l5_4 u5_4 l5_3 (Int.le_trans u17 (by decide : (0:Int) ≤ 1)) rfl
                · have l120 : (-2147483647) ≤ w44.toInt := t_ltl (t_nle h45) (t_lo y5_2) rfl
                  refine ev_ic f_X1_canBegin (nx := 30) (v := 0) rfl (by decide) rfl ?_
                  refine ev_retK1 f_X1_canBegin rfl rfl rfl ?_
                  refine ev_t f_X1_cartMayBegin (t1 := 12) (t2 := 14) rfl rfl rfl (by decide) ?_
                  refine ev_ic f_X1_cartMayBegin (nx := 13) (v := 0) rfl (by decide) rfl ?_
                  refine ev_retK1 f_X1_cartMayBegin rfl rfl rfl ?_
                  refine ev_t f_X1_layPlan (t1 := 208) (t2 := 152) rfl rfl rfl (by decide) ?_
                  refine ev_loc f_X1_layPlan (nx := 209) rfl rfl rfl rfl ?_
                  refine ev_loc f_X1_layPlan (nx := 210) rfl rfl rfl rfl ?_
                  refine ev_ic f_X1_layPlan (nx := 211) (v := 1) rfl (by decide) rfl ?_
                  refine ev_addC f_X1_layPlan (nx := 212) (c := 1) (l := (-2147483647)) (u := 241) rfl (by decide) (t_lo y5_2) u43 rfl rfl (by decide) (by decide) rfl (fun z121 e121 l121 u121 => ?_)
                  refine ev_loc f_X1_layPlan (nx := 213) rfl rfl rfl rfl ?_
                  refine ev_loc f_X1_layPlan (nx := 215) rfl rfl rfl rfl ?_
                  refine ev_loc f_X1_layPlan (nx := 217) rfl rfl rfl rfl ?_
                  refine ev_loc f_X1_layPlan (nx := 218) rfl rfl rfl rfl ?_
                  refine ev_cI f_X1_layPlan (nx := 221) (r := []) rfl rfl rfl rfl rfl rfl rfl (c_canEndWithin hI (z121) (y5_3) l5_3 (Int.le_trans u17 (by decide : (0:Int) ≤ 1)) (y5_4) l5_4 u5_4 (y5_5) l5_5 (Int.le_trans u29 (by decide : (5:Int) ≤ 6)) (y5_1)) rfl hX rfl (fun w122 gi122 gl122 gr122 l122 u122 hI hX hC122 => ?_)
                  refine ev_if f_X1_layPlan (t1 := 230) (t2 := 224) rfl rfl rfl (fun h123 => ?_) (fun h123 => ?_)
                  · have u124 : w122.toInt ≤ 0 := t_equ h123 (by decide : (0:Int32).toInt ≤ (0:Int))
                    refine ev_loc f_X1_layPlan (nx := 231) rfl rfl rfl rfl ?_
                    refine ev_ic f_X1_layPlan (nx := 232) (v := 2) rfl (by decide) rfl ?_
                    refine ev_loc f_X1_layPlan (nx := 233) rfl rfl rfl rfl ?_
                    refine ev_ic f_X1_layPlan (nx := 234) (v := -1) rfl (by decide) rfl ?_
                    refine ev_c0 f_X1_layPlan (nx := 237) (r := []) rfl rfl rfl rfl rfl rfl rfl (c_addAct hI (2) (y5_2) ((-1))) rfl hX rfl (fun gi125 gl125 gr125 hI hX hC125 => ?_)
                    refine ev_loc f_X1_layPlan (nx := 238) rfl rfl rfl rfl ?_
                    refine ev_loc f_X1_layPlan (nx := 239) rfl rfl rfl rfl ?_
                    refine ev_cI f_X1_layPlan (nx := 242) (r := []) rfl rfl rfl rfl rfl rfl rfl (c_turnEnd hI (y5_2)) rfl hX rfl (fun w126 gi126 gl126 gr126 l126 u126 hI hX hC126 => ?_)
                    refine ev_loc f_X1_layPlan (nx := 243) (lo' := [(2, .int w126), (6, .int y5_6), (5, .int y5_5), (4, .int y5_4), (3, .int y5_3), (1, .int y5_1), (0, .ref 28)]) rfl rfl rfl rfl ?_
                    refine ev_loc f_X1_layPlan (nx := 244) rfl rfl rfl rfl ?_
                    refine ev_t f_X1_layPlan (t1 := 247) (t2 := 251) rfl rfl rfl (t_eqT u17 l5_3 (by decide : (0:Int32).toInt ≤ (0:Int)) (by decide : (0:Int) ≤ (0:Int32).toInt)) ?_
                    refine ev_ic f_X1_layPlan (nx := 248) (v := 1) rfl (by decide) rfl ?_
                    refine ev_jmp f_X1_layPlan (nx := 252) rfl rfl rfl ?_
                    refine ev_loc f_X1_layPlan (nx := 253) (lo' := [(3, .int 1), (2, .int w126), (6, .int y5_6), (5, .int y5_5), (4, .int y5_4), (1, .int y5_1), (0, .ref 28)]) rfl rfl rfl rfl ?_
                    refine ev_incR f_X1_layPlan (nx := 256) (c := 1) (l := 1) (u := 241) rfl rfl (by decide) (by decide) l5_6 u8 rfl rfl (by decide) (by decide) rfl (fun z127 e127 l127 u127 => ?_)
                    refine ev_jmp f_X1_layPlan (nx := 31) rfl rfl rfl ?_
                    refine ev_sub (lo := [(6, .int z127), (5, .int y5_5), (4, .int y5_4), (3, .int 1), (2, .int w126), (1, .int y5_1), (0, .ref 28)]) rfl (t_sc rfl (t_sc rfl (t_sc rfl (t_sc rfl (t_sc rfl (t_sc rfl (t_sc rfl t_sn))))))) ?_
                    exact ih5 _ (by omega) gi126 gl126 gr126 (z127) (y5_5) (y5_4) (1) (w126) (y5_1) hI hX  (Int.le_trans (by decide : (0:Int) ≤ 1) l127) u127 l5_5 (Int.le_trans u29 (by decide : (5:Int) ≤ 6)) l5_4 u5_4 (Int.le_trans (by decide : (0:Int) ≤ 1) (by decide : (1:Int) ≤ (1:Int32).toInt)) (by decide : (1:Int32).toInt ≤ (1:Int)) rfl
                  · have l128 : 1 ≤ w122.toInt := t_nel h123 l122 rfl rfl
                    refine ev_incR f_X1_layPlan (nx := 227) (c := 1) (l := (-2147483647)) (u := 241) rfl rfl (by decide) (by decide) (t_lo y5_2) u43 rfl rfl (by decide) (by decide) rfl (fun z129 e129 l129 u129 => ?_)
                    refine ev_jmp f_X1_layPlan (nx := 253) rfl rfl rfl ?_
                    refine ev_incR f_X1_layPlan (nx := 256) (c := 1) (l := 1) (u := 241) rfl rfl (by decide) (by decide) l5_6 u8 rfl rfl (by decide) (by decide) rfl (fun z130 e130 l130 u130 => ?_)
                    refine ev_jmp f_X1_layPlan (nx := 31) rfl rfl rfl ?_
                    refine ev_sub (lo := [(6, .int z130), (5, .int y5_5), (4, .int y5_4), (3, .int y5_3), (2, .int z129), (1, .int y5_1), (0, .ref 28)]) rfl (t_sc rfl (t_sc rfl (t_sc rfl (t_sc rfl (t_sc rfl (t_sc rfl (t_sc rfl t_sn))))))) ?_
                    exact ih5 _ (by omega) gi122 gl122 gr122 (z130) (y5_5) (y5_4) (y5_3) (z129) (y5_1) hI hX  (Int.le_trans (by decide : (0:Int) ≤ 1) l130) u130 l5_5 (Int.le_trans u29 (by decide : (5:Int) ≤ 6)) l5_4 u5_4 l5_3 (Int.le_trans u17 (by decide : (0:Int) ≤ 1)) rfl
          · have l131 : 1 ≤ y5_3.toInt := t_nel h16 l5_3 rfl rfl
            refine ev_loc f_X1_layPlan (nx := 67) rfl rfl rfl rfl ?_
            refine ev_loc f_X1_layPlan (nx := 68) rfl rfl rfl rfl ?_
            refine ev_loc f_X1_layPlan (nx := 70) rfl rfl rfl rfl ?_
            refine ev_loc f_X1_layPlan (nx := 72) rfl rfl rfl rfl ?_
            refine ev_loc f_X1_layPlan (nx := 73) rfl rfl rfl rfl ?_
            refine ev_inV5 f_X1_layPlan (nx := 76) (lo2 := [(0, .ref 28), (1, .int y5_2), (2, .int y5_4), (3, .int y5_5), (4, .int y5_1)]) rfl rfl rfl rfl f_X1_shipMayBegin (hI.wf.s rfl) rfl rfl rfl rfl rfl ?_
            refine ev_loc f_X1_shipMayBegin (nx := 1) rfl rfl rfl rfl ?_
            refine ev_getR f_X1_shipMayBegin (nx := 4) rfl (hI.wf.s rfl) rfl rfl (hI.wf.r rfl) rfl rfl ?_
            refine ev_loc f_X1_shipMayBegin (nx := 5) rfl rfl rfl rfl ?_
            refine ev_loc f_X1_shipMayBegin (nx := 6) rfl rfl rfl rfl ?_
            refine ev_inS3 f_X1_shipMayBegin (nx := 9) (lo2 := [(0, .ref 29), (1, .int y5_4), (2, .int y5_2)]) rfl rfl rfl rfl f_X1_canBegin rfl rfl rfl rfl ?_
            refine ev_loc f_X1_canBegin (nx := 1) rfl rfl rfl rfl ?_
            refine ev_f f_X1_canBegin (t1 := 29) (t2 := 4) rfl rfl rfl (t_ltF (by decide : (0:Int32).toInt ≤ (0:Int)) l5_4 (by decide)) ?_
            refine ev_loc f_X1_canBegin (nx := 5) rfl rfl rfl rfl ?_
            refine ev_loc f_X1_canBegin (nx := 6) rfl rfl rfl rfl ?_
            refine ev_gvI f_X1_canBegin (nx := 9) (w := (gi5 29 0)) rfl (hI.wf.s rfl) rfl rfl rfl rfl ?_
            refine ev_if f_X1_canBegin (t1 := 29) (t2 := 12) rfl rfl rfl (fun h132 => ?_) (fun h132 => ?_)
            · refine ev_ic f_X1_canBegin (nx := 30) (v := 0) rfl (by decide) rfl ?_
              refine ev_retK1 f_X1_canBegin rfl rfl rfl ?_
              refine ev_t f_X1_shipMayBegin (t1 := 12) (t2 := 14) rfl rfl rfl (by decide) ?_
              refine ev_ic f_X1_shipMayBegin (nx := 13) (v := 0) rfl (by decide) rfl ?_
              refine ev_retK1 f_X1_shipMayBegin rfl rfl rfl ?_
              refine ev_t f_X1_layPlan (t1 := 135) (t2 := 79) rfl rfl rfl (by decide) ?_
              refine ev_loc f_X1_layPlan (nx := 136) rfl rfl rfl rfl ?_
              refine ev_f f_X1_layPlan (t1 := 139) (t2 := 208) rfl rfl rfl (t_neT' (by decide : (0:Int32).toInt ≤ (0:Int)) l131 (by decide)) ?_
              refine ev_loc f_X1_layPlan (nx := 209) rfl rfl rfl rfl ?_
              refine ev_loc f_X1_layPlan (nx := 210) rfl rfl rfl rfl ?_
              refine ev_ic f_X1_layPlan (nx := 211) (v := 1) rfl (by decide) rfl ?_
              refine ev_anyI f_X1_layPlan (nx := 212) rfl rfl rfl rfl (fun z133 => ?_)
              refine ev_loc f_X1_layPlan (nx := 213) rfl rfl rfl rfl ?_
              refine ev_loc f_X1_layPlan (nx := 215) rfl rfl rfl rfl ?_
              refine ev_loc f_X1_layPlan (nx := 217) rfl rfl rfl rfl ?_
              refine ev_loc f_X1_layPlan (nx := 218) rfl rfl rfl rfl ?_
              refine ev_cI f_X1_layPlan (nx := 221) (r := []) rfl rfl rfl rfl rfl rfl rfl (c_canEndWithin hI (z133) (y5_3) (Int.le_trans (by decide : (0:Int) ≤ 1) l131) u5_3 (y5_4) l5_4 u5_4 (y5_5) l5_5 u5_5 (y5_1)) rfl hX rfl (fun w134 gi134 gl134 gr134 l134 u134 hI hX hC134 => ?_)
              refine ev_if f_X1_layPlan (t1 := 230) (t2 := 224) rfl rfl rfl (fun h135 => ?_) (fun h135 => ?_)
              · have u136 : w134.toInt ≤ 0 := t_equ h135 (by decide : (0:Int32).toInt ≤ (0:Int))
                refine ev_loc f_X1_layPlan (nx := 231) rfl rfl rfl rfl ?_
                refine ev_ic f_X1_layPlan (nx := 232) (v := 2) rfl (by decide) rfl ?_
                refine ev_loc f_X1_layPlan (nx := 233) rfl rfl rfl rfl ?_
                refine ev_ic f_X1_layPlan (nx := 234) (v := -1) rfl (by decide) rfl ?_
                refine ev_c0 f_X1_layPlan (nx := 237) (r := []) rfl rfl rfl rfl rfl rfl rfl (c_addAct hI (2) (y5_2) ((-1))) rfl hX rfl (fun gi137 gl137 gr137 hI hX hC137 => ?_)
                refine ev_loc f_X1_layPlan (nx := 238) rfl rfl rfl rfl ?_
                refine ev_loc f_X1_layPlan (nx := 239) rfl rfl rfl rfl ?_
                refine ev_cI f_X1_layPlan (nx := 242) (r := []) rfl rfl rfl rfl rfl rfl rfl (c_turnEnd hI (y5_2)) rfl hX rfl (fun w138 gi138 gl138 gr138 l138 u138 hI hX hC138 => ?_)
                refine ev_loc f_X1_layPlan (nx := 243) (lo' := [(2, .int w138), (6, .int y5_6), (5, .int y5_5), (4, .int y5_4), (3, .int y5_3), (1, .int y5_1), (0, .ref 28)]) rfl rfl rfl rfl ?_
                refine ev_loc f_X1_layPlan (nx := 244) rfl rfl rfl rfl ?_
                refine ev_f f_X1_layPlan (t1 := 247) (t2 := 251) rfl rfl rfl (t_neT' (by decide : (0:Int32).toInt ≤ (0:Int)) l131 (by decide)) ?_
                refine ev_ic f_X1_layPlan (nx := 252) (v := 0) rfl (by decide) rfl ?_
                refine ev_loc f_X1_layPlan (nx := 253) (lo' := [(3, .int 0), (2, .int w138), (6, .int y5_6), (5, .int y5_5), (4, .int y5_4), (1, .int y5_1), (0, .ref 28)]) rfl rfl rfl rfl ?_
                refine ev_incR f_X1_layPlan (nx := 256) (c := 1) (l := 1) (u := 241) rfl rfl (by decide) (by decide) l5_6 u8 rfl rfl (by decide) (by decide) rfl (fun z139 e139 l139 u139 => ?_)
                refine ev_jmp f_X1_layPlan (nx := 31) rfl rfl rfl ?_
                refine ev_sub (lo := [(6, .int z139), (5, .int y5_5), (4, .int y5_4), (3, .int 0), (2, .int w138), (1, .int y5_1), (0, .ref 28)]) rfl (t_sc rfl (t_sc rfl (t_sc rfl (t_sc rfl (t_sc rfl (t_sc rfl (t_sc rfl t_sn))))))) ?_
                exact ih5 _ (by omega) gi138 gl138 gr138 (z139) (y5_5) (y5_4) (0) (w138) (y5_1) hI hX  (Int.le_trans (by decide : (0:Int) ≤ 1) l139) u139 l5_5 u5_5 l5_4 u5_4 (by decide : (0:Int) ≤ (0:Int32).toInt) (Int.le_trans (by decide : (0:Int32).toInt ≤ (0:Int)) (by decide : (0:Int) ≤ 1)) rfl
              · have l140 : 1 ≤ w134.toInt := t_nel h135 l134 rfl rfl
                refine ev_incN f_X1_layPlan (nx := 227) rfl rfl (by decide) rfl (fun z141 => ?_)
                refine ev_jmp f_X1_layPlan (nx := 253) rfl rfl rfl ?_
                refine ev_incR f_X1_layPlan (nx := 256) (c := 1) (l := 1) (u := 241) rfl rfl (by decide) (by decide) l5_6 u8 rfl rfl (by decide) (by decide) rfl (fun z142 e142 l142 u142 => ?_)
                refine ev_jmp f_X1_layPlan (nx := 31) rfl rfl rfl ?_
                refine ev_sub (lo := [(6, .int z142), (5, .int y5_5), (4, .int y5_4), (3, .int y5_3), (2, .int z141), (1, .int y5_1), (0, .ref 28)]) rfl (t_sc rfl (t_sc rfl (t_sc rfl (t_sc rfl (t_sc rfl (t_sc rfl (t_sc rfl t_sn))))))) ?_
                exact ih5 _ (by omega) gi134 gl134 gr134 (z142) (y5_5) (y5_4) (y5_3) (z141) (y5_1) hI hX  (Int.le_trans (by decide : (0:Int) ≤ 1) l142) u142 l5_5 u5_5 l5_4 u5_4 (Int.le_trans (by decide : (0:Int) ≤ 1) l131) u5_3 rfl
            · have u143 : y5_4.toInt ≤ 5 := t_ltu (t_nle h132) u10 rfl
              have l144 : 1 ≤ (gi5 29 0).toInt := t_ltl (t_nle h132) l5_4 rfl
              refine ev_loc f_X1_canBegin (nx := 13) rfl rfl rfl rfl ?_
              refine ev_sp f_X1_canBegin (nx := 16) (v := 240) rfl (by decide) rfl ?_
              refine ev_if f_X1_canBegin (t1 := 29) (t2 := 19) rfl rfl rfl (fun h145 => ?_) (fun h145 => ?_)
              · have l146 : 241 ≤ y5_2.toInt := t_ltl h145 (by decide : (240:Int) ≤ (240:Int32).toInt) rfl
                refine ev_ic f_X1_canBegin (nx := 30) (v := 0) rfl (by decide) rfl ?_
                refine ev_retK1 f_X1_canBegin rfl rfl rfl ?_
                refine ev_t f_X1_shipMayBegin (t1 := 12) (t2 := 14) rfl rfl rfl (by decide) ?_
                refine ev_ic f_X1_shipMayBegin (nx := 13) (v := 0) rfl (by decide) rfl ?_
                refine ev_retK1 f_X1_shipMayBegin rfl rfl rfl ?_
                refine ev_t f_X1_layPlan (t1 := 135) (t2 := 79) rfl rfl rfl (by decide) ?_
                refine ev_loc f_X1_layPlan (nx := 136) rfl rfl rfl rfl ?_
                refine ev_f f_X1_layPlan (t1 := 139) (t2 := 208) rfl rfl rfl (t_neT' (by decide : (0:Int32).toInt ≤ (0:Int)) l131 (by decide)) ?_
                refine ev_loc f_X1_layPlan (nx := 209) rfl rfl rfl rfl ?_
                refine ev_loc f_X1_layPlan (nx := 210) rfl rfl rfl rfl ?_
                refine ev_ic f_X1_layPlan (nx := 211) (v := 1) rfl (by decide) rfl ?_
                refine ev_anyI f_X1_layPlan (nx := 212) rfl rfl rfl rfl (fun z147 => ?_)
                refine ev_loc f_X1_layPlan (nx := 213) rfl rfl rfl rfl ?_
                refine ev_loc f_X1_layPlan (nx := 215) rfl rfl rfl rfl ?_
                refine ev_loc f_X1_layPlan (nx := 217) rfl rfl rfl rfl ?_
                refine ev_loc f_X1_layPlan (nx := 218) rfl rfl rfl rfl ?_
                refine ev_cI f_X1_layPlan (nx := 221) (r := []) rfl rfl rfl rfl rfl rfl rfl (c_canEndWithin hI (z147) (y5_3) (Int.le_trans (by decide : (0:Int) ≤ 1) l131) u5_3 (y5_4) l5_4 (Int.le_trans u143 (by decide : (5:Int) ≤ 6)) (y5_5) l5_5 u5_5 (y5_1)) rfl hX rfl (fun w148 gi148 gl148 gr148 l148 u148 hI hX hC148 => ?_)
                refine ev_if f_X1_layPlan (t1 := 230) (t2 := 224) rfl rfl rfl (fun h149 => ?_) (fun h149 => ?_)
                · have u150 : w148.toInt ≤ 0 := t_equ h149 (by decide : (0:Int32).toInt ≤ (0:Int))
                  refine ev_loc f_X1_layPlan (nx := 231) rfl rfl rfl rfl ?_
                  refine ev_ic f_X1_layPlan (nx := 232) (v := 2) rfl (by decide) rfl ?_
                  refine ev_loc f_X1_layPlan (nx := 233) rfl rfl rfl rfl ?_
                  refine ev_ic f_X1_layPlan (nx := 234) (v := -1) rfl (by decide) rfl ?_
                  refine ev_c0 f_X1_layPlan (nx := 237) (r := []) rfl rfl rfl rfl rfl rfl rfl (c_addAct hI (2) (y5_2) ((-1))) rfl hX rfl (fun gi151 gl151 gr151 hI hX hC151 => ?_)
                  refine ev_loc f_X1_layPlan (nx := 238) rfl rfl rfl rfl ?_
                  refine ev_loc f_X1_layPlan (nx := 239) rfl rfl rfl rfl ?_
                  refine ev_cI f_X1_layPlan (nx := 242) (r := []) rfl rfl rfl rfl rfl rfl rfl (c_turnEnd hI (y5_2)) rfl hX rfl (fun w152 gi152 gl152 gr152 l152 u152 hI hX hC152 => ?_)
                  refine ev_loc f_X1_layPlan (nx := 243) (lo' := [(2, .int w152), (6, .int y5_6), (5, .int y5_5), (4, .int y5_4), (3, .int y5_3), (1, .int y5_1), (0, .ref 28)]) rfl rfl rfl rfl ?_
                  refine ev_loc f_X1_layPlan (nx := 244) rfl rfl rfl rfl ?_
                  refine ev_f f_X1_layPlan (t1 := 247) (t2 := 251) rfl rfl rfl (t_neT' (by decide : (0:Int32).toInt ≤ (0:Int)) l131 (by decide)) ?_
                  refine ev_ic f_X1_layPlan (nx := 252) (v := 0) rfl (by decide) rfl ?_
                  refine ev_loc f_X1_layPlan (nx := 253) (lo' := [(3, .int 0), (2, .int w152), (6, .int y5_6), (5, .int y5_5), (4, .int y5_4), (1, .int y5_1), (0, .ref 28)]) rfl rfl rfl rfl ?_
                  refine ev_incR f_X1_layPlan (nx := 256) (c := 1) (l := 1) (u := 241) rfl rfl (by decide) (by decide) l5_6 u8 rfl rfl (by decide) (by decide) rfl (fun z153 e153 l153 u153 => ?_)
                  refine ev_jmp f_X1_layPlan (nx := 31) rfl rfl rfl ?_
                  refine ev_sub (lo := [(6, .int z153), (5, .int y5_5), (4, .int y5_4), (3, .int 0), (2, .int w152), (1, .int y5_1), (0, .ref 28)]) rfl (t_sc rfl (t_sc rfl (t_sc rfl (t_sc rfl (t_sc rfl (t_sc rfl (t_sc rfl t_sn))))))) ?_
                  exact ih5 _ (by omega) gi152 gl152 gr152 (z153) (y5_5) (y5_4) (0) (w152) (y5_1) hI hX  (Int.le_trans (by decide : (0:Int) ≤ 1) l153) u153 l5_5 u5_5 l5_4 (Int.le_trans u143 (by decide : (5:Int) ≤ 6)) (by decide : (0:Int) ≤ (0:Int32).toInt) (Int.le_trans (by decide : (0:Int32).toInt ≤ (0:Int)) (by decide : (0:Int) ≤ 1)) rfl
                · have l154 : 1 ≤ w148.toInt := t_nel h149 l148 rfl rfl
                  refine ev_incN f_X1_layPlan (nx := 227) rfl rfl (by decide) rfl (fun z155 => ?_)
                  refine ev_jmp f_X1_layPlan (nx := 253) rfl rfl rfl ?_
                  refine ev_incR f_X1_layPlan (nx := 256) (c := 1) (l := 1) (u := 241) rfl rfl (by decide) (by decide) l5_6 u8 rfl rfl (by decide) (by decide) rfl (fun z156 e156 l156 u156 => ?_)
                  refine ev_jmp f_X1_layPlan (nx := 31) rfl rfl rfl ?_
                  refine ev_sub (lo := [(6, .int z156), (5, .int y5_5), (4, .int y5_4), (3, .int y5_3), (2, .int z155), (1, .int y5_1), (0, .ref 28)]) rfl (t_sc rfl (t_sc rfl (t_sc rfl (t_sc rfl (t_sc rfl (t_sc rfl (t_sc rfl t_sn))))))) ?_
                  exact ih5 _ (by omega) gi148 gl148 gr148 (z156) (y5_5) (y5_4) (y5_3) (z155) (y5_1) hI hX  (Int.le_trans (by decide : (0:Int) ≤ 1) l156) u156 l5_5 u5_5 l5_4 (Int.le_trans u143 (by decide : (5:Int) ≤ 6)) (Int.le_trans (by decide : (0:Int) ≤ 1) l131) u5_3 rfl
              · have u157 : y5_2.toInt ≤ 240 := t_leu (t_nlt h145) (by decide : (240:Int32).toInt ≤ (240:Int))
                refine ev_loc f_X1_canBegin (nx := 20) rfl rfl rfl rfl ?_
                refine ev_loc f_X1_canBegin (nx := 21) rfl rfl rfl rfl ?_
                refine ev_getR f_X1_canBegin (nx := 24) rfl (hI.wf.s rfl) rfl rfl (hI.wf.r rfl) rfl rfl ?_
                refine ev_loc f_X1_canBegin (nx := 25) rfl rfl rfl rfl ?_
                refine ev_ialdT f_X1_canBegin (nx := 26) rfl (hI.wf.s rfl) l5_4 (by decide) u143 (by decide) rfl (fun w158 e158 => ?_)
                refine ev_if f_X1_canBegin (t1 := 31) (t2 := 29) rfl rfl rfl (fun h159 => ?_) (fun h159 => ?_)
                · have u160 : w158.toInt ≤ 240 := t_leu h159 u157
                  refine ev_loc f_X1_canBegin (nx := 32) rfl rfl rfl rfl ?_
                  refine ev_getR f_X1_canBegin (nx := 35) rfl (hI.wf.s rfl) rfl rfl (hI.wf.r rfl) rfl rfl ?_
                  refine ev_loc f_X1_canBegin (nx := 36) rfl rfl rfl rfl ?_
                  refine ev_baldT f_X1_canBegin (nx := 37) rfl (hI.wf.s rfl) rfl l5_4 (by decide) u143 (by decide) rfl (fun w161 e161 => ?_)
                  refine ev_if f_X1_canBegin (t1 := 50) (t2 := 40) rfl rfl rfl (fun h162 => ?_) (fun h162 => ?_)
                  · have u163 : w161.toInt ≤ 0 := t_equ h162 (by decide : (0:Int32).toInt ≤ (0:Int))
                    have l164 : 0 ≤ w161.toInt := t_eql h162 (by decide : (0:Int) ≤ (0:Int32).toInt)
                    refine ev_ic f_X1_canBegin (nx := 51) (v := 1) rfl (by decide) rfl ?_
                    refine ev_jmp f_X1_canBegin (nx := 55) rfl rfl rfl ?_
                    refine ev_retK1 f_X1_canBegin rfl rfl rfl ?_
                    refine ev_f f_X1_shipMayBegin (t1 := 12) (t2 := 14) rfl rfl rfl (by decide) ?_
                    refine ev_loc f_X1_shipMayBegin (nx := 16) rfl rfl rfl rfl ?_
                    refine ev_loc f_X1_shipMayBegin (nx := 17) rfl rfl rfl rfl ?_
                    refine ev_getR f_X1_shipMayBegin (nx := 20) rfl (hI.wf.s rfl) rfl rfl (hI.wf.r rfl) rfl rfl ?_
                    refine ev_loc f_X1_shipMayBegin (nx := 21) rfl rfl rfl rfl ?_
                    refine ev_loc f_X1_shipMayBegin (nx := 22) rfl rfl rfl rfl ?_
                    refine ev_cI f_X1_shipMayBegin (nx := 25) (r := [.int y5_1]) rfl rfl rfl rfl rfl rfl rfl (c_waitsOf hI 29 (t_Ln29 hI.wf) (y5_4) (y5_2)) rfl hX rfl (fun w165 gi165 gl165 gr165 l165 u165 hI hX hC165 => ?_)
                    refine ev_anyI f_X1_shipMayBegin (nx := 26) rfl rfl rfl rfl (fun z166 => ?_)
                    refine ev_loc f_X1_shipMayBegin (nx := 28) (lo' := [(5, .int z166), (0, .ref 28), (1, .int y5_2), (2, .int y5_4), (3, .int y5_5), (4, .int y5_1)]) rfl rfl rfl rfl ?_
                    refine ev_loc f_X1_shipMayBegin (nx := 29) rfl rfl rfl rfl ?_
                    refine ev_loc f_X1_shipMayBegin (nx := 30) rfl rfl rfl rfl ?_
                    refine ev_loc f_X1_shipMayBegin (nx := 31) rfl rfl rfl rfl ?_
                    refine ev_getR f_X1_shipMayBegin (nx := 34) rfl (hI.wf.s rfl) rfl rfl (hI.wf.r rfl) rfl rfl ?_
                    refine ev_getR f_X1_shipMayBegin (nx := 37) rfl (hI.wf.s rfl) rfl rfl (hI.wf.r rfl) rfl rfl ?_
                    refine ev_loc f_X1_shipMayBegin (nx := 38) rfl rfl rfl rfl ?_
                    refine ev_ialdT f_X1_shipMayBegin (nx := 39) rfl (hI.wf.s rfl) l5_4 (by decide) u143 (by decide) rfl (fun w167 e167 => ?_)
                    refine ev_anyI f_X1_shipMayBegin (nx := 40) rfl rfl rfl rfl (fun z168 => ?_)
                    refine ev_ic f_X1_shipMayBegin (nx := 41) (v := 1) rfl (by decide) rfl ?_
                    refine ev_loc f_X1_shipMayBegin (nx := 42) rfl rfl rfl rfl ?_
                    refine ev_ic f_X1_shipMayBegin (nx := 43) (v := 1) rfl (by decide) rfl ?_
                    refine ev_addC f_X1_shipMayBegin (nx := 44) (c := 1) (l := 1) (u := 6) rfl (by decide) l5_4 u143 rfl rfl (by decide) (by decide) rfl (fun z169 e169 l169 u169 => ?_)
                    refine ev_loc f_X1_shipMayBegin (nx := 45) rfl rfl rfl rfl ?_
                    refine ev_loc f_X1_shipMayBegin (nx := 47) rfl rfl rfl rfl ?_
                    refine ev_cI f_X1_shipMayBegin (nx := 50) (r := []) rfl rfl rfl rfl rfl rfl rfl (c_canEndWithin hI (z168) (1) (Int.le_trans (by decide : (0:Int) ≤ 1) (by decide : (1:Int) ≤ (1:Int32).toInt)) (by decide : (1:Int32).toInt ≤ (1:Int)) (z169) (Int.le_trans (by decide : (0:Int) ≤ 1) l169) u169 (y5_5) l5_5 u5_5 (z166)) rfl hX rfl (fun w170 gi170 gl170 gr170 l170 u170 hI hX hC170 => ?_)
                    refine ev_retK1 f_X1_shipMayBegin rfl rfl (t_rz l170 u170) ?_
                    refine ev_if f_X1_layPlan (t1 := 135) (t2 := 79) rfl rfl rfl (fun h171 => ?_) (fun h171 => ?_)
                    · have u172 : w170.toInt ≤ 0 := t_equ h171 (by decide : (0:Int32).toInt ≤ (0:Int))
                      refine ev_loc f_X1_layPlan (nx := 136) rfl rfl rfl rfl ?_
                      refine ev_f f_X1_layPlan (t1 := 139) (t2 := 208) rfl rfl rfl (t_neT' (by decide : (0:Int32).toInt ≤ (0:Int)) l131 (by decide)) ?_
                      refine ev_loc f_X1_layPlan (nx := 209) rfl rfl rfl rfl ?_
                      refine ev_loc f_X1_layPlan (nx := 210) rfl rfl rfl rfl ?_
                      refine ev_ic f_X1_layPlan (nx := 211) (v := 1) rfl (by decide) rfl ?_
                      refine ev_addC f_X1_layPlan (nx := 212) (c := 1) (l := (-2147483647)) (u := 241) rfl (by decide) (t_lo y5_2) u157 rfl rfl (by decide) (by decide) rfl (fun z173 e173 l173 u173 => ?_)
                      refine ev_loc f_X1_layPlan (nx := 213) rfl rfl rfl rfl ?_
                      refine ev_loc f_X1_layPlan (nx := 215) rfl rfl rfl rfl ?_
                      refine ev_loc f_X1_layPlan (nx := 217) rfl rfl rfl rfl ?_
                      refine ev_loc f_X1_layPlan (nx := 218) rfl rfl rfl rfl ?_
                      refine ev_cI f_X1_layPlan (nx := 221) (r := []) rfl rfl rfl rfl rfl rfl rfl (c_canEndWithin hI (z173) (y5_3) (Int.le_trans (by decide : (0:Int) ≤ 1) l131) u5_3 (y5_4) l5_4 (Int.le_trans u143 (by decide : (5:Int) ≤ 6)) (y5_5) l5_5 u5_5 (y5_1)) rfl hX rfl (fun w174 gi174 gl174 gr174 l174 u174 hI hX hC174 => ?_)
                      refine ev_if f_X1_layPlan (t1 := 230) (t2 := 224) rfl rfl rfl (fun h175 => ?_) (fun h175 => ?_)
                      · have u176 : w174.toInt ≤ 0 := t_equ h175 (by decide : (0:Int32).toInt ≤ (0:Int))
                        refine ev_loc f_X1_layPlan (nx := 231) rfl rfl rfl rfl ?_
                        refine ev_ic f_X1_layPlan (nx := 232) (v := 2) rfl (by decide) rfl ?_
                        refine ev_loc f_X1_layPlan (nx := 233) rfl rfl rfl rfl ?_
                        refine ev_ic f_X1_layPlan (nx := 234) (v := -1) rfl (by decide) rfl ?_
                        refine ev_c0 f_X1_layPlan (nx := 237) (r := []) rfl rfl rfl rfl rfl rfl rfl (c_addAct hI (2) (y5_2) ((-1))) rfl hX rfl (fun gi177 gl177 gr177 hI hX hC177 => ?_)
                        refine ev_loc f_X1_layPlan (nx := 238) rfl rfl rfl rfl ?_
                        refine ev_loc f_X1_layPlan (nx := 239) rfl rfl rfl rfl ?_
                        refine ev_cI f_X1_layPlan (nx := 242) (r := []) rfl rfl rfl rfl rfl rfl rfl (c_turnEnd hI (y5_2)) rfl hX rfl (fun w178 gi178 gl178 gr178 l178 u178 hI hX hC178 => ?_)
                        refine ev_loc f_X1_layPlan (nx := 243) (lo' := [(2, .int w178), (6, .int y5_6), (5, .int y5_5), (4, .int y5_4), (3, .int y5_3), (1, .int y5_1), (0, .ref 28)]) rfl rfl rfl rfl ?_
                        refine ev_loc f_X1_layPlan (nx := 244) rfl rfl rfl rfl ?_
                        refine ev_f f_X1_layPlan (t1 := 247) (t2 := 251) rfl rfl rfl (t_neT' (by decide : (0:Int32).toInt ≤ (0:Int)) l131 (by decide)) ?_
                        refine ev_ic f_X1_layPlan (nx := 252) (v := 0) rfl (by decide) rfl ?_
                        refine ev_loc f_X1_layPlan (nx := 253) (lo' := [(3, .int 0), (2, .int w178), (6, .int y5_6), (5, .int y5_5), (4, .int y5_4), (1, .int y5_1), (0, .ref 28)]) rfl rfl rfl rfl ?_
                        refine ev_incR f_X1_layPlan (nx := 256) (c := 1) (l := 1) (u := 241) rfl rfl (by decide) (by decide) l5_6 u8 rfl rfl (by decide) (by decide) rfl (fun z179 e179 l179 u179 => ?_)
                        refine ev_jmp f_X1_layPlan (nx := 31) rfl rfl rfl ?_
                        refine ev_sub (lo := [(6, .int z179), (5, .int y5_5), (4, .int y5_4), (3, .int 0), (2, .int w178), (1, .int y5_1), (0, .ref 28)]) rfl (t_sc rfl (t_sc rfl (t_sc rfl (t_sc rfl (t_sc rfl (t_sc rfl (t_sc rfl t_sn))))))) ?_
                        exact ih5 _ (by omega) gi178 gl178 gr178 (z179) (y5_5) (y5_4) (0) (w178) (y5_1) hI hX  (Int.le_trans (by decide : (0:Int) ≤ 1) l179) u179 l5_5 u5_5 l5_4 (Int.le_trans u143 (by decide : (5:Int) ≤ 6)) (by decide : (0:Int) ≤ (0:Int32).toInt) (Int.le_trans (by decide : (0:Int32).toInt ≤ (0:Int)) (by decide : (0:Int) ≤ 1)) rfl
                      · have l180 : 1 ≤ w174.toInt := t_nel h175 l174 rfl rfl
                        refine ev_incR f_X1_layPlan (nx := 227) (c := 1) (l := (-2147483647)) (u := 241) rfl rfl (by decide) (by decide) (t_lo y5_2) u157 rfl rfl (by decide) (by decide) rfl (fun z181 e181 l181 u181 => ?_)
                        refine ev_jmp f_X1_layPlan (nx := 253) rfl rfl rfl ?_
                        refine ev_incR f_X1_layPlan (nx := 256) (c := 1) (l := 1) (u := 241) rfl rfl (by decide) (by decide) l5_6 u8 rfl rfl (by decide) (by decide) rfl (fun z182 e182 l182 u182 => ?_)
                        refine ev_jmp f_X1_layPlan (nx := 31) rfl rfl rfl ?_
                        refine ev_sub (lo := [(6, .int z182), (5, .int y5_5), (4, .int y5_4), (3, .int y5_3), (2, .int z181), (1, .int y5_1), (0, .ref 28)]) rfl (t_sc rfl (t_sc rfl (t_sc rfl (t_sc rfl (t_sc rfl (t_sc rfl (t_sc rfl t_sn))))))) ?_
                        exact ih5 _ (by omega) gi174 gl174 gr174 (z182) (y5_5) (y5_4) (y5_3) (z181) (y5_1) hI hX  (Int.le_trans (by decide : (0:Int) ≤ 1) l182) u182 l5_5 u5_5 l5_4 (Int.le_trans u143 (by decide : (5:Int) ≤ 6)) (Int.le_trans (by decide : (0:Int) ≤ 1) l131) u5_3 rfl
                    · have l183 : 1 ≤ w170.toInt := t_nel h171 l170 rfl rfl
                      refine ev_loc f_X1_layPlan (nx := 80) rfl rfl rfl rfl ?_
                      refine ev_loc f_X1_layPlan (nx := 81) rfl rfl rfl rfl ?_
                      refine ev_getR f_X1_layPlan (nx := 84) rfl (hI.wf.s rfl) rfl rfl (hI.wf.r rfl) rfl rfl ?_
                      refine ev_loc f_X1_layPlan (nx := 86) rfl rfl rfl rfl ?_
                      refine ev_loc f_X1_layPlan (nx := 87) rfl rfl rfl rfl ?_
                      refine ev_cI f_X1_layPlan (nx := 90) (r := [.int y5_1]) rfl rfl rfl rfl rfl rfl rfl (c_waitsOf hI 29 (t_Ln29 hI.wf) (y5_4) (y5_2)) rfl hX rfl (fun w184 gi184 gl184 gr184 l184 u184 hI hX hC184 => ?_)
                      refine ev_anyI f_X1_layPlan (nx := 91) rfl rfl rfl rfl (fun z185 => ?_)
                      refine ev_loc f_X1_layPlan (nx := 92) (lo' := [(1, .int z185), (6, .int y5_6), (5, .int y5_5), (4, .int y5_4), (3, .int y5_3), (2, .int y5_2), (0, .ref 28)]) rfl rfl rfl rfl ?_
                      refine ev_loc f_X1_layPlan (nx := 93) rfl rfl rfl rfl ?_
                      refine ev_ic f_X1_layPlan (nx := 94) (v := 0) rfl (by decide) rfl ?_
                      refine ev_loc f_X1_layPlan (nx := 95) rfl rfl rfl rfl ?_
                      refine ev_loc f_X1_layPlan (nx := 96) rfl rfl rfl rfl ?_
                      refine ev_getR f_X1_layPlan (nx := 99) rfl (hI.wf.s rfl) rfl rfl (hI.wf.r rfl) rfl rfl ?_
                      refine ev_getR f_X1_layPlan (nx := 102) rfl (hI.wf.s rfl) rfl rfl (hI.wf.r rfl) rfl rfl ?_
                      refine ev_loc f_X1_layPlan (nx := 104) rfl rfl rfl rfl ?_
                      refine ev_ialdT f_X1_layPlan (nx := 105) rfl (hI.wf.s rfl) l5_4 (by decide) u143 (by decide) rfl (fun w186 e186 => ?_)
                      refine ev_c0 f_X1_layPlan (nx := 108) (r := []) rfl rfl rfl rfl rfl rfl rfl (c_addAct hI (0) (y5_2) (w186)) rfl hX rfl (fun gi187 gl187 gr187 hI hX hC187 => ?_)
                      refine ev_loc f_X1_layPlan (nx := 109) rfl rfl rfl rfl ?_
                      refine ev_getR f_X1_layPlan (nx := 112) rfl (hI.wf.s rfl) rfl rfl (hI.wf.r rfl) rfl rfl ?_
                      refine ev_loc f_X1_layPlan (nx := 114) rfl rfl rfl rfl ?_
                      refine ev_loc f_X1_layPlan (nx := 115) rfl rfl rfl rfl ?_
                      refine ev_iastT f_X1_layPlan (nx := 116) rfl (hI.wf.s rfl) l5_4 (by decide) u143 (by decide) rfl (hI.astO (hI.wf.s rfl) (Or.inl (by decide)) (by decide +kernel)) (hX.upI (t_inA_ok rfl)) (fun g188 e188 hI hX => ?_)
                      refine ev_loc f_X1_layPlan (nx := 117) rfl rfl rfl rfl ?_
                      refine ev_loc f_X1_layPlan (nx := 118) rfl rfl rfl rfl ?_
                      refine ev_getR f_X1_layPlan (nx := 121) rfl (hI.wf.s rfl) rfl rfl (hI.wf.r rfl) rfl rfl ?_
                      refine ev_getR f_X1_layPlan (nx := 124) rfl (hI.wf.s rfl) rfl rfl (hI.wf.r rfl) rfl rfl ?_
                      refine ev_loc f_X1_layPlan (nx := 126) rfl rfl rfl rfl ?_
                      refine ev_ialdT f_X1_layPlan (nx := 127) rfl (hI.wf.s rfl) l5_4 (by decide) u143 (by decide) rfl (fun w189 e189 => ?_)
                      refine ev_anyI f_X1_layPlan (nx := 128) rfl rfl rfl rfl (fun z190 => ?_)
                      refine ev_loc f_X1_layPlan (nx := 129) (lo' := [(2, .int z190), (1, .int z185), (6, .int y5_6), (5, .int y5_5), (4, .int y5_4), (3, .int y5_3), (0, .ref 28)]) rfl rfl rfl rfl ?_
                      refine ev_incR f_X1_layPlan (nx := 132) (c := 1) (l := 1) (u := 6) rfl rfl (by decide) (by decide) l5_4 u143 rfl rfl (by decide) (by decide) rfl (fun z191 e191 l191 u191 => ?_)
                      refine ev_jmp f_X1_layPlan (nx := 253) rfl rfl rfl ?_
                      refine ev_incR f_X1_layPlan (nx := 256) (c := 1) (l := 1) (u := 241) rfl rfl (by decide) (by decide) l5_6 u8 rfl rfl (by decide) (by decide) rfl (fun z192 e192 l192 u192 => ?_)
                      refine ev_jmp f_X1_layPlan (nx := 31) rfl rfl rfl ?_
                      refine ev_sub (lo := [(6, .int z192), (5, .int y5_5), (4, .int z191), (3, .int y5_3), (2, .int z190), (1, .int z185), (0, .ref 28)]) rfl (t_sc rfl (t_sc rfl (t_sc rfl (t_sc rfl (t_sc rfl (t_sc rfl (t_sc rfl t_sn))))))) ?_
                      exact ih5 _ (by omega) g188 gl187 gr187 (z192) (y5_5) (z191) (y5_3) (z190) (z185) hI hX  (Int.le_trans (by decide : (0:Int) ≤ 1) l192) u192 l5_5 u5_5 (Int.le_trans (by decide : (0:Int) ≤ 1) l191) u191 (Int.le_trans (by decide : (0:Int) ≤ 1) l131) u5_3 rfl
                  · refine ev_loc f_X1_canBegin (nx := 41) rfl rfl rfl rfl ?_
                    refine ev_loc f_X1_canBegin (nx := 42) rfl rfl rfl rfl ?_
                    refine ev_getR f_X1_canBegin (nx := 45) rfl (hI.wf.s rfl) rfl rfl (hI.wf.r rfl) rfl rfl ?_
                    refine ev_loc f_X1_canBegin (nx := 46) rfl rfl rfl rfl ?_
                    refine ev_ialdT f_X1_canBegin (nx := 47) rfl (hI.wf.s rfl) l5_4 (by decide) u143 (by decide) rfl (fun w193 e193 => ?_)
                    refine ev_if f_X1_canBegin (t1 := 50) (t2 := 54) rfl rfl rfl (fun h194 => ?_) (fun h194 => ?_)
                    · have u195 : w193.toInt ≤ 240 := t_equ (Eq.symm h194) u157
                      refine ev_ic f_X1_canBegin (nx := 51) (v := 1) rfl (by decide) rfl ?_
                      refine ev_jmp f_X1_canBegin (nx := 55) rfl rfl rfl ?_
                      refine ev_retK1 f_X1_canBegin rfl rfl rfl ?_
                      refine ev_f f_X1_shipMayBegin (t1 := 12) (t2 := 14) rfl rfl rfl (by decide) ?_
                      refine ev_loc f_X1_shipMayBegin (nx := 16) rfl rfl rfl rfl ?_
                      refine ev_loc f_X1_shipMayBegin (nx := 17) rfl rfl rfl rfl ?_
                      refine ev_getR f_X1_shipMayBegin (nx := 20) rfl (hI.wf.s rfl) rfl rfl (hI.wf.r rfl) rfl rfl ?_
                      refine ev_loc f_X1_shipMayBegin (nx := 21) rfl rfl rfl rfl ?_
                      refine ev_loc f_X1_shipMayBegin (nx := 22) rfl rfl rfl rfl ?_
                      refine ev_cI f_X1_shipMayBegin (nx := 25) (r := [.int y5_1]) rfl rfl rfl rfl rfl rfl rfl (c_waitsOf hI 29 (t_Ln29 hI.wf) (y5_4) (y5_2)) rfl hX rfl (fun w196 gi196 gl196 gr196 l196 u196 hI hX hC196 => ?_)
                      refine ev_anyI f_X1_shipMayBegin (nx := 26) rfl rfl rfl rfl (fun z197 => ?_)
                      refine ev_loc f_X1_shipMayBegin (nx := 28) (lo' := [(5, .int z197), (0, .ref 28), (1, .int y5_2), (2, .int y5_4), (3, .int y5_5), (4, .int y5_1)]) rfl rfl rfl rfl ?_
                      refine ev_loc f_X1_shipMayBegin (nx := 29) rfl rfl rfl rfl ?_
                      refine ev_loc f_X1_shipMayBegin (nx := 30) rfl rfl rfl rfl ?_
                      refine ev_loc f_X1_shipMayBegin (nx := 31) rfl rfl rfl rfl ?_
                      refine ev_getR f_X1_shipMayBegin (nx := 34) rfl (hI.wf.s rfl) rfl rfl (hI.wf.r rfl) rfl rfl ?_
                      refine ev_getR f_X1_shipMayBegin (nx := 37) rfl (hI.wf.s rfl) rfl rfl (hI.wf.r rfl) rfl rfl ?_
                      refine ev_loc f_X1_shipMayBegin (nx := 38) rfl rfl rfl rfl ?_
                      refine ev_ialdT f_X1_shipMayBegin (nx := 39) rfl (hI.wf.s rfl) l5_4 (by decide) u143 (by decide) rfl (fun w198 e198 => ?_)
                      refine ev_anyI f_X1_shipMayBegin (nx := 40) rfl rfl rfl rfl (fun z199 => ?_)
                      refine ev_ic f_X1_shipMayBegin (nx := 41) (v := 1) rfl (by decide) rfl ?_
                      refine ev_loc f_X1_shipMayBegin (nx := 42) rfl rfl rfl rfl ?_
                      refine ev_ic f_X1_shipMayBegin (nx := 43) (v := 1) rfl (by decide) rfl ?_
                      refine ev_addC f_X1_shipMayBegin (nx := 44) (c := 1) (l := 1) (u := 6) rfl (by decide) l5_4 u143 rfl rfl (by decide) (by decide) rfl (fun z200 e200 l200 u200 => ?_)
                      refine ev_loc f_X1_shipMayBegin (nx := 45) rfl rfl rfl rfl ?_
                      refine ev_loc f_X1_shipMayBegin (nx := 47) rfl rfl rfl rfl ?_
                      refine ev_cI f_X1_shipMayBegin (nx := 50) (r := []) rfl rfl rfl rfl rfl rfl rfl (c_canEndWithin hI (z199) (1) (Int.le_trans (by decide : (0:Int) ≤ 1) (by decide : (1:Int) ≤ (1:Int32).toInt)) (by decide : (1:Int32).toInt ≤ (1:Int)) (z200) (Int.le_trans (by decide : (0:Int) ≤ 1) l200) u200 (y5_5) l5_5 u5_5 (z197)) rfl hX rfl (fun w201 gi201 gl201 gr201 l201 u201 hI hX hC201 => ?_)
                      refine ev_retK1 f_X1_shipMayBegin rfl rfl (t_rz l201 u201) ?_
                      refine ev_if f_X1_layPlan (t1 := 135) (t2 := 79) rfl rfl rfl (fun h202 => ?_) (fun h202 => ?_)
                      · have u203 : w201.toInt ≤ 0 := t_equ h202 (by decide : (0:Int32).toInt ≤ (0:Int))
                        refine ev_loc f_X1_layPlan (nx := 136) rfl rfl rfl rfl ?_
                        refine ev_f f_X1_layPlan (t1 := 139) (t2 := 208) rfl rfl rfl (t_neT' (by decide : (0:Int32).toInt ≤ (0:Int)) l131 (by decide)) ?_
                        refine ev_loc f_X1_layPlan (nx := 209) rfl rfl rfl rfl ?_
                        refine ev_loc f_X1_layPlan (nx := 210) rfl rfl rfl rfl ?_
                        refine ev_ic f_X1_layPlan (nx := 211) (v := 1) rfl (by decide) rfl ?_
                        refine ev_addC f_X1_layPlan (nx := 212) (c := 1) (l := (-2147483647)) (u := 241) rfl (by decide) (t_lo y5_2) u157 rfl rfl (by decide) (by decide) rfl (fun z204 e204 l204 u204 => ?_)
                        refine ev_loc f_X1_layPlan (nx := 213) rfl rfl rfl rfl ?_
                        refine ev_loc f_X1_layPlan (nx := 215) rfl rfl rfl rfl ?_
                        refine ev_loc f_X1_layPlan (nx := 217) rfl rfl rfl rfl ?_
                        refine ev_loc f_X1_layPlan (nx := 218) rfl rfl rfl rfl ?_
                        refine ev_cI f_X1_layPlan (nx := 221) (r := []) rfl rfl rfl rfl rfl rfl rfl (c_canEndWithin hI (z204) (y5_3) (Int.le_trans (by decide : (0:Int) ≤ 1) l131) u5_3 (y5_4) l5_4 (Int.le_trans u143 (by decide : (5:Int) ≤ 6)) (y5_5) l5_5 u5_5 (y5_1)) rfl hX rfl (fun w205 gi205 gl205 gr205 l205 u205 hI hX hC205 => ?_)
                        refine ev_if f_X1_layPlan (t1 := 230) (t2 := 224) rfl rfl rfl (fun h206 => ?_) (fun h206 => ?_)
                        · have u207 : w205.toInt ≤ 0 := t_equ h206 (by decide : (0:Int32).toInt ≤ (0:Int))
                          refine ev_loc f_X1_layPlan (nx := 231) rfl rfl rfl rfl ?_
                          refine ev_ic f_X1_layPlan (nx := 232) (v := 2) rfl (by decide) rfl ?_
                          refine ev_loc f_X1_layPlan (nx := 233) rfl rfl rfl rfl ?_
                          refine ev_ic f_X1_layPlan (nx := 234) (v := -1) rfl (by decide) rfl ?_
                          refine ev_c0 f_X1_layPlan (nx := 237) (r := []) rfl rfl rfl rfl rfl rfl rfl (c_addAct hI (2) (y5_2) ((-1))) rfl hX rfl (fun gi208 gl208 gr208 hI hX hC208 => ?_)
                          refine ev_loc f_X1_layPlan (nx := 238) rfl rfl rfl rfl ?_
                          refine ev_loc f_X1_layPlan (nx := 239) rfl rfl rfl rfl ?_
                          refine ev_cI f_X1_layPlan (nx := 242) (r := []) rfl rfl rfl rfl rfl rfl rfl (c_turnEnd hI (y5_2)) rfl hX rfl (fun w209 gi209 gl209 gr209 l209 u209 hI hX hC209 => ?_)
                          refine ev_loc f_X1_layPlan (nx := 243) (lo' := [(2, .int w209), (6, .int y5_6), (5, .int y5_5), (4, .int y5_4), (3, .int y5_3), (1, .int y5_1), (0, .ref 28)]) rfl rfl rfl rfl ?_
                          refine ev_loc f_X1_layPlan (nx := 244) rfl rfl rfl rfl ?_
                          refine ev_f f_X1_layPlan (t1 := 247) (t2 := 251) rfl rfl rfl (t_neT' (by decide : (0:Int32).toInt ≤ (0:Int)) l131 (by decide)) ?_
                          refine ev_ic f_X1_layPlan (nx := 252) (v := 0) rfl (by decide) rfl ?_
                          refine ev_loc f_X1_layPlan (nx := 253) (lo' := [(3, .int 0), (2, .int w209), (6, .int y5_6), (5, .int y5_5), (4, .int y5_4), (1, .int y5_1), (0, .ref 28)]) rfl rfl rfl rfl ?_
                          refine ev_incR f_X1_layPlan (nx := 256) (c := 1) (l := 1) (u := 241) rfl rfl (by decide) (by decide) l5_6 u8 rfl rfl (by decide) (by decide) rfl (fun z210 e210 l210 u210 => ?_)
                          refine ev_jmp f_X1_layPlan (nx := 31) rfl rfl rfl ?_
                          refine ev_sub (lo := [(6, .int z210), (5, .int y5_5), (4, .int y5_4), (3, .int 0), (2, .int w209), (1, .int y5_1), (0, .ref 28)]) rfl (t_sc rfl (t_sc rfl (t_sc rfl (t_sc rfl (t_sc rfl (t_sc rfl (t_sc rfl t_sn))))))) ?_
                          exact ih5 _ (by omega) gi209 gl209 gr209 (z210) (y5_5) (y5_4) (0) (w209) (y5_1) hI hX  (Int.le_trans (by decide : (0:Int) ≤ 1) l210) u210 l5_5 u5_5 l5_4 (Int.le_trans u143 (by decide : (5:Int) ≤ 6)) (by decide : (0:Int) ≤ (0:Int32).toInt) (Int.le_trans (by decide : (0:Int32).toInt ≤ (0:Int)) (by decide : (0:Int) ≤ 1)) rfl
                        · have l211 : 1 ≤ w205.toInt := t_nel h206 l205 rfl rfl
                          refine ev_incR f_X1_layPlan (nx := 227) (c := 1) (l := (-2147483647)) (u := 241) rfl rfl (by decide) (by decide) (t_lo y5_2) u157 rfl rfl (by decide) (by decide) rfl (fun z212 e212 l212 u212 => ?_)
                          refine ev_jmp f_X1_layPlan (nx := 253) rfl rfl rfl ?_
                          refine ev_incR f_X1_layPlan (nx := 256) (c := 1) (l := 1) (u := 241) rfl rfl (by decide) (by decide) l5_6 u8 rfl rfl (by decide) (by decide) rfl (fun z213 e213 l213 u213 => ?_)
                          refine ev_jmp f_X1_layPlan (nx := 31) rfl rfl rfl ?_
                          refine ev_sub (lo := [(6, .int z213), (5, .int y5_5), (4, .int y5_4), (3, .int y5_3), (2, .int z212), (1, .int y5_1), (0, .ref 28)]) rfl (t_sc rfl (t_sc rfl (t_sc rfl (t_sc rfl (t_sc rfl (t_sc rfl (t_sc rfl t_sn))))))) ?_
                          exact ih5 _ (by omega) gi205 gl205 gr205 (z213) (y5_5) (y5_4) (y5_3) (z212) (y5_1) hI hX  (Int.le_trans (by decide : (0:Int) ≤ 1) l213) u213 l5_5 u5_5 l5_4 (Int.le_trans u143 (by decide : (5:Int) ≤ 6)) (Int.le_trans (by decide : (0:Int) ≤ 1) l131) u5_3 rfl
                      · have l214 : 1 ≤ w201.toInt := t_nel h202 l201 rfl rfl
                        refine ev_loc f_X1_layPlan (nx := 80) rfl rfl rfl rfl ?_
                        refine ev_loc f_X1_layPlan (nx := 81) rfl rfl rfl rfl ?_
                        refine ev_getR f_X1_layPlan (nx := 84) rfl (hI.wf.s rfl) rfl rfl (hI.wf.r rfl) rfl rfl ?_
                        refine ev_loc f_X1_layPlan (nx := 86) rfl rfl rfl rfl ?_
                        refine ev_loc f_X1_layPlan (nx := 87) rfl rfl rfl rfl ?_
                        refine ev_cI f_X1_layPlan (nx := 90) (r := [.int y5_1]) rfl rfl rfl rfl rfl rfl rfl (c_waitsOf hI 29 (t_Ln29 hI.wf) (y5_4) (y5_2)) rfl hX rfl (fun w215 gi215 gl215 gr215 l215 u215 hI hX hC215 => ?_)
                        refine ev_anyI f_X1_layPlan (nx := 91) rfl rfl rfl rfl (fun z216 => ?_)
                        refine ev_loc f_X1_layPlan (nx := 92) (lo' := [(1, .int z216), (6, .int y5_6), (5, .int y5_5), (4, .int y5_4), (3, .int y5_3), (2, .int y5_2), (0, .ref 28)]) rfl rfl rfl rfl ?_
                        refine ev_loc f_X1_layPlan (nx := 93) rfl rfl rfl rfl ?_
                        refine ev_ic f_X1_layPlan (nx := 94) (v := 0) rfl (by decide) rfl ?_
                        refine ev_loc f_X1_layPlan (nx := 95) rfl rfl rfl rfl ?_
                        refine ev_loc f_X1_layPlan (nx := 96) rfl rfl rfl rfl ?_
                        refine ev_getR f_X1_layPlan (nx := 99) rfl (hI.wf.s rfl) rfl rfl (hI.wf.r rfl) rfl rfl ?_
                        refine ev_getR f_X1_layPlan (nx := 102) rfl (hI.wf.s rfl) rfl rfl (hI.wf.r rfl) rfl rfl ?_
                        refine ev_loc f_X1_layPlan (nx := 104) rfl rfl rfl rfl ?_
                        refine ev_ialdT f_X1_layPlan (nx := 105) rfl (hI.wf.s rfl) l5_4 (by decide) u143 (by decide) rfl (fun w217 e217 => ?_)
                        refine ev_c0 f_X1_layPlan (nx := 108) (r := []) rfl rfl rfl rfl rfl rfl rfl (c_addAct hI (0) (y5_2) (w217)) rfl hX rfl (fun gi218 gl218 gr218 hI hX hC218 => ?_)
                        refine ev_loc f_X1_layPlan (nx := 109) rfl rfl rfl rfl ?_
                        refine ev_getR f_X1_layPlan (nx := 112) rfl (hI.wf.s rfl) rfl rfl (hI.wf.r rfl) rfl rfl ?_
                        refine ev_loc f_X1_layPlan (nx := 114) rfl rfl rfl rfl ?_
                        refine ev_loc f_X1_layPlan (nx := 115) rfl rfl rfl rfl ?_
                        refine ev_iastT f_X1_layPlan (nx := 116) rfl (hI.wf.s rfl) l5_4 (by decide) u143 (by decide) rfl (hI.astO (hI.wf.s rfl) (Or.inl (by decide)) (by decide +kernel)) (hX.upI (t_inA_ok rfl)) (fun g219 e219 hI hX => ?_)
                        refine ev_loc f_X1_layPlan (nx := 117) rfl rfl rfl rfl ?_
                        refine ev_loc f_X1_layPlan (nx := 118) rfl rfl rfl rfl ?_
                        refine ev_getR f_X1_layPlan (nx := 121) rfl (hI.wf.s rfl) rfl rfl (hI.wf.r rfl) rfl rfl ?_
                        refine ev_getR f_X1_layPlan (nx := 124) rfl (hI.wf.s rfl) rfl rfl (hI.wf.r rfl) rfl rfl ?_
                        refine ev_loc f_X1_layPlan (nx := 126) rfl rfl rfl rfl ?_
                        refine ev_ialdT f_X1_layPlan (nx := 127) rfl (hI.wf.s rfl) l5_4 (by decide) u143 (by decide) rfl (fun w220 e220 => ?_)
                        refine ev_anyI f_X1_layPlan (nx := 128) rfl rfl rfl rfl (fun z221 => ?_)
                        refine ev_loc f_X1_layPlan (nx := 129) (lo' := [(2, .int z221), (1, .int z216), (6, .int y5_6), (5, .int y5_5), (4, .int y5_4), (3, .int y5_3), (0, .ref 28)]) rfl rfl rfl rfl ?_
                        refine ev_incR f_X1_layPlan (nx := 132) (c := 1) (l := 1) (u := 6) rfl rfl (by decide) (by decide) l5_4 u143 rfl rfl (by decide) (by decide) rfl (fun z222 e222 l222 u222 => ?_)
                        refine ev_jmp f_X1_layPlan (nx := 253) rfl rfl rfl ?_
                        refine ev_incR f_X1_layPlan (nx := 256) (c := 1) (l := 1) (u := 241) rfl rfl (by decide) (by decide) l5_6 u8 rfl rfl (by decide) (by decide) rfl (fun z223 e223 l223 u223 => ?_)
                        refine ev_jmp f_X1_layPlan (nx := 31) rfl rfl rfl ?_
                        refine ev_sub (lo := [(6, .int z223), (5, .int y5_5), (4, .int z222), (3, .int y5_3), (2, .int z221), (1, .int z216), (0, .ref 28)]) rfl (t_sc rfl (t_sc rfl (t_sc rfl (t_sc rfl (t_sc rfl (t_sc rfl (t_sc rfl t_sn))))))) ?_
                        exact ih5 _ (by omega) g219 gl218 gr218 (z223) (y5_5) (z222) (y5_3) (z221) (z216) hI hX  (Int.le_trans (by decide : (0:Int) ≤ 1) l223) u223 l5_5 u5_5 (Int.le_trans (by decide : (0:Int) ≤ 1) l222) u222 (Int.le_trans (by decide : (0:Int) ≤ 1) l131) u5_3 rfl
                    · refine ev_ic f_X1_canBegin (nx := 55) (v := 0) rfl (by decide) rfl ?_
                      refine ev_retK1 f_X1_canBegin rfl rfl rfl ?_
                      refine ev_t f_X1_shipMayBegin (t1 := 12) (t2 := 14) rfl rfl rfl (by decide) ?_
                      refine ev_ic f_X1_shipMayBegin (nx := 13) (v := 0) rfl (by decide) rfl ?_
                      refine ev_retK1 f_X1_shipMayBegin rfl rfl rfl ?_
                      refine ev_t f_X1_layPlan (t1 := 135) (t2 := 79) rfl rfl rfl (by decide) ?_
                      refine ev_loc f_X1_layPlan (nx := 136) rfl rfl rfl rfl ?_
                      refine ev_f f_X1_layPlan (t1 := 139) (t2 := 208) rfl rfl rfl (t_neT' (by decide : (0:Int32).toInt ≤ (0:Int)) l131 (by decide)) ?_
                      refine ev_loc f_X1_layPlan (nx := 209) rfl rfl rfl rfl ?_
                      refine ev_loc f_X1_layPlan (nx := 210) rfl rfl rfl rfl ?_
                      refine ev_ic f_X1_layPlan (nx := 211) (v := 1) rfl (by decide) rfl ?_
                      refine ev_addC f_X1_layPlan (nx := 212) (c := 1) (l := (-2147483647)) (u := 241) rfl (by decide) (t_lo y5_2) u157 rfl rfl (by decide) (by decide) rfl (fun z224 e224 l224 u224 => ?_)
                      refine ev_loc f_X1_layPlan (nx := 213) rfl rfl rfl rfl ?_
                      refine ev_loc f_X1_layPlan (nx := 215) rfl rfl rfl rfl ?_
                      refine ev_loc f_X1_layPlan (nx := 217) rfl rfl rfl rfl ?_
                      refine ev_loc f_X1_layPlan (nx := 218) rfl rfl rfl rfl ?_
                      refine ev_cI f_X1_layPlan (nx := 221) (r := []) rfl rfl rfl rfl rfl rfl rfl (c_canEndWithin hI (z224) (y5_3) (Int.le_trans (by decide : (0:Int) ≤ 1) l131) u5_3 (y5_4) l5_4 (Int.le_trans u143 (by decide : (5:Int) ≤ 6)) (y5_5) l5_5 u5_5 (y5_1)) rfl hX rfl (fun w225 gi225 gl225 gr225 l225 u225 hI hX hC225 => ?_)
                      refine ev_if f_X1_layPlan (t1 := 230) (t2 := 224) rfl rfl rfl (fun h226 => ?_) (fun h226 => ?_)
                      · have u227 : w225.toInt ≤ 0 := t_equ h226 (by decide : (0:Int32).toInt ≤ (0:Int))
                        refine ev_loc f_X1_layPlan (nx := 231) rfl rfl rfl rfl ?_
                        refine ev_ic f_X1_layPlan (nx := 232) (v := 2) rfl (by decide) rfl ?_
                        refine ev_loc f_X1_layPlan (nx := 233) rfl rfl rfl rfl ?_
                        refine ev_ic f_X1_layPlan (nx := 234) (v := -1) rfl (by decide) rfl ?_
                        refine ev_c0 f_X1_layPlan (nx := 237) (r := []) rfl rfl rfl rfl rfl rfl rfl (c_addAct hI (2) (y5_2) ((-1))) rfl hX rfl (fun gi228 gl228 gr228 hI hX hC228 => ?_)
                        refine ev_loc f_X1_layPlan (nx := 238) rfl rfl rfl rfl ?_
                        refine ev_loc f_X1_layPlan (nx := 239) rfl rfl rfl rfl ?_
                        refine ev_cI f_X1_layPlan (nx := 242) (r := []) rfl rfl rfl rfl rfl rfl rfl (c_turnEnd hI (y5_2)) rfl hX rfl (fun w229 gi229 gl229 gr229 l229 u229 hI hX hC229 => ?_)
                        refine ev_loc f_X1_layPlan (nx := 243) (lo' := [(2, .int w229), (6, .int y5_6), (5, .int y5_5), (4, .int y5_4), (3, .int y5_3), (1, .int y5_1), (0, .ref 28)]) rfl rfl rfl rfl ?_
                        refine ev_loc f_X1_layPlan (nx := 244) rfl rfl rfl rfl ?_
                        refine ev_f f_X1_layPlan (t1 := 247) (t2 := 251) rfl rfl rfl (t_neT' (by decide : (0:Int32).toInt ≤ (0:Int)) l131 (by decide)) ?_
                        refine ev_ic f_X1_layPlan (nx := 252) (v := 0) rfl (by decide) rfl ?_
                        refine ev_loc f_X1_layPlan (nx := 253) (lo' := [(3, .int 0), (2, .int w229), (6, .int y5_6), (5, .int y5_5), (4, .int y5_4), (1, .int y5_1), (0, .ref 28)]) rfl rfl rfl rfl ?_
                        refine ev_incR f_X1_layPlan (nx := 256) (c := 1) (l := 1) (u := 241) rfl rfl (by decide) (by decide) l5_6 u8 rfl rfl (by decide) (by decide) rfl (fun z230 e230 l230 u230 => ?_)
                        refine ev_jmp f_X1_layPlan (nx := 31) rfl rfl rfl ?_
                        refine ev_sub (lo := [(6, .int z230), (5, .int y5_5), (4, .int y5_4), (3, .int 0), (2, .int w229), (1, .int y5_1), (0, .ref 28)]) rfl (t_sc rfl (t_sc rfl (t_sc rfl (t_sc rfl (t_sc rfl (t_sc rfl (t_sc rfl t_sn))))))) ?_
                        exact ih5 _ (by omega) gi229 gl229 gr229 (z230) (y5_5) (y5_4) (0) (w229) (y5_1) hI hX  (Int.le_trans (by decide : (0:Int) ≤ 1) l230) u230 l5_5 u5_5 l5_4 (Int.le_trans u143 (by decide : (5:Int) ≤ 6)) (by decide : (0:Int) ≤ (0:Int32).toInt) (Int.le_trans (by decide : (0:Int32).toInt ≤ (0:Int)) (by decide : (0:Int) ≤ 1)) rfl
                      · have l231 : 1 ≤ w225.toInt := t_nel h226 l225 rfl rfl
                        refine ev_incR f_X1_layPlan (nx := 227) (c := 1) (l := (-2147483647)) (u := 241) rfl rfl (by decide) (by decide) (t_lo y5_2) u157 rfl rfl (by decide) (by decide) rfl (fun z232 e232 l232 u232 => ?_)
                        refine ev_jmp f_X1_layPlan (nx := 253) rfl rfl rfl ?_
                        refine ev_incR f_X1_layPlan (nx := 256) (c := 1) (l := 1) (u := 241) rfl rfl (by decide) (by decide) l5_6 u8 rfl rfl (by decide) (by decide) rfl (fun z233 e233 l233 u233 => ?_)
                        refine ev_jmp f_X1_layPlan (nx := 31) rfl rfl rfl ?_
                        refine ev_sub (lo := [(6, .int z233), (5, .int y5_5), (4, .int y5_4), (3, .int y5_3), (2, .int z232), (1, .int y5_1), (0, .ref 28)]) rfl (t_sc rfl (t_sc rfl (t_sc rfl (t_sc rfl (t_sc rfl (t_sc rfl (t_sc rfl t_sn))))))) ?_
                        exact ih5 _ (by omega) gi225 gl225 gr225 (z233) (y5_5) (y5_4) (y5_3) (z232) (y5_1) hI hX  (Int.le_trans (by decide : (0:Int) ≤ 1) l233) u233 l5_5 u5_5 l5_4 (Int.le_trans u143 (by decide : (5:Int) ≤ 6)) (Int.le_trans (by decide : (0:Int) ≤ 1) l131) u5_3 rfl
                · have l234 : (-2147483647) ≤ w158.toInt := t_ltl (t_nle h159) (t_lo y5_2) rfl
                  refine ev_ic f_X1_canBegin (nx := 30) (v := 0) rfl (by decide) rfl ?_
                  refine ev_retK1 f_X1_canBegin rfl rfl rfl ?_
                  refine ev_t f_X1_shipMayBegin (t1 := 12) (t2 := 14) rfl rfl rfl (by decide) ?_
                  refine ev_ic f_X1_shipMayBegin (nx := 13) (v := 0) rfl (by decide) rfl ?_
                  refine ev_retK1 f_X1_shipMayBegin rfl rfl rfl ?_
                  refine ev_t f_X1_layPlan (t1 := 135) (t2 := 79) rfl rfl rfl (by decide) ?_
                  refine ev_loc f_X1_layPlan (nx := 136) rfl rfl rfl rfl ?_
                  refine ev_f f_X1_layPlan (t1 := 139) (t2 := 208) rfl rfl rfl (t_neT' (by decide : (0:Int32).toInt ≤ (0:Int)) l131 (by decide)) ?_
                  refine ev_loc f_X1_layPlan (nx := 209) rfl rfl rfl rfl ?_
                  refine ev_loc f_X1_layPlan (nx := 210) rfl rfl rfl rfl ?_
                  refine ev_ic f_X1_layPlan (nx := 211) (v := 1) rfl (by decide) rfl ?_
                  refine ev_addC f_X1_layPlan (nx := 212) (c := 1) (l := (-2147483647)) (u := 241) rfl (by decide) (t_lo y5_2) u157 rfl rfl (by decide) (by decide) rfl (fun z235 e235 l235 u235 => ?_)
                  refine ev_loc f_X1_layPlan (nx := 213) rfl rfl rfl rfl ?_
                  refine ev_loc f_X1_layPlan (nx := 215) rfl rfl rfl rfl ?_
                  refine ev_loc f_X1_layPlan (nx := 217) rfl rfl rfl rfl ?_
                  refine ev_loc f_X1_layPlan (nx := 218) rfl rfl rfl rfl ?_
                  refine ev_cI f_X1_layPlan (nx := 221) (r := []) rfl rfl rfl rfl rfl rfl rfl (c_canEndWithin hI (z235) (y5_3) (Int.le_trans (by decide : (0:Int) ≤ 1) l131) u5_3 (y5_4) l5_4 (Int.le_trans u143 (by decide : (5:Int) ≤ 6)) (y5_5) l5_5 u5_5 (y5_1)) rfl hX rfl (fun w236 gi236 gl236 gr236 l236 u236 hI hX hC236 => ?_)
                  refine ev_if f_X1_layPlan (t1 := 230) (t2 := 224) rfl rfl rfl (fun h237 => ?_) (fun h237 => ?_)
                  · have u238 : w236.toInt ≤ 0 := t_equ h237 (by decide : (0:Int32).toInt ≤ (0:Int))
                    refine ev_loc f_X1_layPlan (nx := 231) rfl rfl rfl rfl ?_
                    refine ev_ic f_X1_layPlan (nx := 232) (v := 2) rfl (by decide) rfl ?_
                    refine ev_loc f_X1_layPlan (nx := 233) rfl rfl rfl rfl ?_
                    refine ev_ic f_X1_layPlan (nx := 234) (v := -1) rfl (by decide) rfl ?_
                    refine ev_c0 f_X1_layPlan (nx := 237) (r := []) rfl rfl rfl rfl rfl rfl rfl (c_addAct hI (2) (y5_2) ((-1))) rfl hX rfl (fun gi239 gl239 gr239 hI hX hC239 => ?_)
                    refine ev_loc f_X1_layPlan (nx := 238) rfl rfl rfl rfl ?_
                    refine ev_loc f_X1_layPlan (nx := 239) rfl rfl rfl rfl ?_
                    refine ev_cI f_X1_layPlan (nx := 242) (r := []) rfl rfl rfl rfl rfl rfl rfl (c_turnEnd hI (y5_2)) rfl hX rfl (fun w240 gi240 gl240 gr240 l240 u240 hI hX hC240 => ?_)
                    refine ev_loc f_X1_layPlan (nx := 243) (lo' := [(2, .int w240), (6, .int y5_6), (5, .int y5_5), (4, .int y5_4), (3, .int y5_3), (1, .int y5_1), (0, .ref 28)]) rfl rfl rfl rfl ?_
                    refine ev_loc f_X1_layPlan (nx := 244) rfl rfl rfl rfl ?_
                    refine ev_f f_X1_layPlan (t1 := 247) (t2 := 251) rfl rfl rfl (t_neT' (by decide : (0:Int32).toInt ≤ (0:Int)) l131 (by decide)) ?_
                    refine ev_ic f_X1_layPlan (nx := 252) (v := 0) rfl (by decide) rfl ?_
                    refine ev_loc f_X1_layPlan (nx := 253) (lo' := [(3, .int 0), (2, .int w240), (6, .int y5_6), (5, .int y5_5), (4, .int y5_4), (1, .int y5_1), (0, .ref 28)]) rfl rfl rfl rfl ?_
                    refine ev_incR f_X1_layPlan (nx := 256) (c := 1) (l := 1) (u := 241) rfl rfl (by decide) (by decide) l5_6 u8 rfl rfl (by decide) (by decide) rfl (fun z241 e241 l241 u241 => ?_)
                    refine ev_jmp f_X1_layPlan (nx := 31) rfl rfl rfl ?_
                    refine ev_sub (lo := [(6, .int z241), (5, .int y5_5), (4, .int y5_4), (3, .int 0), (2, .int w240), (1, .int y5_1), (0, .ref 28)]) rfl (t_sc rfl (t_sc rfl (t_sc rfl (t_sc rfl (t_sc rfl (t_sc rfl (t_sc rfl t_sn))))))) ?_
                    exact ih5 _ (by omega) gi240 gl240 gr240 (z241) (y5_5) (y5_4) (0) (w240) (y5_1) hI hX  (Int.le_trans (by decide : (0:Int) ≤ 1) l241) u241 l5_5 u5_5 l5_4 (Int.le_trans u143 (by decide : (5:Int) ≤ 6)) (by decide : (0:Int) ≤ (0:Int32).toInt) (Int.le_trans (by decide : (0:Int32).toInt ≤ (0:Int)) (by decide : (0:Int) ≤ 1)) rfl
                  · have l242 : 1 ≤ w236.toInt := t_nel h237 l236 rfl rfl
                    refine ev_incR f_X1_layPlan (nx := 227) (c := 1) (l := (-2147483647)) (u := 241) rfl rfl (by decide) (by decide) (t_lo y5_2) u157 rfl rfl (by decide) (by decide) rfl (fun z243 e243 l243 u243 => ?_)
                    refine ev_jmp f_X1_layPlan (nx := 253) rfl rfl rfl ?_
                    refine ev_incR f_X1_layPlan (nx := 256) (c := 1) (l := 1) (u := 241) rfl rfl (by decide) (by decide) l5_6 u8 rfl rfl (by decide) (by decide) rfl (fun z244 e244 l244 u244 => ?_)
                    refine ev_jmp f_X1_layPlan (nx := 31) rfl rfl rfl ?_
                    refine ev_sub (lo := [(6, .int z244), (5, .int y5_5), (4, .int y5_4), (3, .int y5_3), (2, .int z243), (1, .int y5_1), (0, .ref 28)]) rfl (t_sc rfl (t_sc rfl (t_sc rfl (t_sc rfl (t_sc rfl (t_sc rfl (t_sc rfl t_sn))))))) ?_
                    exact ih5 _ (by omega) gi236 gl236 gr236 (z244) (y5_5) (y5_4) (y5_3) (z243) (y5_1) hI hX  (Int.le_trans (by decide : (0:Int) ≤ 1) l244) u244 l5_5 u5_5 l5_4 (Int.le_trans u143 (by decide : (5:Int) ≤ 6)) (Int.le_trans (by decide : (0:Int) ≤ 1) l131) u5_3 rfl
    refine ev_sub (lo := [(6, .int 0), (5, .int 0), (4, .int 0), (3, .int 0), (2, .int 0), (1, .int w2), (0, .ref 28)]) rfl (t_sc rfl (t_sc rfl (t_sc rfl (t_sc rfl (t_sc rfl (t_sc rfl (t_sc rfl t_sn))))))) ?_
    exact L5 _ gi2 gl2 gr2 (0) (0) (0) (0) (0) (w2) hI hX  (by decide : (0:Int) ≤ (0:Int32).toInt) (Int.le_trans (by decide : (0:Int32).toInt ≤ (0:Int)) (by decide : (0:Int) ≤ 241)) (by decide : (0:Int) ≤ (0:Int32).toInt) (Int.le_trans (by decide : (0:Int32).toInt ≤ (0:Int)) (by decide : (0:Int) ≤ 6)) (by decide : (0:Int) ≤ (0:Int32).toInt) (Int.le_trans (by decide : (0:Int32).toInt ≤ (0:Int)) (by decide : (0:Int) ≤ 6)) (by decide : (0:Int) ≤ (0:Int32).toInt) (Int.le_trans (by decide : (0:Int32).toInt ≤ (0:Int)) (by decide : (0:Int) ≤ 1)) rfl
  · have l245 : 1000000000 ≤ w2.toInt := t_lel (t_nlt h3) (by decide : (1000000000:Int) ≤ (1000000000:Int32).toInt)
    refine ev_ic f_X1_layPlan (nx := 17) (v := 0) rfl (by decide) rfl ?_
    exact ev_ret f_X1_layPlan rfl rfl rfl ⟨_, _, _, rfl, hI, hX, ⟨_, rfl, (by decide : (0:Int) ≤ (0:Int32).toInt), (Int.le_trans (by decide : (0:Int32).toInt ≤ (0:Int)) (by decide : (0:Int) ≤ 1))⟩⟩
noncomputable def wl_waitsByNumber : List (Nat × Nat) := []
theorem c_waitsByNumber {X : x_Ext} {d : Nat} {sh : List (Nat ⊕ (Nat × Nat))} {gi : Nat → Nat → Int32} {gl : Nat → Nat → Int64} {gr : Nat → Nat → Value} (hI : t_I sh gi gr) (ar0 : Nat) (p_a0 : t_Ln sh gr ar0) (ar1 : Nat) (s_a1 : sh[ar1]? = some (.inr (0, 6))) (o_a1 : t_out ar1) (ar2 : Int32) : x_Me X (d + 2) n_X1_waitsByNumber [.ref ar0, .ref ar1, .int ar2] (sh, gi, gl, gr) (t_P wl_waitsByNumber sh gi gl gr (t_Ri (-2147483648) 2147483647)) := by
  have hX : t_X wl_waitsByNumber sh gi gl gr gi gl gr := t_X.rf
  refine me_s f_X1_waitsByNumber rfl rfl ?_
  refine ev_ic f_X1_waitsByNumber (nx := 1) (v := 0) rfl (by decide) rfl ?_
  refine ev_loc f_X1_waitsByNumber (nx := 2) (lo' := [(3, .int 0), (0, .ref ar0), (1, .ref ar1), (2, .int ar2)]) rfl rfl rfl rfl ?_
  have L1 : ∀ (m1 : Nat) (gi1 : Nat → Nat → Int32) (gl1 : Nat → Nat → Int64) (gr1 : Nat → Nat → Value) (y1_3 : Int32), t_I sh gi1 gr1 → t_X wl_waitsByNumber sh gi gl gr gi1 gl1 gr1 → t_Ln sh gr1 ar0 → 0 ≤ y1_3.toInt → y1_3.toInt ≤ 6 → (6 - y1_3.toInt).toNat = m1 → x_Ev X (d + 2) n_X1_waitsByNumber 2 [(3, .int y1_3), (0, .ref ar0), (1, .ref ar1), (2, .int ar2)] [] (sh, gi1, gl1, gr1) (t_P wl_waitsByNumber sh gi gl gr (t_Ri (-2147483648) 2147483647)) := by
    intro m1
    induction m1 using Nat.strongRecOn with
    | _ m1 ih1 =>
    intro gi1 gl1 gr1 y1_3 hI hX p_a0 l1_3 u1_3 hm1
    refine ev_loc f_X1_waitsByNumber (nx := 3) rfl rfl rfl rfl ?_
    refine ev_loc f_X1_waitsByNumber (nx := 4) rfl rfl rfl rfl ?_
    refine ev_getI f_X1_waitsByNumber (nx := 7) rfl p_a0.1 rfl rfl rfl ?_
    obtain ⟨l2, u2⟩ := hI.b p_a0.1 (t_bdK rfl : t_bd 3 0 = some (0, 6))
    refine ev_if f_X1_waitsByNumber (t1 := 41) (t2 := 10) rfl rfl rfl (fun h3 => ?_) (fun h3 => ?_)
    · refine ev_ic f_X1_waitsByNumber (nx := 42) (v := 0) rfl (by decide) rfl ?_
      exact ev_ret f_X1_waitsByNumber rfl rfl rfl ⟨_, _, _, rfl, hI, hX, ⟨_, rfl, (Int.le_trans (by decide : ((-2147483648):Int) ≤ 0) (by decide : (0:Int) ≤ (0:Int32).toInt)), (Int.le_trans (by decide : (0:Int32).toInt ≤ (0:Int)) (by decide : (0:Int) ≤ 2147483647))⟩⟩
    · have u4 : y1_3.toInt ≤ 5 := t_ltu (t_nle h3) u2 rfl
      have l5 : 1 ≤ (gi1 ar0 0).toInt := t_ltl (t_nle h3) l1_3 rfl
      refine ev_loc f_X1_waitsByNumber (nx := 11) rfl rfl rfl rfl ?_
      refine ev_loc f_X1_waitsByNumber (nx := 12) rfl rfl rfl rfl ?_
      refine ev_alenv f_X1_waitsByNumber (nx := 13) (w := 6) rfl s_a1 rfl (by decide) rfl ?_
      refine ev_f f_X1_waitsByNumber (t1 := 41) (t2 := 16) rfl rfl rfl (t_leF u4 (by decide : (6:Int) ≤ (6:Int32).toInt) (by decide)) ?_
      refine ev_loc f_X1_waitsByNumber (nx := 17) rfl rfl rfl rfl ?_
      obtain ⟨a6, e6, s6, o6⟩ := p_a0.2.1
      refine ev_getR f_X1_waitsByNumber (nx := 20) rfl p_a0.1 rfl rfl e6 rfl rfl ?_
      refine ev_loc f_X1_waitsByNumber (nx := 21) rfl rfl rfl rfl ?_
      refine ev_ialdT f_X1_waitsByNumber (nx := 22) rfl s6 l1_3 (by decide) u4 (by decide) rfl (fun w7 e7 => ?_)
      refine ev_loc f_X1_waitsByNumber (nx := 23) rfl rfl rfl rfl ?_
      refine ev_if f_X1_waitsByNumber (t1 := 26) (t2 := 35) rfl rfl rfl (fun h8 => ?_) (fun h8 => ?_)
      · refine ev_loc f_X1_waitsByNumber (nx := 27) rfl rfl rfl rfl ?_
        refine ev_loc f_X1_waitsByNumber (nx := 28) rfl rfl rfl rfl ?_
        refine ev_loc f_X1_waitsByNumber (nx := 29) rfl rfl rfl rfl ?_
        refine ev_loc f_X1_waitsByNumber (nx := 30) rfl rfl rfl rfl ?_
        refine ev_ialdT f_X1_waitsByNumber (nx := 31) rfl s_a1 l1_3 (by decide) u4 (by decide) rfl (fun w9 e9 => ?_)
        refine ev_cI f_X1_waitsByNumber (nx := 34) (r := []) rfl rfl rfl rfl rfl rfl rfl (c_waitsOf hI (ar0) p_a0 (y1_3) (w9)) rfl hX rfl (fun w10 gi10 gl10 gr10 l10 u10 hI hX hC10 => ?_)
        replace p_a0 := p_a0.ext hC10.2
        exact ev_ret f_X1_waitsByNumber rfl rfl rfl ⟨_, _, _, rfl, hI, hX, ⟨_, rfl, l10, u10⟩⟩
      · refine ev_incR f_X1_waitsByNumber (nx := 38) (c := 1) (l := 1) (u := 6) rfl rfl (by decide) (by decide) l1_3 u4 rfl rfl (by decide) (by decide) rfl (fun z11 e11 l11 u11 => ?_)
        refine ev_jmp f_X1_waitsByNumber (nx := 2) rfl rfl rfl ?_
        refine ev_sub (lo := [(3, .int z11), (0, .ref ar0), (1, .ref ar1), (2, .int ar2)]) rfl (t_sc rfl (t_sc rfl (t_sc rfl (t_sc rfl t_sn)))) ?_
        exact ih1 _ (by omega) gi1 gl1 gr1 (z11) hI hX p_a0 (Int.le_trans (by decide : (0:Int) ≤ 1) l11) u11 rfl
  refine ev_sub (lo := [(3, .int 0), (0, .ref ar0), (1, .ref ar1), (2, .int ar2)]) rfl (t_sc rfl (t_sc rfl (t_sc rfl (t_sc rfl t_sn)))) ?_
  exact L1 _ gi gl gr (0) hI hX p_a0 (by decide : (0:Int) ≤ (0:Int32).toInt) (Int.le_trans (by decide : (0:Int32).toInt ≤ (0:Int)) (by decide : (0:Int) ≤ 6)) rfl
noncomputable def wl_dearestByPlan : List (Nat × Nat) := []
theorem c_dearestByPlan {X : x_Ext} {d : Nat} {sh : List (Nat ⊕ (Nat × Nat))} {gi : Nat → Nat → Int32} {gl : Nat → Nat → Int64} {gr : Nat → Nat → Value} (hI : t_I sh gi gr) (ar1 : Nat) (p_a1 : t_Rv sh gr ar1) : x_Me X (d + 3) n_X1_dearestByPlan [.ref 28, .ref ar1] (sh, gi, gl, gr) (t_P wl_dearestByPlan sh gi gl gr (t_Ri (-1) 12)) := by
  have hX : t_X wl_dearestByPlan sh gi gl gr gi gl gr := t_X.rf
  refine me_i f_X1_dearestByPlan (hI.wf.s rfl) rfl rfl rfl ?_
  refine ev_ic f_X1_dearestByPlan (nx := 1) (v := 0) rfl (by decide) rfl ?_
  refine ev_loc f_X1_dearestByPlan (nx := 2) (lo' := [(2, .int 0), (0, .ref 28), (1, .ref ar1)]) rfl rfl rfl rfl ?_
  refine ev_ic f_X1_dearestByPlan (nx := 3) (v := -1) rfl (by decide) rfl ?_
  refine ev_loc f_X1_dearestByPlan (nx := 4) (lo' := [(3, .int (-1)), (2, .int 0), (0, .ref 28), (1, .ref ar1)]) rfl rfl rfl rfl ?_
  refine ev_ic f_X1_dearestByPlan (nx := 5) (v := 0) rfl (by decide) rfl ?_
  refine ev_loc f_X1_dearestByPlan (nx := 7) (lo' := [(4, .int 0), (3, .int (-1)), (2, .int 0), (0, .ref 28), (1, .ref ar1)]) rfl rfl rfl rfl ?_
  have L1 : ∀ (m1 : Nat) (gi1 : Nat → Nat → Int32) (gl1 : Nat → Nat → Int64) (gr1 : Nat → Nat → Value) (y1_4 : Int32) (y1_3 : Int32) (y1_2 : Int32), t_I sh gi1 gr1 → t_X wl_dearestByPlan sh gi gl gr gi1 gl1 gr1 → t_Rv sh gr1 ar1 → 0 ≤ y1_4.toInt → y1_4.toInt ≤ 6 → (-1) ≤ y1_3.toInt → y1_3.toInt ≤ 5 → 0 ≤ y1_2.toInt → (6 - y1_4.toInt).toNat = m1 → x_Ev X (d + 3) n_X1_dearestByPlan 7 [(4, .int y1_4), (3, .int y1_3), (2, .int y1_2), (0, .ref 28), (1, .ref ar1)] [] (sh, gi1, gl1, gr1) (t_P wl_dearestByPlan sh gi gl gr (t_Ri (-1) 12)) := by
    intro m1
    induction m1 using Nat.strongRecOn with
    | _ m1 ih1 =>
    intro gi1 gl1 gr1 y1_4 y1_3 y1_2 hI hX p_a1 l1_4 u1_4 l1_3 u1_3 l1_2 hm1
    refine ev_loc f_X1_dearestByPlan (nx := 9) rfl rfl rfl rfl ?_
    refine ev_loc f_X1_dearestByPlan (nx := 10) rfl rfl rfl rfl ?_
    obtain ⟨a2, e2, p2⟩ := p_a1.2.2.2.2.1
    refine ev_getR f_X1_dearestByPlan (nx := 13) rfl p_a1.1 rfl rfl e2 rfl rfl ?_
    refine ev_getI f_X1_dearestByPlan (nx := 16) rfl p2.1 rfl rfl rfl ?_
    obtain ⟨l3, u3⟩ := hI.b p2.1 (t_bdK rfl : t_bd 3 0 = some (0, 6))
    refine ev_if f_X1_dearestByPlan (t1 := 52) (t2 := 19) rfl rfl rfl (fun h4 => ?_) (fun h4 => ?_)
    · refine ev_ic f_X1_dearestByPlan (nx := 53) (v := 0) rfl (by decide) rfl ?_
      refine ev_loc f_X1_dearestByPlan (nx := 55) (lo' := [(4, .int 0), (3, .int y1_3), (2, .int y1_2), (0, .ref 28), (1, .ref ar1)]) rfl rfl rfl rfl ?_
      have L5 : ∀ (m5 : Nat) (gi5 : Nat → Nat → Int32) (gl5 : Nat → Nat → Int64) (gr5 : Nat → Nat → Value) (y5_4 : Int32) (y5_3 : Int32) (y5_2 : Int32), t_I sh gi5 gr5 → t_X wl_dearestByPlan sh gi gl gr gi5 gl5 gr5 → t_Rv sh gr5 ar1 → t_Ln sh gr5 a2 → 0 ≤ y5_4.toInt → y5_4.toInt ≤ 6 → (-1) ≤ y5_3.toInt → y5_3.toInt ≤ 12 → 0 ≤ y5_2.toInt → gr5 ar1 7 = .ref a2 → (6 - y5_4.toInt).toNat = m5 → x_Ev X (d + 3) n_X1_dearestByPlan 55 [(4, .int y5_4), (3, .int y5_3), (2, .int y5_2), (0, .ref 28), (1, .ref ar1)] [] (sh, gi5, gl5, gr5) (t_P wl_dearestByPlan sh gi gl gr (t_Ri (-1) 12)) := by
        intro m5
        induction m5 using Nat.strongRecOn with
        | _ m5 ih5 =>
        intro gi5 gl5 gr5 y5_4 y5_3 y5_2 hI hX p_a1 p2 l5_4 u5_4 l5_3 u5_3 l5_2 c5_1 hm5
        refine ev_loc f_X1_dearestByPlan (nx := 57) rfl rfl rfl rfl ?_
        refine ev_loc f_X1_dearestByPlan (nx := 58) rfl rfl rfl rfl ?_
        obtain ⟨a6, e6, p6⟩ := p_a1.2.2.2.2.2
        refine ev_getR f_X1_dearestByPlan (nx := 61) rfl p_a1.1 rfl rfl e6 rfl rfl ?_
        refine ev_getI f_X1_dearestByPlan (nx := 64) rfl p6.1 rfl rfl rfl ?_
        obtain ⟨l7, u7⟩ := hI.b p6.1 (t_bdK rfl : t_bd 3 0 = some (0, 6))
        refine ev_if f_X1_dearestByPlan (t1 := 103) (t2 := 67) rfl rfl rfl (fun h8 => ?_) (fun h8 => ?_)
        · refine ev_loc f_X1_dearestByPlan (nx := 104) rfl rfl rfl rfl ?_
          exact ev_ret f_X1_dearestByPlan rfl rfl rfl ⟨_, _, _, rfl, hI, hX, ⟨_, rfl, l5_3, u5_3⟩⟩
        · have u9 : y5_4.toInt ≤ 5 := t_ltu (t_nle h8) u7 rfl
          have l10 : 1 ≤ (gi5 a6 0).toInt := t_ltl (t_nle h8) l5_4 rfl
          refine ev_loc f_X1_dearestByPlan (nx := 68) rfl rfl rfl rfl ?_
          refine ev_getR f_X1_dearestByPlan (nx := 71) rfl (hI.wf.s rfl) rfl rfl (hI.wf.r rfl) rfl rfl ?_
          refine ev_loc f_X1_dearestByPlan (nx := 72) rfl rfl rfl rfl ?_
          refine ev_getR f_X1_dearestByPlan (nx := 75) rfl (hI.wf.s rfl) rfl rfl (hI.wf.r rfl) rfl rfl ?_
          refine ev_loc f_X1_dearestByPlan (nx := 77) rfl rfl rfl rfl ?_
          refine ev_cI f_X1_dearestByPlan (nx := 80) (r := []) rfl rfl rfl rfl rfl rfl rfl (c_waitsByNumber hI 35 (t_Ln35 hI.wf) 44 (hI.wf.s rfl) (Or.inl (by decide)) (y5_4)) rfl hX rfl (fun w11 gi11 gl11 gr11 l11 u11 hI hX hC11 => ?_)
          replace p_a1 := p_a1.ext hC11.2
          replace p2 := p2.ext hC11.2
          replace p6 := p6.ext hC11.2
          refine ev_loc f_X1_dearestByPlan (nx := 82) (lo' := [(5, .int w11), (4, .int y5_4), (3, .int y5_3), (2, .int y5_2), (0, .ref 28), (1, .ref ar1)]) rfl rfl rfl rfl ?_
          refine ev_loc f_X1_dearestByPlan (nx := 84) rfl rfl rfl rfl ?_
          refine ev_loc f_X1_dearestByPlan (nx := 85) rfl rfl rfl rfl ?_
          refine ev_if f_X1_dearestByPlan (t1 := 97) (t2 := 88) rfl rfl rfl (fun h12 => ?_) (fun h12 => ?_)
          · refine ev_incR f_X1_dearestByPlan (nx := 100) (c := 1) (l := 1) (u := 6) rfl rfl (by decide) (by decide) l5_4 u9 rfl rfl (by decide) (by decide) rfl (fun z13 e13 l13 u13 => ?_)
            refine ev_jmp f_X1_dearestByPlan (nx := 55) rfl rfl rfl ?_
            refine ev_sub (lo := [(4, .int z13), (3, .int y5_3), (2, .int y5_2), (0, .ref 28), (1, .ref ar1)]) rfl (t_sc rfl (t_sc rfl (t_sc rfl (t_sc rfl (t_sc rfl t_sn))))) ?_
            exact ih5 _ (by omega) gi11 gl11 gr11 (z13) (y5_3) (y5_2) hI hX p_a1 p2 (Int.le_trans (by decide : (0:Int) ≤ 1) l13) u13 l5_3 u5_3 l5_2 ((hC11.1 ar1 7 (t_ninO hI.wf p_a1.1 (t_outO hI.wf p_a1.1 rfl) rfl)).2.2.trans c5_1) rfl
          · have u14 : y5_2.toInt ≤ 2147483646 := t_ltu (t_nle h12) u11 rfl
            have l15 : 1 ≤ w11.toInt := t_ltl (t_nle h12) l5_2 rfl
            refine ev_loc f_X1_dearestByPlan (nx := 90) rfl rfl rfl rfl ?_
            refine ev_loc f_X1_dearestByPlan (nx := 91) (lo' := [(2, .int w11), (5, .int w11), (4, .int y5_4), (3, .int y5_3), (0, .ref 28), (1, .ref ar1)]) rfl rfl rfl rfl ?_
            refine ev_loc f_X1_dearestByPlan (nx := 93) rfl rfl rfl rfl ?_
            refine ev_bp f_X1_dearestByPlan (nx := 95) (v := 6) rfl (by decide) rfl ?_
            refine ev_addC f_X1_dearestByPlan (nx := 96) (c := 6) (l := 6) (u := 11) rfl (by decide) l5_4 u9 rfl rfl (by decide) (by decide) rfl (fun z16 e16 l16 u16 => ?_)
            refine ev_loc f_X1_dearestByPlan (nx := 97) (lo' := [(3, .int z16), (2, .int w11), (5, .int w11), (4, .int y5_4), (0, .ref 28), (1, .ref ar1)]) rfl rfl rfl rfl ?_
            refine ev_incR f_X1_dearestByPlan (nx := 100) (c := 1) (l := 1) (u := 6) rfl rfl (by decide) (by decide) l5_4 u9 rfl rfl (by decide) (by decide) rfl (fun z17 e17 l17 u17 => ?_)
            refine ev_jmp f_X1_dearestByPlan (nx := 55) rfl rfl rfl ?_
            refine ev_sub (lo := [(4, .int z17), (3, .int z16), (2, .int w11), (0, .ref 28), (1, .ref ar1)]) rfl (t_sc rfl (t_sc rfl (t_sc rfl (t_sc rfl (t_sc rfl t_sn))))) ?_
            exact ih5 _ (by omega) gi11 gl11 gr11 (z17) (z16) (w11) hI hX p_a1 p2 (Int.le_trans (by decide : (0:Int) ≤ 1) l17) u17 (Int.le_trans (by decide : ((-1):Int) ≤ 6) l16) (Int.le_trans u16 (by decide : (11:Int) ≤ 12)) (Int.le_trans (by decide : (0:Int) ≤ 1) l15) ((hC11.1 ar1 7 (t_ninO hI.wf p_a1.1 (t_outO hI.wf p_a1.1 rfl) rfl)).2.2.trans c5_1) rfl
      refine ev_sub (lo := [(4, .int 0), (3, .int y1_3), (2, .int y1_2), (0, .ref 28), (1, .ref ar1)]) rfl (t_sc rfl (t_sc rfl (t_sc rfl (t_sc rfl (t_sc rfl t_sn))))) ?_
      exact L5 _ gi1 gl1 gr1 (0) (y1_3) (y1_2) hI hX p_a1 p2 (by decide : (0:Int) ≤ (0:Int32).toInt) (Int.le_trans (by decide : (0:Int32).toInt ≤ (0:Int)) (by decide : (0:Int) ≤ 6)) l1_3 (Int.le_trans u1_3 (by decide : (5:Int) ≤ 12)) l1_2 e2 rfl
    · have u18 : y1_4.toInt ≤ 5 := t_ltu (t_nle h4) u3 rfl
      have l19 : 1 ≤ (gi1 a2 0).toInt := t_ltl (t_nle h4) l1_4 rfl
      refine ev_loc f_X1_dearestByPlan (nx := 20) rfl rfl rfl rfl ?_
      refine ev_getR f_X1_dearestByPlan (nx := 23) rfl (hI.wf.s rfl) rfl rfl (hI.wf.r rfl) rfl rfl ?_
      refine ev_loc f_X1_dearestByPlan (nx := 24) rfl rfl rfl rfl ?_
      refine ev_getR f_X1_dearestByPlan (nx := 27) rfl (hI.wf.s rfl) rfl rfl (hI.wf.r rfl) rfl rfl ?_
      refine ev_loc f_X1_dearestByPlan (nx := 29) rfl rfl rfl rfl ?_
      refine ev_cI f_X1_dearestByPlan (nx := 32) (r := []) rfl rfl rfl rfl rfl rfl rfl (c_waitsByNumber hI 29 (t_Ln29 hI.wf) 43 (hI.wf.s rfl) (Or.inl (by decide)) (y1_4)) rfl hX rfl (fun w20 gi20 gl20 gr20 l20 u20 hI hX hC20 => ?_)
      replace p_a1 := p_a1.ext hC20.2
      replace p2 := p2.ext hC20.2
      refine ev_loc f_X1_dearestByPlan (nx := 34) (lo' := [(5, .int w20), (4, .int y1_4), (3, .int y1_3), (2, .int y1_2), (0, .ref 28), (1, .ref ar1)]) rfl rfl rfl rfl ?_
      refine ev_loc f_X1_dearestByPlan (nx := 36) rfl rfl rfl rfl ?_
      refine ev_loc f_X1_dearestByPlan (nx := 37) rfl rfl rfl rfl ?_
      refine ev_if f_X1_dearestByPlan (t1 := 46) (t2 := 40) rfl rfl rfl (fun h21 => ?_) (fun h21 => ?_)
      · refine ev_incR f_X1_dearestByPlan (nx := 49) (c := 1) (l := 1) (u := 6) rfl rfl (by decide) (by decide) l1_4 u18 rfl rfl (by decide) (by decide) rfl (fun z22 e22 l22 u22 => ?_)
        refine ev_jmp f_X1_dearestByPlan (nx := 7) rfl rfl rfl ?_
        refine ev_sub (lo := [(4, .int z22), (3, .int y1_3), (2, .int y1_2), (0, .ref 28), (1, .ref ar1)]) rfl (t_sc rfl (t_sc rfl (t_sc rfl (t_sc rfl (t_sc rfl t_sn))))) ?_
        exact ih1 _ (by omega) gi20 gl20 gr20 (z22) (y1_3) (y1_2) hI hX p_a1 (Int.le_trans (by decide : (0:Int) ≤ 1) l22) u22 l1_3 u1_3 l1_2 rfl
      · have u23 : y1_2.toInt ≤ 2147483646 := t_ltu (t_nle h21) u20 rfl
        have l24 : 1 ≤ w20.toInt := t_ltl (t_nle h21) l1_2 rfl
        refine ev_loc f_X1_dearestByPlan (nx := 42) rfl rfl rfl rfl ?_
        refine ev_loc f_X1_dearestByPlan (nx := 43) (lo' := [(2, .int w20), (5, .int w20), (4, .int y1_4), (3, .int y1_3), (0, .ref 28), (1, .ref ar1)]) rfl rfl rfl rfl ?_
        refine ev_loc f_X1_dearestByPlan (nx := 45) rfl rfl rfl rfl ?_
        refine ev_loc f_X1_dearestByPlan (nx := 46) (lo' := [(3, .int y1_4), (2, .int w20), (5, .int w20), (4, .int y1_4), (0, .ref 28), (1, .ref ar1)]) rfl rfl rfl rfl ?_
        refine ev_incR f_X1_dearestByPlan (nx := 49) (c := 1) (l := 1) (u := 6) rfl rfl (by decide) (by decide) l1_4 u18 rfl rfl (by decide) (by decide) rfl (fun z25 e25 l25 u25 => ?_)
        refine ev_jmp f_X1_dearestByPlan (nx := 7) rfl rfl rfl ?_
        refine ev_sub (lo := [(4, .int z25), (3, .int y1_4), (2, .int w20), (0, .ref 28), (1, .ref ar1)]) rfl (t_sc rfl (t_sc rfl (t_sc rfl (t_sc rfl (t_sc rfl t_sn))))) ?_
        exact ih1 _ (by omega) gi20 gl20 gr20 (z25) (y1_4) (w20) hI hX p_a1 (Int.le_trans (by decide : (0:Int) ≤ 1) l25) u25 (Int.le_trans (by decide : ((-1):Int) ≤ 0) l1_4) u18 (Int.le_trans (by decide : (0:Int) ≤ 1) l24) rfl
  refine ev_sub (lo := [(4, .int 0), (3, .int (-1)), (2, .int 0), (0, .ref 28), (1, .ref ar1)]) rfl (t_sc rfl (t_sc rfl (t_sc rfl (t_sc rfl (t_sc rfl t_sn))))) ?_
  exact L1 _ gi gl gr (0) ((-1)) (0) hI hX p_a1 (by decide : (0:Int) ≤ (0:Int32).toInt) (Int.le_trans (by decide : (0:Int32).toInt ≤ (0:Int)) (by decide : (0:Int) ≤ 6)) (by decide : ((-1):Int) ≤ ((-1):Int32).toInt) (Int.le_trans (by decide : ((-1):Int32).toInt ≤ ((-1):Int)) (by decide : ((-1):Int) ≤ 5)) (by decide : (0:Int) ≤ (0:Int32).toInt) rfl
noncomputable def wl_openedByPlan : List (Nat × Nat) := []
theorem c_openedByPlan {X : x_Ext} {d : Nat} {sh : List (Nat ⊕ (Nat × Nat))} {gi : Nat → Nat → Int32} {gl : Nat → Nat → Int64} {gr : Nat → Nat → Value} (hI : t_I sh gi gr) : x_Me X (d + 3) n_X1_openedByPlan [.ref 28] (sh, gi, gl, gr) (t_P wl_openedByPlan sh gi gl gr (t_Ri (-2147483648) 2147483647)) := by
  have hX : t_X wl_openedByPlan sh gi gl gr gi gl gr := t_X.rf
  refine me_i f_X1_openedByPlan (hI.wf.s rfl) rfl rfl rfl ?_
  refine ev_ic f_X1_openedByPlan (nx := 1) (v := 0) rfl (by decide) rfl ?_
  refine ev_loc f_X1_openedByPlan (nx := 2) (lo' := [(1, .int 0), (0, .ref 28)]) rfl rfl rfl rfl ?_
  refine ev_ic f_X1_openedByPlan (nx := 3) (v := 0) rfl (by decide) rfl ?_
  refine ev_loc f_X1_openedByPlan (nx := 4) (lo' := [(2, .int 0), (1, .int 0), (0, .ref 28)]) rfl rfl rfl rfl ?_
  refine ev_ic f_X1_openedByPlan (nx := 5) (v := 0) rfl (by decide) rfl ?_
  refine ev_loc f_X1_openedByPlan (nx := 6) (lo' := [(3, .int 0), (2, .int 0), (1, .int 0), (0, .ref 28)]) rfl rfl rfl rfl ?_
  refine ev_ic f_X1_openedByPlan (nx := 7) (v := 0) rfl (by decide) rfl ?_
  refine ev_loc f_X1_openedByPlan (nx := 9) (lo' := [(4, .int 0), (3, .int 0), (2, .int 0), (1, .int 0), (0, .ref 28)]) rfl rfl rfl rfl ?_
  have L1 : ∀ (m1 : Nat) (gi1 : Nat → Nat → Int32) (gl1 : Nat → Nat → Int64) (gr1 : Nat → Nat → Value) (y1_4 : Int32) (y1_3 : Int32) (y1_2 : Int32) (y1_1 : Int32), t_I sh gi1 gr1 → t_X wl_openedByPlan sh gi gl gr gi1 gl1 gr1 → 0 ≤ y1_4.toInt → y1_4.toInt ≤ 24 → 0 ≤ y1_2.toInt → y1_2.toInt ≤ 1 → (24 - y1_4.toInt).toNat = m1 → x_Ev X (d + 3) n_X1_openedByPlan 9 [(4, .int y1_4), (3, .int y1_3), (2, .int y1_2), (1, .int y1_1), (0, .ref 28)] [] (sh, gi1, gl1, gr1) (t_P wl_openedByPlan sh gi gl gr (t_Ri (-2147483648) 2147483647)) := by
    intro m1
    induction m1 using Nat.strongRecOn with
    | _ m1 ih1 =>
    intro gi1 gl1 gr1 y1_4 y1_3 y1_2 y1_1 hI hX l1_4 u1_4 l1_2 u1_2 hm1
    refine ev_loc f_X1_openedByPlan (nx := 11) rfl rfl rfl rfl ?_
    refine ev_loc f_X1_openedByPlan (nx := 12) rfl rfl rfl rfl ?_
    refine ev_getI f_X1_openedByPlan (nx := 15) rfl (hI.wf.s rfl) rfl rfl rfl ?_
    obtain ⟨l2, u2⟩ := hI.b (hI.wf.s (k := 28) rfl) (t_bdK rfl : t_bd 1 6 = some (0, 24))
    refine ev_if f_X1_openedByPlan (t1 := 82) (t2 := 18) rfl rfl rfl (fun h3 => ?_) (fun h3 => ?_)
    · refine ev_loc f_X1_openedByPlan (nx := 83) rfl rfl rfl rfl ?_
      refine ev_getR f_X1_openedByPlan (nx := 86) rfl (hI.wf.s rfl) rfl rfl (hI.wf.r rfl) rfl rfl ?_
      refine ev_getI f_X1_openedByPlan (nx := 89) rfl (hI.wf.s rfl) rfl rfl rfl ?_
      obtain ⟨l4, u4⟩ := hI.b (hI.wf.s (k := 29) rfl) (t_bdK rfl : t_bd 3 0 = some (0, 6))
      refine ev_ic f_X1_openedByPlan (nx := 90) (v := 1) rfl (by decide) rfl ?_
      refine ev_subC f_X1_openedByPlan (nx := 91) (c := 1) (l := (-1)) (u := 5) rfl (by decide) l4 u4 rfl rfl (by decide) (by decide) rfl (fun z5 e5 l5 u5 => ?_)
      refine ev_loc f_X1_openedByPlan (nx := 93) (lo' := [(4, .int z5), (3, .int y1_3), (2, .int y1_2), (1, .int y1_1), (0, .ref 28)]) rfl rfl rfl rfl ?_
      refine ev_loc f_X1_openedByPlan (nx := 94) rfl rfl rfl rfl ?_
      refine ev_if f_X1_openedByPlan (t1 := 102) (t2 := 97) rfl rfl rfl (fun h6 => ?_) (fun h6 => ?_)
      · have u7 : y1_2.toInt ≤ 0 := t_equ h6 (by decide : (0:Int32).toInt ≤ (0:Int))
        refine ev_loc f_X1_openedByPlan (nx := 103) rfl rfl rfl rfl ?_
        exact ev_ret f_X1_openedByPlan rfl rfl rfl ⟨_, _, _, rfl, hI, hX, ⟨_, rfl, (t_lo y1_1), (t_hi y1_1)⟩⟩
      · have l8 : 1 ≤ y1_2.toInt := t_nel h6 l1_2 rfl rfl
        refine ev_loc f_X1_openedByPlan (nx := 99) rfl rfl rfl rfl ?_
        refine ev_if f_X1_openedByPlan (t1 := 104) (t2 := 102) rfl rfl rfl (fun h9 => ?_) (fun h9 => ?_)
        · have l10 : 0 ≤ z5.toInt := t_lel h9 (by decide : (0:Int) ≤ (0:Int32).toInt)
          refine ev_loc f_X1_openedByPlan (nx := 105) rfl rfl rfl rfl ?_
          refine ev_loc f_X1_openedByPlan (nx := 106) rfl rfl rfl rfl ?_
          refine ev_getR f_X1_openedByPlan (nx := 109) rfl (hI.wf.s rfl) rfl rfl (hI.wf.r rfl) rfl rfl ?_
          refine ev_loc f_X1_openedByPlan (nx := 111) rfl rfl rfl rfl ?_
          refine ev_ialdT f_X1_openedByPlan (nx := 112) rfl (hI.wf.s rfl) l10 (by decide) u5 (by decide) rfl (fun w11 e11 => ?_)
          refine ev_anyI f_X1_openedByPlan (nx := 113) rfl rfl rfl rfl (fun z12 => ?_)
          refine ev_loc f_X1_openedByPlan (nx := 114) rfl rfl rfl rfl ?_
          refine ev_getR f_X1_openedByPlan (nx := 117) rfl (hI.wf.s rfl) rfl rfl (hI.wf.r rfl) rfl rfl ?_
          refine ev_getR f_X1_openedByPlan (nx := 120) rfl (hI.wf.s rfl) rfl rfl (hI.wf.r rfl) rfl rfl ?_
          refine ev_loc f_X1_openedByPlan (nx := 122) rfl rfl rfl rfl ?_
          refine ev_ialdT f_X1_openedByPlan (nx := 123) rfl (hI.wf.s rfl) l10 (by decide) u5 (by decide) rfl (fun w13 e13 => ?_)
          refine ev_anyI f_X1_openedByPlan (nx := 124) rfl rfl rfl rfl (fun z14 => ?_)
          refine ev_loc f_X1_openedByPlan (nx := 125) rfl rfl rfl rfl ?_
          refine ev_anyI f_X1_openedByPlan (nx := 126) rfl rfl rfl rfl (fun z15 => ?_)
          exact ev_ret f_X1_openedByPlan rfl rfl rfl ⟨_, _, _, rfl, hI, hX, ⟨_, rfl, (t_lo z15), (t_hi z15)⟩⟩
        · have u16 : z5.toInt ≤ (-1) := t_ltu (t_nle h9) (by decide : (0:Int32).toInt ≤ (0:Int)) rfl
          refine ev_loc f_X1_openedByPlan (nx := 103) rfl rfl rfl rfl ?_
          exact ev_ret f_X1_openedByPlan rfl rfl rfl ⟨_, _, _, rfl, hI, hX, ⟨_, rfl, (t_lo y1_1), (t_hi y1_1)⟩⟩
    · have u17 : y1_4.toInt ≤ 23 := t_ltu (t_nle h3) u2 rfl
      have l18 : 1 ≤ (gi1 28 6).toInt := t_ltl (t_nle h3) l1_4 rfl
      refine ev_loc f_X1_openedByPlan (nx := 19) rfl rfl rfl rfl ?_
      refine ev_getR f_X1_openedByPlan (nx := 22) rfl (hI.wf.s rfl) rfl rfl (hI.wf.r rfl) rfl rfl ?_
      refine ev_ic f_X1_openedByPlan (nx := 23) (v := 3) rfl (by decide) rfl ?_
      refine ev_loc f_X1_openedByPlan (nx := 25) rfl rfl rfl rfl ?_
      refine ev_mulL f_X1_openedByPlan (nx := 26) (c := 3) (l := 0) (u := 69) rfl (by decide) (by decide) l1_4 u17 rfl rfl (by decide) (by decide) rfl (fun z19 e19 l19 u19 => ?_)
      refine ev_ialdT f_X1_openedByPlan (nx := 27) rfl (hI.wf.s rfl) l19 (by decide) u19 (by decide) rfl (fun w20 e20 => ?_)
      refine ev_ic f_X1_openedByPlan (nx := 28) (v := 2) rfl (by decide) rfl ?_
      refine ev_if f_X1_openedByPlan (t1 := 31) (t2 := 76) rfl rfl rfl (fun h21 => ?_) (fun h21 => ?_)
      · have u22 : w20.toInt ≤ 2 := t_equ h21 (by decide : (2:Int32).toInt ≤ (2:Int))
        have l23 : 2 ≤ w20.toInt := t_eql h21 (by decide : (2:Int) ≤ (2:Int32).toInt)
        refine ev_loc f_X1_openedByPlan (nx := 32) rfl rfl rfl rfl ?_
        refine ev_getR f_X1_openedByPlan (nx := 35) rfl (hI.wf.s rfl) rfl rfl (hI.wf.r rfl) rfl rfl ?_
        refine ev_ic f_X1_openedByPlan (nx := 36) (v := 3) rfl (by decide) rfl ?_
        refine ev_loc f_X1_openedByPlan (nx := 38) rfl rfl rfl rfl ?_
        refine ev_mulL f_X1_openedByPlan (nx := 39) (c := 3) (l := 0) (u := 69) rfl (by decide) (by decide) l1_4 u17 rfl rfl (by decide) (by decide) rfl (fun z24 e24 l24 u24 => ?_)
        refine ev_ic f_X1_openedByPlan (nx := 40) (v := 1) rfl (by decide) rfl ?_
        refine ev_addC f_X1_openedByPlan (nx := 41) (c := 1) (l := 1) (u := 70) rfl (by decide) l24 u24 rfl rfl (by decide) (by decide) rfl (fun z25 e25 l25 u25 => ?_)
        refine ev_ialdT f_X1_openedByPlan (nx := 42) rfl (hI.wf.s rfl) l25 (by decide) u25 (by decide) rfl (fun w26 e26 => ?_)
        refine ev_loc f_X1_openedByPlan (nx := 44) (lo' := [(5, .int w26), (4, .int y1_4), (3, .int y1_3), (2, .int y1_2), (1, .int y1_1), (0, .ref 28)]) rfl rfl rfl rfl ?_
        refine ev_loc f_X1_openedByPlan (nx := 45) rfl rfl rfl rfl ?_
        refine ev_loc f_X1_openedByPlan (nx := 46) rfl rfl rfl rfl ?_
        refine ev_if f_X1_openedByPlan (t1 := 56) (t2 := 49) rfl rfl rfl (fun h27 => ?_) (fun h27 => ?_)
        · have u28 : y1_2.toInt ≤ 0 := t_equ h27 (by decide : (0:Int32).toInt ≤ (0:Int))
          refine ev_ic f_X1_openedByPlan (nx := 57) (v := 0) rfl (by decide) rfl ?_
          refine ev_addC f_X1_openedByPlan (nx := 58) (c := 0) (l := (-2147483648)) (u := 2147483647) rfl (by decide) (t_lo y1_1) (t_hi y1_1) rfl rfl (by decide) (by decide) rfl (fun z29 e29 l29 u29 => ?_)
          refine ev_loc f_X1_openedByPlan (nx := 59) (lo' := [(1, .int z29), (5, .int w26), (4, .int y1_4), (3, .int y1_3), (2, .int y1_2), (0, .ref 28)]) rfl rfl rfl rfl ?_
          refine ev_loc f_X1_openedByPlan (nx := 60) rfl rfl rfl rfl ?_
          refine ev_t f_X1_openedByPlan (t1 := 63) (t2 := 67) rfl rfl rfl (t_eqT u28 l1_2 (by decide : (0:Int32).toInt ≤ (0:Int)) (by decide : (0:Int) ≤ (0:Int32).toInt)) ?_
          refine ev_ic f_X1_openedByPlan (nx := 64) (v := 1) rfl (by decide) rfl ?_
          refine ev_jmp f_X1_openedByPlan (nx := 68) rfl rfl rfl ?_
          refine ev_loc f_X1_openedByPlan (nx := 69) (lo' := [(2, .int 1), (1, .int z29), (5, .int w26), (4, .int y1_4), (3, .int y1_3), (0, .ref 28)]) rfl rfl rfl rfl ?_
          refine ev_loc f_X1_openedByPlan (nx := 70) rfl rfl rfl rfl ?_
          refine ev_loc f_X1_openedByPlan (nx := 72) rfl rfl rfl rfl ?_
          refine ev_cI f_X1_openedByPlan (nx := 75) (r := []) rfl rfl rfl rfl rfl rfl rfl (c_turnEnd hI (w26)) rfl hX rfl (fun w30 gi30 gl30 gr30 l30 u30 hI hX hC30 => ?_)
          refine ev_loc f_X1_openedByPlan (nx := 76) (lo' := [(3, .int w30), (2, .int 1), (1, .int z29), (5, .int w26), (4, .int y1_4), (0, .ref 28)]) rfl rfl rfl rfl ?_
          refine ev_incR f_X1_openedByPlan (nx := 79) (c := 1) (l := 1) (u := 24) rfl rfl (by decide) (by decide) l1_4 u17 rfl rfl (by decide) (by decide) rfl (fun z31 e31 l31 u31 => ?_)
          refine ev_jmp f_X1_openedByPlan (nx := 9) rfl rfl rfl ?_
          refine ev_sub (lo := [(4, .int z31), (3, .int w30), (2, .int 1), (1, .int z29), (0, .ref 28)]) rfl (t_sc rfl (t_sc rfl (t_sc rfl (t_sc rfl (t_sc rfl t_sn))))) ?_
          exact ih1 _ (by omega) gi30 gl30 gr30 (z31) (w30) (1) (z29) hI hX  (Int.le_trans (by decide : (0:Int) ≤ 1) l31) u31 (Int.le_trans (by decide : (0:Int) ≤ 1) (by decide : (1:Int) ≤ (1:Int32).toInt)) (by decide : (1:Int32).toInt ≤ (1:Int)) rfl
        · have l32 : 1 ≤ y1_2.toInt := t_nel h27 l1_2 rfl rfl
          refine ev_loc f_X1_openedByPlan (nx := 51) rfl rfl rfl rfl ?_
          refine ev_loc f_X1_openedByPlan (nx := 52) rfl rfl rfl rfl ?_
          refine ev_anyI f_X1_openedByPlan (nx := 53) rfl rfl rfl rfl (fun z33 => ?_)
          refine ev_jmp f_X1_openedByPlan (nx := 57) rfl rfl rfl ?_
          refine ev_anyI f_X1_openedByPlan (nx := 58) rfl rfl rfl rfl (fun z34 => ?_)
          refine ev_loc f_X1_openedByPlan (nx := 59) (lo' := [(1, .int z34), (5, .int w26), (4, .int y1_4), (3, .int y1_3), (2, .int y1_2), (0, .ref 28)]) rfl rfl rfl rfl ?_
          refine ev_loc f_X1_openedByPlan (nx := 60) rfl rfl rfl rfl ?_
          refine ev_f f_X1_openedByPlan (t1 := 63) (t2 := 67) rfl rfl rfl (t_neT' (by decide : (0:Int32).toInt ≤ (0:Int)) l32 (by decide)) ?_
          refine ev_ic f_X1_openedByPlan (nx := 68) (v := 0) rfl (by decide) rfl ?_
          refine ev_loc f_X1_openedByPlan (nx := 69) (lo' := [(2, .int 0), (1, .int z34), (5, .int w26), (4, .int y1_4), (3, .int y1_3), (0, .ref 28)]) rfl rfl rfl rfl ?_
          refine ev_loc f_X1_openedByPlan (nx := 70) rfl rfl rfl rfl ?_
          refine ev_loc f_X1_openedByPlan (nx := 72) rfl rfl rfl rfl ?_
          refine ev_cI f_X1_openedByPlan (nx := 75) (r := []) rfl rfl rfl rfl rfl rfl rfl (c_turnEnd hI (w26)) rfl hX rfl (fun w35 gi35 gl35 gr35 l35 u35 hI hX hC35 => ?_)
          refine ev_loc f_X1_openedByPlan (nx := 76) (lo' := [(3, .int w35), (2, .int 0), (1, .int z34), (5, .int w26), (4, .int y1_4), (0, .ref 28)]) rfl rfl rfl rfl ?_
          refine ev_incR f_X1_openedByPlan (nx := 79) (c := 1) (l := 1) (u := 24) rfl rfl (by decide) (by decide) l1_4 u17 rfl rfl (by decide) (by decide) rfl (fun z36 e36 l36 u36 => ?_)
          refine ev_jmp f_X1_openedByPlan (nx := 9) rfl rfl rfl ?_
          refine ev_sub (lo := [(4, .int z36), (3, .int w35), (2, .int 0), (1, .int z34), (0, .ref 28)]) rfl (t_sc rfl (t_sc rfl (t_sc rfl (t_sc rfl (t_sc rfl t_sn))))) ?_
          exact ih1 _ (by omega) gi35 gl35 gr35 (z36) (w35) (0) (z34) hI hX  (Int.le_trans (by decide : (0:Int) ≤ 1) l36) u36 (by decide : (0:Int) ≤ (0:Int32).toInt) (Int.le_trans (by decide : (0:Int32).toInt ≤ (0:Int)) (by decide : (0:Int) ≤ 1)) rfl
      · refine ev_incR f_X1_openedByPlan (nx := 79) (c := 1) (l := 1) (u := 24) rfl rfl (by decide) (by decide) l1_4 u17 rfl rfl (by decide) (by decide) rfl (fun z37 e37 l37 u37 => ?_)
        refine ev_jmp f_X1_openedByPlan (nx := 9) rfl rfl rfl ?_
        refine ev_sub (lo := [(4, .int z37), (3, .int y1_3), (2, .int y1_2), (1, .int y1_1), (0, .ref 28)]) rfl (t_sc rfl (t_sc rfl (t_sc rfl (t_sc rfl (t_sc rfl t_sn))))) ?_
        exact ih1 _ (by omega) gi1 gl1 gr1 (z37) (y1_3) (y1_2) (y1_1) hI hX  (Int.le_trans (by decide : (0:Int) ≤ 1) l37) u37 l1_2 u1_2 rfl
  refine ev_sub (lo := [(4, .int 0), (3, .int 0), (2, .int 0), (1, .int 0), (0, .ref 28)]) rfl (t_sc rfl (t_sc rfl (t_sc rfl (t_sc rfl (t_sc rfl t_sn))))) ?_
  exact L1 _ gi gl gr (0) (0) (0) (0) hI hX  (by decide : (0:Int) ≤ (0:Int32).toInt) (Int.le_trans (by decide : (0:Int32).toInt ≤ (0:Int)) (by decide : (0:Int) ≤ 24)) (by decide : (0:Int) ≤ (0:Int32).toInt) (Int.le_trans (by decide : (0:Int32).toInt ≤ (0:Int)) (by decide : (0:Int) ≤ 1)) rfl
noncomputable def wl_waitingIn : List (Nat × Nat) := []
theorem c_waitingIn {X : x_Ext} {d : Nat} {sh : List (Nat ⊕ (Nat × Nat))} {gi : Nat → Nat → Int32} {gl : Nat → Nat → Int64} {gr : Nat → Nat → Value} (hI : t_I sh gi gr) (ar0 : Nat) (p_a0 : t_Ln sh gr ar0) (ar1 : Nat) (s_a1 : sh[ar1]? = some (.inr (0, 6))) (o_a1 : t_out ar1) (ar2 : Int32) : x_Me X (d + 1) n_X1_waitingIn [.ref ar0, .ref ar1, .int ar2] (sh, gi, gl, gr) (t_P wl_waitingIn sh gi gl gr (t_Ri (-2147483648) 2147483647)) := by
  have hX : t_X wl_waitingIn sh gi gl gr gi gl gr := t_X.rf
  refine me_s f_X1_waitingIn rfl rfl ?_
  refine ev_ic f_X1_waitingIn (nx := 1) (v := 0) rfl (by decide) rfl ?_
  refine ev_loc f_X1_waitingIn (nx := 2) (lo' := [(3, .int 0), (0, .ref ar0), (1, .ref ar1), (2, .int ar2)]) rfl rfl rfl rfl ?_
  refine ev_ic f_X1_waitingIn (nx := 3) (v := 0) rfl (by decide) rfl ?_
  refine ev_loc f_X1_waitingIn (nx := 5) (lo' := [(4, .int 0), (3, .int 0), (0, .ref ar0), (1, .ref ar1), (2, .int ar2)]) rfl rfl rfl rfl ?_
  have L1 : ∀ (m1 : Nat) (gi1 : Nat → Nat → Int32) (gl1 : Nat → Nat → Int64) (gr1 : Nat → Nat → Value) (y1_4 : Int32) (y1_3 : Int32), t_I sh gi1 gr1 → t_X wl_waitingIn sh gi gl gr gi1 gl1 gr1 → t_Ln sh gr1 ar0 → 0 ≤ y1_4.toInt → y1_4.toInt ≤ 6 → (6 - y1_4.toInt).toNat = m1 → x_Ev X (d + 1) n_X1_waitingIn 5 [(4, .int y1_4), (3, .int y1_3), (0, .ref ar0), (1, .ref ar1), (2, .int ar2)] [] (sh, gi1, gl1, gr1) (t_P wl_waitingIn sh gi gl gr (t_Ri (-2147483648) 2147483647)) := by
    intro m1
    induction m1 using Nat.strongRecOn with
    | _ m1 ih1 =>
    intro gi1 gl1 gr1 y1_4 y1_3 hI hX p_a0 l1_4 u1_4 hm1
    refine ev_loc f_X1_waitingIn (nx := 7) rfl rfl rfl rfl ?_
    refine ev_loc f_X1_waitingIn (nx := 8) rfl rfl rfl rfl ?_
    refine ev_getI f_X1_waitingIn (nx := 11) rfl p_a0.1 rfl rfl rfl ?_
    obtain ⟨l2, u2⟩ := hI.b p_a0.1 (t_bdK rfl : t_bd 3 0 = some (0, 6))
    refine ev_if f_X1_waitingIn (t1 := 49) (t2 := 14) rfl rfl rfl (fun h3 => ?_) (fun h3 => ?_)
    · refine ev_loc f_X1_waitingIn (nx := 50) rfl rfl rfl rfl ?_
      exact ev_ret f_X1_waitingIn rfl rfl rfl ⟨_, _, _, rfl, hI, hX, ⟨_, rfl, (t_lo y1_3), (t_hi y1_3)⟩⟩
    · have u4 : y1_4.toInt ≤ 5 := t_ltu (t_nle h3) u2 rfl
      have l5 : 1 ≤ (gi1 ar0 0).toInt := t_ltl (t_nle h3) l1_4 rfl
      refine ev_loc f_X1_waitingIn (nx := 16) rfl rfl rfl rfl ?_
      refine ev_loc f_X1_waitingIn (nx := 17) rfl rfl rfl rfl ?_
      refine ev_alenv f_X1_waitingIn (nx := 18) (w := 6) rfl s_a1 rfl (by decide) rfl ?_
      refine ev_f f_X1_waitingIn (t1 := 49) (t2 := 21) rfl rfl rfl (t_leF u4 (by decide : (6:Int) ≤ (6:Int32).toInt) (by decide)) ?_
      refine ev_loc f_X1_waitingIn (nx := 22) rfl rfl rfl rfl ?_
      obtain ⟨a6, e6, s6, o6⟩ := p_a0.2.2.1
      refine ev_getR f_X1_waitingIn (nx := 25) rfl p_a0.1 rfl rfl e6 rfl rfl ?_
      refine ev_loc f_X1_waitingIn (nx := 27) rfl rfl rfl rfl ?_
      refine ev_ialdT f_X1_waitingIn (nx := 28) rfl s6 l1_4 (by decide) u4 (by decide) rfl (fun w7 e7 => ?_)
      refine ev_loc f_X1_waitingIn (nx := 29) rfl rfl rfl rfl ?_
      refine ev_if f_X1_waitingIn (t1 := 43) (t2 := 32) rfl rfl rfl (fun h8 => ?_) (fun h8 => ?_)
      · have u9 : ar2.toInt ≤ 2147483646 := t_ltu h8 (t_hi w7) rfl
        have l10 : (-2147483647) ≤ w7.toInt := t_ltl h8 (t_lo ar2) rfl
        refine ev_incR f_X1_waitingIn (nx := 46) (c := 1) (l := 1) (u := 6) rfl rfl (by decide) (by decide) l1_4 u4 rfl rfl (by decide) (by decide) rfl (fun z11 e11 l11 u11 => ?_)
        refine ev_jmp f_X1_waitingIn (nx := 5) rfl rfl rfl ?_
        refine ev_sub (lo := [(4, .int z11), (3, .int y1_3), (0, .ref ar0), (1, .ref ar1), (2, .int ar2)]) rfl (t_sc rfl (t_sc rfl (t_sc rfl (t_sc rfl (t_sc rfl t_sn))))) ?_
        exact ih1 _ (by omega) gi1 gl1 gr1 (z11) (y1_3) hI hX p_a0 (Int.le_trans (by decide : (0:Int) ≤ 1) l11) u11 rfl
      · refine ev_loc f_X1_waitingIn (nx := 33) rfl rfl rfl rfl ?_
        refine ev_loc f_X1_waitingIn (nx := 35) rfl rfl rfl rfl ?_
        refine ev_ialdT f_X1_waitingIn (nx := 36) rfl s_a1 l1_4 (by decide) u4 (by decide) rfl (fun w12 e12 => ?_)
        refine ev_loc f_X1_waitingIn (nx := 37) rfl rfl rfl rfl ?_
        refine ev_if f_X1_waitingIn (t1 := 43) (t2 := 40) rfl rfl rfl (fun h13 => ?_) (fun h13 => ?_)
        · refine ev_incR f_X1_waitingIn (nx := 46) (c := 1) (l := 1) (u := 6) rfl rfl (by decide) (by decide) l1_4 u4 rfl rfl (by decide) (by decide) rfl (fun z14 e14 l14 u14 => ?_)
          refine ev_jmp f_X1_waitingIn (nx := 5) rfl rfl rfl ?_
          refine ev_sub (lo := [(4, .int z14), (3, .int y1_3), (0, .ref ar0), (1, .ref ar1), (2, .int ar2)]) rfl (t_sc rfl (t_sc rfl (t_sc rfl (t_sc rfl (t_sc rfl t_sn))))) ?_
          exact ih1 _ (by omega) gi1 gl1 gr1 (z14) (y1_3) hI hX p_a0 (Int.le_trans (by decide : (0:Int) ≤ 1) l14) u14 rfl
        · have u15 : ar2.toInt ≤ 2147483646 := t_ltu (t_nle h13) (t_hi w12) rfl
          have l16 : (-2147483647) ≤ w12.toInt := t_ltl (t_nle h13) (t_lo ar2) rfl
          refine ev_incN f_X1_waitingIn (nx := 43) rfl rfl (by decide) rfl (fun z17 => ?_)
          refine ev_incR f_X1_waitingIn (nx := 46) (c := 1) (l := 1) (u := 6) rfl rfl (by decide) (by decide) l1_4 u4 rfl rfl (by decide) (by decide) rfl (fun z18 e18 l18 u18 => ?_)
          refine ev_jmp f_X1_waitingIn (nx := 5) rfl rfl rfl ?_
          refine ev_sub (lo := [(4, .int z18), (3, .int z17), (0, .ref ar0), (1, .ref ar1), (2, .int ar2)]) rfl (t_sc rfl (t_sc rfl (t_sc rfl (t_sc rfl (t_sc rfl t_sn))))) ?_
          exact ih1 _ (by omega) gi1 gl1 gr1 (z18) (z17) hI hX p_a0 (Int.le_trans (by decide : (0:Int) ≤ 1) l18) u18 rfl
  refine ev_sub (lo := [(4, .int 0), (3, .int 0), (0, .ref ar0), (1, .ref ar1), (2, .int ar2)]) rfl (t_sc rfl (t_sc rfl (t_sc rfl (t_sc rfl (t_sc rfl t_sn))))) ?_
  exact L1 _ gi gl gr (0) (0) hI hX p_a0 (by decide : (0:Int) ≤ (0:Int32).toInt) (Int.le_trans (by decide : (0:Int32).toInt ≤ (0:Int)) (by decide : (0:Int) ≤ 6)) rfl
noncomputable def wl_busiestByPlan : List (Nat × Nat) := []
theorem c_busiestByPlan {X : x_Ext} {d : Nat} {sh : List (Nat ⊕ (Nat × Nat))} {gi : Nat → Nat → Int32} {gl : Nat → Nat → Int64} {gr : Nat → Nat → Value} (hI : t_I sh gi gr) : x_Me X (d + 2) n_X1_busiestByPlan [.ref 28] (sh, gi, gl, gr) (t_P wl_busiestByPlan sh gi gl gr (t_Ri (-1) 240)) := by
  have hX : t_X wl_busiestByPlan sh gi gl gr gi gl gr := t_X.rf
  refine me_i f_X1_busiestByPlan (hI.wf.s rfl) rfl rfl rfl ?_
  refine ev_ic f_X1_busiestByPlan (nx := 1) (v := 0) rfl (by decide) rfl ?_
  refine ev_loc f_X1_busiestByPlan (nx := 2) (lo' := [(1, .int 0), (0, .ref 28)]) rfl rfl rfl rfl ?_
  refine ev_ic f_X1_busiestByPlan (nx := 3) (v := -1) rfl (by decide) rfl ?_
  refine ev_loc f_X1_busiestByPlan (nx := 4) (lo' := [(2, .int (-1)), (1, .int 0), (0, .ref 28)]) rfl rfl rfl rfl ?_
  refine ev_ic f_X1_busiestByPlan (nx := 5) (v := 0) rfl (by decide) rfl ?_
  refine ev_loc f_X1_busiestByPlan (nx := 6) (lo' := [(3, .int 0), (2, .int (-1)), (1, .int 0), (0, .ref 28)]) rfl rfl rfl rfl ?_
  have L1 : ∀ (m1 : Nat) (gi1 : Nat → Nat → Int32) (gl1 : Nat → Nat → Int64) (gr1 : Nat → Nat → Value) (y1_3 : Int32) (y1_2 : Int32) (y1_1 : Int32), t_I sh gi1 gr1 → t_X wl_busiestByPlan sh gi gl gr gi1 gl1 gr1 → 0 ≤ y1_3.toInt → y1_3.toInt ≤ 241 → (-1) ≤ y1_2.toInt → y1_2.toInt ≤ 240 → 0 ≤ y1_1.toInt → (241 - y1_3.toInt).toNat = m1 → x_Ev X (d + 2) n_X1_busiestByPlan 6 [(3, .int y1_3), (2, .int y1_2), (1, .int y1_1), (0, .ref 28)] [] (sh, gi1, gl1, gr1) (t_P wl_busiestByPlan sh gi gl gr (t_Ri (-1) 240)) := by
    intro m1
    induction m1 using Nat.strongRecOn with
    | _ m1 ih1 =>
    intro gi1 gl1 gr1 y1_3 y1_2 y1_1 hI hX l1_3 u1_3 l1_2 u1_2 l1_1 hm1
    refine ev_loc f_X1_busiestByPlan (nx := 7) rfl rfl rfl rfl ?_
    refine ev_sp f_X1_busiestByPlan (nx := 10) (v := 240) rfl (by decide) rfl ?_
    refine ev_if f_X1_busiestByPlan (t1 := 57) (t2 := 13) rfl rfl rfl (fun h2 => ?_) (fun h2 => ?_)
    · have l3 : 241 ≤ y1_3.toInt := t_ltl h2 (by decide : (240:Int) ≤ (240:Int32).toInt) rfl
      refine ev_loc f_X1_busiestByPlan (nx := 58) rfl rfl rfl rfl ?_
      exact ev_ret f_X1_busiestByPlan rfl rfl rfl ⟨_, _, _, rfl, hI, hX, ⟨_, rfl, l1_2, u1_2⟩⟩
    · have u4 : y1_3.toInt ≤ 240 := t_leu (t_nlt h2) (by decide : (240:Int32).toInt ≤ (240:Int))
      refine ev_loc f_X1_busiestByPlan (nx := 14) rfl rfl rfl rfl ?_
      refine ev_getR f_X1_busiestByPlan (nx := 17) rfl (hI.wf.s rfl) rfl rfl (hI.wf.r rfl) rfl rfl ?_
      refine ev_loc f_X1_busiestByPlan (nx := 18) rfl rfl rfl rfl ?_
      refine ev_getR f_X1_busiestByPlan (nx := 21) rfl (hI.wf.s rfl) rfl rfl (hI.wf.r rfl) rfl rfl ?_
      refine ev_loc f_X1_busiestByPlan (nx := 22) rfl rfl rfl rfl ?_
      refine ev_cI f_X1_busiestByPlan (nx := 25) (r := []) rfl rfl rfl rfl rfl rfl rfl (c_waitingIn hI 29 (t_Ln29 hI.wf) 43 (hI.wf.s rfl) (Or.inl (by decide)) (y1_3)) rfl hX rfl (fun w5 gi5 gl5 gr5 l5 u5 hI hX hC5 => ?_)
      refine ev_loc f_X1_busiestByPlan (nx := 26) rfl rfl rfl rfl ?_
      refine ev_getR f_X1_busiestByPlan (nx := 29) rfl (hI.wf.s rfl) rfl rfl (hI.wf.r rfl) rfl rfl ?_
      refine ev_loc f_X1_busiestByPlan (nx := 30) rfl rfl rfl rfl ?_
      refine ev_getR f_X1_busiestByPlan (nx := 33) rfl (hI.wf.s rfl) rfl rfl (hI.wf.r rfl) rfl rfl ?_
      refine ev_loc f_X1_busiestByPlan (nx := 34) rfl rfl rfl rfl ?_
      refine ev_cI f_X1_busiestByPlan (nx := 37) (r := [.int w5]) rfl rfl rfl rfl rfl rfl rfl (c_waitingIn hI 35 (t_Ln35 hI.wf) 44 (hI.wf.s rfl) (Or.inl (by decide)) (y1_3)) rfl hX rfl (fun w6 gi6 gl6 gr6 l6 u6 hI hX hC6 => ?_)
      refine ev_anyI f_X1_busiestByPlan (nx := 38) rfl rfl rfl rfl (fun z7 => ?_)
      refine ev_loc f_X1_busiestByPlan (nx := 40) (lo' := [(4, .int z7), (3, .int y1_3), (2, .int y1_2), (1, .int y1_1), (0, .ref 28)]) rfl rfl rfl rfl ?_
      refine ev_loc f_X1_busiestByPlan (nx := 42) rfl rfl rfl rfl ?_
      refine ev_loc f_X1_busiestByPlan (nx := 43) rfl rfl rfl rfl ?_
      refine ev_if f_X1_busiestByPlan (t1 := 51) (t2 := 46) rfl rfl rfl (fun h8 => ?_) (fun h8 => ?_)
      · refine ev_incR f_X1_busiestByPlan (nx := 54) (c := 1) (l := 1) (u := 241) rfl rfl (by decide) (by decide) l1_3 u4 rfl rfl (by decide) (by decide) rfl (fun z9 e9 l9 u9 => ?_)
        refine ev_jmp f_X1_busiestByPlan (nx := 6) rfl rfl rfl ?_
        refine ev_sub (lo := [(3, .int z9), (2, .int y1_2), (1, .int y1_1), (0, .ref 28)]) rfl (t_sc rfl (t_sc rfl (t_sc rfl (t_sc rfl t_sn)))) ?_
        exact ih1 _ (by omega) gi6 gl6 gr6 (z9) (y1_2) (y1_1) hI hX  (Int.le_trans (by decide : (0:Int) ≤ 1) l9) u9 l1_2 u1_2 l1_1 rfl
      · have u10 : y1_1.toInt ≤ 2147483646 := t_ltu (t_nle h8) (t_hi z7) rfl
        have l11 : 1 ≤ z7.toInt := t_ltl (t_nle h8) l1_1 rfl
        refine ev_loc f_X1_busiestByPlan (nx := 48) rfl rfl rfl rfl ?_
        refine ev_loc f_X1_busiestByPlan (nx := 49) (lo' := [(1, .int z7), (4, .int z7), (3, .int y1_3), (2, .int y1_2), (0, .ref 28)]) rfl rfl rfl rfl ?_
        refine ev_loc f_X1_busiestByPlan (nx := 50) rfl rfl rfl rfl ?_
        refine ev_loc f_X1_busiestByPlan (nx := 51) (lo' := [(2, .int y1_3), (1, .int z7), (4, .int z7), (3, .int y1_3), (0, .ref 28)]) rfl rfl rfl rfl ?_
        refine ev_incR f_X1_busiestByPlan (nx := 54) (c := 1) (l := 1) (u := 241) rfl rfl (by decide) (by decide) l1_3 u4 rfl rfl (by decide) (by decide) rfl (fun z12 e12 l12 u12 => ?_)
        refine ev_jmp f_X1_busiestByPlan (nx := 6) rfl rfl rfl ?_
        refine ev_sub (lo := [(3, .int z12), (2, .int y1_3), (1, .int z7), (0, .ref 28)]) rfl (t_sc rfl (t_sc rfl (t_sc rfl (t_sc rfl t_sn)))) ?_
        exact ih1 _ (by omega) gi6 gl6 gr6 (z12) (y1_3) (z7) hI hX  (Int.le_trans (by decide : (0:Int) ≤ 1) l12) u12 (Int.le_trans (by decide : ((-1):Int) ≤ 0) l1_3) u4 (Int.le_trans (by decide : (0:Int) ≤ 1) l11) rfl
  refine ev_sub (lo := [(3, .int 0), (2, .int (-1)), (1, .int 0), (0, .ref 28)]) rfl (t_sc rfl (t_sc rfl (t_sc rfl (t_sc rfl t_sn)))) ?_
  exact L1 _ gi gl gr (0) ((-1)) (0) hI hX  (by decide : (0:Int) ≤ (0:Int32).toInt) (Int.le_trans (by decide : (0:Int32).toInt ≤ (0:Int)) (by decide : (0:Int) ≤ 241)) (by decide : ((-1):Int) ≤ ((-1):Int32).toInt) (Int.le_trans (by decide : ((-1):Int32).toInt ≤ ((-1):Int)) (by decide : ((-1):Int) ≤ 240)) (by decide : (0:Int) ≤ (0:Int32).toInt) rfl
noncomputable def wl_factTold : List (Nat × Nat) := []
theorem c_factTold {X : x_Ext} {d : Nat} {sh : List (Nat ⊕ (Nat × Nat))} {gi : Nat → Nat → Int32} {gl : Nat → Nat → Int64} {gr : Nat → Nat → Value} (hI : t_I sh gi gr) (ar0 : Nat) (p_a0 : t_RL sh gr ar0) : x_Me X (d + 1) n_X8_factTold [.ref ar0] (sh, gi, gl, gr) (t_P wl_factTold sh gi gl gr (t_Ri (-1) 5)) := by
  have hX : t_X wl_factTold sh gi gl gr gi gl gr := t_X.rf
  refine me_i f_X8_factTold p_a0.1 rfl rfl rfl ?_
  refine ev_loc f_X8_factTold (nx := 1) rfl rfl rfl rfl ?_
  obtain ⟨a1, e1, p1⟩ := p_a0.2.1
  refine ev_getR f_X8_factTold (nx := 4) rfl p_a0.1 rfl rfl e1 rfl rfl ?_
  have k2 := hI.2.2.2.1.2.2.2.2.2 a1 p1.1
  obtain ⟨v2, e2⟩ : ∃ v, gr a1 7 = v := ⟨_, rfl⟩
  rw [e2] at k2
  refine ev_getR f_X8_factTold (nx := 7) rfl p1.1 rfl rfl e2 (t_KwR k2) rfl ?_
  refine ev_heap f_X8_factTold (nx := 10) rfl rfl rfl rfl ?_
  refine ev_ack f_X8_factTold (t1 := 26) (t2 := 13) rfl rfl rfl (t_knw k2) rfl (fun h3 => ?_) (fun h3 => ?_)
  · refine ev_ic f_X8_factTold (nx := 27) (v := 0) rfl (by decide) rfl ?_
    exact ev_ret f_X8_factTold rfl rfl rfl ⟨_, _, _, rfl, hI, hX, ⟨_, rfl, (Int.le_trans (by decide : ((-1):Int) ≤ 0) (by decide : (0:Int) ≤ (0:Int32).toInt)), (Int.le_trans (by decide : (0:Int32).toInt ≤ (0:Int)) (by decide : (0:Int) ≤ 5))⟩⟩
  · refine ev_loc f_X8_factTold (nx := 14) rfl rfl rfl rfl ?_
    refine ev_getR f_X8_factTold (nx := 17) (v := .ref a1) rfl p_a0.1 rfl rfl e1 rfl rfl ?_
    refine ev_getR f_X8_factTold (nx := 20) (v := v2) rfl p1.1 rfl rfl e2 (t_KwR k2) rfl ?_
    refine ev_heap f_X8_factTold (nx := 23) rfl rfl rfl rfl ?_
    refine ev_ack f_X8_factTold (t1 := 26) (t2 := 28) rfl rfl rfl (t_knw k2) rfl (fun h4 => ?_) (fun h4 => ?_)
    · refine ev_ic f_X8_factTold (nx := 27) (v := 0) rfl (by decide) rfl ?_
      exact ev_ret f_X8_factTold rfl rfl rfl ⟨_, _, _, rfl, hI, hX, ⟨_, rfl, (Int.le_trans (by decide : ((-1):Int) ≤ 0) (by decide : (0:Int) ≤ (0:Int32).toInt)), (Int.le_trans (by decide : (0:Int32).toInt ≤ (0:Int)) (by decide : (0:Int) ≤ 5))⟩⟩
    · refine ev_loc f_X8_factTold (nx := 29) rfl rfl rfl rfl ?_
      refine ev_getR f_X8_factTold (nx := 32) (v := .ref a1) rfl p_a0.1 rfl rfl e1 rfl rfl ?_
      refine ev_getR f_X8_factTold (nx := 35) (v := v2) rfl p1.1 rfl rfl e2 (t_KwR k2) rfl ?_
      refine ev_heap f_X8_factTold (nx := 38) rfl rfl rfl rfl ?_
      refine ev_ack f_X8_factTold (t1 := 41) (t2 := 43) rfl rfl rfl (t_knw k2) rfl (fun h5 => ?_) (fun h5 => ?_)
      · refine ev_ic f_X8_factTold (nx := 42) (v := 1) rfl (by decide) rfl ?_
        exact ev_ret f_X8_factTold rfl rfl rfl ⟨_, _, _, rfl, hI, hX, ⟨_, rfl, (Int.le_trans (by decide : ((-1):Int) ≤ 1) (by decide : (1:Int) ≤ (1:Int32).toInt)), (Int.le_trans (by decide : (1:Int32).toInt ≤ (1:Int)) (by decide : (1:Int) ≤ 5))⟩⟩
      · refine ev_loc f_X8_factTold (nx := 44) rfl rfl rfl rfl ?_
        refine ev_getR f_X8_factTold (nx := 47) (v := .ref a1) rfl p_a0.1 rfl rfl e1 rfl rfl ?_
        refine ev_getR f_X8_factTold (nx := 50) (v := v2) rfl p1.1 rfl rfl e2 (t_KwR k2) rfl ?_
        refine ev_heap f_X8_factTold (nx := 53) rfl rfl rfl rfl ?_
        refine ev_ack f_X8_factTold (t1 := 56) (t2 := 58) rfl rfl rfl (t_knw k2) rfl (fun h6 => ?_) (fun h6 => ?_)
        · refine ev_ic f_X8_factTold (nx := 57) (v := 2) rfl (by decide) rfl ?_
          exact ev_ret f_X8_factTold rfl rfl rfl ⟨_, _, _, rfl, hI, hX, ⟨_, rfl, (Int.le_trans (by decide : ((-1):Int) ≤ 2) (by decide : (2:Int) ≤ (2:Int32).toInt)), (Int.le_trans (by decide : (2:Int32).toInt ≤ (2:Int)) (by decide : (2:Int) ≤ 5))⟩⟩
        · refine ev_loc f_X8_factTold (nx := 59) rfl rfl rfl rfl ?_
          refine ev_getR f_X8_factTold (nx := 62) (v := .ref a1) rfl p_a0.1 rfl rfl e1 rfl rfl ?_
          refine ev_getR f_X8_factTold (nx := 65) (v := v2) rfl p1.1 rfl rfl e2 (t_KwR k2) rfl ?_
          refine ev_heap f_X8_factTold (nx := 68) rfl rfl rfl rfl ?_
          refine ev_ack f_X8_factTold (t1 := 71) (t2 := 73) rfl rfl rfl (t_knw k2) rfl (fun h7 => ?_) (fun h7 => ?_)
          · refine ev_ic f_X8_factTold (nx := 72) (v := 3) rfl (by decide) rfl ?_
            exact ev_ret f_X8_factTold rfl rfl rfl ⟨_, _, _, rfl, hI, hX, ⟨_, rfl, (Int.le_trans (by decide : ((-1):Int) ≤ 3) (by decide : (3:Int) ≤ (3:Int32).toInt)), (Int.le_trans (by decide : (3:Int32).toInt ≤ (3:Int)) (by decide : (3:Int) ≤ 5))⟩⟩
          · refine ev_loc f_X8_factTold (nx := 74) rfl rfl rfl rfl ?_
            refine ev_getR f_X8_factTold (nx := 77) (v := .ref a1) rfl p_a0.1 rfl rfl e1 rfl rfl ?_
            refine ev_getR f_X8_factTold (nx := 80) (v := v2) rfl p1.1 rfl rfl e2 (t_KwR k2) rfl ?_
            refine ev_heap f_X8_factTold (nx := 83) rfl rfl rfl rfl ?_
            refine ev_ack f_X8_factTold (t1 := 86) (t2 := 88) rfl rfl rfl (t_knw k2) rfl (fun h8 => ?_) (fun h8 => ?_)
            · refine ev_ic f_X8_factTold (nx := 87) (v := 4) rfl (by decide) rfl ?_
              exact ev_ret f_X8_factTold rfl rfl rfl ⟨_, _, _, rfl, hI, hX, ⟨_, rfl, (Int.le_trans (by decide : ((-1):Int) ≤ 4) (by decide : (4:Int) ≤ (4:Int32).toInt)), (Int.le_trans (by decide : (4:Int32).toInt ≤ (4:Int)) (by decide : (4:Int) ≤ 5))⟩⟩
            · refine ev_loc f_X8_factTold (nx := 89) rfl rfl rfl rfl ?_
              refine ev_getR f_X8_factTold (nx := 92) (v := .ref a1) rfl p_a0.1 rfl rfl e1 rfl rfl ?_
              refine ev_getR f_X8_factTold (nx := 95) (v := v2) rfl p1.1 rfl rfl e2 (t_KwR k2) rfl ?_
              refine ev_heap f_X8_factTold (nx := 98) rfl rfl rfl rfl ?_
              refine ev_ack f_X8_factTold (t1 := 101) (t2 := 105) rfl rfl rfl (t_knw k2) rfl (fun h9 => ?_) (fun h9 => ?_)
              · refine ev_ic f_X8_factTold (nx := 102) (v := 5) rfl (by decide) rfl ?_
                refine ev_jmp f_X8_factTold (nx := 106) rfl rfl rfl ?_
                exact ev_ret f_X8_factTold rfl rfl rfl ⟨_, _, _, rfl, hI, hX, ⟨_, rfl, (Int.le_trans (by decide : ((-1):Int) ≤ 5) (by decide : (5:Int) ≤ (5:Int32).toInt)), (by decide : (5:Int32).toInt ≤ (5:Int))⟩⟩
              · refine ev_ic f_X8_factTold (nx := 106) (v := -1) rfl (by decide) rfl ?_
                exact ev_ret f_X8_factTold rfl rfl rfl ⟨_, _, _, rfl, hI, hX, ⟨_, rfl, (by decide : ((-1):Int) ≤ ((-1):Int32).toInt), (Int.le_trans (by decide : ((-1):Int32).toInt ≤ ((-1):Int)) (by decide : ((-1):Int) ≤ 5))⟩⟩
