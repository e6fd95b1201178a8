/-! ===== printed by riv.py: the search ===== -/
noncomputable def wl_d_turnEnd : List (Nat × Nat) := []
noncomputable def Q_d_turnEnd (gi : Nat → Nat → Int32) (gl : Nat → Nat → Int64) (gr : Nat → Nat → Value) (ar1 : Int32) : Int32 → (Nat → Nat → Int32) → (Nat → Nat → Int64) → (Nat → Nat → Value) → Prop := fun (v : Int32) (gi2 : Nat → Nat → Int32) (gl2 : Nat → Nat → Int64) (gr2 : Nat → Nat → Value) => ∀ P : Nat → Nat → Int, s_CP P gi gr → s_PB P → 0 ≤ ar1.toInt → ar1.toInt ≤ 3000 → v.toInt = ar1.toInt + P 8 ar1.toInt.toNat
theorem c_d_turnEnd {X : x_Ext} {d : Nat} {sh : List (Nat ⊕ (Nat × Nat))} {gi : Nat → Nat → Int32} {gl : Nat → Nat → Int64} {gr : Nat → Nat → Value} (hI : t_I sh gi gr) (ar1 : Int32) : x_Me X (d + 2) n_X1_turnEnd [.ref 28, .int ar1] (sh, gi, gl, gr) (t_PI wl_d_turnEnd sh gi gl gr (-2147483648) 2147483647 (Q_d_turnEnd gi gl gr ar1)) := by
  have hX : t_X wl_d_turnEnd sh gi gl gr gi gl gr := t_X.rf
  refine me_i f_X1_turnEnd (hI.wf.s rfl) rfl rfl rfl ?_
  refine ev_loc f_X1_turnEnd (nx := 1) rfl rfl rfl rfl ?_
  rcases hI.2.2.2.1.2.2.2.2.1 with e1 | ⟨a1, e1, p1⟩
  · refine ev_getR f_X1_turnEnd (nx := 4) rfl (hI.wf.s rfl) rfl rfl e1 rfl rfl ?_
    refine ev_jmp f_X1_turnEnd (nx := 7) rfl rfl rfl ?_
    refine ev_loc f_X1_turnEnd (nx := 8) rfl rfl rfl rfl ?_
    refine ev_loc f_X1_turnEnd (nx := 9) rfl rfl rfl rfl ?_
    refine ev_getI f_X1_turnEnd (nx := 12) rfl (hI.wf.s rfl) rfl rfl rfl ?_
    refine ev_anyIE f_X1_turnEnd (nx := 13) rfl rfl rfl rfl (fun z2 e2 => ?_)
    refine ev_jmp f_X1_turnEnd (nx := 30) rfl rfl rfl ?_
    exact ev_ret f_X1_turnEnd rfl rfl rfl ⟨_, _, _, rfl, hI, hX, ⟨_, rfl, (t_lo z2), (t_hi z2), (show ∀ P : Nat → Nat → Int, s_CP P gi gr → s_PB P → 0 ≤ ar1.toInt → ar1.toInt ≤ 3000 → z2.toInt = ar1.toInt + P 8 ar1.toInt.toNat from (by
                                                            intro P hc hb h0 h1
                                                            have hx := hb.2.2.2 ar1.toInt.toNat
                                                            have hm : ((ar1.toInt.toNat : Nat) : Int) = ar1.toInt := Int.toNat_of_nonneg h0
                                                            rcases hc.2.2.2 with ⟨hn, h8⟩ | ⟨w, hv, hv2, h8⟩
                                                            · have h9 := h8 ar1.toInt.toNat
                                                              rw [h9] at hx ⊢
                                                              exact s_add e2 rfl rfl (by omega)
                                                            · rw [e1] at hv; cases hv))⟩⟩
  · refine ev_getR f_X1_turnEnd (nx := 4) rfl (hI.wf.s rfl) rfl rfl e1 rfl rfl ?_
    refine ev_jmp f_X1_turnEnd (nx := 16) rfl rfl rfl ?_
    refine ev_loc f_X1_turnEnd (nx := 17) rfl rfl rfl rfl ?_
    refine ev_loc f_X1_turnEnd (nx := 18) rfl rfl rfl rfl ?_
    refine ev_getR f_X1_turnEnd (nx := 21) (v := .ref a1) rfl (hI.wf.s rfl) rfl rfl e1 rfl rfl ?_
    refine ev_loc f_X1_turnEnd (nx := 22) rfl rfl rfl rfl ?_
    refine ev_getI f_X1_turnEnd (nx := 25) rfl (hI.wf.s rfl) rfl rfl rfl ?_
    refine ev_loc f_X1_turnEnd (nx := 26) rfl rfl rfl rfl ?_
    refine ev_inV3 f_X1_turnEnd (nx := 29) (lo2 := [(0, .ref a1), (1, .int (gi 28 1)), (2, .int ar1)]) rfl rfl rfl rfl f_X5_turnLength p1.1 rfl rfl rfl rfl rfl ?_
    refine ev_loc f_X5_turnLength (nx := 1) rfl rfl rfl rfl ?_
    refine ev_loc f_X5_turnLength (nx := 2) rfl rfl rfl rfl ?_
    refine ev_getI f_X5_turnLength (nx := 5) rfl p1.1 rfl rfl rfl ?_
    refine ev_if f_X5_turnLength (t1 := 17) (t2 := 8) rfl rfl rfl (fun h3 => ?_) (fun h3 => ?_)
    · have r4 : ar1.toInt < (gi a1 5).toInt := Int32.lt_iff_toInt_lt.mp h3
      have u5 : ar1.toInt ≤ 2147483646 := t_ltu h3 (t_hi (gi a1 5)) rfl
      have l6 : (-2147483647) ≤ (gi a1 5).toInt := t_ltl h3 (t_lo ar1) rfl
      refine ev_loc f_X5_turnLength (nx := 18) rfl rfl rfl rfl ?_
      refine ev_retK1 f_X5_turnLength rfl rfl rfl ?_
      refine ev_anyIE f_X1_turnEnd (nx := 30) rfl rfl rfl rfl (fun z7 e7 => ?_)
      exact ev_ret f_X1_turnEnd rfl rfl rfl ⟨_, _, _, rfl, hI, hX, ⟨_, rfl, (t_lo z7), (t_hi z7), (show ∀ P : Nat → Nat → Int, s_CP P gi gr → s_PB P → 0 ≤ ar1.toInt → ar1.toInt ≤ 3000 → z7.toInt = ar1.toInt + P 8 ar1.toInt.toNat from (by
                                                            intro P hc hb h0 h1
                                                            have hx := hb.2.2.2 ar1.toInt.toNat
                                                            have hm : ((ar1.toInt.toNat : Nat) : Int) = ar1.toInt := Int.toNat_of_nonneg h0
                                                            rcases hc.2.2.2 with ⟨hn, h8⟩ | ⟨w, hv, hv2, h8⟩
                                                            · rw [e1] at hn; cases hn
                                                            · have hw : w = a1 := Value.ref.inj (hv.symm.trans e1)
                                                              subst hw
                                                              have h9 := h8 ar1.toInt.toNat
                                                              rw [hm] at h9
                                                              rw [if_pos (by omega)] at h9
                                                              have hz := s_add e7 rfl rfl (by omega)
                                                              omega))⟩⟩
    · have r8 : (gi a1 5).toInt ≤ ar1.toInt := Int32.le_iff_toInt_le.mp (t_nlt h3)
      refine ev_loc f_X5_turnLength (nx := 9) rfl rfl rfl rfl ?_
      refine ev_loc f_X5_turnLength (nx := 10) rfl rfl rfl rfl ?_
      refine ev_getI f_X5_turnLength (nx := 13) rfl p1.1 rfl rfl rfl ?_
      refine ev_anyIE f_X5_turnLength (nx := 14) rfl rfl rfl rfl (fun z9 e9 => ?_)
      refine ev_jmp f_X5_turnLength (nx := 18) rfl rfl rfl ?_
      refine ev_retK1 f_X5_turnLength rfl rfl rfl ?_
      refine ev_anyIE f_X1_turnEnd (nx := 30) rfl rfl rfl rfl (fun z10 e10 => ?_)
      exact ev_ret f_X1_turnEnd rfl rfl rfl ⟨_, _, _, rfl, hI, hX, ⟨_, rfl, (t_lo z10), (t_hi z10), (show ∀ P : Nat → Nat → Int, s_CP P gi gr → s_PB P → 0 ≤ ar1.toInt → ar1.toInt ≤ 3000 → z10.toInt = ar1.toInt + P 8 ar1.toInt.toNat from (by
                                                            intro P hc hb h0 h1
                                                            have hx := hb.2.2.2 ar1.toInt.toNat
                                                            have hm : ((ar1.toInt.toNat : Nat) : Int) = ar1.toInt := Int.toNat_of_nonneg h0
                                                            rcases hc.2.2.2 with ⟨hn, h8⟩ | ⟨w, hv, hv2, h8⟩
                                                            · rw [e1] at hn; cases hn
                                                            · have hw : w = a1 := Value.ref.inj (hv.symm.trans e1)
                                                              subst hw
                                                              have h9 := h8 ar1.toInt.toNat
                                                              rw [hm] at h9
                                                              rw [if_neg (by omega)] at h9
                                                              have hy := s_add e9 rfl rfl (by omega)
                                                              have hz := s_add e10 rfl hy (by omega)
                                                              omega))⟩⟩
noncomputable def wl_d_canBegin_29 : List (Nat × Nat) := []
noncomputable def Q_d_canBegin_29 (gi : Nat → Nat → Int32) (gl : Nat → Nat → Int64) (gr : Nat → Nat → Value) (ar1 : Int32) (ar2 : Int32) : Int32 → (Nat → Nat → Int32) → (Nat → Nat → Int64) → (Nat → Nat → Value) → Prop := fun (v : Int32) (gi2 : Nat → Nat → Int32) (gl2 : Nat → Nat → Int64) (gr2 : Nat → Nat → Value) => s_may ar1.toInt (gi 29 0).toInt ar2.toInt (gi 31 ar1.toNatClampNeg).toInt (gi 34 ar1.toNatClampNeg).toInt v.toInt
theorem c_d_canBegin_29 {X : x_Ext} {d : Nat} {sh : List (Nat ⊕ (Nat × Nat))} {gi : Nat → Nat → Int32} {gl : Nat → Nat → Int64} {gr : Nat → Nat → Value} (hI : t_I sh gi gr) (ar1 : Int32) (ar2 : Int32) : x_Me X (d + 1) n_X1_canBegin [.ref 29, .int ar1, .int ar2] (sh, gi, gl, gr) (t_PI wl_d_canBegin_29 sh gi gl gr 0 1 (Q_d_canBegin_29 gi gl gr ar1 ar2)) := by
  have hX : t_X wl_d_canBegin_29 sh gi gl gr gi gl gr := t_X.rf
  refine me_s f_X1_canBegin rfl rfl ?_
  obtain ⟨l1, u1⟩ := hI.b (hI.wf.s (k := 29) rfl) (t_bdK rfl : t_bd 3 0 = some (0, 6))
  refine ev_loc f_X1_canBegin (nx := 1) rfl rfl rfl rfl ?_
  refine ev_if f_X1_canBegin (t1 := 29) (t2 := 4) rfl rfl rfl (fun h2 => ?_) (fun h2 => ?_)
  · have u3 : ar1.toInt ≤ (-1) := t_ltu h2 (by decide : (0:Int32).toInt ≤ (0:Int)) rfl
    refine ev_ic f_X1_canBegin (nx := 30) (v := 0) rfl (by decide) rfl ?_
    exact ev_ret f_X1_canBegin rfl rfl rfl ⟨_, _, _, rfl, hI, hX, ⟨_, rfl, (by decide : (0:Int) ≤ (0:Int32).toInt), (Int.le_trans (by decide : (0:Int32).toInt ≤ (0:Int)) (by decide : (0:Int) ≤ 1)), (show s_may ar1.toInt (gi 29 0).toInt ar2.toInt (gi 31 ar1.toNatClampNeg).toInt (gi 34 ar1.toNatClampNeg).toInt (0 : Int) from (by
                                                            unfold s_may
                                                            intro h0 h1
                                                            have z0 : (0 : Int32).toInt = 0 := rfl
                                                            have z1 : (1 : Int32).toInt = 1 := rfl
                                                            omega))⟩⟩
  · have l4 : 0 ≤ ar1.toInt := t_lel (t_nlt h2) (by decide : (0:Int) ≤ (0:Int32).toInt)
    refine ev_loc f_X1_canBegin (nx := 5) rfl rfl rfl rfl ?_
    refine ev_loc f_X1_canBegin (nx := 6) rfl rfl rfl rfl ?_
    refine ev_gvI f_X1_canBegin (nx := 9) (w := (gi 29 0)) rfl (hI.wf.s rfl) rfl rfl rfl rfl ?_
    refine ev_if f_X1_canBegin (t1 := 29) (t2 := 12) rfl rfl rfl (fun h5 => ?_) (fun h5 => ?_)
    · have r6 : (gi 29 0).toInt ≤ ar1.toInt := Int32.le_iff_toInt_le.mp h5
      refine ev_ic f_X1_canBegin (nx := 30) (v := 0) rfl (by decide) rfl ?_
      exact ev_ret f_X1_canBegin rfl rfl rfl ⟨_, _, _, rfl, hI, hX, ⟨_, rfl, (by decide : (0:Int) ≤ (0:Int32).toInt), (Int.le_trans (by decide : (0:Int32).toInt ≤ (0:Int)) (by decide : (0:Int) ≤ 1)), (show s_may ar1.toInt (gi 29 0).toInt ar2.toInt (gi 31 ar1.toNatClampNeg).toInt (gi 34 ar1.toNatClampNeg).toInt (0 : Int) from (by
                                                            unfold s_may
                                                            intro h0 h1
                                                            have z0 : (0 : Int32).toInt = 0 := rfl
                                                            have z1 : (1 : Int32).toInt = 1 := rfl
                                                            omega))⟩⟩
    · have r7 : ar1.toInt < (gi 29 0).toInt := Int32.lt_iff_toInt_lt.mp (t_nle h5)
      have u8 : ar1.toInt ≤ 5 := t_ltu (t_nle h5) u1 rfl
      have l9 : 1 ≤ (gi 29 0).toInt := t_ltl (t_nle h5) l4 rfl
      refine ev_loc f_X1_canBegin (nx := 13) rfl rfl rfl rfl ?_
      refine ev_sp f_X1_canBegin (nx := 16) (v := 240) rfl (by decide) rfl ?_
      refine ev_if f_X1_canBegin (t1 := 29) (t2 := 19) rfl rfl rfl (fun h10 => ?_) (fun h10 => ?_)
      · have l11 : 241 ≤ ar2.toInt := t_ltl h10 (by decide : (240:Int) ≤ (240:Int32).toInt) rfl
        refine ev_ic f_X1_canBegin (nx := 30) (v := 0) rfl (by decide) rfl ?_
        exact ev_ret f_X1_canBegin rfl rfl rfl ⟨_, _, _, rfl, hI, hX, ⟨_, rfl, (by decide : (0:Int) ≤ (0:Int32).toInt), (Int.le_trans (by decide : (0:Int32).toInt ≤ (0:Int)) (by decide : (0:Int) ≤ 1)), (show s_may ar1.toInt (gi 29 0).toInt ar2.toInt (gi 31 ar1.toNatClampNeg).toInt (gi 34 ar1.toNatClampNeg).toInt (0 : Int) from (by
                                                            unfold s_may
                                                            intro h0 h1
                                                            have z0 : (0 : Int32).toInt = 0 := rfl
                                                            have z1 : (1 : Int32).toInt = 1 := rfl
                                                            omega))⟩⟩
      · have u12 : ar2.toInt ≤ 240 := t_leu (t_nlt h10) (by decide : (240:Int32).toInt ≤ (240:Int))
        refine ev_loc f_X1_canBegin (nx := 20) rfl rfl rfl rfl ?_
        refine ev_loc f_X1_canBegin (nx := 21) rfl rfl rfl rfl ?_
        refine ev_getR f_X1_canBegin (nx := 24) rfl (hI.wf.s rfl) rfl rfl (hI.wf.r rfl) rfl rfl ?_
        refine ev_loc f_X1_canBegin (nx := 25) rfl rfl rfl rfl ?_
        refine ev_ialdT f_X1_canBegin (nx := 26) rfl (hI.wf.s rfl) l4 (by decide) u8 (by decide) rfl (fun w13 e13 => ?_)
        refine ev_if f_X1_canBegin (t1 := 31) (t2 := 29) rfl rfl rfl (fun h14 => ?_) (fun h14 => ?_)
        · have r15 : w13.toInt ≤ ar2.toInt := Int32.le_iff_toInt_le.mp h14
          have u16 : w13.toInt ≤ 240 := t_leu h14 u12
          refine ev_loc f_X1_canBegin (nx := 32) rfl rfl rfl rfl ?_
          refine ev_getR f_X1_canBegin (nx := 35) rfl (hI.wf.s rfl) rfl rfl (hI.wf.r rfl) rfl rfl ?_
          refine ev_loc f_X1_canBegin (nx := 36) rfl rfl rfl rfl ?_
          refine ev_baldT f_X1_canBegin (nx := 37) rfl (hI.wf.s rfl) rfl l4 (by decide) u8 (by decide) rfl (fun w17 e17 => ?_)
          refine ev_if f_X1_canBegin (t1 := 50) (t2 := 40) rfl rfl rfl (fun h18 => ?_) (fun h18 => ?_)
          · have u19 : w17.toInt ≤ 0 := t_equ h18 (by decide : (0:Int32).toInt ≤ (0:Int))
            have l20 : 0 ≤ w17.toInt := t_eql h18 (by decide : (0:Int) ≤ (0:Int32).toInt)
            refine ev_ic f_X1_canBegin (nx := 51) (v := 1) rfl (by decide) rfl ?_
            refine ev_jmp f_X1_canBegin (nx := 55) rfl rfl rfl ?_
            exact ev_ret f_X1_canBegin rfl rfl rfl ⟨_, _, _, rfl, hI, hX, ⟨_, rfl, (Int.le_trans (by decide : (0:Int) ≤ 1) (by decide : (1:Int) ≤ (1:Int32).toInt)), (by decide : (1:Int32).toInt ≤ (1:Int)), (show s_may ar1.toInt (gi 29 0).toInt ar2.toInt (gi 31 ar1.toNatClampNeg).toInt (gi 34 ar1.toNatClampNeg).toInt (1 : Int) from (by
                                                            unfold s_may
                                                            intro h0 h1
                                                            have z0 : (0 : Int32).toInt = 0 := rfl
                                                            have z1 : (1 : Int32).toInt = 1 := rfl
                                                            rw [← e13]
                                                            rw [← e17]
                                                            omega))⟩⟩
          · have r21 : w17.toInt ≠ 0 := fun e => h18 (Int32.toInt_inj.mp (e.trans (by decide : (0:Int) = (0 : Int32).toInt)))
            refine ev_loc f_X1_canBegin (nx := 41) rfl rfl rfl rfl ?_
            refine ev_loc f_X1_canBegin (nx := 42) rfl rfl rfl rfl ?_
            refine ev_getR f_X1_canBegin (nx := 45) rfl (hI.wf.s rfl) rfl rfl (hI.wf.r rfl) rfl rfl ?_
            refine ev_loc f_X1_canBegin (nx := 46) rfl rfl rfl rfl ?_
            refine ev_ialdT f_X1_canBegin (nx := 47) rfl (hI.wf.s rfl) l4 (by decide) u8 (by decide) rfl (fun w22 e22 => ?_)
            rw [e22.trans e13.symm]
            refine ev_if f_X1_canBegin (t1 := 50) (t2 := 54) rfl rfl rfl (fun h23 => ?_) (fun h23 => ?_)
            · have r24 : ar2.toInt = w13.toInt := t_eqi h23
              refine ev_ic f_X1_canBegin (nx := 51) (v := 1) rfl (by decide) rfl ?_
              refine ev_jmp f_X1_canBegin (nx := 55) rfl rfl rfl ?_
              exact ev_ret f_X1_canBegin rfl rfl rfl ⟨_, _, _, rfl, hI, hX, ⟨_, rfl, (Int.le_trans (by decide : (0:Int) ≤ 1) (by decide : (1:Int) ≤ (1:Int32).toInt)), (by decide : (1:Int32).toInt ≤ (1:Int)), (show s_may ar1.toInt (gi 29 0).toInt ar2.toInt (gi 31 ar1.toNatClampNeg).toInt (gi 34 ar1.toNatClampNeg).toInt (1 : Int) from (by
                                                            unfold s_may
                                                            intro h0 h1
                                                            have z0 : (0 : Int32).toInt = 0 := rfl
                                                            have z1 : (1 : Int32).toInt = 1 := rfl
                                                            rw [← e13]
                                                            rw [← e17]
                                                            omega))⟩⟩
            · have r25 : ar2.toInt ≠ w13.toInt := t_nei h23
              refine ev_ic f_X1_canBegin (nx := 55) (v := 0) rfl (by decide) rfl ?_
              exact ev_ret f_X1_canBegin rfl rfl rfl ⟨_, _, _, rfl, hI, hX, ⟨_, rfl, (by decide : (0:Int) ≤ (0:Int32).toInt), (Int.le_trans (by decide : (0:Int32).toInt ≤ (0:Int)) (by decide : (0:Int) ≤ 1)), (show s_may ar1.toInt (gi 29 0).toInt ar2.toInt (gi 31 ar1.toNatClampNeg).toInt (gi 34 ar1.toNatClampNeg).toInt (0 : Int) from (by
                                                            unfold s_may
                                                            intro h0 h1
                                                            have z0 : (0 : Int32).toInt = 0 := rfl
                                                            have z1 : (1 : Int32).toInt = 1 := rfl
                                                            rw [← e13]
                                                            rw [← e17]
                                                            omega))⟩⟩
        · have r26 : ar2.toInt < w13.toInt := Int32.lt_iff_toInt_lt.mp (t_nle h14)
          have l27 : (-2147483647) ≤ w13.toInt := t_ltl (t_nle h14) (t_lo ar2) rfl
          refine ev_ic f_X1_canBegin (nx := 30) (v := 0) rfl (by decide) rfl ?_
          exact ev_ret f_X1_canBegin rfl rfl rfl ⟨_, _, _, rfl, hI, hX, ⟨_, rfl, (by decide : (0:Int) ≤ (0:Int32).toInt), (Int.le_trans (by decide : (0:Int32).toInt ≤ (0:Int)) (by decide : (0:Int) ≤ 1)), (show s_may ar1.toInt (gi 29 0).toInt ar2.toInt (gi 31 ar1.toNatClampNeg).toInt (gi 34 ar1.toNatClampNeg).toInt (0 : Int) from (by
                                                            unfold s_may
                                                            intro h0 h1
                                                            have z0 : (0 : Int32).toInt = 0 := rfl
                                                            have z1 : (1 : Int32).toInt = 1 := rfl
                                                            rw [← e13]
                                                            omega))⟩⟩
noncomputable def wl_d_canBegin_35 : List (Nat × Nat) := []
noncomputable def Q_d_canBegin_35 (gi : Nat → Nat → Int32) (gl : Nat → Nat → Int64) (gr : Nat → Nat → Value) (ar1 : Int32) (ar2 : Int32) : Int32 → (Nat → Nat → Int32) → (Nat → Nat → Int64) → (Nat → Nat → Value) → Prop := fun (v : Int32) (gi2 : Nat → Nat → Int32) (gl2 : Nat → Nat → Int64) (gr2 : Nat → Nat → Value) => s_may ar1.toInt (gi 35 0).toInt ar2.toInt (gi 37 ar1.toNatClampNeg).toInt (gi 40 ar1.toNatClampNeg).toInt v.toInt
theorem c_d_canBegin_35 {X : x_Ext} {d : Nat} {sh : List (Nat ⊕ (Nat × Nat))} {gi : Nat → Nat → Int32} {gl : Nat → Nat → Int64} {gr : Nat → Nat → Value} (hI : t_I sh gi gr) (ar1 : Int32) (ar2 : Int32) : x_Me X (d + 1) n_X1_canBegin [.ref 35, .int ar1, .int ar2] (sh, gi, gl, gr) (t_PI wl_d_canBegin_35 sh gi gl gr 0 1 (Q_d_canBegin_35 gi gl gr ar1 ar2)) := by
  have hX : t_X wl_d_canBegin_35 sh gi gl gr gi gl gr := t_X.rf
  refine me_s f_X1_canBegin rfl rfl ?_
  obtain ⟨l1, u1⟩ := hI.b (hI.wf.s (k := 35) rfl) (t_bdK rfl : t_bd 3 0 = some (0, 6))
  refine ev_loc f_X1_canBegin (nx := 1) rfl rfl rfl rfl ?_
  refine ev_if f_X1_canBegin (t1 := 29) (t2 := 4) rfl rfl rfl (fun h2 => ?_) (fun h2 => ?_)
  · have u3 : ar1.toInt ≤ (-1) := t_ltu h2 (by decide : (0:Int32).toInt ≤ (0:Int)) rfl
    refine ev_ic f_X1_canBegin (nx := 30) (v := 0) rfl (by decide) rfl ?_
    exact ev_ret f_X1_canBegin rfl rfl rfl ⟨_, _, _, rfl, hI, hX, ⟨_, rfl, (by decide : (0:Int) ≤ (0:Int32).toInt), (Int.le_trans (by decide : (0:Int32).toInt ≤ (0:Int)) (by decide : (0:Int) ≤ 1)), (show s_may ar1.toInt (gi 35 0).toInt ar2.toInt (gi 37 ar1.toNatClampNeg).toInt (gi 40 ar1.toNatClampNeg).toInt (0 : Int) from (by
                                                            unfold s_may
                                                            intro h0 h1
                                                            have z0 : (0 : Int32).toInt = 0 := rfl
                                                            have z1 : (1 : Int32).toInt = 1 := rfl
                                                            omega))⟩⟩
  · have l4 : 0 ≤ ar1.toInt := t_lel (t_nlt h2) (by decide : (0:Int) ≤ (0:Int32).toInt)
    refine ev_loc f_X1_canBegin (nx := 5) rfl rfl rfl rfl ?_
    refine ev_loc f_X1_canBegin (nx := 6) rfl rfl rfl rfl ?_
    refine ev_gvI f_X1_canBegin (nx := 9) (w := (gi 35 0)) rfl (hI.wf.s rfl) rfl rfl rfl rfl ?_
    refine ev_if f_X1_canBegin (t1 := 29) (t2 := 12) rfl rfl rfl (fun h5 => ?_) (fun h5 => ?_)
    · have r6 : (gi 35 0).toInt ≤ ar1.toInt := Int32.le_iff_toInt_le.mp h5
      refine ev_ic f_X1_canBegin (nx := 30) (v := 0) rfl (by decide) rfl ?_
      exact ev_ret f_X1_canBegin rfl rfl rfl ⟨_, _, _, rfl, hI, hX, ⟨_, rfl, (by decide : (0:Int) ≤ (0:Int32).toInt), (Int.le_trans (by decide : (0:Int32).toInt ≤ (0:Int)) (by decide : (0:Int) ≤ 1)), (show s_may ar1.toInt (gi 35 0).toInt ar2.toInt (gi 37 ar1.toNatClampNeg).toInt (gi 40 ar1.toNatClampNeg).toInt (0 : Int) from (by
                                                            unfold s_may
                                                            intro h0 h1
                                                            have z0 : (0 : Int32).toInt = 0 := rfl
                                                            have z1 : (1 : Int32).toInt = 1 := rfl
                                                            omega))⟩⟩
    · have r7 : ar1.toInt < (gi 35 0).toInt := Int32.lt_iff_toInt_lt.mp (t_nle h5)
      have u8 : ar1.toInt ≤ 5 := t_ltu (t_nle h5) u1 rfl
      have l9 : 1 ≤ (gi 35 0).toInt := t_ltl (t_nle h5) l4 rfl
      refine ev_loc f_X1_canBegin (nx := 13) rfl rfl rfl rfl ?_
      refine ev_sp f_X1_canBegin (nx := 16) (v := 240) rfl (by decide) rfl ?_
      refine ev_if f_X1_canBegin (t1 := 29) (t2 := 19) rfl rfl rfl (fun h10 => ?_) (fun h10 => ?_)
      · have l11 : 241 ≤ ar2.toInt := t_ltl h10 (by decide : (240:Int) ≤ (240:Int32).toInt) rfl
        refine ev_ic f_X1_canBegin (nx := 30) (v := 0) rfl (by decide) rfl ?_
        exact ev_ret f_X1_canBegin rfl rfl rfl ⟨_, _, _, rfl, hI, hX, ⟨_, rfl, (by decide : (0:Int) ≤ (0:Int32).toInt), (Int.le_trans (by decide : (0:Int32).toInt ≤ (0:Int)) (by decide : (0:Int) ≤ 1)), (show s_may ar1.toInt (gi 35 0).toInt ar2.toInt (gi 37 ar1.toNatClampNeg).toInt (gi 40 ar1.toNatClampNeg).toInt (0 : Int) from (by
                                                            unfold s_may
                                                            intro h0 h1
                                                            have z0 : (0 : Int32).toInt = 0 := rfl
                                                            have z1 : (1 : Int32).toInt = 1 := rfl
                                                            omega))⟩⟩
      · have u12 : ar2.toInt ≤ 240 := t_leu (t_nlt h10) (by decide : (240:Int32).toInt ≤ (240:Int))
        refine ev_loc f_X1_canBegin (nx := 20) rfl rfl rfl rfl ?_
        refine ev_loc f_X1_canBegin (nx := 21) rfl rfl rfl rfl ?_
        refine ev_getR f_X1_canBegin (nx := 24) rfl (hI.wf.s rfl) rfl rfl (hI.wf.r rfl) rfl rfl ?_
        refine ev_loc f_X1_canBegin (nx := 25) rfl rfl rfl rfl ?_
        refine ev_ialdT f_X1_canBegin (nx := 26) rfl (hI.wf.s rfl) l4 (by decide) u8 (by decide) rfl (fun w13 e13 => ?_)
        refine ev_if f_X1_canBegin (t1 := 31) (t2 := 29) rfl rfl rfl (fun h14 => ?_) (fun h14 => ?_)
        · have r15 : w13.toInt ≤ ar2.toInt := Int32.le_iff_toInt_le.mp h14
          have u16 : w13.toInt ≤ 240 := t_leu h14 u12
          refine ev_loc f_X1_canBegin (nx := 32) rfl rfl rfl rfl ?_
          refine ev_getR f_X1_canBegin (nx := 35) rfl (hI.wf.s rfl) rfl rfl (hI.wf.r rfl) rfl rfl ?_
          refine ev_loc f_X1_canBegin (nx := 36) rfl rfl rfl rfl ?_
          refine ev_baldT f_X1_canBegin (nx := 37) rfl (hI.wf.s rfl) rfl l4 (by decide) u8 (by decide) rfl (fun w17 e17 => ?_)
          refine ev_if f_X1_canBegin (t1 := 50) (t2 := 40) rfl rfl rfl (fun h18 => ?_) (fun h18 => ?_)
          · have u19 : w17.toInt ≤ 0 := t_equ h18 (by decide : (0:Int32).toInt ≤ (0:Int))
            have l20 : 0 ≤ w17.toInt := t_eql h18 (by decide : (0:Int) ≤ (0:Int32).toInt)
            refine ev_ic f_X1_canBegin (nx := 51) (v := 1) rfl (by decide) rfl ?_
            refine ev_jmp f_X1_canBegin (nx := 55) rfl rfl rfl ?_
            exact ev_ret f_X1_canBegin rfl rfl rfl ⟨_, _, _, rfl, hI, hX, ⟨_, rfl, (Int.le_trans (by decide : (0:Int) ≤ 1) (by decide : (1:Int) ≤ (1:Int32).toInt)), (by decide : (1:Int32).toInt ≤ (1:Int)), (show s_may ar1.toInt (gi 35 0).toInt ar2.toInt (gi 37 ar1.toNatClampNeg).toInt (gi 40 ar1.toNatClampNeg).toInt (1 : Int) from (by
                                                            unfold s_may
                                                            intro h0 h1
                                                            have z0 : (0 : Int32).toInt = 0 := rfl
                                                            have z1 : (1 : Int32).toInt = 1 := rfl
                                                            rw [← e13]
                                                            rw [← e17]
                                                            omega))⟩⟩
          · have r21 : w17.toInt ≠ 0 := fun e => h18 (Int32.toInt_inj.mp (e.trans (by decide : (0:Int) = (0 : Int32).toInt)))
            refine ev_loc f_X1_canBegin (nx := 41) rfl rfl rfl rfl ?_
            refine ev_loc f_X1_canBegin (nx := 42) rfl rfl rfl rfl ?_
            refine ev_getR f_X1_canBegin (nx := 45) rfl (hI.wf.s rfl) rfl rfl (hI.wf.r rfl) rfl rfl ?_
            refine ev_loc f_X1_canBegin (nx := 46) rfl rfl rfl rfl ?_
            refine ev_ialdT f_X1_canBegin (nx := 47) rfl (hI.wf.s rfl) l4 (by decide) u8 (by decide) rfl (fun w22 e22 => ?_)
            rw [e22.trans e13.symm]
            refine ev_if f_X1_canBegin (t1 := 50) (t2 := 54) rfl rfl rfl (fun h23 => ?_) (fun h23 => ?_)
            · have r24 : ar2.toInt = w13.toInt := t_eqi h23
              refine ev_ic f_X1_canBegin (nx := 51) (v := 1) rfl (by decide) rfl ?_
              refine ev_jmp f_X1_canBegin (nx := 55) rfl rfl rfl ?_
              exact ev_ret f_X1_canBegin rfl rfl rfl ⟨_, _, _, rfl, hI, hX, ⟨_, rfl, (Int.le_trans (by decide : (0:Int) ≤ 1) (by decide : (1:Int) ≤ (1:Int32).toInt)), (by decide : (1:Int32).toInt ≤ (1:Int)), (show s_may ar1.toInt (gi 35 0).toInt ar2.toInt (gi 37 ar1.toNatClampNeg).toInt (gi 40 ar1.toNatClampNeg).toInt (1 : Int) from (by
                                                            unfold s_may
                                                            intro h0 h1
                                                            have z0 : (0 : Int32).toInt = 0 := rfl
                                                            have z1 : (1 : Int32).toInt = 1 := rfl
                                                            rw [← e13]
                                                            rw [← e17]
                                                            omega))⟩⟩
            · have r25 : ar2.toInt ≠ w13.toInt := t_nei h23
              refine ev_ic f_X1_canBegin (nx := 55) (v := 0) rfl (by decide) rfl ?_
              exact ev_ret f_X1_canBegin rfl rfl rfl ⟨_, _, _, rfl, hI, hX, ⟨_, rfl, (by decide : (0:Int) ≤ (0:Int32).toInt), (Int.le_trans (by decide : (0:Int32).toInt ≤ (0:Int)) (by decide : (0:Int) ≤ 1)), (show s_may ar1.toInt (gi 35 0).toInt ar2.toInt (gi 37 ar1.toNatClampNeg).toInt (gi 40 ar1.toNatClampNeg).toInt (0 : Int) from (by
                                                            unfold s_may
                                                            intro h0 h1
                                                            have z0 : (0 : Int32).toInt = 0 := rfl
                                                            have z1 : (1 : Int32).toInt = 1 := rfl
                                                            rw [← e13]
                                                            rw [← e17]
                                                            omega))⟩⟩
        · have r26 : ar2.toInt < w13.toInt := Int32.lt_iff_toInt_lt.mp (t_nle h14)
          have l27 : (-2147483647) ≤ w13.toInt := t_ltl (t_nle h14) (t_lo ar2) rfl
          refine ev_ic f_X1_canBegin (nx := 30) (v := 0) rfl (by decide) rfl ?_
          exact ev_ret f_X1_canBegin rfl rfl rfl ⟨_, _, _, rfl, hI, hX, ⟨_, rfl, (by decide : (0:Int) ≤ (0:Int32).toInt), (Int.le_trans (by decide : (0:Int32).toInt ≤ (0:Int)) (by decide : (0:Int) ≤ 1)), (show s_may ar1.toInt (gi 35 0).toInt ar2.toInt (gi 37 ar1.toNatClampNeg).toInt (gi 40 ar1.toNatClampNeg).toInt (0 : Int) from (by
                                                            unfold s_may
                                                            intro h0 h1
                                                            have z0 : (0 : Int32).toInt = 0 := rfl
                                                            have z1 : (1 : Int32).toInt = 1 := rfl
                                                            rw [← e13]
                                                            omega))⟩⟩
noncomputable def wl_d_waitsOf_29 : List (Nat × Nat) := []
noncomputable def Q_d_waitsOf_29 (gi : Nat → Nat → Int32) (gl : Nat → Nat → Int64) (gr : Nat → Nat → Value) (ar1 : Int32) (ar2 : Int32) : Int32 → (Nat → Nat → Int32) → (Nat → Nat → Int64) → (Nat → Nat → Value) → Prop := fun (v : Int32) (gi2 : Nat → Nat → Int32) (gl2 : Nat → Nat → Int64) (gr2 : Nat → Nat → Value) => s_wts ar1.toInt (gi 29 0).toInt ar2.toInt (gi 31 ar1.toNatClampNeg).toInt (gi 33 ar1.toNatClampNeg).toInt v.toInt
theorem c_d_waitsOf_29 {X : x_Ext} {d : Nat} {sh : List (Nat ⊕ (Nat × Nat))} {gi : Nat → Nat → Int32} {gl : Nat → Nat → Int64} {gr : Nat → Nat → Value} (hI : t_I sh gi gr) (ar1 : Int32) (ar2 : Int32) : x_Me X (d + 1) n_X1_waitsOf [.ref 29, .int ar1, .int ar2] (sh, gi, gl, gr) (t_PI wl_d_waitsOf_29 sh gi gl gr (-2147483648) 2147483647 (Q_d_waitsOf_29 gi gl gr ar1 ar2)) := by
  have hX : t_X wl_d_waitsOf_29 sh gi gl gr gi gl gr := t_X.rf
  refine me_s f_X1_waitsOf rfl rfl ?_
  obtain ⟨l1, u1⟩ := hI.b (hI.wf.s (k := 29) rfl) (t_bdK rfl : t_bd 3 0 = some (0, 6))
  refine ev_loc f_X1_waitsOf (nx := 1) rfl rfl rfl rfl ?_
  refine ev_if f_X1_waitsOf (t1 := 30) (t2 := 4) rfl rfl rfl (fun h2 => ?_) (fun h2 => ?_)
  · have u3 : ar1.toInt ≤ (-1) := t_ltu h2 (by decide : (0:Int32).toInt ≤ (0:Int)) rfl
    refine ev_ic f_X1_waitsOf (nx := 31) (v := 0) rfl (by decide) rfl ?_
    exact ev_ret f_X1_waitsOf rfl rfl rfl ⟨_, _, _, rfl, hI, hX, ⟨_, rfl, (Int.le_trans (by decide : ((-2147483648):Int) ≤ 0) (by decide : (0:Int) ≤ (0:Int32).toInt)), (Int.le_trans (by decide : (0:Int32).toInt ≤ (0:Int)) (by decide : (0:Int) ≤ 2147483647)), (show s_wts ar1.toInt (gi 29 0).toInt ar2.toInt (gi 31 ar1.toNatClampNeg).toInt (gi 33 ar1.toNatClampNeg).toInt (0 : Int) from (by
                                                            unfold s_wts
                                                            intro h0 h1 h2 h3 h4 h5
                                                            exfalso; omega))⟩⟩
  · have l4 : 0 ≤ ar1.toInt := t_lel (t_nlt h2) (by decide : (0:Int) ≤ (0:Int32).toInt)
    refine ev_loc f_X1_waitsOf (nx := 5) rfl rfl rfl rfl ?_
    refine ev_loc f_X1_waitsOf (nx := 6) rfl rfl rfl rfl ?_
    refine ev_gvI f_X1_waitsOf (nx := 9) (w := (gi 29 0)) rfl (hI.wf.s rfl) rfl rfl rfl rfl ?_
    refine ev_if f_X1_waitsOf (t1 := 30) (t2 := 12) rfl rfl rfl (fun h5 => ?_) (fun h5 => ?_)
    · have r6 : (gi 29 0).toInt ≤ ar1.toInt := Int32.le_iff_toInt_le.mp h5
      refine ev_ic f_X1_waitsOf (nx := 31) (v := 0) rfl (by decide) rfl ?_
      exact ev_ret f_X1_waitsOf rfl rfl rfl ⟨_, _, _, rfl, hI, hX, ⟨_, rfl, (Int.le_trans (by decide : ((-2147483648):Int) ≤ 0) (by decide : (0:Int) ≤ (0:Int32).toInt)), (Int.le_trans (by decide : (0:Int32).toInt ≤ (0:Int)) (by decide : (0:Int) ≤ 2147483647)), (show s_wts ar1.toInt (gi 29 0).toInt ar2.toInt (gi 31 ar1.toNatClampNeg).toInt (gi 33 ar1.toNatClampNeg).toInt (0 : Int) from (by
                                                            unfold s_wts
                                                            intro h0 h1 h2 h3 h4 h5
                                                            exfalso; omega))⟩⟩
    · have r7 : ar1.toInt < (gi 29 0).toInt := Int32.lt_iff_toInt_lt.mp (t_nle h5)
      have u8 : ar1.toInt ≤ 5 := t_ltu (t_nle h5) u1 rfl
      have l9 : 1 ≤ (gi 29 0).toInt := t_ltl (t_nle h5) l4 rfl
      refine ev_loc f_X1_waitsOf (nx := 13) rfl rfl rfl rfl ?_
      refine ev_loc f_X1_waitsOf (nx := 14) rfl rfl rfl rfl ?_
      refine ev_getR f_X1_waitsOf (nx := 17) rfl (hI.wf.s rfl) rfl rfl (hI.wf.r rfl) rfl rfl ?_
      refine ev_loc f_X1_waitsOf (nx := 18) rfl rfl rfl rfl ?_
      refine ev_ialdT f_X1_waitsOf (nx := 19) rfl (hI.wf.s rfl) l4 (by decide) u8 (by decide) rfl (fun w10 e10 => ?_)
      refine ev_anyIE f_X1_waitsOf (nx := 20) rfl rfl rfl rfl (fun z11 e11 => ?_)
      refine ev_loc f_X1_waitsOf (nx := 21) rfl rfl rfl rfl ?_
      refine ev_getR f_X1_waitsOf (nx := 24) rfl (hI.wf.s rfl) rfl rfl (hI.wf.r rfl) rfl rfl ?_
      refine ev_loc f_X1_waitsOf (nx := 25) rfl rfl rfl rfl ?_
      refine ev_ialdT f_X1_waitsOf (nx := 26) rfl (hI.wf.s rfl) l4 (by decide) u8 (by decide) rfl (fun w12 e12 => ?_)
      refine ev_anyIE f_X1_waitsOf (nx := 27) rfl rfl rfl rfl (fun z13 e13 => ?_)
      refine ev_jmp f_X1_waitsOf (nx := 31) rfl rfl rfl ?_
      exact ev_ret f_X1_waitsOf rfl rfl rfl ⟨_, _, _, rfl, hI, hX, ⟨_, rfl, (t_lo z13), (t_hi z13), (show s_wts ar1.toInt (gi 29 0).toInt ar2.toInt (gi 31 ar1.toNatClampNeg).toInt (gi 33 ar1.toNatClampNeg).toInt z13.toInt from (by
                                                            unfold s_wts
                                                            intro h0 h1 h2 h3 h4 h5
                                                            rw [← e10] at h2 h3 ⊢
                                                            rw [← e12] at h4 h5 ⊢
                                                            have hz := s_sub e11 rfl rfl (by omega)
                                                            exact s_mul e13 hz rfl (by omega) (by omega)))⟩⟩
noncomputable def wl_d_waitsOf_35 : List (Nat × Nat) := []
noncomputable def Q_d_waitsOf_35 (gi : Nat → Nat → Int32) (gl : Nat → Nat → Int64) (gr : Nat → Nat → Value) (ar1 : Int32) (ar2 : Int32) : Int32 → (Nat → Nat → Int32) → (Nat → Nat → Int64) → (Nat → Nat → Value) → Prop := fun (v : Int32) (gi2 : Nat → Nat → Int32) (gl2 : Nat → Nat → Int64) (gr2 : Nat → Nat → Value) => s_wts ar1.toInt (gi 35 0).toInt ar2.toInt (gi 37 ar1.toNatClampNeg).toInt (gi 39 ar1.toNatClampNeg).toInt v.toInt
theorem c_d_waitsOf_35 {X : x_Ext} {d : Nat} {sh : List (Nat ⊕ (Nat × Nat))} {gi : Nat → Nat → Int32} {gl : Nat → Nat → Int64} {gr : Nat → Nat → Value} (hI : t_I sh gi gr) (ar1 : Int32) (ar2 : Int32) : x_Me X (d + 1) n_X1_waitsOf [.ref 35, .int ar1, .int ar2] (sh, gi, gl, gr) (t_PI wl_d_waitsOf_35 sh gi gl gr (-2147483648) 2147483647 (Q_d_waitsOf_35 gi gl gr ar1 ar2)) := by
  have hX : t_X wl_d_waitsOf_35 sh gi gl gr gi gl gr := t_X.rf
  refine me_s f_X1_waitsOf rfl rfl ?_
  obtain ⟨l1, u1⟩ := hI.b (hI.wf.s (k := 35) rfl) (t_bdK rfl : t_bd 3 0 = some (0, 6))
  refine ev_loc f_X1_waitsOf (nx := 1) rfl rfl rfl rfl ?_
  refine ev_if f_X1_waitsOf (t1 := 30) (t2 := 4) rfl rfl rfl (fun h2 => ?_) (fun h2 => ?_)
  · have u3 : ar1.toInt ≤ (-1) := t_ltu h2 (by decide : (0:Int32).toInt ≤ (0:Int)) rfl
    refine ev_ic f_X1_waitsOf (nx := 31) (v := 0) rfl (by decide) rfl ?_
    exact ev_ret f_X1_waitsOf rfl rfl rfl ⟨_, _, _, rfl, hI, hX, ⟨_, rfl, (Int.le_trans (by decide : ((-2147483648):Int) ≤ 0) (by decide : (0:Int) ≤ (0:Int32).toInt)), (Int.le_trans (by decide : (0:Int32).toInt ≤ (0:Int)) (by decide : (0:Int) ≤ 2147483647)), (show s_wts ar1.toInt (gi 35 0).toInt ar2.toInt (gi 37 ar1.toNatClampNeg).toInt (gi 39 ar1.toNatClampNeg).toInt (0 : Int) from (by
                                                            unfold s_wts
                                                            intro h0 h1 h2 h3 h4 h5
                                                            exfalso; omega))⟩⟩
  · have l4 : 0 ≤ ar1.toInt := t_lel (t_nlt h2) (by decide : (0:Int) ≤ (0:Int32).toInt)
    refine ev_loc f_X1_waitsOf (nx := 5) rfl rfl rfl rfl ?_
    refine ev_loc f_X1_waitsOf (nx := 6) rfl rfl rfl rfl ?_
    refine ev_gvI f_X1_waitsOf (nx := 9) (w := (gi 35 0)) rfl (hI.wf.s rfl) rfl rfl rfl rfl ?_
    refine ev_if f_X1_waitsOf (t1 := 30) (t2 := 12) rfl rfl rfl (fun h5 => ?_) (fun h5 => ?_)
    · have r6 : (gi 35 0).toInt ≤ ar1.toInt := Int32.le_iff_toInt_le.mp h5
      refine ev_ic f_X1_waitsOf (nx := 31) (v := 0) rfl (by decide) rfl ?_
      exact ev_ret f_X1_waitsOf rfl rfl rfl ⟨_, _, _, rfl, hI, hX, ⟨_, rfl, (Int.le_trans (by decide : ((-2147483648):Int) ≤ 0) (by decide : (0:Int) ≤ (0:Int32).toInt)), (Int.le_trans (by decide : (0:Int32).toInt ≤ (0:Int)) (by decide : (0:Int) ≤ 2147483647)), (show s_wts ar1.toInt (gi 35 0).toInt ar2.toInt (gi 37 ar1.toNatClampNeg).toInt (gi 39 ar1.toNatClampNeg).toInt (0 : Int) from (by
                                                            unfold s_wts
                                                            intro h0 h1 h2 h3 h4 h5
                                                            exfalso; omega))⟩⟩
    · have r7 : ar1.toInt < (gi 35 0).toInt := Int32.lt_iff_toInt_lt.mp (t_nle h5)
      have u8 : ar1.toInt ≤ 5 := t_ltu (t_nle h5) u1 rfl
      have l9 : 1 ≤ (gi 35 0).toInt := t_ltl (t_nle h5) l4 rfl
      refine ev_loc f_X1_waitsOf (nx := 13) rfl rfl rfl rfl ?_
      refine ev_loc f_X1_waitsOf (nx := 14) rfl rfl rfl rfl ?_
      refine ev_getR f_X1_waitsOf (nx := 17) rfl (hI.wf.s rfl) rfl rfl (hI.wf.r rfl) rfl rfl ?_
      refine ev_loc f_X1_waitsOf (nx := 18) rfl rfl rfl rfl ?_
      refine ev_ialdT f_X1_waitsOf (nx := 19) rfl (hI.wf.s rfl) l4 (by decide) u8 (by decide) rfl (fun w10 e10 => ?_)
      refine ev_anyIE f_X1_waitsOf (nx := 20) rfl rfl rfl rfl (fun z11 e11 => ?_)
      refine ev_loc f_X1_waitsOf (nx := 21) rfl rfl rfl rfl ?_
      refine ev_getR f_X1_waitsOf (nx := 24) rfl (hI.wf.s rfl) rfl rfl (hI.wf.r rfl) rfl rfl ?_
      refine ev_loc f_X1_waitsOf (nx := 25) rfl rfl rfl rfl ?_
      refine ev_ialdT f_X1_waitsOf (nx := 26) rfl (hI.wf.s rfl) l4 (by decide) u8 (by decide) rfl (fun w12 e12 => ?_)
      refine ev_anyIE f_X1_waitsOf (nx := 27) rfl rfl rfl rfl (fun z13 e13 => ?_)
      refine ev_jmp f_X1_waitsOf (nx := 31) rfl rfl rfl ?_
      exact ev_ret f_X1_waitsOf rfl rfl rfl ⟨_, _, _, rfl, hI, hX, ⟨_, rfl, (t_lo z13), (t_hi z13), (show s_wts ar1.toInt (gi 35 0).toInt ar2.toInt (gi 37 ar1.toNatClampNeg).toInt (gi 39 ar1.toNatClampNeg).toInt z13.toInt from (by
                                                            unfold s_wts
                                                            intro h0 h1 h2 h3 h4 h5
                                                            rw [← e10] at h2 h3 ⊢
                                                            rw [← e12] at h4 h5 ⊢
                                                            have hz := s_sub e11 rfl rfl (by omega)
                                                            exact s_mul e13 hz rfl (by omega) (by omega)))⟩⟩
noncomputable def wl_d_search : List (Nat × Nat) := [(28, 4)]
noncomputable def Q_d_search (gi : Nat → Nat → Int32) (gl : Nat → Nat → Int64) (gr : Nat → Nat → Value) (ar1 : Int32) (ar2 : Int32) (ar3 : Int32) (ar4 : Int32) (ar5 : Int32) : (Nat → Nat → Int32) → (Nat → Nat → Int64) → (Nat → Nat → Value) → Prop := fun (gi2 : Nat → Nat → Int32) (gl2 : Nat → Nat → Int64) (gr2 : Nat → Nat → Value) => ∀ P : Nat → Nat → Int, s_CP P gi gr → s_PB P → s_PO P → 0 ≤ ar1.toInt → ar1.toInt ≤ 2000 → ar3.toInt ≤ P 0 0 → ar4.toInt ≤ P 0 1 → 0 ≤ ar5.toInt → ar5.toInt ≤ 240000 * (ar3.toInt + ar4.toInt) → (gi 28 4).toInt ≤ 1000000000 → s_BB (gi 28 4).toInt (gi 28 5).toInt (ar5.toInt + s_LS P ar1.toInt ar2.toNatClampNeg ar3.toNatClampNeg ar4.toNatClampNeg) (gi2 28 4).toInt
theorem r_d_search {X : x_Ext} {d : Nat} {sh : List (Nat ⊕ (Nat × Nat))} : ∀ (r : Nat) {gi : Nat → Nat → Int32} {gl : Nat → Nat → Int64} {gr : Nat → Nat → Value} (hI : t_I sh gi gr) (ar1 : Int32) (ar2 : Int32) (l_a2 : 0 ≤ ar2.toInt) (u_a2 : ar2.toInt ≤ 1) (ar3 : Int32) (l_a3 : 0 ≤ ar3.toInt) (u_a3 : ar3.toInt ≤ 6) (ar4 : Int32) (l_a4 : 0 ≤ ar4.toInt) (u_a4 : ar4.toInt ≤ 6) (ar5 : Int32), (12 - (ar3.toInt + ar4.toInt)).toNat < r → x_Me X (d + r + 3) n_X1_search [.ref 28, .int ar1, .int ar2, .int ar3, .int ar4, .int ar5] (sh, gi, gl, gr) (t_PN wl_d_search sh gi gl gr (Q_d_search gi gl gr ar1 ar2 ar3 ar4 ar5)) := by
  intro r
  induction r with
  | zero => intro gi gl gr hI ar1 ar2 l_a2 u_a2 ar3 l_a3 u_a3 ar4 l_a4 u_a4 ar5 hr; omega
  | succ r ih =>
  intro gi gl gr hI ar1 ar2 l_a2 u_a2 ar3 l_a3 u_a3 ar4 l_a4 u_a4 ar5 hr
  rw [show d + (r + 1) + 3 = d + r + 4 by omega]
  have hX : t_X wl_d_search sh gi gl gr gi gl gr := t_X.rf
  refine me_i f_X1_search (hI.wf.s rfl) rfl rfl rfl ?_
  refine ev_loc f_X1_search (nx := 2) rfl rfl rfl rfl ?_
  refine ev_loc f_X1_search (nx := 3) rfl rfl rfl rfl ?_
  refine ev_gvI f_X1_search (nx := 6) (w := (gi 28 4)) rfl (hI.wf.s rfl) rfl rfl rfl rfl ?_
  refine ev_if f_X1_search (t1 := 20) (t2 := 9) rfl rfl rfl (fun h3 => ?_) (fun h3 => ?_)
  · have r4 : (gi 28 4).toInt ≤ ar5.toInt := Int32.le_iff_toInt_le.mp h3
    exact ev_ret f_X1_search rfl rfl rfl ⟨_, _, _, rfl, hI, hX, ⟨rfl, (show ∀ P : Nat → Nat → Int, s_CP P gi gr → s_PB P → s_PO P → 0 ≤ ar1.toInt → ar1.toInt ≤ 2000 → ar3.toInt ≤ P 0 0 → ar4.toInt ≤ P 0 1 → 0 ≤ ar5.toInt → ar5.toInt ≤ 240000 * (ar3.toInt + ar4.toInt) → (gi 28 4).toInt ≤ 1000000000 → s_BB (gi 28 4).toInt (gi 28 5).toInt (ar5.toInt + s_LS P ar1.toInt ar2.toNatClampNeg ar3.toNatClampNeg ar4.toNatClampNeg) (gi 28 4).toInt from (by
                                                            intro P hc hb hp h1 h2 h3 h4 h5 h6 h7
                                                            have n0 := hc.1.1
                                                            have n1 := hc.1.2
                                                            have c3 := t_clamp (i := ar3) l_a3
                                                            have c4 := t_clamp (i := ar4) l_a4
                                                            have hlo := s_LS_lo hp ar1.toInt ar2.toNatClampNeg ar3.toNatClampNeg ar4.toNatClampNeg
                                                            exact s_BB_0 (by omega)))⟩⟩
  · have r5 : ar5.toInt < (gi 28 4).toInt := Int32.lt_iff_toInt_lt.mp (t_nle h3)
    have u6 : ar5.toInt ≤ 2147483646 := t_ltu (t_nle h3) (t_hi (gi 28 4)) rfl
    have l7 : (-2147483647) ≤ (gi 28 4).toInt := t_ltl (t_nle h3) (t_lo ar5) rfl
    refine ev_loc f_X1_search (nx := 10) rfl rfl rfl rfl ?_
    refine ev_gvI f_X1_search (nx := 13) (w := (gi 28 4)) rfl (hI.wf.s rfl) rfl rfl rfl rfl ?_
    refine ev_loc f_X1_search (nx := 14) rfl rfl rfl rfl ?_
    refine ev_gvI f_X1_search (nx := 17) (w := (gi 28 5)) rfl (hI.wf.s rfl) rfl rfl rfl rfl ?_
    refine ev_if f_X1_search (t1 := 21) (t2 := 20) rfl rfl rfl (fun h8 => ?_) (fun h8 => ?_)
    · have r9 : (gi 28 5).toInt < (gi 28 4).toInt := Int32.lt_iff_toInt_lt.mp h8
      have u10 : (gi 28 5).toInt ≤ 2147483646 := t_ltu h8 (t_hi (gi 28 4)) rfl
      refine ev_loc f_X1_search (nx := 22) rfl rfl rfl rfl ?_
      refine ev_loc f_X1_search (nx := 23) rfl rfl rfl rfl ?_
      refine ev_getR f_X1_search (nx := 26) rfl (hI.wf.s rfl) rfl rfl (hI.wf.r rfl) rfl rfl ?_
      refine ev_getI f_X1_search (nx := 29) rfl (hI.wf.s rfl) rfl rfl rfl ?_
      obtain ⟨l11, u11⟩ := hI.b (hI.wf.s (k := 29) rfl) (t_bdK rfl : t_bd 3 0 = some (0, 6))
      refine ev_if f_X1_search (t1 := 51) (t2 := 32) rfl rfl rfl (fun h12 => ?_) (fun h12 => ?_)
      · have r13 : ar3.toInt < (gi 29 0).toInt := Int32.lt_iff_toInt_lt.mp h12
        have u14 : ar3.toInt ≤ 5 := t_ltu h12 u11 rfl
        have l15 : 1 ≤ (gi 29 0).toInt := t_ltl h12 l_a3 rfl
        refine ev_loc f_X1_search (nx := 52) rfl rfl rfl rfl ?_
        refine ev_loc f_X1_search (nx := 53) rfl rfl rfl rfl ?_
        refine ev_getR f_X1_search (nx := 56) rfl (hI.wf.s rfl) rfl rfl (hI.wf.r rfl) rfl rfl ?_
        refine ev_gvI f_X1_search (nx := 59) (w := (gi 29 0)) rfl (hI.wf.s rfl) rfl rfl rfl rfl ?_
        refine ev_if f_X1_search (t1 := 141) (t2 := 62) rfl rfl rfl (fun h16 => ?_) (fun h16 => ?_)
        · have r17 : (gi 29 0).toInt ≤ ar3.toInt := Int32.le_iff_toInt_le.mp h16
          have u18 : (gi 29 0).toInt ≤ 5 := t_leu h16 u14
          have l19 : 1 ≤ ar3.toInt := t_lel h16 l15
          refine ev_loc f_X1_search (nx := 143) rfl rfl rfl rfl ?_
          refine ev_loc f_X1_search (nx := 144) rfl rfl rfl rfl ?_
          refine ev_getR f_X1_search (nx := 147) rfl (hI.wf.s rfl) rfl rfl (hI.wf.r rfl) rfl rfl ?_
          refine ev_getI f_X1_search (nx := 150) rfl (hI.wf.s rfl) rfl rfl rfl ?_
          obtain ⟨l20, u20⟩ := hI.b (hI.wf.s (k := 35) rfl) (t_bdK rfl : t_bd 3 0 = some (0, 6))
          refine ev_if f_X1_search (t1 := 236) (t2 := 153) rfl rfl rfl (fun h21 => ?_) (fun h21 => ?_)
          · have r22 : (gi 35 0).toInt ≤ ar4.toInt := Int32.le_iff_toInt_le.mp h21
            exact ev_ret f_X1_search rfl rfl rfl ⟨_, _, _, rfl, hI, hX, ⟨rfl, (show ∀ P : Nat → Nat → Int, s_CP P gi gr → s_PB P → s_PO P → 0 ≤ ar1.toInt → ar1.toInt ≤ 2000 → ar3.toInt ≤ P 0 0 → ar4.toInt ≤ P 0 1 → 0 ≤ ar5.toInt → ar5.toInt ≤ 240000 * (ar3.toInt + ar4.toInt) → (gi 28 4).toInt ≤ 1000000000 → s_BB (gi 28 4).toInt (gi 28 5).toInt (ar5.toInt + s_LS P ar1.toInt ar2.toNatClampNeg ar3.toNatClampNeg ar4.toNatClampNeg) (gi 28 4).toInt from (by
                                                            intro P hc hb hp h1 h2 h3 h4 h5 h6 h7
                                                            have n0 := hc.1.1
                                                            have n1 := hc.1.2
                                                            have c3 := t_clamp (i := ar3) l_a3
                                                            have c4 := t_clamp (i := ar4) l_a4
                                                            have hd : ¬ (P 0 0 ≤ ((ar3.toNatClampNeg : Nat) : Int) ∧ P 0 1 ≤ ((ar4.toNatClampNeg : Nat) : Int)) := s_hdS (by omega)
                                                            obtain ⟨k, hk⟩ := s_rem1 hd
                                                            have hA : s_BB (gi 28 4).toInt (gi 28 5).toInt (ar5.toInt + s_oS P (s_ls P k) (s_bS P ar1.toInt ar2.toNatClampNeg ar3.toNatClampNeg) ar3.toNatClampNeg ar4.toNatClampNeg) (gi 28 4).toInt := s_oS_n (fun hh => absurd hh.1 (by omega)) h5 h7 rfl
                                                            have hD : s_BB (gi 28 4).toInt (gi 28 5).toInt (ar5.toInt + s_oC P (s_ls P k) (s_bC P ar1.toInt ar2.toNatClampNeg ar4.toNatClampNeg) ar3.toNatClampNeg ar4.toNatClampNeg) (gi 28 4).toInt := s_oC_n (fun hh => absurd hh.1 (by omega)) h5 h7 rfl
                                                            exact s_LS_2 hk hd hA hD))⟩⟩
          · have r23 : ar4.toInt < (gi 35 0).toInt := Int32.lt_iff_toInt_lt.mp (t_nle h21)
            have u24 : ar4.toInt ≤ 5 := t_ltu (t_nle h21) u20 rfl
            have l25 : 1 ≤ (gi 35 0).toInt := t_ltl (t_nle h21) l_a4 rfl
            refine ev_loc f_X1_search (nx := 154) rfl rfl rfl rfl ?_
            refine ev_getR f_X1_search (nx := 157) rfl (hI.wf.s rfl) rfl rfl (hI.wf.r rfl) rfl rfl ?_
            refine ev_getR f_X1_search (nx := 160) rfl (hI.wf.s rfl) rfl rfl (hI.wf.r rfl) rfl rfl ?_
            refine ev_loc f_X1_search (nx := 162) rfl rfl rfl rfl ?_
            refine ev_ialdT f_X1_search (nx := 163) rfl (hI.wf.s rfl) l_a4 (by decide) u24 (by decide) rfl (fun w26 e26 => ?_)
            refine ev_loc f_X1_search (nx := 164) rfl rfl rfl rfl ?_
            refine ev_if f_X1_search (t1 := 175) (t2 := 167) rfl rfl rfl (fun h27 => ?_) (fun h27 => ?_)
            · have u28 : ar2.toInt ≤ 0 := t_equ h27 (by decide : (0:Int32).toInt ≤ (0:Int))
              refine ev_loc f_X1_search (nx := 176) rfl rfl rfl rfl ?_
              refine ev_mmRE f_X1_search (nx := 179) (l := (-2147483648)) (u := 2147483647) rfl rfl rfl (by omega) rfl (t_lo w26) (t_hi w26) (t_lo ar1) (t_hi ar1) (by decide) (by decide) rfl (fun z29 m29 l29 u29 => ?_)
              refine ev_loc f_X1_search (nx := 181) (lo' := [(6, .int z29), (0, .ref 28), (1, .int ar1), (2, .int ar2), (3, .int ar3), (4, .int ar4), (5, .int ar5)]) rfl rfl rfl rfl ?_
              refine ev_loc f_X1_search (nx := 182) rfl rfl rfl rfl ?_
              refine ev_getR f_X1_search (nx := 185) rfl (hI.wf.s rfl) rfl rfl (hI.wf.r rfl) rfl rfl ?_
              refine ev_loc f_X1_search (nx := 187) rfl rfl rfl rfl ?_
              refine ev_loc f_X1_search (nx := 189) rfl rfl rfl rfl ?_
              refine ev_qI0 f_X1_search (nx := 192) (r := []) rfl rfl rfl rfl rfl rfl rfl (c_d_canBegin_35 hI (ar4) (z29)) rfl (fun w30 l30 u30 q30 => ?_)
              have q30 : s_may ar4.toInt (gi 35 0).toInt z29.toInt (gi 37 ar4.toNatClampNeg).toInt (gi 40 ar4.toNatClampNeg).toInt w30.toInt := q30
              refine ev_if f_X1_search (t1 := 236) (t2 := 195) rfl rfl rfl (fun h31 => ?_) (fun h31 => ?_)
              · have u32 : w30.toInt ≤ 0 := t_equ h31 (by decide : (0:Int32).toInt ≤ (0:Int))
                exact ev_ret f_X1_search rfl rfl rfl ⟨_, _, _, rfl, hI, hX, ⟨rfl, (show ∀ P : Nat → Nat → Int, s_CP P gi gr → s_PB P → s_PO P → 0 ≤ ar1.toInt → ar1.toInt ≤ 2000 → ar3.toInt ≤ P 0 0 → ar4.toInt ≤ P 0 1 → 0 ≤ ar5.toInt → ar5.toInt ≤ 240000 * (ar3.toInt + ar4.toInt) → (gi 28 4).toInt ≤ 1000000000 → s_BB (gi 28 4).toInt (gi 28 5).toInt (ar5.toInt + s_LS P ar1.toInt ar2.toNatClampNeg ar3.toNatClampNeg ar4.toNatClampNeg) (gi 28 4).toInt from (by
                                                            intro P hc hb hp h1 h2 h3 h4 h5 h6 h7
                                                            have n0 := hc.1.1
                                                            have n1 := hc.1.2
                                                            have c3 := t_clamp (i := ar3) l_a3
                                                            have c4 := t_clamp (i := ar4) l_a4
                                                            have hd : ¬ (P 0 0 ≤ ((ar3.toNatClampNeg : Nat) : Int) ∧ P 0 1 ≤ ((ar4.toNatClampNeg : Nat) : Int)) := s_hdS (by omega)
                                                            obtain ⟨k, hk⟩ := s_rem1 hd
                                                            have hA : s_BB (gi 28 4).toInt (gi 28 5).toInt (ar5.toInt + s_oS P (s_ls P k) (s_bS P ar1.toInt ar2.toNatClampNeg ar3.toNatClampNeg) ar3.toNatClampNeg ar4.toNatClampNeg) (gi 28 4).toInt := s_oS_n (fun hh => absurd hh.1 (by omega)) h5 h7 rfl
                                                            have hs4 := hc.2.2.1 ar4.toNatClampNeg (by omega)
                                                            have hw4 : w26.toInt = P 5 ar4.toNatClampNeg := by rw [e26]; exact hs4.1
                                                            have ho4 : ar2.toNatClampNeg = 0 := by have := t_clamp (i := ar2) (by omega); omega
                                                            have hb4 : z29.toInt = (s_bC P ar1.toInt ar2.toNatClampNeg ar4.toNatClampNeg) := by unfold s_bC; rw [m29 rfl, hw4, ho4, if_neg (by decide)]
                                                            have hq4 := q30 (by omega) (by omega)
                                                            rw [hs4.1, hs4.2.2.2, hb4] at hq4
                                                            have hD : s_BB (gi 28 4).toInt (gi 28 5).toInt (ar5.toInt + s_oC P (s_ls P k) (s_bC P ar1.toInt ar2.toNatClampNeg ar4.toNatClampNeg) ar3.toNatClampNeg ar4.toNatClampNeg) (gi 28 4).toInt := s_oC_n (fun hh => by have h9 := hq4.mpr ⟨hh.2, s_bC_le, Or.inl rfl⟩; omega) h5 h7 rfl
                                                            exact s_LS_2 hk hd hA hD))⟩⟩
              · have r33 : w30.toInt ≠ 0 := fun e => h31 (Int32.toInt_inj.mp (e.trans (by decide : (0:Int) = (0 : Int32).toInt)))
                have l34 : 1 ≤ w30.toInt := t_nel h31 l30 rfl rfl
                refine ev_loc f_X1_search (nx := 196) rfl rfl rfl rfl ?_
                refine ev_getR f_X1_search (nx := 199) rfl (hI.wf.s rfl) rfl rfl (hI.wf.r rfl) rfl rfl ?_
                refine ev_loc f_X1_search (nx := 201) rfl rfl rfl rfl ?_
                refine ev_loc f_X1_search (nx := 203) rfl rfl rfl rfl ?_
                refine ev_qI0 f_X1_search (nx := 206) (r := []) rfl rfl rfl rfl rfl rfl rfl (c_d_waitsOf_35 hI (ar4) (z29)) rfl (fun w35 l35 u35 q35 => ?_)
                have q35 : s_wts ar4.toInt (gi 35 0).toInt z29.toInt (gi 37 ar4.toNatClampNeg).toInt (gi 39 ar4.toNatClampNeg).toInt w35.toInt := q35
                refine ev_loc f_X1_search (nx := 208) (lo' := [(7, .int w35), (6, .int z29), (0, .ref 28), (1, .int ar1), (2, .int ar2), (3, .int ar3), (4, .int ar4), (5, .int ar5)]) rfl rfl rfl rfl ?_
                refine ev_loc f_X1_search (nx := 209) rfl rfl rfl rfl ?_
                refine ev_loc f_X1_search (nx := 211) rfl rfl rfl rfl ?_
                refine ev_loc f_X1_search (nx := 212) rfl rfl rfl rfl ?_
                refine ev_getR f_X1_search (nx := 215) rfl (hI.wf.s rfl) rfl rfl (hI.wf.r rfl) rfl rfl ?_
                refine ev_getR f_X1_search (nx := 218) rfl (hI.wf.s rfl) rfl rfl (hI.wf.r rfl) rfl rfl ?_
                refine ev_loc f_X1_search (nx := 220) rfl rfl rfl rfl ?_
                refine ev_ialdT f_X1_search (nx := 221) rfl (hI.wf.s rfl) l_a4 (by decide) u24 (by decide) rfl (fun w36 e36 => ?_)
                refine ev_anyIE f_X1_search (nx := 222) rfl rfl rfl rfl (fun z37 e37 => ?_)
                refine ev_ic f_X1_search (nx := 223) (v := 0) rfl (by decide) rfl ?_
                refine ev_loc f_X1_search (nx := 224) rfl rfl rfl rfl ?_
                refine ev_loc f_X1_search (nx := 226) rfl rfl rfl rfl ?_
                refine ev_ic f_X1_search (nx := 227) (v := 1) rfl (by decide) rfl ?_
                refine ev_addC f_X1_search (nx := 228) (c := 1) (l := 1) (u := 6) rfl (by decide) l_a4 u24 rfl rfl (by decide) (by decide) rfl (fun z38 e38 l38 u38 => ?_)
                refine ev_loc f_X1_search (nx := 230) rfl rfl rfl rfl ?_
                refine ev_loc f_X1_search (nx := 232) rfl rfl rfl rfl ?_
                refine ev_anyIE f_X1_search (nx := 233) rfl rfl rfl rfl (fun z39 e39 => ?_)
                refine ev_qN f_X1_search (nx := 236) (r := []) rfl rfl rfl rfl rfl rfl rfl (x_Me.up (ih hI (z37) (0) (by decide : (0:Int) ≤ (0:Int32).toInt) (Int.le_trans (by decide : (0:Int32).toInt ≤ (0:Int)) (by decide : (0:Int) ≤ 1)) (ar3) (Int.le_trans (by decide : (0:Int) ≤ 1) l19) (Int.le_trans u14 (by decide : (5:Int) ≤ 6)) (z38) (Int.le_trans (by decide : (0:Int) ≤ 1) l38) u38 (z39) (by omega)) (by omega)) rfl hX rfl (fun gi40 gl40 gr40 hI hX hC40 q40 => ?_)
                have q40 : ∀ P : Nat → Nat → Int, s_CP P gi gr → s_PB P → s_PO P → 0 ≤ z37.toInt → z37.toInt ≤ 2000 → ar3.toInt ≤ P 0 0 → z38.toInt ≤ P 0 1 → 0 ≤ z39.toInt → z39.toInt ≤ 240000 * (ar3.toInt + z38.toInt) → (gi 28 4).toInt ≤ 1000000000 → s_BB (gi 28 4).toInt (gi 28 5).toInt (z39.toInt + s_LS P z37.toInt (0 : Int32).toNatClampNeg ar3.toNatClampNeg z38.toNatClampNeg) (gi40 28 4).toInt := q40
                exact ev_ret f_X1_search rfl rfl rfl ⟨_, _, _, rfl, hI, hX, ⟨rfl, (show ∀ P : Nat → Nat → Int, s_CP P gi gr → s_PB P → s_PO P → 0 ≤ ar1.toInt → ar1.toInt ≤ 2000 → ar3.toInt ≤ P 0 0 → ar4.toInt ≤ P 0 1 → 0 ≤ ar5.toInt → ar5.toInt ≤ 240000 * (ar3.toInt + ar4.toInt) → (gi 28 4).toInt ≤ 1000000000 → s_BB (gi 28 4).toInt (gi 28 5).toInt (ar5.toInt + s_LS P ar1.toInt ar2.toNatClampNeg ar3.toNatClampNeg ar4.toNatClampNeg) (gi40 28 4).toInt from (by
                                                            intro P hc hb hp h1 h2 h3 h4 h5 h6 h7
                                                            have n0 := hc.1.1
                                                            have n1 := hc.1.2
                                                            have c3 := t_clamp (i := ar3) l_a3
                                                            have c4 := t_clamp (i := ar4) l_a4
                                                            have hd : ¬ (P 0 0 ≤ ((ar3.toNatClampNeg : Nat) : Int) ∧ P 0 1 ≤ ((ar4.toNatClampNeg : Nat) : Int)) := s_hdS (by omega)
                                                            obtain ⟨k, hk⟩ := s_rem1 hd
                                                            have hA : s_BB (gi 28 4).toInt (gi 28 5).toInt (ar5.toInt + s_oS P (s_ls P k) (s_bS P ar1.toInt ar2.toNatClampNeg ar3.toNatClampNeg) ar3.toNatClampNeg ar4.toNatClampNeg) (gi 28 4).toInt := s_oS_n (fun hh => absurd hh.1 (by omega)) h5 h7 rfl
                                                            have hs4 := hc.2.2.1 ar4.toNatClampNeg (by omega)
                                                            have hw4 : w26.toInt = P 5 ar4.toNatClampNeg := by rw [e26]; exact hs4.1
                                                            have ho4 : ar2.toNatClampNeg = 0 := by have := t_clamp (i := ar2) (by omega); omega
                                                            have hb4 : z29.toInt = (s_bC P ar1.toInt ar2.toNatClampNeg ar4.toNatClampNeg) := by unfold s_bC; rw [m29 rfl, hw4, ho4, if_neg (by decide)]
                                                            have hq4 := q30 (by omega) (by omega)
                                                            rw [hs4.1, hs4.2.2.2, hb4] at hq4
                                                            have hy := hq4.mp (by omega)
                                                            have hpa := hp.2.1 ar4.toNatClampNeg (by omega)
                                                            have hpb := hb.2.2.1 ar4.toNatClampNeg (by omega)
                                                            have hv4 := q35 (by omega) (by omega) (by rw [hs4.1, hb4]; exact s_bC_le) (by rw [hs4.1, hb4]; omega) (by rw [hs4.2.2.1]; exact hpa.2.2) (by rw [hs4.2.2.1]; exact hpb.2.2)
                                                            rw [hs4.1, hs4.2.2.1, hb4] at hv4
                                                            have ht4 : w36.toInt = P 6 ar4.toNatClampNeg := by rw [e36]; exact hs4.2.1
                                                            have hz4 := s_add e37 hb4 ht4 (by omega)
                                                            have hcs4 := s_cst (n := ar3.toInt + ar4.toInt) h5 h6 hy.1 hpa.1 hv4.2.1 hv4.2.2
                                                            have hu4 := s_add e39 rfl hv4.1 (hcs4.2.2 (by omega))
                                                            have hn4 := s_cp (y := ar4) (z := z38) (by omega) e38
                                                            have hbm := s_bC_m (o := ar2.toNatClampNeg) (c := ar4.toNatClampNeg) hp h1
                                                            have hg4 := q40 P hc hb hp (by omega) (by omega) (by omega) (by omega) (by rw [hu4]; exact hcs4.1) (by rw [hu4, show ar3.toInt + z38.toInt = ar3.toInt + ar4.toInt + 1 from (by omega)]; exact hcs4.2.1) h7
                                                            rw [hz4, hu4, hn4, s_LS_k (k := k) (s_rem3 hk (by omega))] at hg4
                                                            have hD : s_BB (gi 28 4).toInt (gi 28 5).toInt (ar5.toInt + s_oC P (s_ls P k) (s_bC P ar1.toInt ar2.toNatClampNeg ar4.toNatClampNeg) ar3.toNatClampNeg ar4.toNatClampNeg) (gi40 28 4).toInt := s_oC_y ⟨by omega, hy.1⟩ h5 h7 hg4
                                                            exact s_LS_2 hk hd hA hD))⟩⟩
            · have r42 : ar2.toInt ≠ 0 := fun e => h27 (Int32.toInt_inj.mp (e.trans (by decide : (0:Int) = (0 : Int32).toInt)))
              have l43 : 1 ≤ ar2.toInt := t_nel h27 l_a2 rfl rfl
              refine ev_loc f_X1_search (nx := 168) rfl rfl rfl rfl ?_
              refine ev_loc f_X1_search (nx := 169) rfl rfl rfl rfl ?_
              refine ev_qI0 f_X1_search (nx := 172) (r := [.int w26]) rfl rfl rfl rfl rfl rfl rfl (c_d_turnEnd hI (ar1)) rfl (fun w44 l44 u44 q44 => ?_)
              have q44 : ∀ P : Nat → Nat → Int, s_CP P gi gr → s_PB P → 0 ≤ ar1.toInt → ar1.toInt ≤ 3000 → w44.toInt = ar1.toInt + P 8 ar1.toInt.toNat := q44
              refine ev_jmp f_X1_search (nx := 176) rfl rfl rfl ?_
              refine ev_mmRE f_X1_search (nx := 179) (l := (-2147483648)) (u := 2147483647) rfl rfl rfl (by omega) rfl (t_lo w26) (t_hi w26) l44 u44 (by decide) (by decide) rfl (fun z45 m45 l45 u45 => ?_)
              refine ev_loc f_X1_search (nx := 181) (lo' := [(6, .int z45), (0, .ref 28), (1, .int ar1), (2, .int ar2), (3, .int ar3), (4, .int ar4), (5, .int ar5)]) rfl rfl rfl rfl ?_
              refine ev_loc f_X1_search (nx := 182) rfl rfl rfl rfl ?_
              refine ev_getR f_X1_search (nx := 185) rfl (hI.wf.s rfl) rfl rfl (hI.wf.r rfl) rfl rfl ?_
              refine ev_loc f_X1_search (nx := 187) rfl rfl rfl rfl ?_
              refine ev_loc f_X1_search (nx := 189) rfl rfl rfl rfl ?_
              refine ev_qI0 f_X1_search (nx := 192) (r := []) rfl rfl rfl rfl rfl rfl rfl (c_d_canBegin_35 hI (ar4) (z45)) rfl (fun w46 l46 u46 q46 => ?_)
              have q46 : s_may ar4.toInt (gi 35 0).toInt z45.toInt (gi 37 ar4.toNatClampNeg).toInt (gi 40 ar4.toNatClampNeg).toInt w46.toInt := q46
              refine ev_if f_X1_search (t1 := 236) (t2 := 195) rfl rfl rfl (fun h47 => ?_) (fun h47 => ?_)
              · have u48 : w46.toInt ≤ 0 := t_equ h47 (by decide : (0:Int32).toInt ≤ (0:Int))
                exact ev_ret f_X1_search rfl rfl rfl ⟨_, _, _, rfl, hI, hX, ⟨rfl, (show ∀ P : Nat → Nat → Int, s_CP P gi gr → s_PB P → s_PO P → 0 ≤ ar1.toInt → ar1.toInt ≤ 2000 → ar3.toInt ≤ P 0 0 → ar4.toInt ≤ P 0 1 → 0 ≤ ar5.toInt → ar5.toInt ≤ 240000 * (ar3.toInt + ar4.toInt) → (gi 28 4).toInt ≤ 1000000000 → s_BB (gi 28 4).toInt (gi 28 5).toInt (ar5.toInt + s_LS P ar1.toInt ar2.toNatClampNeg ar3.toNatClampNeg ar4.toNatClampNeg) (gi 28 4).toInt from (by
                                                            intro P hc hb hp h1 h2 h3 h4 h5 h6 h7
                                                            have n0 := hc.1.1
                                                            have n1 := hc.1.2
                                                            have c3 := t_clamp (i := ar3) l_a3
                                                            have c4 := t_clamp (i := ar4) l_a4
                                                            have hd : ¬ (P 0 0 ≤ ((ar3.toNatClampNeg : Nat) : Int) ∧ P 0 1 ≤ ((ar4.toNatClampNeg : Nat) : Int)) := s_hdS (by omega)
                                                            obtain ⟨k, hk⟩ := s_rem1 hd
                                                            have hA : s_BB (gi 28 4).toInt (gi 28 5).toInt (ar5.toInt + s_oS P (s_ls P k) (s_bS P ar1.toInt ar2.toNatClampNeg ar3.toNatClampNeg) ar3.toNatClampNeg ar4.toNatClampNeg) (gi 28 4).toInt := s_oS_n (fun hh => absurd hh.1 (by omega)) h5 h7 rfl
                                                            have hs4 := hc.2.2.1 ar4.toNatClampNeg (by omega)
                                                            have hw4 : w26.toInt = P 5 ar4.toNatClampNeg := by rw [e26]; exact hs4.1
                                                            have ho4 : ar2.toNatClampNeg = 1 := by have := t_clamp (i := ar2) (by omega); omega
                                                            have hy4 := q44 P hc hb h1 (by omega)
                                                            have hb4 : z45.toInt = (s_bC P ar1.toInt ar2.toNatClampNeg ar4.toNatClampNeg) := by unfold s_bC; rw [m45 rfl, hw4, ho4, if_pos rfl, hy4]
                                                            have hq4 := q46 (by omega) (by omega)
                                                            rw [hs4.1, hs4.2.2.2, hb4] at hq4
                                                            have hD : s_BB (gi 28 4).toInt (gi 28 5).toInt (ar5.toInt + s_oC P (s_ls P k) (s_bC P ar1.toInt ar2.toNatClampNeg ar4.toNatClampNeg) ar3.toNatClampNeg ar4.toNatClampNeg) (gi 28 4).toInt := s_oC_n (fun hh => by have h9 := hq4.mpr ⟨hh.2, s_bC_le, Or.inl rfl⟩; omega) h5 h7 rfl
                                                            exact s_LS_2 hk hd hA hD))⟩⟩
              · have r49 : w46.toInt ≠ 0 := fun e => h47 (Int32.toInt_inj.mp (e.trans (by decide : (0:Int) = (0 : Int32).toInt)))
                have l50 : 1 ≤ w46.toInt := t_nel h47 l46 rfl rfl
                refine ev_loc f_X1_search (nx := 196) rfl rfl rfl rfl ?_
                refine ev_getR f_X1_search (nx := 199) rfl (hI.wf.s rfl) rfl rfl (hI.wf.r rfl) rfl rfl ?_
                refine ev_loc f_X1_search (nx := 201) rfl rfl rfl rfl ?_
                refine ev_loc f_X1_search (nx := 203) rfl rfl rfl rfl ?_
                refine ev_qI0 f_X1_search (nx := 206) (r := []) rfl rfl rfl rfl rfl rfl rfl (c_d_waitsOf_35 hI (ar4) (z45)) rfl (fun w51 l51 u51 q51 => ?_)
                have q51 : s_wts ar4.toInt (gi 35 0).toInt z45.toInt (gi 37 ar4.toNatClampNeg).toInt (gi 39 ar4.toNatClampNeg).toInt w51.toInt := q51
                refine ev_loc f_X1_search (nx := 208) (lo' := [(7, .int w51), (6, .int z45), (0, .ref 28), (1, .int ar1), (2, .int ar2), (3, .int ar3), (4, .int ar4), (5, .int ar5)]) rfl rfl rfl rfl ?_
                refine ev_loc f_X1_search (nx := 209) rfl rfl rfl rfl ?_
                refine ev_loc f_X1_search (nx := 211) rfl rfl rfl rfl ?_
                refine ev_loc f_X1_search (nx := 212) rfl rfl rfl rfl ?_
                refine ev_getR f_X1_search (nx := 215) rfl (hI.wf.s rfl) rfl rfl (hI.wf.r rfl) rfl rfl ?_
                refine ev_getR f_X1_search (nx := 218) rfl (hI.wf.s rfl) rfl rfl (hI.wf.r rfl) rfl rfl ?_
                refine ev_loc f_X1_search (nx := 220) rfl rfl rfl rfl ?_
                refine ev_ialdT f_X1_search (nx := 221) rfl (hI.wf.s rfl) l_a4 (by decide) u24 (by decide) rfl (fun w52 e52 => ?_)
                refine ev_anyIE f_X1_search (nx := 222) rfl rfl rfl rfl (fun z53 e53 => ?_)
                refine ev_ic f_X1_search (nx := 223) (v := 0) rfl (by decide) rfl ?_
                refine ev_loc f_X1_search (nx := 224) rfl rfl rfl rfl ?_
                refine ev_loc f_X1_search (nx := 226) rfl rfl rfl rfl ?_
                refine ev_ic f_X1_search (nx := 227) (v := 1) rfl (by decide) rfl ?_
                refine ev_addC f_X1_search (nx := 228) (c := 1) (l := 1) (u := 6) rfl (by decide) l_a4 u24 rfl rfl (by decide) (by decide) rfl (fun z54 e54 l54 u54 => ?_)
                refine ev_loc f_X1_search (nx := 230) rfl rfl rfl rfl ?_
                refine ev_loc f_X1_search (nx := 232) rfl rfl rfl rfl ?_
                refine ev_anyIE f_X1_search (nx := 233) rfl rfl rfl rfl (fun z55 e55 => ?_)
                refine ev_qN f_X1_search (nx := 236) (r := []) rfl rfl rfl rfl rfl rfl rfl (x_Me.up (ih hI (z53) (0) (by decide : (0:Int) ≤ (0:Int32).toInt) (Int.le_trans (by decide : (0:Int32).toInt ≤ (0:Int)) (by decide : (0:Int) ≤ 1)) (ar3) (Int.le_trans (by decide : (0:Int) ≤ 1) l19) (Int.le_trans u14 (by decide : (5:Int) ≤ 6)) (z54) (Int.le_trans (by decide : (0:Int) ≤ 1) l54) u54 (z55) (by omega)) (by omega)) rfl hX rfl (fun gi56 gl56 gr56 hI hX hC56 q56 => ?_)
                have q56 : ∀ P : Nat → Nat → Int, s_CP P gi gr → s_PB P → s_PO P → 0 ≤ z53.toInt → z53.toInt ≤ 2000 → ar3.toInt ≤ P 0 0 → z54.toInt ≤ P 0 1 → 0 ≤ z55.toInt → z55.toInt ≤ 240000 * (ar3.toInt + z54.toInt) → (gi 28 4).toInt ≤ 1000000000 → s_BB (gi 28 4).toInt (gi 28 5).toInt (z55.toInt + s_LS P z53.toInt (0 : Int32).toNatClampNeg ar3.toNatClampNeg z54.toNatClampNeg) (gi56 28 4).toInt := q56
                exact ev_ret f_X1_search rfl rfl rfl ⟨_, _, _, rfl, hI, hX, ⟨rfl, (show ∀ P : Nat → Nat → Int, s_CP P gi gr → s_PB P → s_PO P → 0 ≤ ar1.toInt → ar1.toInt ≤ 2000 → ar3.toInt ≤ P 0 0 → ar4.toInt ≤ P 0 1 → 0 ≤ ar5.toInt → ar5.toInt ≤ 240000 * (ar3.toInt + ar4.toInt) → (gi 28 4).toInt ≤ 1000000000 → s_BB (gi 28 4).toInt (gi 28 5).toInt (ar5.toInt + s_LS P ar1.toInt ar2.toNatClampNeg ar3.toNatClampNeg ar4.toNatClampNeg) (gi56 28 4).toInt from (by
                                                            intro P hc hb hp h1 h2 h3 h4 h5 h6 h7
                                                            have n0 := hc.1.1
                                                            have n1 := hc.1.2
                                                            have c3 := t_clamp (i := ar3) l_a3
                                                            have c4 := t_clamp (i := ar4) l_a4
                                                            have hd : ¬ (P 0 0 ≤ ((ar3.toNatClampNeg : Nat) : Int) ∧ P 0 1 ≤ ((ar4.toNatClampNeg : Nat) : Int)) := s_hdS (by omega)
                                                            obtain ⟨k, hk⟩ := s_rem1 hd
                                                            have hA : s_BB (gi 28 4).toInt (gi 28 5).toInt (ar5.toInt + s_oS P (s_ls P k) (s_bS P ar1.toInt ar2.toNatClampNeg ar3.toNatClampNeg) ar3.toNatClampNeg ar4.toNatClampNeg) (gi 28 4).toInt := s_oS_n (fun hh => absurd hh.1 (by omega)) h5 h7 rfl
                                                            have hs4 := hc.2.2.1 ar4.toNatClampNeg (by omega)
                                                            have hw4 : w26.toInt = P 5 ar4.toNatClampNeg := by rw [e26]; exact hs4.1
                                                            have ho4 : ar2.toNatClampNeg = 1 := by have := t_clamp (i := ar2) (by omega); omega
                                                            have hy4 := q44 P hc hb h1 (by omega)
                                                            have hb4 : z45.toInt = (s_bC P ar1.toInt ar2.toNatClampNeg ar4.toNatClampNeg) := by unfold s_bC; rw [m45 rfl, hw4, ho4, if_pos rfl, hy4]
                                                            have hq4 := q46 (by omega) (by omega)
                                                            rw [hs4.1, hs4.2.2.2, hb4] at hq4
                                                            have hy := hq4.mp (by omega)
                                                            have hpa := hp.2.1 ar4.toNatClampNeg (by omega)
                                                            have hpb := hb.2.2.1 ar4.toNatClampNeg (by omega)
                                                            have hv4 := q51 (by omega) (by omega) (by rw [hs4.1, hb4]; exact s_bC_le) (by rw [hs4.1, hb4]; omega) (by rw [hs4.2.2.1]; exact hpa.2.2) (by rw [hs4.2.2.1]; exact hpb.2.2)
                                                            rw [hs4.1, hs4.2.2.1, hb4] at hv4
                                                            have ht4 : w52.toInt = P 6 ar4.toNatClampNeg := by rw [e52]; exact hs4.2.1
                                                            have hz4 := s_add e53 hb4 ht4 (by omega)
                                                            have hcs4 := s_cst (n := ar3.toInt + ar4.toInt) h5 h6 hy.1 hpa.1 hv4.2.1 hv4.2.2
                                                            have hu4 := s_add e55 rfl hv4.1 (hcs4.2.2 (by omega))
                                                            have hn4 := s_cp (y := ar4) (z := z54) (by omega) e54
                                                            have hbm := s_bC_m (o := ar2.toNatClampNeg) (c := ar4.toNatClampNeg) hp h1
                                                            have hg4 := q56 P hc hb hp (by omega) (by omega) (by omega) (by omega) (by rw [hu4]; exact hcs4.1) (by rw [hu4, show ar3.toInt + z54.toInt = ar3.toInt + ar4.toInt + 1 from (by omega)]; exact hcs4.2.1) h7
                                                            rw [hz4, hu4, hn4, s_LS_k (k := k) (s_rem3 hk (by omega))] at hg4
                                                            have hD : s_BB (gi 28 4).toInt (gi 28 5).toInt (ar5.toInt + s_oC P (s_ls P k) (s_bC P ar1.toInt ar2.toNatClampNeg ar4.toNatClampNeg) ar3.toNatClampNeg ar4.toNatClampNeg) (gi56 28 4).toInt := s_oC_y ⟨by omega, hy.1⟩ h5 h7 hg4
                                                            exact s_LS_2 hk hd hA hD))⟩⟩
        · have r58 : ar3.toInt < (gi 29 0).toInt := Int32.lt_iff_toInt_lt.mp (t_nle h16)
          refine ev_loc f_X1_search (nx := 63) rfl rfl rfl rfl ?_
          refine ev_getR f_X1_search (nx := 66) rfl (hI.wf.s rfl) rfl rfl (hI.wf.r rfl) rfl rfl ?_
          refine ev_getR f_X1_search (nx := 69) rfl (hI.wf.s rfl) rfl rfl (hI.wf.r rfl) rfl rfl ?_
          refine ev_loc f_X1_search (nx := 70) rfl rfl rfl rfl ?_
          refine ev_ialdT f_X1_search (nx := 71) rfl (hI.wf.s rfl) l_a3 (by decide) u14 (by decide) rfl (fun w59 e59 => ?_)
          refine ev_loc f_X1_search (nx := 72) rfl rfl rfl rfl ?_
          refine ev_if f_X1_search (t1 := 79) (t2 := 75) rfl rfl rfl (fun h60 => ?_) (fun h60 => ?_)
          · have u61 : ar2.toInt ≤ 0 := t_equ h60 (by decide : (0:Int32).toInt ≤ (0:Int))
            refine ev_loc f_X1_search (nx := 80) rfl rfl rfl rfl ?_
            refine ev_loc f_X1_search (nx := 81) rfl rfl rfl rfl ?_
            refine ev_qI0 f_X1_search (nx := 84) (r := [.int w59]) rfl rfl rfl rfl rfl rfl rfl (c_d_turnEnd hI (ar1)) rfl (fun w62 l62 u62 q62 => ?_)
            have q62 : ∀ P : Nat → Nat → Int, s_CP P gi gr → s_PB P → 0 ≤ ar1.toInt → ar1.toInt ≤ 3000 → w62.toInt = ar1.toInt + P 8 ar1.toInt.toNat := q62
            refine ev_mmRE f_X1_search (nx := 87) (l := (-2147483648)) (u := 2147483647) rfl rfl rfl (by omega) rfl (t_lo w59) (t_hi w59) l62 u62 (by decide) (by decide) rfl (fun z63 m63 l63 u63 => ?_)
            refine ev_loc f_X1_search (nx := 89) (lo' := [(6, .int z63), (0, .ref 28), (1, .int ar1), (2, .int ar2), (3, .int ar3), (4, .int ar4), (5, .int ar5)]) rfl rfl rfl rfl ?_
            refine ev_loc f_X1_search (nx := 90) rfl rfl rfl rfl ?_
            refine ev_getR f_X1_search (nx := 93) rfl (hI.wf.s rfl) rfl rfl (hI.wf.r rfl) rfl rfl ?_
            refine ev_loc f_X1_search (nx := 94) rfl rfl rfl rfl ?_
            refine ev_loc f_X1_search (nx := 96) rfl rfl rfl rfl ?_
            refine ev_qI0 f_X1_search (nx := 99) (r := []) rfl rfl rfl rfl rfl rfl rfl (c_d_canBegin_29 hI (ar3) (z63)) rfl (fun w64 l64 u64 q64 => ?_)
            have q64 : s_may ar3.toInt (gi 29 0).toInt z63.toInt (gi 31 ar3.toNatClampNeg).toInt (gi 34 ar3.toNatClampNeg).toInt w64.toInt := q64
            refine ev_if f_X1_search (t1 := 141) (t2 := 102) rfl rfl rfl (fun h65 => ?_) (fun h65 => ?_)
            · have u66 : w64.toInt ≤ 0 := t_equ h65 (by decide : (0:Int32).toInt ≤ (0:Int))
              refine ev_loc f_X1_search (nx := 143) rfl rfl rfl rfl ?_
              refine ev_loc f_X1_search (nx := 144) rfl rfl rfl rfl ?_
              refine ev_getR f_X1_search (nx := 147) rfl (hI.wf.s rfl) rfl rfl (hI.wf.r rfl) rfl rfl ?_
              refine ev_getI f_X1_search (nx := 150) rfl (hI.wf.s rfl) rfl rfl rfl ?_
              obtain ⟨l67, u67⟩ := hI.b (hI.wf.s (k := 35) rfl) (t_bdK rfl : t_bd 3 0 = some (0, 6))
              refine ev_if f_X1_search (t1 := 236) (t2 := 153) rfl rfl rfl (fun h68 => ?_) (fun h68 => ?_)
              · have r69 : (gi 35 0).toInt ≤ ar4.toInt := Int32.le_iff_toInt_le.mp h68
                exact ev_ret f_X1_search rfl rfl rfl ⟨_, _, _, rfl, hI, hX, ⟨rfl, (show ∀ P : Nat → Nat → Int, s_CP P gi gr → s_PB P → s_PO P → 0 ≤ ar1.toInt → ar1.toInt ≤ 2000 → ar3.toInt ≤ P 0 0 → ar4.toInt ≤ P 0 1 → 0 ≤ ar5.toInt → ar5.toInt ≤ 240000 * (ar3.toInt + ar4.toInt) → (gi 28 4).toInt ≤ 1000000000 → s_BB (gi 28 4).toInt (gi 28 5).toInt (ar5.toInt + s_LS P ar1.toInt ar2.toNatClampNeg ar3.toNatClampNeg ar4.toNatClampNeg) (gi 28 4).toInt from (by
                                                            intro P hc hb hp h1 h2 h3 h4 h5 h6 h7
                                                            have n0 := hc.1.1
                                                            have n1 := hc.1.2
                                                            have c3 := t_clamp (i := ar3) l_a3
                                                            have c4 := t_clamp (i := ar4) l_a4
                                                            have hd : ¬ (P 0 0 ≤ ((ar3.toNatClampNeg : Nat) : Int) ∧ P 0 1 ≤ ((ar4.toNatClampNeg : Nat) : Int)) := s_hdS (by omega)
                                                            obtain ⟨k, hk⟩ := s_rem1 hd
                                                            have hs3 := hc.2.1 ar3.toNatClampNeg (by omega)
                                                            have hw3 : w59.toInt = P 1 ar3.toNatClampNeg := by rw [e59]; exact hs3.1
                                                            have ho3 : ar2.toNatClampNeg = 0 := by have := t_clamp (i := ar2) (by omega); omega
                                                            have hy3 := q62 P hc hb h1 (by omega)
                                                            have hb3 : z63.toInt = (s_bS P ar1.toInt ar2.toNatClampNeg ar3.toNatClampNeg) := by unfold s_bS; rw [m63 rfl, hw3, ho3, if_neg (by decide), hy3]
                                                            have hq3 := q64 (by omega) (by omega)
                                                            rw [hs3.1, hs3.2.2.2, hb3] at hq3
                                                            have hA : s_BB (gi 28 4).toInt (gi 28 5).toInt (ar5.toInt + s_oS P (s_ls P k) (s_bS P ar1.toInt ar2.toNatClampNeg ar3.toNatClampNeg) ar3.toNatClampNeg ar4.toNatClampNeg) (gi 28 4).toInt := s_oS_n (fun hh => by have h9 := hq3.mpr ⟨hh.2.1, s_bS_le, hh.2.2⟩; omega) h5 h7 rfl
                                                            have hD : s_BB (gi 28 4).toInt (gi 28 5).toInt (ar5.toInt + s_oC P (s_ls P k) (s_bC P ar1.toInt ar2.toNatClampNeg ar4.toNatClampNeg) ar3.toNatClampNeg ar4.toNatClampNeg) (gi 28 4).toInt := s_oC_n (fun hh => absurd hh.1 (by omega)) h5 h7 rfl
                                                            exact s_LS_2 hk hd hA hD))⟩⟩
              · have r70 : ar4.toInt < (gi 35 0).toInt := Int32.lt_iff_toInt_lt.mp (t_nle h68)
                have u71 : ar4.toInt ≤ 5 := t_ltu (t_nle h68) u67 rfl
                have l72 : 1 ≤ (gi 35 0).toInt := t_ltl (t_nle h68) l_a4 rfl
                refine ev_loc f_X1_search (nx := 154) rfl rfl rfl rfl ?_
                refine ev_getR f_X1_search (nx := 157) rfl (hI.wf.s rfl) rfl rfl (hI.wf.r rfl) rfl rfl ?_
                refine ev_getR f_X1_search (nx := 160) rfl (hI.wf.s rfl) rfl rfl (hI.wf.r rfl) rfl rfl ?_
                refine ev_loc f_X1_search (nx := 162) rfl rfl rfl rfl ?_
                refine ev_ialdT f_X1_search (nx := 163) rfl (hI.wf.s rfl) l_a4 (by decide) u71 (by decide) rfl (fun w73 e73 => ?_)
                refine ev_loc f_X1_search (nx := 164) rfl rfl rfl rfl ?_
                refine ev_t f_X1_search (t1 := 175) (t2 := 167) rfl rfl rfl (t_eqT u61 l_a2 (by decide : (0:Int32).toInt ≤ (0:Int)) (by decide : (0:Int) ≤ (0:Int32).toInt)) ?_
                refine ev_loc f_X1_search (nx := 176) rfl rfl rfl rfl ?_
                refine ev_mmRE f_X1_search (nx := 179) (l := (-2147483648)) (u := 2147483647) rfl rfl rfl (by omega) rfl (t_lo w73) (t_hi w73) (t_lo ar1) (t_hi ar1) (by decide) (by decide) rfl (fun z74 m74 l74 u74 => ?_)
                refine ev_loc f_X1_search (nx := 181) (lo' := [(6, .int z74), (0, .ref 28), (1, .int ar1), (2, .int ar2), (3, .int ar3), (4, .int ar4), (5, .int ar5)]) rfl rfl rfl rfl ?_
                refine ev_loc f_X1_search (nx := 182) rfl rfl rfl rfl ?_
                refine ev_getR f_X1_search (nx := 185) rfl (hI.wf.s rfl) rfl rfl (hI.wf.r rfl) rfl rfl ?_
                refine ev_loc f_X1_search (nx := 187) rfl rfl rfl rfl ?_
                refine ev_loc f_X1_search (nx := 189) rfl rfl rfl rfl ?_
                refine ev_qI0 f_X1_search (nx := 192) (r := []) rfl rfl rfl rfl rfl rfl rfl (c_d_canBegin_35 hI (ar4) (z74)) rfl (fun w75 l75 u75 q75 => ?_)
                have q75 : s_may ar4.toInt (gi 35 0).toInt z74.toInt (gi 37 ar4.toNatClampNeg).toInt (gi 40 ar4.toNatClampNeg).toInt w75.toInt := q75
                refine ev_if f_X1_search (t1 := 236) (t2 := 195) rfl rfl rfl (fun h76 => ?_) (fun h76 => ?_)
                · have u77 : w75.toInt ≤ 0 := t_equ h76 (by decide : (0:Int32).toInt ≤ (0:Int))
                  exact ev_ret f_X1_search rfl rfl rfl ⟨_, _, _, rfl, hI, hX, ⟨rfl, (show ∀ P : Nat → Nat → Int, s_CP P gi gr → s_PB P → s_PO P → 0 ≤ ar1.toInt → ar1.toInt ≤ 2000 → ar3.toInt ≤ P 0 0 → ar4.toInt ≤ P 0 1 → 0 ≤ ar5.toInt → ar5.toInt ≤ 240000 * (ar3.toInt + ar4.toInt) → (gi 28 4).toInt ≤ 1000000000 → s_BB (gi 28 4).toInt (gi 28 5).toInt (ar5.toInt + s_LS P ar1.toInt ar2.toNatClampNeg ar3.toNatClampNeg ar4.toNatClampNeg) (gi 28 4).toInt from (by
                                                            intro P hc hb hp h1 h2 h3 h4 h5 h6 h7
                                                            have n0 := hc.1.1
                                                            have n1 := hc.1.2
                                                            have c3 := t_clamp (i := ar3) l_a3
                                                            have c4 := t_clamp (i := ar4) l_a4
                                                            have hd : ¬ (P 0 0 ≤ ((ar3.toNatClampNeg : Nat) : Int) ∧ P 0 1 ≤ ((ar4.toNatClampNeg : Nat) : Int)) := s_hdS (by omega)
                                                            obtain ⟨k, hk⟩ := s_rem1 hd
                                                            have hs3 := hc.2.1 ar3.toNatClampNeg (by omega)
                                                            have hw3 : w59.toInt = P 1 ar3.toNatClampNeg := by rw [e59]; exact hs3.1
                                                            have ho3 : ar2.toNatClampNeg = 0 := by have := t_clamp (i := ar2) (by omega); omega
                                                            have hy3 := q62 P hc hb h1 (by omega)
                                                            have hb3 : z63.toInt = (s_bS P ar1.toInt ar2.toNatClampNeg ar3.toNatClampNeg) := by unfold s_bS; rw [m63 rfl, hw3, ho3, if_neg (by decide), hy3]
                                                            have hq3 := q64 (by omega) (by omega)
                                                            rw [hs3.1, hs3.2.2.2, hb3] at hq3
                                                            have hA : s_BB (gi 28 4).toInt (gi 28 5).toInt (ar5.toInt + s_oS P (s_ls P k) (s_bS P ar1.toInt ar2.toNatClampNeg ar3.toNatClampNeg) ar3.toNatClampNeg ar4.toNatClampNeg) (gi 28 4).toInt := s_oS_n (fun hh => by have h9 := hq3.mpr ⟨hh.2.1, s_bS_le, hh.2.2⟩; omega) h5 h7 rfl
                                                            have hs4 := hc.2.2.1 ar4.toNatClampNeg (by omega)
                                                            have hw4 : w73.toInt = P 5 ar4.toNatClampNeg := by rw [e73]; exact hs4.1
                                                            have ho4 : ar2.toNatClampNeg = 0 := by have := t_clamp (i := ar2) (by omega); omega
                                                            have hb4 : z74.toInt = (s_bC P ar1.toInt ar2.toNatClampNeg ar4.toNatClampNeg) := by unfold s_bC; rw [m74 rfl, hw4, ho4, if_neg (by decide)]
                                                            have hq4 := q75 (by omega) (by omega)
                                                            rw [hs4.1, hs4.2.2.2, hb4] at hq4
                                                            have hD : s_BB (gi 28 4).toInt (gi 28 5).toInt (ar5.toInt + s_oC P (s_ls P k) (s_bC P ar1.toInt ar2.toNatClampNeg ar4.toNatClampNeg) ar3.toNatClampNeg ar4.toNatClampNeg) (gi 28 4).toInt := s_oC_n (fun hh => by have h9 := hq4.mpr ⟨hh.2, s_bC_le, Or.inl rfl⟩; omega) h5 h7 rfl
                                                            exact s_LS_2 hk hd hA hD))⟩⟩
                · have r78 : w75.toInt ≠ 0 := fun e => h76 (Int32.toInt_inj.mp (e.trans (by decide : (0:Int) = (0 : Int32).toInt)))
                  have l79 : 1 ≤ w75.toInt := t_nel h76 l75 rfl rfl
                  refine ev_loc f_X1_search (nx := 196) rfl rfl rfl rfl ?_
                  refine ev_getR f_X1_search (nx := 199) rfl (hI.wf.s rfl) rfl rfl (hI.wf.r rfl) rfl rfl ?_
                  refine ev_loc f_X1_search (nx := 201) rfl rfl rfl rfl ?_
                  refine ev_loc f_X1_search (nx := 203) rfl rfl rfl rfl ?_
                  refine ev_qI0 f_X1_search (nx := 206) (r := []) rfl rfl rfl rfl rfl rfl rfl (c_d_waitsOf_35 hI (ar4) (z74)) rfl (fun w80 l80 u80 q80 => ?_)
                  have q80 : s_wts ar4.toInt (gi 35 0).toInt z74.toInt (gi 37 ar4.toNatClampNeg).toInt (gi 39 ar4.toNatClampNeg).toInt w80.toInt := q80
                  refine ev_loc f_X1_search (nx := 208) (lo' := [(7, .int w80), (6, .int z74), (0, .ref 28), (1, .int ar1), (2, .int ar2), (3, .int ar3), (4, .int ar4), (5, .int ar5)]) rfl rfl rfl rfl ?_
                  refine ev_loc f_X1_search (nx := 209) rfl rfl rfl rfl ?_
                  refine ev_loc f_X1_search (nx := 211) rfl rfl rfl rfl ?_
                  refine ev_loc f_X1_search (nx := 212) rfl rfl rfl rfl ?_
                  refine ev_getR f_X1_search (nx := 215) rfl (hI.wf.s rfl) rfl rfl (hI.wf.r rfl) rfl rfl ?_
                  refine ev_getR f_X1_search (nx := 218) rfl (hI.wf.s rfl) rfl rfl (hI.wf.r rfl) rfl rfl ?_
                  refine ev_loc f_X1_search (nx := 220) rfl rfl rfl rfl ?_
                  refine ev_ialdT f_X1_search (nx := 221) rfl (hI.wf.s rfl) l_a4 (by decide) u71 (by decide) rfl (fun w81 e81 => ?_)
                  refine ev_anyIE f_X1_search (nx := 222) rfl rfl rfl rfl (fun z82 e82 => ?_)
                  refine ev_ic f_X1_search (nx := 223) (v := 0) rfl (by decide) rfl ?_
                  refine ev_loc f_X1_search (nx := 224) rfl rfl rfl rfl ?_
                  refine ev_loc f_X1_search (nx := 226) rfl rfl rfl rfl ?_
                  refine ev_ic f_X1_search (nx := 227) (v := 1) rfl (by decide) rfl ?_
                  refine ev_addC f_X1_search (nx := 228) (c := 1) (l := 1) (u := 6) rfl (by decide) l_a4 u71 rfl rfl (by decide) (by decide) rfl (fun z83 e83 l83 u83 => ?_)
                  refine ev_loc f_X1_search (nx := 230) rfl rfl rfl rfl ?_
                  refine ev_loc f_X1_search (nx := 232) rfl rfl rfl rfl ?_
                  refine ev_anyIE f_X1_search (nx := 233) rfl rfl rfl rfl (fun z84 e84 => ?_)
                  refine ev_qN f_X1_search (nx := 236) (r := []) rfl rfl rfl rfl rfl rfl rfl (x_Me.up (ih hI (z82) (0) (by decide : (0:Int) ≤ (0:Int32).toInt) (Int.le_trans (by decide : (0:Int32).toInt ≤ (0:Int)) (by decide : (0:Int) ≤ 1)) (ar3) l_a3 (Int.le_trans u14 (by decide : (5:Int) ≤ 6)) (z83) (Int.le_trans (by decide : (0:Int) ≤ 1) l83) u83 (z84) (by omega)) (by omega)) rfl hX rfl (fun gi85 gl85 gr85 hI hX hC85 q85 => ?_)
                  have q85 : ∀ P : Nat → Nat → Int, s_CP P gi gr → s_PB P → s_PO P → 0 ≤ z82.toInt → z82.toInt ≤ 2000 → ar3.toInt ≤ P 0 0 → z83.toInt ≤ P 0 1 → 0 ≤ z84.toInt → z84.toInt ≤ 240000 * (ar3.toInt + z83.toInt) → (gi 28 4).toInt ≤ 1000000000 → s_BB (gi 28 4).toInt (gi 28 5).toInt (z84.toInt + s_LS P z82.toInt (0 : Int32).toNatClampNeg ar3.toNatClampNeg z83.toNatClampNeg) (gi85 28 4).toInt := q85
                  exact ev_ret f_X1_search rfl rfl rfl ⟨_, _, _, rfl, hI, hX, ⟨rfl, (show ∀ P : Nat → Nat → Int, s_CP P gi gr → s_PB P → s_PO P → 0 ≤ ar1.toInt → ar1.toInt ≤ 2000 → ar3.toInt ≤ P 0 0 → ar4.toInt ≤ P 0 1 → 0 ≤ ar5.toInt → ar5.toInt ≤ 240000 * (ar3.toInt + ar4.toInt) → (gi 28 4).toInt ≤ 1000000000 → s_BB (gi 28 4).toInt (gi 28 5).toInt (ar5.toInt + s_LS P ar1.toInt ar2.toNatClampNeg ar3.toNatClampNeg ar4.toNatClampNeg) (gi85 28 4).toInt from (by
                                                            intro P hc hb hp h1 h2 h3 h4 h5 h6 h7
                                                            have n0 := hc.1.1
                                                            have n1 := hc.1.2
                                                            have c3 := t_clamp (i := ar3) l_a3
                                                            have c4 := t_clamp (i := ar4) l_a4
                                                            have hd : ¬ (P 0 0 ≤ ((ar3.toNatClampNeg : Nat) : Int) ∧ P 0 1 ≤ ((ar4.toNatClampNeg : Nat) : Int)) := s_hdS (by omega)
                                                            obtain ⟨k, hk⟩ := s_rem1 hd
                                                            have hs3 := hc.2.1 ar3.toNatClampNeg (by omega)
                                                            have hw3 : w59.toInt = P 1 ar3.toNatClampNeg := by rw [e59]; exact hs3.1
                                                            have ho3 : ar2.toNatClampNeg = 0 := by have := t_clamp (i := ar2) (by omega); omega
                                                            have hy3 := q62 P hc hb h1 (by omega)
                                                            have hb3 : z63.toInt = (s_bS P ar1.toInt ar2.toNatClampNeg ar3.toNatClampNeg) := by unfold s_bS; rw [m63 rfl, hw3, ho3, if_neg (by decide), hy3]
                                                            have hq3 := q64 (by omega) (by omega)
                                                            rw [hs3.1, hs3.2.2.2, hb3] at hq3
                                                            have hA : s_BB (gi 28 4).toInt (gi 28 5).toInt (ar5.toInt + s_oS P (s_ls P k) (s_bS P ar1.toInt ar2.toNatClampNeg ar3.toNatClampNeg) ar3.toNatClampNeg ar4.toNatClampNeg) (gi 28 4).toInt := s_oS_n (fun hh => by have h9 := hq3.mpr ⟨hh.2.1, s_bS_le, hh.2.2⟩; omega) h5 h7 rfl
                                                            have hs4 := hc.2.2.1 ar4.toNatClampNeg (by omega)
                                                            have hw4 : w73.toInt = P 5 ar4.toNatClampNeg := by rw [e73]; exact hs4.1
                                                            have ho4 : ar2.toNatClampNeg = 0 := by have := t_clamp (i := ar2) (by omega); omega
                                                            have hb4 : z74.toInt = (s_bC P ar1.toInt ar2.toNatClampNeg ar4.toNatClampNeg) := by unfold s_bC; rw [m74 rfl, hw4, ho4, if_neg (by decide)]
                                                            have hq4 := q75 (by omega) (by omega)
                                                            rw [hs4.1, hs4.2.2.2, hb4] at hq4
                                                            have hy := hq4.mp (by omega)
                                                            have hpa := hp.2.1 ar4.toNatClampNeg (by omega)
                                                            have hpb := hb.2.2.1 ar4.toNatClampNeg (by omega)
                                                            have hv4 := q80 (by omega) (by omega) (by rw [hs4.1, hb4]; exact s_bC_le) (by rw [hs4.1, hb4]; omega) (by rw [hs4.2.2.1]; exact hpa.2.2) (by rw [hs4.2.2.1]; exact hpb.2.2)
                                                            rw [hs4.1, hs4.2.2.1, hb4] at hv4
                                                            have ht4 : w81.toInt = P 6 ar4.toNatClampNeg := by rw [e81]; exact hs4.2.1
                                                            have hz4 := s_add e82 hb4 ht4 (by omega)
                                                            have hcs4 := s_cst (n := ar3.toInt + ar4.toInt) h5 h6 hy.1 hpa.1 hv4.2.1 hv4.2.2
                                                            have hu4 := s_add e84 rfl hv4.1 (hcs4.2.2 (by omega))
                                                            have hn4 := s_cp (y := ar4) (z := z83) (by omega) e83
                                                            have hbm := s_bC_m (o := ar2.toNatClampNeg) (c := ar4.toNatClampNeg) hp h1
                                                            have hg4 := q85 P hc hb hp (by omega) (by omega) (by omega) (by omega) (by rw [hu4]; exact hcs4.1) (by rw [hu4, show ar3.toInt + z83.toInt = ar3.toInt + ar4.toInt + 1 from (by omega)]; exact hcs4.2.1) h7
                                                            rw [hz4, hu4, hn4, s_LS_k (k := k) (s_rem3 hk (by omega))] at hg4
                                                            have hD : s_BB (gi 28 4).toInt (gi 28 5).toInt (ar5.toInt + s_oC P (s_ls P k) (s_bC P ar1.toInt ar2.toNatClampNeg ar4.toNatClampNeg) ar3.toNatClampNeg ar4.toNatClampNeg) (gi85 28 4).toInt := s_oC_y ⟨by omega, hy.1⟩ h5 h7 hg4
                                                            exact s_LS_2 hk hd hA hD))⟩⟩
            · have r87 : w64.toInt ≠ 0 := fun e => h65 (Int32.toInt_inj.mp (e.trans (by decide : (0:Int) = (0 : Int32).toInt)))
              have l88 : 1 ≤ w64.toInt := t_nel h65 l64 rfl rfl
              refine ev_loc f_X1_search (nx := 103) rfl rfl rfl rfl ?_
              refine ev_getR f_X1_search (nx := 106) rfl (hI.wf.s rfl) rfl rfl (hI.wf.r rfl) rfl rfl ?_
              refine ev_loc f_X1_search (nx := 107) rfl rfl rfl rfl ?_
              refine ev_loc f_X1_search (nx := 109) rfl rfl rfl rfl ?_
              refine ev_qI0 f_X1_search (nx := 112) (r := []) rfl rfl rfl rfl rfl rfl rfl (c_d_waitsOf_29 hI (ar3) (z63)) rfl (fun w89 l89 u89 q89 => ?_)
              have q89 : s_wts ar3.toInt (gi 29 0).toInt z63.toInt (gi 31 ar3.toNatClampNeg).toInt (gi 33 ar3.toNatClampNeg).toInt w89.toInt := q89
              refine ev_loc f_X1_search (nx := 114) (lo' := [(7, .int w89), (6, .int z63), (0, .ref 28), (1, .int ar1), (2, .int ar2), (3, .int ar3), (4, .int ar4), (5, .int ar5)]) rfl rfl rfl rfl ?_
              refine ev_loc f_X1_search (nx := 115) rfl rfl rfl rfl ?_
              refine ev_loc f_X1_search (nx := 117) rfl rfl rfl rfl ?_
              refine ev_loc f_X1_search (nx := 118) rfl rfl rfl rfl ?_
              refine ev_getR f_X1_search (nx := 121) rfl (hI.wf.s rfl) rfl rfl (hI.wf.r rfl) rfl rfl ?_
              refine ev_getR f_X1_search (nx := 124) rfl (hI.wf.s rfl) rfl rfl (hI.wf.r rfl) rfl rfl ?_
              refine ev_loc f_X1_search (nx := 125) rfl rfl rfl rfl ?_
              refine ev_ialdT f_X1_search (nx := 126) rfl (hI.wf.s rfl) l_a3 (by decide) u14 (by decide) rfl (fun w90 e90 => ?_)
              refine ev_anyIE f_X1_search (nx := 127) rfl rfl rfl rfl (fun z91 e91 => ?_)
              refine ev_ic f_X1_search (nx := 128) (v := 1) rfl (by decide) rfl ?_
              refine ev_loc f_X1_search (nx := 129) rfl rfl rfl rfl ?_
              refine ev_ic f_X1_search (nx := 130) (v := 1) rfl (by decide) rfl ?_
              refine ev_addC f_X1_search (nx := 131) (c := 1) (l := 1) (u := 6) rfl (by decide) l_a3 u14 rfl rfl (by decide) (by decide) rfl (fun z92 e92 l92 u92 => ?_)
              refine ev_loc f_X1_search (nx := 133) rfl rfl rfl rfl ?_
              refine ev_loc f_X1_search (nx := 135) rfl rfl rfl rfl ?_
              refine ev_loc f_X1_search (nx := 137) rfl rfl rfl rfl ?_
              refine ev_anyIE f_X1_search (nx := 138) rfl rfl rfl rfl (fun z93 e93 => ?_)
              refine ev_qN f_X1_search (nx := 141) (r := []) rfl rfl rfl rfl rfl rfl rfl (x_Me.up (ih hI (z91) (1) (Int.le_trans (by decide : (0:Int) ≤ 1) (by decide : (1:Int) ≤ (1:Int32).toInt)) (by decide : (1:Int32).toInt ≤ (1:Int)) (z92) (Int.le_trans (by decide : (0:Int) ≤ 1) l92) u92 (ar4) l_a4 u_a4 (z93) (by omega)) (by omega)) rfl hX rfl (fun gi94 gl94 gr94 hI hX hC94 q94 => ?_)
              have q94 : ∀ P : Nat → Nat → Int, s_CP P gi gr → s_PB P → s_PO P → 0 ≤ z91.toInt → z91.toInt ≤ 2000 → z92.toInt ≤ P 0 0 → ar4.toInt ≤ P 0 1 → 0 ≤ z93.toInt → z93.toInt ≤ 240000 * (z92.toInt + ar4.toInt) → (gi 28 4).toInt ≤ 1000000000 → s_BB (gi 28 4).toInt (gi 28 5).toInt (z93.toInt + s_LS P z91.toInt (1 : Int32).toNatClampNeg z92.toNatClampNeg ar4.toNatClampNeg) (gi94 28 4).toInt := q94
              refine ev_loc f_X1_search (nx := 143) rfl rfl rfl rfl ?_
              refine ev_loc f_X1_search (nx := 144) rfl rfl rfl rfl ?_
              refine ev_getR f_X1_search (nx := 147) rfl (hI.wf.s rfl) rfl rfl (hI.wf.r rfl) rfl rfl ?_
              refine ev_getI f_X1_search (nx := 150) rfl (hI.wf.s rfl) rfl rfl rfl ?_
              obtain ⟨l96, u96⟩ := hI.b (hI.wf.s (k := 35) rfl) (t_bdK rfl : t_bd 3 0 = some (0, 6))
              refine ev_if f_X1_search (t1 := 236) (t2 := 153) rfl rfl rfl (fun h97 => ?_) (fun h97 => ?_)
              · have r98 : (gi94 35 0).toInt ≤ ar4.toInt := Int32.le_iff_toInt_le.mp h97
                exact ev_ret f_X1_search rfl rfl rfl ⟨_, _, _, rfl, hI, hX, ⟨rfl, (show ∀ P : Nat → Nat → Int, s_CP P gi gr → s_PB P → s_PO P → 0 ≤ ar1.toInt → ar1.toInt ≤ 2000 → ar3.toInt ≤ P 0 0 → ar4.toInt ≤ P 0 1 → 0 ≤ ar5.toInt → ar5.toInt ≤ 240000 * (ar3.toInt + ar4.toInt) → (gi 28 4).toInt ≤ 1000000000 → s_BB (gi 28 4).toInt (gi 28 5).toInt (ar5.toInt + s_LS P ar1.toInt ar2.toNatClampNeg ar3.toNatClampNeg ar4.toNatClampNeg) (gi94 28 4).toInt from (by
                                                            intro P hc hb hp h1 h2 h3 h4 h5 h6 h7
                                                            have n0 := hc.1.1
                                                            have n1 := hc.1.2
                                                            have c3 := t_clamp (i := ar3) l_a3
                                                            have c4 := t_clamp (i := ar4) l_a4
                                                            have hd : ¬ (P 0 0 ≤ ((ar3.toNatClampNeg : Nat) : Int) ∧ P 0 1 ≤ ((ar4.toNatClampNeg : Nat) : Int)) := s_hdS (by omega)
                                                            obtain ⟨k, hk⟩ := s_rem1 hd
                                                            have hs3 := hc.2.1 ar3.toNatClampNeg (by omega)
                                                            have hw3 : w59.toInt = P 1 ar3.toNatClampNeg := by rw [e59]; exact hs3.1
                                                            have ho3 : ar2.toNatClampNeg = 0 := by have := t_clamp (i := ar2) (by omega); omega
                                                            have hy3 := q62 P hc hb h1 (by omega)
                                                            have hb3 : z63.toInt = (s_bS P ar1.toInt ar2.toNatClampNeg ar3.toNatClampNeg) := by unfold s_bS; rw [m63 rfl, hw3, ho3, if_neg (by decide), hy3]
                                                            have hq3 := q64 (by omega) (by omega)
                                                            rw [hs3.1, hs3.2.2.2, hb3] at hq3
                                                            have hy := hq3.mp (by omega)
                                                            have hpa := hp.1 ar3.toNatClampNeg (by omega)
                                                            have hpb := hb.2.1 ar3.toNatClampNeg (by omega)
                                                            have hv3 := q89 (by omega) (by omega) (by rw [hs3.1, hb3]; exact s_bS_le) (by rw [hs3.1, hb3]; omega) (by rw [hs3.2.2.1]; exact hpa.2.2) (by rw [hs3.2.2.1]; exact hpb.2.2)
                                                            rw [hs3.1, hs3.2.2.1, hb3] at hv3
                                                            have ht3 : w90.toInt = P 2 ar3.toNatClampNeg := by rw [e90]; exact hs3.2.1
                                                            have hz3 := s_add e91 hb3 ht3 (by omega)
                                                            have hcs3 := s_cst (n := ar3.toInt + ar4.toInt) h5 h6 hy.1 hpa.1 hv3.2.1 hv3.2.2
                                                            have hu3 := s_add e93 rfl hv3.1 (hcs3.2.2 (by omega))
                                                            have hn3 := s_cp (y := ar3) (z := z92) (by omega) e92
                                                            have hbm := s_bS_m (o := ar2.toNatClampNeg) (s := ar3.toNatClampNeg) hp h1
                                                            have hg3 := q94 P hc hb hp (by omega) (by omega) (by omega) (by omega) (by rw [hu3]; exact hcs3.1) (by rw [hu3, show z92.toInt + ar4.toInt = ar3.toInt + ar4.toInt + 1 from (by omega)]; exact hcs3.2.1) h7
                                                            rw [hz3, hu3, hn3, s_LS_k (k := k) (s_rem2 hk (by omega))] at hg3
                                                            have hA : s_BB (gi 28 4).toInt (gi 28 5).toInt (ar5.toInt + s_oS P (s_ls P k) (s_bS P ar1.toInt ar2.toNatClampNeg ar3.toNatClampNeg) ar3.toNatClampNeg ar4.toNatClampNeg) (gi94 28 4).toInt := s_oS_y ⟨by omega, hy.1, hy.2.2⟩ h5 h7 hg3
                                                            have hcA := hc.fr hC94 rfl rfl
                                                            have hE : (gi94 28 5).toInt = (gi 28 5).toInt := congrArg Int32.toInt (hC94.1 28 5 rfl).1
                                                            have hB1 : (gi94 28 4).toInt ≤ 1000000000 := Int.le_trans hA.2.2 h7
                                                            have n0A := hcA.1.1
                                                            have n1A := hcA.1.2
                                                            have hD : s_BB (gi94 28 4).toInt (gi 28 5).toInt (ar5.toInt + s_oC P (s_ls P k) (s_bC P ar1.toInt ar2.toNatClampNeg ar4.toNatClampNeg) ar3.toNatClampNeg ar4.toNatClampNeg) (gi94 28 4).toInt := s_oC_n (fun hh => absurd hh.1 (by omega)) h5 hB1 rfl
                                                            exact s_LS_2 hk hd hA hD))⟩⟩
              · have r99 : ar4.toInt < (gi94 35 0).toInt := Int32.lt_iff_toInt_lt.mp (t_nle h97)
                have u100 : ar4.toInt ≤ 5 := t_ltu (t_nle h97) u96 rfl
                have l101 : 1 ≤ (gi94 35 0).toInt := t_ltl (t_nle h97) l_a4 rfl
                refine ev_loc f_X1_search (nx := 154) rfl rfl rfl rfl ?_
                refine ev_getR f_X1_search (nx := 157) rfl (hI.wf.s rfl) rfl rfl (hI.wf.r rfl) rfl rfl ?_
                refine ev_getR f_X1_search (nx := 160) rfl (hI.wf.s rfl) rfl rfl (hI.wf.r rfl) rfl rfl ?_
                refine ev_loc f_X1_search (nx := 162) rfl rfl rfl rfl ?_
                refine ev_ialdT f_X1_search (nx := 163) rfl (hI.wf.s rfl) l_a4 (by decide) u100 (by decide) rfl (fun w102 e102 => ?_)
                refine ev_loc f_X1_search (nx := 164) rfl rfl rfl rfl ?_
                refine ev_t f_X1_search (t1 := 175) (t2 := 167) rfl rfl rfl (t_eqT u61 l_a2 (by decide : (0:Int32).toInt ≤ (0:Int)) (by decide : (0:Int) ≤ (0:Int32).toInt)) ?_
                refine ev_loc f_X1_search (nx := 176) rfl rfl rfl rfl ?_
                refine ev_mmRE f_X1_search (nx := 179) (l := (-2147483648)) (u := 2147483647) rfl rfl rfl (by omega) rfl (t_lo w102) (t_hi w102) (t_lo ar1) (t_hi ar1) (by decide) (by decide) rfl (fun z103 m103 l103 u103 => ?_)
                refine ev_loc f_X1_search (nx := 181) (lo' := [(6, .int z103), (7, .int w89), (0, .ref 28), (1, .int ar1), (2, .int ar2), (3, .int ar3), (4, .int ar4), (5, .int ar5)]) rfl rfl rfl rfl ?_
                refine ev_loc f_X1_search (nx := 182) rfl rfl rfl rfl ?_
                refine ev_getR f_X1_search (nx := 185) rfl (hI.wf.s rfl) rfl rfl (hI.wf.r rfl) rfl rfl ?_
                refine ev_loc f_X1_search (nx := 187) rfl rfl rfl rfl ?_
                refine ev_loc f_X1_search (nx := 189) rfl rfl rfl rfl ?_
                refine ev_qI0 f_X1_search (nx := 192) (r := []) rfl rfl rfl rfl rfl rfl rfl (c_d_canBegin_35 hI (ar4) (z103)) rfl (fun w104 l104 u104 q104 => ?_)
                have q104 : s_may ar4.toInt (gi94 35 0).toInt z103.toInt (gi94 37 ar4.toNatClampNeg).toInt (gi94 40 ar4.toNatClampNeg).toInt w104.toInt := q104
                refine ev_if f_X1_search (t1 := 236) (t2 := 195) rfl rfl rfl (fun h105 => ?_) (fun h105 => ?_)
                · have u106 : w104.toInt ≤ 0 := t_equ h105 (by decide : (0:Int32).toInt ≤ (0:Int))
                  exact ev_ret f_X1_search rfl rfl rfl ⟨_, _, _, rfl, hI, hX, ⟨rfl, (show ∀ P : Nat → Nat → Int, s_CP P gi gr → s_PB P → s_PO P → 0 ≤ ar1.toInt → ar1.toInt ≤ 2000 → ar3.toInt ≤ P 0 0 → ar4.toInt ≤ P 0 1 → 0 ≤ ar5.toInt → ar5.toInt ≤ 240000 * (ar3.toInt + ar4.toInt) → (gi 28 4).toInt ≤ 1000000000 → s_BB (gi 28 4).toInt (gi 28 5).toInt (ar5.toInt + s_LS P ar1.toInt ar2.toNatClampNeg ar3.toNatClampNeg ar4.toNatClampNeg) (gi94 28 4).toInt from (by
                                                            intro P hc hb hp h1 h2 h3 h4 h5 h6 h7
                                                            have n0 := hc.1.1
                                                            have n1 := hc.1.2
                                                            have c3 := t_clamp (i := ar3) l_a3
                                                            have c4 := t_clamp (i := ar4) l_a4
                                                            have hd : ¬ (P 0 0 ≤ ((ar3.toNatClampNeg : Nat) : Int) ∧ P 0 1 ≤ ((ar4.toNatClampNeg : Nat) : Int)) := s_hdS (by omega)
                                                            obtain ⟨k, hk⟩ := s_rem1 hd
                                                            have hs3 := hc.2.1 ar3.toNatClampNeg (by omega)
                                                            have hw3 : w59.toInt = P 1 ar3.toNatClampNeg := by rw [e59]; exact hs3.1
                                                            have ho3 : ar2.toNatClampNeg = 0 := by have := t_clamp (i := ar2) (by omega); omega
                                                            have hy3 := q62 P hc hb h1 (by omega)
                                                            have hb3 : z63.toInt = (s_bS P ar1.toInt ar2.toNatClampNeg ar3.toNatClampNeg) := by unfold s_bS; rw [m63 rfl, hw3, ho3, if_neg (by decide), hy3]
                                                            have hq3 := q64 (by omega) (by omega)
                                                            rw [hs3.1, hs3.2.2.2, hb3] at hq3
                                                            have hy := hq3.mp (by omega)
                                                            have hpa := hp.1 ar3.toNatClampNeg (by omega)
                                                            have hpb := hb.2.1 ar3.toNatClampNeg (by omega)
                                                            have hv3 := q89 (by omega) (by omega) (by rw [hs3.1, hb3]; exact s_bS_le) (by rw [hs3.1, hb3]; omega) (by rw [hs3.2.2.1]; exact hpa.2.2) (by rw [hs3.2.2.1]; exact hpb.2.2)
                                                            rw [hs3.1, hs3.2.2.1, hb3] at hv3
                                                            have ht3 : w90.toInt = P 2 ar3.toNatClampNeg := by rw [e90]; exact hs3.2.1
                                                            have hz3 := s_add e91 hb3 ht3 (by omega)
                                                            have hcs3 := s_cst (n := ar3.toInt + ar4.toInt) h5 h6 hy.1 hpa.1 hv3.2.1 hv3.2.2
                                                            have hu3 := s_add e93 rfl hv3.1 (hcs3.2.2 (by omega))
                                                            have hn3 := s_cp (y := ar3) (z := z92) (by omega) e92
                                                            have hbm := s_bS_m (o := ar2.toNatClampNeg) (s := ar3.toNatClampNeg) hp h1
                                                            have hg3 := q94 P hc hb hp (by omega) (by omega) (by omega) (by omega) (by rw [hu3]; exact hcs3.1) (by rw [hu3, show z92.toInt + ar4.toInt = ar3.toInt + ar4.toInt + 1 from (by omega)]; exact hcs3.2.1) h7
                                                            rw [hz3, hu3, hn3, s_LS_k (k := k) (s_rem2 hk (by omega))] at hg3
                                                            have hA : s_BB (gi 28 4).toInt (gi 28 5).toInt (ar5.toInt + s_oS P (s_ls P k) (s_bS P ar1.toInt ar2.toNatClampNeg ar3.toNatClampNeg) ar3.toNatClampNeg ar4.toNatClampNeg) (gi94 28 4).toInt := s_oS_y ⟨by omega, hy.1, hy.2.2⟩ h5 h7 hg3
                                                            have hcA := hc.fr hC94 rfl rfl
                                                            have hE : (gi94 28 5).toInt = (gi 28 5).toInt := congrArg Int32.toInt (hC94.1 28 5 rfl).1
                                                            have hB1 : (gi94 28 4).toInt ≤ 1000000000 := Int.le_trans hA.2.2 h7
                                                            have n0A := hcA.1.1
                                                            have n1A := hcA.1.2
                                                            have hs4 := hcA.2.2.1 ar4.toNatClampNeg (by omega)
                                                            have hw4 : w102.toInt = P 5 ar4.toNatClampNeg := by rw [e102]; exact hs4.1
                                                            have ho4 : ar2.toNatClampNeg = 0 := by have := t_clamp (i := ar2) (by omega); omega
                                                            have hb4 : z103.toInt = (s_bC P ar1.toInt ar2.toNatClampNeg ar4.toNatClampNeg) := by unfold s_bC; rw [m103 rfl, hw4, ho4, if_neg (by decide)]
                                                            have hq4 := q104 (by omega) (by omega)
                                                            rw [hs4.1, hs4.2.2.2, hb4] at hq4
                                                            have hD : s_BB (gi94 28 4).toInt (gi 28 5).toInt (ar5.toInt + s_oC P (s_ls P k) (s_bC P ar1.toInt ar2.toNatClampNeg ar4.toNatClampNeg) ar3.toNatClampNeg ar4.toNatClampNeg) (gi94 28 4).toInt := s_oC_n (fun hh => by have h9 := hq4.mpr ⟨hh.2, s_bC_le, Or.inl rfl⟩; omega) h5 hB1 rfl
                                                            exact s_LS_2 hk hd hA hD))⟩⟩
                · have r107 : w104.toInt ≠ 0 := fun e => h105 (Int32.toInt_inj.mp (e.trans (by decide : (0:Int) = (0 : Int32).toInt)))
                  have l108 : 1 ≤ w104.toInt := t_nel h105 l104 rfl rfl
                  refine ev_loc f_X1_search (nx := 196) rfl rfl rfl rfl ?_
                  refine ev_getR f_X1_search (nx := 199) rfl (hI.wf.s rfl) rfl rfl (hI.wf.r rfl) rfl rfl ?_
                  refine ev_loc f_X1_search (nx := 201) rfl rfl rfl rfl ?_
                  refine ev_loc f_X1_search (nx := 203) rfl rfl rfl rfl ?_
                  refine ev_qI0 f_X1_search (nx := 206) (r := []) rfl rfl rfl rfl rfl rfl rfl (c_d_waitsOf_35 hI (ar4) (z103)) rfl (fun w109 l109 u109 q109 => ?_)
                  have q109 : s_wts ar4.toInt (gi94 35 0).toInt z103.toInt (gi94 37 ar4.toNatClampNeg).toInt (gi94 39 ar4.toNatClampNeg).toInt w109.toInt := q109
                  refine ev_loc f_X1_search (nx := 208) (lo' := [(7, .int w109), (6, .int z103), (0, .ref 28), (1, .int ar1), (2, .int ar2), (3, .int ar3), (4, .int ar4), (5, .int ar5)]) rfl rfl rfl rfl ?_
                  refine ev_loc f_X1_search (nx := 209) rfl rfl rfl rfl ?_
                  refine ev_loc f_X1_search (nx := 211) rfl rfl rfl rfl ?_
                  refine ev_loc f_X1_search (nx := 212) rfl rfl rfl rfl ?_
                  refine ev_getR f_X1_search (nx := 215) rfl (hI.wf.s rfl) rfl rfl (hI.wf.r rfl) rfl rfl ?_
                  refine ev_getR f_X1_search (nx := 218) rfl (hI.wf.s rfl) rfl rfl (hI.wf.r rfl) rfl rfl ?_
                  refine ev_loc f_X1_search (nx := 220) rfl rfl rfl rfl ?_
                  refine ev_ialdT f_X1_search (nx := 221) rfl (hI.wf.s rfl) l_a4 (by decide) u100 (by decide) rfl (fun w110 e110 => ?_)
                  refine ev_anyIE f_X1_search (nx := 222) rfl rfl rfl rfl (fun z111 e111 => ?_)
                  refine ev_ic f_X1_search (nx := 223) (v := 0) rfl (by decide) rfl ?_
                  refine ev_loc f_X1_search (nx := 224) rfl rfl rfl rfl ?_
                  refine ev_loc f_X1_search (nx := 226) rfl rfl rfl rfl ?_
                  refine ev_ic f_X1_search (nx := 227) (v := 1) rfl (by decide) rfl ?_
                  refine ev_addC f_X1_search (nx := 228) (c := 1) (l := 1) (u := 6) rfl (by decide) l_a4 u100 rfl rfl (by decide) (by decide) rfl (fun z112 e112 l112 u112 => ?_)
                  refine ev_loc f_X1_search (nx := 230) rfl rfl rfl rfl ?_
                  refine ev_loc f_X1_search (nx := 232) rfl rfl rfl rfl ?_
                  refine ev_anyIE f_X1_search (nx := 233) rfl rfl rfl rfl (fun z113 e113 => ?_)
                  refine ev_qN f_X1_search (nx := 236) (r := []) rfl rfl rfl rfl rfl rfl rfl (x_Me.up (ih hI (z111) (0) (by decide : (0:Int) ≤ (0:Int32).toInt) (Int.le_trans (by decide : (0:Int32).toInt ≤ (0:Int)) (by decide : (0:Int) ≤ 1)) (ar3) l_a3 (Int.le_trans u14 (by decide : (5:Int) ≤ 6)) (z112) (Int.le_trans (by decide : (0:Int) ≤ 1) l112) u112 (z113) (by omega)) (by omega)) rfl hX rfl (fun gi114 gl114 gr114 hI hX hC114 q114 => ?_)
                  have ff115 : (gi94 28 5).toInt = (gi 28 5).toInt := congrArg Int32.toInt ((hC94.1 28 5 rfl).1.trans rfl)
                  have q114 : ∀ P : Nat → Nat → Int, s_CP P gi94 gr94 → s_PB P → s_PO P → 0 ≤ z111.toInt → z111.toInt ≤ 2000 → ar3.toInt ≤ P 0 0 → z112.toInt ≤ P 0 1 → 0 ≤ z113.toInt → z113.toInt ≤ 240000 * (ar3.toInt + z112.toInt) → (gi94 28 4).toInt ≤ 1000000000 → s_BB (gi94 28 4).toInt (gi94 28 5).toInt (z113.toInt + s_LS P z111.toInt (0 : Int32).toNatClampNeg ar3.toNatClampNeg z112.toNatClampNeg) (gi114 28 4).toInt := q114
                  exact ev_ret f_X1_search rfl rfl rfl ⟨_, _, _, rfl, hI, hX, ⟨rfl, (show ∀ P : Nat → Nat → Int, s_CP P gi gr → s_PB P → s_PO P → 0 ≤ ar1.toInt → ar1.toInt ≤ 2000 → ar3.toInt ≤ P 0 0 → ar4.toInt ≤ P 0 1 → 0 ≤ ar5.toInt → ar5.toInt ≤ 240000 * (ar3.toInt + ar4.toInt) → (gi 28 4).toInt ≤ 1000000000 → s_BB (gi 28 4).toInt (gi 28 5).toInt (ar5.toInt + s_LS P ar1.toInt ar2.toNatClampNeg ar3.toNatClampNeg ar4.toNatClampNeg) (gi114 28 4).toInt from (by
                                                            intro P hc hb hp h1 h2 h3 h4 h5 h6 h7
                                                            have n0 := hc.1.1
                                                            have n1 := hc.1.2
                                                            have c3 := t_clamp (i := ar3) l_a3
                                                            have c4 := t_clamp (i := ar4) l_a4
                                                            have hd : ¬ (P 0 0 ≤ ((ar3.toNatClampNeg : Nat) : Int) ∧ P 0 1 ≤ ((ar4.toNatClampNeg : Nat) : Int)) := s_hdS (by omega)
                                                            obtain ⟨k, hk⟩ := s_rem1 hd
                                                            have hs3 := hc.2.1 ar3.toNatClampNeg (by omega)
                                                            have hw3 : w59.toInt = P 1 ar3.toNatClampNeg := by rw [e59]; exact hs3.1
                                                            have ho3 : ar2.toNatClampNeg = 0 := by have := t_clamp (i := ar2) (by omega); omega
                                                            have hy3 := q62 P hc hb h1 (by omega)
                                                            have hb3 : z63.toInt = (s_bS P ar1.toInt ar2.toNatClampNeg ar3.toNatClampNeg) := by unfold s_bS; rw [m63 rfl, hw3, ho3, if_neg (by decide), hy3]
                                                            have hq3 := q64 (by omega) (by omega)
                                                            rw [hs3.1, hs3.2.2.2, hb3] at hq3
                                                            have hy := hq3.mp (by omega)
                                                            have hpa := hp.1 ar3.toNatClampNeg (by omega)
                                                            have hpb := hb.2.1 ar3.toNatClampNeg (by omega)
                                                            have hv3 := q89 (by omega) (by omega) (by rw [hs3.1, hb3]; exact s_bS_le) (by rw [hs3.1, hb3]; omega) (by rw [hs3.2.2.1]; exact hpa.2.2) (by rw [hs3.2.2.1]; exact hpb.2.2)
                                                            rw [hs3.1, hs3.2.2.1, hb3] at hv3
                                                            have ht3 : w90.toInt = P 2 ar3.toNatClampNeg := by rw [e90]; exact hs3.2.1
                                                            have hz3 := s_add e91 hb3 ht3 (by omega)
                                                            have hcs3 := s_cst (n := ar3.toInt + ar4.toInt) h5 h6 hy.1 hpa.1 hv3.2.1 hv3.2.2
                                                            have hu3 := s_add e93 rfl hv3.1 (hcs3.2.2 (by omega))
                                                            have hn3 := s_cp (y := ar3) (z := z92) (by omega) e92
                                                            have hbm := s_bS_m (o := ar2.toNatClampNeg) (s := ar3.toNatClampNeg) hp h1
                                                            have hg3 := q94 P hc hb hp (by omega) (by omega) (by omega) (by omega) (by rw [hu3]; exact hcs3.1) (by rw [hu3, show z92.toInt + ar4.toInt = ar3.toInt + ar4.toInt + 1 from (by omega)]; exact hcs3.2.1) h7
                                                            rw [hz3, hu3, hn3, s_LS_k (k := k) (s_rem2 hk (by omega))] at hg3
                                                            have hA : s_BB (gi 28 4).toInt (gi 28 5).toInt (ar5.toInt + s_oS P (s_ls P k) (s_bS P ar1.toInt ar2.toNatClampNeg ar3.toNatClampNeg) ar3.toNatClampNeg ar4.toNatClampNeg) (gi94 28 4).toInt := s_oS_y ⟨by omega, hy.1, hy.2.2⟩ h5 h7 hg3
                                                            have hcA := hc.fr hC94 rfl rfl
                                                            have hE : (gi94 28 5).toInt = (gi 28 5).toInt := congrArg Int32.toInt (hC94.1 28 5 rfl).1
                                                            have hB1 : (gi94 28 4).toInt ≤ 1000000000 := Int.le_trans hA.2.2 h7
                                                            have n0A := hcA.1.1
                                                            have n1A := hcA.1.2
                                                            have hs4 := hcA.2.2.1 ar4.toNatClampNeg (by omega)
                                                            have hw4 : w102.toInt = P 5 ar4.toNatClampNeg := by rw [e102]; exact hs4.1
                                                            have ho4 : ar2.toNatClampNeg = 0 := by have := t_clamp (i := ar2) (by omega); omega
                                                            have hb4 : z103.toInt = (s_bC P ar1.toInt ar2.toNatClampNeg ar4.toNatClampNeg) := by unfold s_bC; rw [m103 rfl, hw4, ho4, if_neg (by decide)]
                                                            have hq4 := q104 (by omega) (by omega)
                                                            rw [hs4.1, hs4.2.2.2, hb4] at hq4
                                                            have hy := hq4.mp (by omega)
                                                            have hpa := hp.2.1 ar4.toNatClampNeg (by omega)
                                                            have hpb := hb.2.2.1 ar4.toNatClampNeg (by omega)
                                                            have hv4 := q109 (by omega) (by omega) (by rw [hs4.1, hb4]; exact s_bC_le) (by rw [hs4.1, hb4]; omega) (by rw [hs4.2.2.1]; exact hpa.2.2) (by rw [hs4.2.2.1]; exact hpb.2.2)
                                                            rw [hs4.1, hs4.2.2.1, hb4] at hv4
                                                            have ht4 : w110.toInt = P 6 ar4.toNatClampNeg := by rw [e110]; exact hs4.2.1
                                                            have hz4 := s_add e111 hb4 ht4 (by omega)
                                                            have hcs4 := s_cst (n := ar3.toInt + ar4.toInt) h5 h6 hy.1 hpa.1 hv4.2.1 hv4.2.2
                                                            have hu4 := s_add e113 rfl hv4.1 (hcs4.2.2 (by omega))
                                                            have hn4 := s_cp (y := ar4) (z := z112) (by omega) e112
                                                            have hbm := s_bC_m (o := ar2.toNatClampNeg) (c := ar4.toNatClampNeg) hp h1
                                                            have hg4 := q114 P hcA hb hp (by omega) (by omega) (by omega) (by omega) (by rw [hu4]; exact hcs4.1) (by rw [hu4, show ar3.toInt + z112.toInt = ar3.toInt + ar4.toInt + 1 from (by omega)]; exact hcs4.2.1) hB1
                                                            rw [hz4, hu4, hn4, hE, s_LS_k (k := k) (s_rem3 hk (by omega))] at hg4
                                                            have hD : s_BB (gi94 28 4).toInt (gi 28 5).toInt (ar5.toInt + s_oC P (s_ls P k) (s_bC P ar1.toInt ar2.toNatClampNeg ar4.toNatClampNeg) ar3.toNatClampNeg ar4.toNatClampNeg) (gi114 28 4).toInt := s_oC_y ⟨by omega, hy.1⟩ h5 hB1 hg4
                                                            exact s_LS_2 hk hd hA hD))⟩⟩
          · have r117 : ar2.toInt ≠ 0 := fun e => h60 (Int32.toInt_inj.mp (e.trans (by decide : (0:Int) = (0 : Int32).toInt)))
            have l118 : 1 ≤ ar2.toInt := t_nel h60 l_a2 rfl rfl
            refine ev_loc f_X1_search (nx := 76) rfl rfl rfl rfl ?_
            refine ev_jmp f_X1_search (nx := 84) rfl rfl rfl ?_
            refine ev_mmRE f_X1_search (nx := 87) (l := (-2147483648)) (u := 2147483647) rfl rfl rfl (by omega) rfl (t_lo w59) (t_hi w59) (t_lo ar1) (t_hi ar1) (by decide) (by decide) rfl (fun z119 m119 l119 u119 => ?_)
            refine ev_loc f_X1_search (nx := 89) (lo' := [(6, .int z119), (0, .ref 28), (1, .int ar1), (2, .int ar2), (3, .int ar3), (4, .int ar4), (5, .int ar5)]) rfl rfl rfl rfl ?_
            refine ev_loc f_X1_search (nx := 90) rfl rfl rfl rfl ?_
            refine ev_getR f_X1_search (nx := 93) rfl (hI.wf.s rfl) rfl rfl (hI.wf.r rfl) rfl rfl ?_
            refine ev_loc f_X1_search (nx := 94) rfl rfl rfl rfl ?_
            refine ev_loc f_X1_search (nx := 96) rfl rfl rfl rfl ?_
            refine ev_qI0 f_X1_search (nx := 99) (r := []) rfl rfl rfl rfl rfl rfl rfl (c_d_canBegin_29 hI (ar3) (z119)) rfl (fun w120 l120 u120 q120 => ?_)
            have q120 : s_may ar3.toInt (gi 29 0).toInt z119.toInt (gi 31 ar3.toNatClampNeg).toInt (gi 34 ar3.toNatClampNeg).toInt w120.toInt := q120
            refine ev_if f_X1_search (t1 := 141) (t2 := 102) rfl rfl rfl (fun h121 => ?_) (fun h121 => ?_)
            · have u122 : w120.toInt ≤ 0 := t_equ h121 (by decide : (0:Int32).toInt ≤ (0:Int))
              refine ev_loc f_X1_search (nx := 143) rfl rfl rfl rfl ?_
              refine ev_loc f_X1_search (nx := 144) rfl rfl rfl rfl ?_
              refine ev_getR f_X1_search (nx := 147) rfl (hI.wf.s rfl) rfl rfl (hI.wf.r rfl) rfl rfl ?_
              refine ev_getI f_X1_search (nx := 150) rfl (hI.wf.s rfl) rfl rfl rfl ?_
              obtain ⟨l123, u123⟩ := hI.b (hI.wf.s (k := 35) rfl) (t_bdK rfl : t_bd 3 0 = some (0, 6))
              refine ev_if f_X1_search (t1 := 236) (t2 := 153) rfl rfl rfl (fun h124 => ?_) (fun h124 => ?_)
              · have r125 : (gi 35 0).toInt ≤ ar4.toInt := Int32.le_iff_toInt_le.mp h124
                exact ev_ret f_X1_search rfl rfl rfl ⟨_, _, _, rfl, hI, hX, ⟨rfl, (show ∀ P : Nat → Nat → Int, s_CP P gi gr → s_PB P → s_PO P → 0 ≤ ar1.toInt → ar1.toInt ≤ 2000 → ar3.toInt ≤ P 0 0 → ar4.toInt ≤ P 0 1 → 0 ≤ ar5.toInt → ar5.toInt ≤ 240000 * (ar3.toInt + ar4.toInt) → (gi 28 4).toInt ≤ 1000000000 → s_BB (gi 28 4).toInt (gi 28 5).toInt (ar5.toInt + s_LS P ar1.toInt ar2.toNatClampNeg ar3.toNatClampNeg ar4.toNatClampNeg) (gi 28 4).toInt from (by
                                                            intro P hc hb hp h1 h2 h3 h4 h5 h6 h7
                                                            have n0 := hc.1.1
                                                            have n1 := hc.1.2
                                                            have c3 := t_clamp (i := ar3) l_a3
                                                            have c4 := t_clamp (i := ar4) l_a4
                                                            have hd : ¬ (P 0 0 ≤ ((ar3.toNatClampNeg : Nat) : Int) ∧ P 0 1 ≤ ((ar4.toNatClampNeg : Nat) : Int)) := s_hdS (by omega)
                                                            obtain ⟨k, hk⟩ := s_rem1 hd
                                                            have hs3 := hc.2.1 ar3.toNatClampNeg (by omega)
                                                            have hw3 : w59.toInt = P 1 ar3.toNatClampNeg := by rw [e59]; exact hs3.1
                                                            have ho3 : ar2.toNatClampNeg = 1 := by have := t_clamp (i := ar2) (by omega); omega
                                                            have hb3 : z119.toInt = (s_bS P ar1.toInt ar2.toNatClampNeg ar3.toNatClampNeg) := by unfold s_bS; rw [m119 rfl, hw3, ho3, if_pos rfl]
                                                            have hq3 := q120 (by omega) (by omega)
                                                            rw [hs3.1, hs3.2.2.2, hb3] at hq3
                                                            have hA : s_BB (gi 28 4).toInt (gi 28 5).toInt (ar5.toInt + s_oS P (s_ls P k) (s_bS P ar1.toInt ar2.toNatClampNeg ar3.toNatClampNeg) ar3.toNatClampNeg ar4.toNatClampNeg) (gi 28 4).toInt := s_oS_n (fun hh => by have h9 := hq3.mpr ⟨hh.2.1, s_bS_le, hh.2.2⟩; omega) h5 h7 rfl
                                                            have hD : s_BB (gi 28 4).toInt (gi 28 5).toInt (ar5.toInt + s_oC P (s_ls P k) (s_bC P ar1.toInt ar2.toNatClampNeg ar4.toNatClampNeg) ar3.toNatClampNeg ar4.toNatClampNeg) (gi 28 4).toInt := s_oC_n (fun hh => absurd hh.1 (by omega)) h5 h7 rfl
                                                            exact s_LS_2 hk hd hA hD))⟩⟩
              · have r126 : ar4.toInt < (gi 35 0).toInt := Int32.lt_iff_toInt_lt.mp (t_nle h124)
                have u127 : ar4.toInt ≤ 5 := t_ltu (t_nle h124) u123 rfl
                have l128 : 1 ≤ (gi 35 0).toInt := t_ltl (t_nle h124) l_a4 rfl
                refine ev_loc f_X1_search (nx := 154) rfl rfl rfl rfl ?_
                refine ev_getR f_X1_search (nx := 157) rfl (hI.wf.s rfl) rfl rfl (hI.wf.r rfl) rfl rfl ?_
                refine ev_getR f_X1_search (nx := 160) rfl (hI.wf.s rfl) rfl rfl (hI.wf.r rfl) rfl rfl ?_
                refine ev_loc f_X1_search (nx := 162) rfl rfl rfl rfl ?_
                refine ev_ialdT f_X1_search (nx := 163) rfl (hI.wf.s rfl) l_a4 (by decide) u127 (by decide) rfl (fun w129 e129 => ?_)
                refine ev_loc f_X1_search (nx := 164) rfl rfl rfl rfl ?_
                refine ev_f f_X1_search (t1 := 175) (t2 := 167) rfl rfl rfl (t_neT' (by decide : (0:Int32).toInt ≤ (0:Int)) l118 (by decide)) ?_
                refine ev_loc f_X1_search (nx := 168) rfl rfl rfl rfl ?_
                refine ev_loc f_X1_search (nx := 169) rfl rfl rfl rfl ?_
                refine ev_qI0 f_X1_search (nx := 172) (r := [.int w129]) rfl rfl rfl rfl rfl rfl rfl (c_d_turnEnd hI (ar1)) rfl (fun w130 l130 u130 q130 => ?_)
                have q130 : ∀ P : Nat → Nat → Int, s_CP P gi gr → s_PB P → 0 ≤ ar1.toInt → ar1.toInt ≤ 3000 → w130.toInt = ar1.toInt + P 8 ar1.toInt.toNat := q130
                refine ev_jmp f_X1_search (nx := 176) rfl rfl rfl ?_
                refine ev_mmRE f_X1_search (nx := 179) (l := (-2147483648)) (u := 2147483647) rfl rfl rfl (by omega) rfl (t_lo w129) (t_hi w129) l130 u130 (by decide) (by decide) rfl (fun z131 m131 l131 u131 => ?_)
                refine ev_loc f_X1_search (nx := 181) (lo' := [(6, .int z131), (0, .ref 28), (1, .int ar1), (2, .int ar2), (3, .int ar3), (4, .int ar4), (5, .int ar5)]) rfl rfl rfl rfl ?_
                refine ev_loc f_X1_search (nx := 182) rfl rfl rfl rfl ?_
                refine ev_getR f_X1_search (nx := 185) rfl (hI.wf.s rfl) rfl rfl (hI.wf.r rfl) rfl rfl ?_
                refine ev_loc f_X1_search (nx := 187) rfl rfl rfl rfl ?_
                refine ev_loc f_X1_search (nx := 189) rfl rfl rfl rfl ?_
                refine ev_qI0 f_X1_search (nx := 192) (r := []) rfl rfl rfl rfl rfl rfl rfl (c_d_canBegin_35 hI (ar4) (z131)) rfl (fun w132 l132 u132 q132 => ?_)
                have q132 : s_may ar4.toInt (gi 35 0).toInt z131.toInt (gi 37 ar4.toNatClampNeg).toInt (gi 40 ar4.toNatClampNeg).toInt w132.toInt := q132
                refine ev_if f_X1_search (t1 := 236) (t2 := 195) rfl rfl rfl (fun h133 => ?_) (fun h133 => ?_)
                · have u134 : w132.toInt ≤ 0 := t_equ h133 (by decide : (0:Int32).toInt ≤ (0:Int))
                  exact ev_ret f_X1_search rfl rfl rfl ⟨_, _, _, rfl, hI, hX, ⟨rfl, (show ∀ P : Nat → Nat → Int, s_CP P gi gr → s_PB P → s_PO P → 0 ≤ ar1.toInt → ar1.toInt ≤ 2000 → ar3.toInt ≤ P 0 0 → ar4.toInt ≤ P 0 1 → 0 ≤ ar5.toInt → ar5.toInt ≤ 240000 * (ar3.toInt + ar4.toInt) → (gi 28 4).toInt ≤ 1000000000 → s_BB (gi 28 4).toInt (gi 28 5).toInt (ar5.toInt + s_LS P ar1.toInt ar2.toNatClampNeg ar3.toNatClampNeg ar4.toNatClampNeg) (gi 28 4).toInt from (by
                                                            intro P hc hb hp h1 h2 h3 h4 h5 h6 h7
                                                            have n0 := hc.1.1
                                                            have n1 := hc.1.2
                                                            have c3 := t_clamp (i := ar3) l_a3
                                                            have c4 := t_clamp (i := ar4) l_a4
                                                            have hd : ¬ (P 0 0 ≤ ((ar3.toNatClampNeg : Nat) : Int) ∧ P 0 1 ≤ ((ar4.toNatClampNeg : Nat) : Int)) := s_hdS (by omega)
                                                            obtain ⟨k, hk⟩ := s_rem1 hd
                                                            have hs3 := hc.2.1 ar3.toNatClampNeg (by omega)
                                                            have hw3 : w59.toInt = P 1 ar3.toNatClampNeg := by rw [e59]; exact hs3.1
                                                            have ho3 : ar2.toNatClampNeg = 1 := by have := t_clamp (i := ar2) (by omega); omega
                                                            have hb3 : z119.toInt = (s_bS P ar1.toInt ar2.toNatClampNeg ar3.toNatClampNeg) := by unfold s_bS; rw [m119 rfl, hw3, ho3, if_pos rfl]
                                                            have hq3 := q120 (by omega) (by omega)
                                                            rw [hs3.1, hs3.2.2.2, hb3] at hq3
                                                            have hA : s_BB (gi 28 4).toInt (gi 28 5).toInt (ar5.toInt + s_oS P (s_ls P k) (s_bS P ar1.toInt ar2.toNatClampNeg ar3.toNatClampNeg) ar3.toNatClampNeg ar4.toNatClampNeg) (gi 28 4).toInt := s_oS_n (fun hh => by have h9 := hq3.mpr ⟨hh.2.1, s_bS_le, hh.2.2⟩; omega) h5 h7 rfl
                                                            have hs4 := hc.2.2.1 ar4.toNatClampNeg (by omega)
                                                            have hw4 : w129.toInt = P 5 ar4.toNatClampNeg := by rw [e129]; exact hs4.1
                                                            have ho4 : ar2.toNatClampNeg = 1 := by have := t_clamp (i := ar2) (by omega); omega
                                                            have hy4 := q130 P hc hb h1 (by omega)
                                                            have hb4 : z131.toInt = (s_bC P ar1.toInt ar2.toNatClampNeg ar4.toNatClampNeg) := by unfold s_bC; rw [m131 rfl, hw4, ho4, if_pos rfl, hy4]
                                                            have hq4 := q132 (by omega) (by omega)
                                                            rw [hs4.1, hs4.2.2.2, hb4] at hq4
                                                            have hD : s_BB (gi 28 4).toInt (gi 28 5).toInt (ar5.toInt + s_oC P (s_ls P k) (s_bC P ar1.toInt ar2.toNatClampNeg ar4.toNatClampNeg) ar3.toNatClampNeg ar4.toNatClampNeg) (gi 28 4).toInt := s_oC_n (fun hh => by have h9 := hq4.mpr ⟨hh.2, s_bC_le, Or.inl rfl⟩; omega) h5 h7 rfl
                                                            exact s_LS_2 hk hd hA hD))⟩⟩
                · have r135 : w132.toInt ≠ 0 := fun e => h133 (Int32.toInt_inj.mp (e.trans (by decide : (0:Int) = (0 : Int32).toInt)))
                  have l136 : 1 ≤ w132.toInt := t_nel h133 l132 rfl rfl
                  refine ev_loc f_X1_search (nx := 196) rfl rfl rfl rfl ?_
                  refine ev_getR f_X1_search (nx := 199) rfl (hI.wf.s rfl) rfl rfl (hI.wf.r rfl) rfl rfl ?_
                  refine ev_loc f_X1_search (nx := 201) rfl rfl rfl rfl ?_
                  refine ev_loc f_X1_search (nx := 203) rfl rfl rfl rfl ?_
                  refine ev_qI0 f_X1_search (nx := 206) (r := []) rfl rfl rfl rfl rfl rfl rfl (c_d_waitsOf_35 hI (ar4) (z131)) rfl (fun w137 l137 u137 q137 => ?_)
                  have q137 : s_wts ar4.toInt (gi 35 0).toInt z131.toInt (gi 37 ar4.toNatClampNeg).toInt (gi 39 ar4.toNatClampNeg).toInt w137.toInt := q137
                  refine ev_loc f_X1_search (nx := 208) (lo' := [(7, .int w137), (6, .int z131), (0, .ref 28), (1, .int ar1), (2, .int ar2), (3, .int ar3), (4, .int ar4), (5, .int ar5)]) rfl rfl rfl rfl ?_
                  refine ev_loc f_X1_search (nx := 209) rfl rfl rfl rfl ?_
                  refine ev_loc f_X1_search (nx := 211) rfl rfl rfl rfl ?_
                  refine ev_loc f_X1_search (nx := 212) rfl rfl rfl rfl ?_
                  refine ev_getR f_X1_search (nx := 215) rfl (hI.wf.s rfl) rfl rfl (hI.wf.r rfl) rfl rfl ?_
                  refine ev_getR f_X1_search (nx := 218) rfl (hI.wf.s rfl) rfl rfl (hI.wf.r rfl) rfl rfl ?_
                  refine ev_loc f_X1_search (nx := 220) rfl rfl rfl rfl ?_
                  refine ev_ialdT f_X1_search (nx := 221) rfl (hI.wf.s rfl) l_a4 (by decide) u127 (by decide) rfl (fun w138 e138 => ?_)
                  refine ev_anyIE f_X1_search (nx := 222) rfl rfl rfl rfl (fun z139 e139 => ?_)
                  refine ev_ic f_X1_search (nx := 223) (v := 0) rfl (by decide) rfl ?_
                  refine ev_loc f_X1_search (nx := 224) rfl rfl rfl rfl ?_
                  refine ev_loc f_X1_search (nx := 226) rfl rfl rfl rfl ?_
                  refine ev_ic f_X1_search (nx := 227) (v := 1) rfl (by decide) rfl ?_
                  refine ev_addC f_X1_search (nx := 228) (c := 1) (l := 1) (u := 6) rfl (by decide) l_a4 u127 rfl rfl (by decide) (by decide) rfl (fun z140 e140 l140 u140 => ?_)
                  refine ev_loc f_X1_search (nx := 230) rfl rfl rfl rfl ?_
                  refine ev_loc f_X1_search (nx := 232) rfl rfl rfl rfl ?_
                  refine ev_anyIE f_X1_search (nx := 233) rfl rfl rfl rfl (fun z141 e141 => ?_)
                  refine ev_qN f_X1_search (nx := 236) (r := []) rfl rfl rfl rfl rfl rfl rfl (x_Me.up (ih hI (z139) (0) (by decide : (0:Int) ≤ (0:Int32).toInt) (Int.le_trans (by decide : (0:Int32).toInt ≤ (0:Int)) (by decide : (0:Int) ≤ 1)) (ar3) l_a3 (Int.le_trans u14 (by decide : (5:Int) ≤ 6)) (z140) (Int.le_trans (by decide : (0:Int) ≤ 1) l140) u140 (z141) (by omega)) (by omega)) rfl hX rfl (fun gi142 gl142 gr142 hI hX hC142 q142 => ?_)
                  have q142 : ∀ P : Nat → Nat → Int, s_CP P gi gr → s_PB P → s_PO P → 0 ≤ z139.toInt → z139.toInt ≤ 2000 → ar3.toInt ≤ P 0 0 → z140.toInt ≤ P 0 1 → 0 ≤ z141.toInt → z141.toInt ≤ 240000 * (ar3.toInt + z140.toInt) → (gi 28 4).toInt ≤ 1000000000 → s_BB (gi 28 4).toInt (gi 28 5).toInt (z141.toInt + s_LS P z139.toInt (0 : Int32).toNatClampNeg ar3.toNatClampNeg z140.toNatClampNeg) (gi142 28 4).toInt := q142
                  exact ev_ret f_X1_search rfl rfl rfl ⟨_, _, _, rfl, hI, hX, ⟨rfl, (show ∀ P : Nat → Nat → Int, s_CP P gi gr → s_PB P → s_PO P → 0 ≤ ar1.toInt → ar1.toInt ≤ 2000 → ar3.toInt ≤ P 0 0 → ar4.toInt ≤ P 0 1 → 0 ≤ ar5.toInt → ar5.toInt ≤ 240000 * (ar3.toInt + ar4.toInt) → (gi 28 4).toInt ≤ 1000000000 → s_BB (gi 28 4).toInt (gi 28 5).toInt (ar5.toInt + s_LS P ar1.toInt ar2.toNatClampNeg ar3.toNatClampNeg ar4.toNatClampNeg) (gi142 28 4).toInt from (by
                                                            intro P hc hb hp h1 h2 h3 h4 h5 h6 h7
                                                            have n0 := hc.1.1
                                                            have n1 := hc.1.2
                                                            have c3 := t_clamp (i := ar3) l_a3
                                                            have c4 := t_clamp (i := ar4) l_a4
                                                            have hd : ¬ (P 0 0 ≤ ((ar3.toNatClampNeg : Nat) : Int) ∧ P 0 1 ≤ ((ar4.toNatClampNeg : Nat) : Int)) := s_hdS (by omega)
                                                            obtain ⟨k, hk⟩ := s_rem1 hd
                                                            have hs3 := hc.2.1 ar3.toNatClampNeg (by omega)
                                                            have hw3 : w59.toInt = P 1 ar3.toNatClampNeg := by rw [e59]; exact hs3.1
                                                            have ho3 : ar2.toNatClampNeg = 1 := by have := t_clamp (i := ar2) (by omega); omega
                                                            have hb3 : z119.toInt = (s_bS P ar1.toInt ar2.toNatClampNeg ar3.toNatClampNeg) := by unfold s_bS; rw [m119 rfl, hw3, ho3, if_pos rfl]
                                                            have hq3 := q120 (by omega) (by omega)
                                                            rw [hs3.1, hs3.2.2.2, hb3] at hq3
                                                            have hA : s_BB (gi 28 4).toInt (gi 28 5).toInt (ar5.toInt + s_oS P (s_ls P k) (s_bS P ar1.toInt ar2.toNatClampNeg ar3.toNatClampNeg) ar3.toNatClampNeg ar4.toNatClampNeg) (gi 28 4).toInt := s_oS_n (fun hh => by have h9 := hq3.mpr ⟨hh.2.1, s_bS_le, hh.2.2⟩; omega) h5 h7 rfl
                                                            have hs4 := hc.2.2.1 ar4.toNatClampNeg (by omega)
                                                            have hw4 : w129.toInt = P 5 ar4.toNatClampNeg := by rw [e129]; exact hs4.1
                                                            have ho4 : ar2.toNatClampNeg = 1 := by have := t_clamp (i := ar2) (by omega); omega
                                                            have hy4 := q130 P hc hb h1 (by omega)
                                                            have hb4 : z131.toInt = (s_bC P ar1.toInt ar2.toNatClampNeg ar4.toNatClampNeg) := by unfold s_bC; rw [m131 rfl, hw4, ho4, if_pos rfl, hy4]
                                                            have hq4 := q132 (by omega) (by omega)
                                                            rw [hs4.1, hs4.2.2.2, hb4] at hq4
                                                            have hy := hq4.mp (by omega)
                                                            have hpa := hp.2.1 ar4.toNatClampNeg (by omega)
                                                            have hpb := hb.2.2.1 ar4.toNatClampNeg (by omega)
                                                            have hv4 := q137 (by omega) (by omega) (by rw [hs4.1, hb4]; exact s_bC_le) (by rw [hs4.1, hb4]; omega) (by rw [hs4.2.2.1]; exact hpa.2.2) (by rw [hs4.2.2.1]; exact hpb.2.2)
                                                            rw [hs4.1, hs4.2.2.1, hb4] at hv4
                                                            have ht4 : w138.toInt = P 6 ar4.toNatClampNeg := by rw [e138]; exact hs4.2.1
                                                            have hz4 := s_add e139 hb4 ht4 (by omega)
                                                            have hcs4 := s_cst (n := ar3.toInt + ar4.toInt) h5 h6 hy.1 hpa.1 hv4.2.1 hv4.2.2
                                                            have hu4 := s_add e141 rfl hv4.1 (hcs4.2.2 (by omega))
                                                            have hn4 := s_cp (y := ar4) (z := z140) (by omega) e140
                                                            have hbm := s_bC_m (o := ar2.toNatClampNeg) (c := ar4.toNatClampNeg) hp h1
                                                            have hg4 := q142 P hc hb hp (by omega) (by omega) (by omega) (by omega) (by rw [hu4]; exact hcs4.1) (by rw [hu4, show ar3.toInt + z140.toInt = ar3.toInt + ar4.toInt + 1 from (by omega)]; exact hcs4.2.1) h7
                                                            rw [hz4, hu4, hn4, s_LS_k (k := k) (s_rem3 hk (by omega))] at hg4
                                                            have hD : s_BB (gi 28 4).toInt (gi 28 5).toInt (ar5.toInt + s_oC P (s_ls P k) (s_bC P ar1.toInt ar2.toNatClampNeg ar4.toNatClampNeg) ar3.toNatClampNeg ar4.toNatClampNeg) (gi142 28 4).toInt := s_oC_y ⟨by omega, hy.1⟩ h5 h7 hg4
                                                            exact s_LS_2 hk hd hA hD))⟩⟩
            · have r144 : w120.toInt ≠ 0 := fun e => h121 (Int32.toInt_inj.mp (e.trans (by decide : (0:Int) = (0 : Int32).toInt)))
              have l145 : 1 ≤ w120.toInt := t_nel h121 l120 rfl rfl
              refine ev_loc f_X1_search (nx := 103) rfl rfl rfl rfl ?_
              refine ev_getR f_X1_search (nx := 106) rfl (hI.wf.s rfl) rfl rfl (hI.wf.r rfl) rfl rfl ?_
              refine ev_loc f_X1_search (nx := 107) rfl rfl rfl rfl ?_
              refine ev_loc f_X1_search (nx := 109) rfl rfl rfl rfl ?_
              refine ev_qI0 f_X1_search (nx := 112) (r := []) rfl rfl rfl rfl rfl rfl rfl (c_d_waitsOf_29 hI (ar3) (z119)) rfl (fun w146 l146 u146 q146 => ?_)
              have q146 : s_wts ar3.toInt (gi 29 0).toInt z119.toInt (gi 31 ar3.toNatClampNeg).toInt (gi 33 ar3.toNatClampNeg).toInt w146.toInt := q146
              refine ev_loc f_X1_search (nx := 114) (lo' := [(7, .int w146), (6, .int z119), (0, .ref 28), (1, .int ar1), (2, .int ar2), (3, .int ar3), (4, .int ar4), (5, .int ar5)]) rfl rfl rfl rfl ?_
              refine ev_loc f_X1_search (nx := 115) rfl rfl rfl rfl ?_
              refine ev_loc f_X1_search (nx := 117) rfl rfl rfl rfl ?_
              refine ev_loc f_X1_search (nx := 118) rfl rfl rfl rfl ?_
              refine ev_getR f_X1_search (nx := 121) rfl (hI.wf.s rfl) rfl rfl (hI.wf.r rfl) rfl rfl ?_
              refine ev_getR f_X1_search (nx := 124) rfl (hI.wf.s rfl) rfl rfl (hI.wf.r rfl) rfl rfl ?_
              refine ev_loc f_X1_search (nx := 125) rfl rfl rfl rfl ?_
              refine ev_ialdT f_X1_search (nx := 126) rfl (hI.wf.s rfl) l_a3 (by decide) u14 (by decide) rfl (fun w147 e147 => ?_)
              refine ev_anyIE f_X1_search (nx := 127) rfl rfl rfl rfl (fun z148 e148 => ?_)
              refine ev_ic f_X1_search (nx := 128) (v := 1) rfl (by decide) rfl ?_
              refine ev_loc f_X1_search (nx := 129) rfl rfl rfl rfl ?_
              refine ev_ic f_X1_search (nx := 130) (v := 1) rfl (by decide) rfl ?_
              refine ev_addC f_X1_search (nx := 131) (c := 1) (l := 1) (u := 6) rfl (by decide) l_a3 u14 rfl rfl (by decide) (by decide) rfl (fun z149 e149 l149 u149 => ?_)
              refine ev_loc f_X1_search (nx := 133) rfl rfl rfl rfl ?_
              refine ev_loc f_X1_search (nx := 135) rfl rfl rfl rfl ?_
              refine ev_loc f_X1_search (nx := 137) rfl rfl rfl rfl ?_
              refine ev_anyIE f_X1_search (nx := 138) rfl rfl rfl rfl (fun z150 e150 => ?_)
              refine ev_qN f_X1_search (nx := 141) (r := []) rfl rfl rfl rfl rfl rfl rfl (x_Me.up (ih hI (z148) (1) (Int.le_trans (by decide : (0:Int) ≤ 1) (by decide : (1:Int) ≤ (1:Int32).toInt)) (by decide : (1:Int32).toInt ≤ (1:Int)) (z149) (Int.le_trans (by decide : (0:Int) ≤ 1) l149) u149 (ar4) l_a4 u_a4 (z150) (by omega)) (by omega)) rfl hX rfl (fun gi151 gl151 gr151 hI hX hC151 q151 => ?_)
              have q151 : ∀ P : Nat → Nat → Int, s_CP P gi gr → s_PB P → s_PO P → 0 ≤ z148.toInt → z148.toInt ≤ 2000 → z149.toInt ≤ P 0 0 → ar4.toInt ≤ P 0 1 → 0 ≤ z150.toInt → z150.toInt ≤ 240000 * (z149.toInt + ar4.toInt) → (gi 28 4).toInt ≤ 1000000000 → s_BB (gi 28 4).toInt (gi 28 5).toInt (z150.toInt + s_LS P z148.toInt (1 : Int32).toNatClampNeg z149.toNatClampNeg ar4.toNatClampNeg) (gi151 28 4).toInt := q151
              refine ev_loc f_X1_search (nx := 143) rfl rfl rfl rfl ?_
              refine ev_loc f_X1_search (nx := 144) rfl rfl rfl rfl ?_
              refine ev_getR f_X1_search (nx := 147) rfl (hI.wf.s rfl) rfl rfl (hI.wf.r rfl) rfl rfl ?_
              refine ev_getI f_X1_search (nx := 150) rfl (hI.wf.s rfl) rfl rfl rfl ?_
              obtain ⟨l153, u153⟩ := hI.b (hI.wf.s (k := 35) rfl) (t_bdK rfl : t_bd 3 0 = some (0, 6))
              refine ev_if f_X1_search (t1 := 236) (t2 := 153) rfl rfl rfl (fun h154 => ?_) (fun h154 => ?_)
              · have r155 : (gi151 35 0).toInt ≤ ar4.toInt := Int32.le_iff_toInt_le.mp h154
                exact ev_ret f_X1_search rfl rfl rfl ⟨_, _, _, rfl, hI, hX, ⟨rfl, (show ∀ P : Nat → Nat → Int, s_CP P gi gr → s_PB P → s_PO P → 0 ≤ ar1.toInt → ar1.toInt ≤ 2000 → ar3.toInt ≤ P 0 0 → ar4.toInt ≤ P 0 1 → 0 ≤ ar5.toInt → ar5.toInt ≤ 240000 * (ar3.toInt + ar4.toInt) → (gi 28 4).toInt ≤ 1000000000 → s_BB (gi 28 4).toInt (gi 28 5).toInt (ar5.toInt + s_LS P ar1.toInt ar2.toNatClampNeg ar3.toNatClampNeg ar4.toNatClampNeg) (gi151 28 4).toInt from (by
                                                            intro P hc hb hp h1 h2 h3 h4 h5 h6 h7
                                                            have n0 := hc.1.1
                                                            have n1 := hc.1.2
                                                            have c3 := t_clamp (i := ar3) l_a3
                                                            have c4 := t_clamp (i := ar4) l_a4
                                                            have hd : ¬ (P 0 0 ≤ ((ar3.toNatClampNeg : Nat) : Int) ∧ P 0 1 ≤ ((ar4.toNatClampNeg : Nat) : Int)) := s_hdS (by omega)
                                                            obtain ⟨k, hk⟩ := s_rem1 hd
                                                            have hs3 := hc.2.1 ar3.toNatClampNeg (by omega)
                                                            have hw3 : w59.toInt = P 1 ar3.toNatClampNeg := by rw [e59]; exact hs3.1
                                                            have ho3 : ar2.toNatClampNeg = 1 := by have := t_clamp (i := ar2) (by omega); omega
                                                            have hb3 : z119.toInt = (s_bS P ar1.toInt ar2.toNatClampNeg ar3.toNatClampNeg) := by unfold s_bS; rw [m119 rfl, hw3, ho3, if_pos rfl]
                                                            have hq3 := q120 (by omega) (by omega)
                                                            rw [hs3.1, hs3.2.2.2, hb3] at hq3
                                                            have hy := hq3.mp (by omega)
                                                            have hpa := hp.1 ar3.toNatClampNeg (by omega)
                                                            have hpb := hb.2.1 ar3.toNatClampNeg (by omega)
                                                            have hv3 := q146 (by omega) (by omega) (by rw [hs3.1, hb3]; exact s_bS_le) (by rw [hs3.1, hb3]; omega) (by rw [hs3.2.2.1]; exact hpa.2.2) (by rw [hs3.2.2.1]; exact hpb.2.2)
                                                            rw [hs3.1, hs3.2.2.1, hb3] at hv3
                                                            have ht3 : w147.toInt = P 2 ar3.toNatClampNeg := by rw [e147]; exact hs3.2.1
                                                            have hz3 := s_add e148 hb3 ht3 (by omega)
                                                            have hcs3 := s_cst (n := ar3.toInt + ar4.toInt) h5 h6 hy.1 hpa.1 hv3.2.1 hv3.2.2
                                                            have hu3 := s_add e150 rfl hv3.1 (hcs3.2.2 (by omega))
                                                            have hn3 := s_cp (y := ar3) (z := z149) (by omega) e149
                                                            have hbm := s_bS_m (o := ar2.toNatClampNeg) (s := ar3.toNatClampNeg) hp h1
                                                            have hg3 := q151 P hc hb hp (by omega) (by omega) (by omega) (by omega) (by rw [hu3]; exact hcs3.1) (by rw [hu3, show z149.toInt + ar4.toInt = ar3.toInt + ar4.toInt + 1 from (by omega)]; exact hcs3.2.1) h7
                                                            rw [hz3, hu3, hn3, s_LS_k (k := k) (s_rem2 hk (by omega))] at hg3
                                                            have hA : s_BB (gi 28 4).toInt (gi 28 5).toInt (ar5.toInt + s_oS P (s_ls P k) (s_bS P ar1.toInt ar2.toNatClampNeg ar3.toNatClampNeg) ar3.toNatClampNeg ar4.toNatClampNeg) (gi151 28 4).toInt := s_oS_y ⟨by omega, hy.1, hy.2.2⟩ h5 h7 hg3
                                                            have hcA := hc.fr hC151 rfl rfl
                                                            have hE : (gi151 28 5).toInt = (gi 28 5).toInt := congrArg Int32.toInt (hC151.1 28 5 rfl).1
                                                            have hB1 : (gi151 28 4).toInt ≤ 1000000000 := Int.le_trans hA.2.2 h7
                                                            have n0A := hcA.1.1
                                                            have n1A := hcA.1.2
                                                            have hD : s_BB (gi151 28 4).toInt (gi 28 5).toInt (ar5.toInt + s_oC P (s_ls P k) (s_bC P ar1.toInt ar2.toNatClampNeg ar4.toNatClampNeg) ar3.toNatClampNeg ar4.toNatClampNeg) (gi151 28 4).toInt := s_oC_n (fun hh => absurd hh.1 (by omega)) h5 hB1 rfl
                                                            exact s_LS_2 hk hd hA hD))⟩⟩
              · have r156 : ar4.toInt < (gi151 35 0).toInt := Int32.lt_iff_toInt_lt.mp (t_nle h154)
                have u157 : ar4.toInt ≤ 5 := t_ltu (t_nle h154) u153 rfl
                have l158 : 1 ≤ (gi151 35 0).toInt := t_ltl (t_nle h154) l_a4 rfl
                refine ev_loc f_X1_search (nx := 154) rfl rfl rfl rfl ?_
                refine ev_getR f_X1_search (nx := 157) rfl (hI.wf.s rfl) rfl rfl (hI.wf.r rfl) rfl rfl ?_
                refine ev_getR f_X1_search (nx := 160) rfl (hI.wf.s rfl) rfl rfl (hI.wf.r rfl) rfl rfl ?_
                refine ev_loc f_X1_search (nx := 162) rfl rfl rfl rfl ?_
                refine ev_ialdT f_X1_search (nx := 163) rfl (hI.wf.s rfl) l_a4 (by decide) u157 (by decide) rfl (fun w159 e159 => ?_)
                refine ev_loc f_X1_search (nx := 164) rfl rfl rfl rfl ?_
                refine ev_f f_X1_search (t1 := 175) (t2 := 167) rfl rfl rfl (t_neT' (by decide : (0:Int32).toInt ≤ (0:Int)) l118 (by decide)) ?_
                refine ev_loc f_X1_search (nx := 168) rfl rfl rfl rfl ?_
                refine ev_loc f_X1_search (nx := 169) rfl rfl rfl rfl ?_
                refine ev_qI0 f_X1_search (nx := 172) (r := [.int w159]) rfl rfl rfl rfl rfl rfl rfl (c_d_turnEnd hI (ar1)) rfl (fun w160 l160 u160 q160 => ?_)
                have q160 : ∀ P : Nat → Nat → Int, s_CP P gi151 gr151 → s_PB P → 0 ≤ ar1.toInt → ar1.toInt ≤ 3000 → w160.toInt = ar1.toInt + P 8 ar1.toInt.toNat := q160
                refine ev_jmp f_X1_search (nx := 176) rfl rfl rfl ?_
                refine ev_mmRE f_X1_search (nx := 179) (l := (-2147483648)) (u := 2147483647) rfl rfl rfl (by omega) rfl (t_lo w159) (t_hi w159) l160 u160 (by decide) (by decide) rfl (fun z161 m161 l161 u161 => ?_)
                refine ev_loc f_X1_search (nx := 181) (lo' := [(6, .int z161), (7, .int w146), (0, .ref 28), (1, .int ar1), (2, .int ar2), (3, .int ar3), (4, .int ar4), (5, .int ar5)]) rfl rfl rfl rfl ?_
                refine ev_loc f_X1_search (nx := 182) rfl rfl rfl rfl ?_
                refine ev_getR f_X1_search (nx := 185) rfl (hI.wf.s rfl) rfl rfl (hI.wf.r rfl) rfl rfl ?_
                refine ev_loc f_X1_search (nx := 187) rfl rfl rfl rfl ?_
                refine ev_loc f_X1_search (nx := 189) rfl rfl rfl rfl ?_
                refine ev_qI0 f_X1_search (nx := 192) (r := []) rfl rfl rfl rfl rfl rfl rfl (c_d_canBegin_35 hI (ar4) (z161)) rfl (fun w162 l162 u162 q162 => ?_)
                have q162 : s_may ar4.toInt (gi151 35 0).toInt z161.toInt (gi151 37 ar4.toNatClampNeg).toInt (gi151 40 ar4.toNatClampNeg).toInt w162.toInt := q162
                refine ev_if f_X1_search (t1 := 236) (t2 := 195) rfl rfl rfl (fun h163 => ?_) (fun h163 => ?_)
                · have u164 : w162.toInt ≤ 0 := t_equ h163 (by decide : (0:Int32).toInt ≤ (0:Int))
                  exact ev_ret f_X1_search rfl rfl rfl ⟨_, _, _, rfl, hI, hX, ⟨rfl, (show ∀ P : Nat → Nat → Int, s_CP P gi gr → s_PB P → s_PO P → 0 ≤ ar1.toInt → ar1.toInt ≤ 2000 → ar3.toInt ≤ P 0 0 → ar4.toInt ≤ P 0 1 → 0 ≤ ar5.toInt → ar5.toInt ≤ 240000 * (ar3.toInt + ar4.toInt) → (gi 28 4).toInt ≤ 1000000000 → s_BB (gi 28 4).toInt (gi 28 5).toInt (ar5.toInt + s_LS P ar1.toInt ar2.toNatClampNeg ar3.toNatClampNeg ar4.toNatClampNeg) (gi151 28 4).toInt from (by
                                                            intro P hc hb hp h1 h2 h3 h4 h5 h6 h7
                                                            have n0 := hc.1.1
                                                            have n1 := hc.1.2
                                                            have c3 := t_clamp (i := ar3) l_a3
                                                            have c4 := t_clamp (i := ar4) l_a4
                                                            have hd : ¬ (P 0 0 ≤ ((ar3.toNatClampNeg : Nat) : Int) ∧ P 0 1 ≤ ((ar4.toNatClampNeg : Nat) : Int)) := s_hdS (by omega)
                                                            obtain ⟨k, hk⟩ := s_rem1 hd
                                                            have hs3 := hc.2.1 ar3.toNatClampNeg (by omega)
                                                            have hw3 : w59.toInt = P 1 ar3.toNatClampNeg := by rw [e59]; exact hs3.1
                                                            have ho3 : ar2.toNatClampNeg = 1 := by have := t_clamp (i := ar2) (by omega); omega
                                                            have hb3 : z119.toInt = (s_bS P ar1.toInt ar2.toNatClampNeg ar3.toNatClampNeg) := by unfold s_bS; rw [m119 rfl, hw3, ho3, if_pos rfl]
                                                            have hq3 := q120 (by omega) (by omega)
                                                            rw [hs3.1, hs3.2.2.2, hb3] at hq3
                                                            have hy := hq3.mp (by omega)
                                                            have hpa := hp.1 ar3.toNatClampNeg (by omega)
                                                            have hpb := hb.2.1 ar3.toNatClampNeg (by omega)
                                                            have hv3 := q146 (by omega) (by omega) (by rw [hs3.1, hb3]; exact s_bS_le) (by rw [hs3.1, hb3]; omega) (by rw [hs3.2.2.1]; exact hpa.2.2) (by rw [hs3.2.2.1]; exact hpb.2.2)
                                                            rw [hs3.1, hs3.2.2.1, hb3] at hv3
                                                            have ht3 : w147.toInt = P 2 ar3.toNatClampNeg := by rw [e147]; exact hs3.2.1
                                                            have hz3 := s_add e148 hb3 ht3 (by omega)
                                                            have hcs3 := s_cst (n := ar3.toInt + ar4.toInt) h5 h6 hy.1 hpa.1 hv3.2.1 hv3.2.2
                                                            have hu3 := s_add e150 rfl hv3.1 (hcs3.2.2 (by omega))
                                                            have hn3 := s_cp (y := ar3) (z := z149) (by omega) e149
                                                            have hbm := s_bS_m (o := ar2.toNatClampNeg) (s := ar3.toNatClampNeg) hp h1
                                                            have hg3 := q151 P hc hb hp (by omega) (by omega) (by omega) (by omega) (by rw [hu3]; exact hcs3.1) (by rw [hu3, show z149.toInt + ar4.toInt = ar3.toInt + ar4.toInt + 1 from (by omega)]; exact hcs3.2.1) h7
                                                            rw [hz3, hu3, hn3, s_LS_k (k := k) (s_rem2 hk (by omega))] at hg3
                                                            have hA : s_BB (gi 28 4).toInt (gi 28 5).toInt (ar5.toInt + s_oS P (s_ls P k) (s_bS P ar1.toInt ar2.toNatClampNeg ar3.toNatClampNeg) ar3.toNatClampNeg ar4.toNatClampNeg) (gi151 28 4).toInt := s_oS_y ⟨by omega, hy.1, hy.2.2⟩ h5 h7 hg3
                                                            have hcA := hc.fr hC151 rfl rfl
                                                            have hE : (gi151 28 5).toInt = (gi 28 5).toInt := congrArg Int32.toInt (hC151.1 28 5 rfl).1
                                                            have hB1 : (gi151 28 4).toInt ≤ 1000000000 := Int.le_trans hA.2.2 h7
                                                            have n0A := hcA.1.1
                                                            have n1A := hcA.1.2
                                                            have hs4 := hcA.2.2.1 ar4.toNatClampNeg (by omega)
                                                            have hw4 : w159.toInt = P 5 ar4.toNatClampNeg := by rw [e159]; exact hs4.1
                                                            have ho4 : ar2.toNatClampNeg = 1 := by have := t_clamp (i := ar2) (by omega); omega
                                                            have hy4 := q160 P hcA hb h1 (by omega)
                                                            have hb4 : z161.toInt = (s_bC P ar1.toInt ar2.toNatClampNeg ar4.toNatClampNeg) := by unfold s_bC; rw [m161 rfl, hw4, ho4, if_pos rfl, hy4]
                                                            have hq4 := q162 (by omega) (by omega)
                                                            rw [hs4.1, hs4.2.2.2, hb4] at hq4
                                                            have hD : s_BB (gi151 28 4).toInt (gi 28 5).toInt (ar5.toInt + s_oC P (s_ls P k) (s_bC P ar1.toInt ar2.toNatClampNeg ar4.toNatClampNeg) ar3.toNatClampNeg ar4.toNatClampNeg) (gi151 28 4).toInt := s_oC_n (fun hh => by have h9 := hq4.mpr ⟨hh.2, s_bC_le, Or.inl rfl⟩; omega) h5 hB1 rfl
                                                            exact s_LS_2 hk hd hA hD))⟩⟩
                · have r165 : w162.toInt ≠ 0 := fun e => h163 (Int32.toInt_inj.mp (e.trans (by decide : (0:Int) = (0 : Int32).toInt)))
                  have l166 : 1 ≤ w162.toInt := t_nel h163 l162 rfl rfl
                  refine ev_loc f_X1_search (nx := 196) rfl rfl rfl rfl ?_
                  refine ev_getR f_X1_search (nx := 199) rfl (hI.wf.s rfl) rfl rfl (hI.wf.r rfl) rfl rfl ?_
                  refine ev_loc f_X1_search (nx := 201) rfl rfl rfl rfl ?_
                  refine ev_loc f_X1_search (nx := 203) rfl rfl rfl rfl ?_
                  refine ev_qI0 f_X1_search (nx := 206) (r := []) rfl rfl rfl rfl rfl rfl rfl (c_d_waitsOf_35 hI (ar4) (z161)) rfl (fun w167 l167 u167 q167 => ?_)
                  have q167 : s_wts ar4.toInt (gi151 35 0).toInt z161.toInt (gi151 37 ar4.toNatClampNeg).toInt (gi151 39 ar4.toNatClampNeg).toInt w167.toInt := q167
                  refine ev_loc f_X1_search (nx := 208) (lo' := [(7, .int w167), (6, .int z161), (0, .ref 28), (1, .int ar1), (2, .int ar2), (3, .int ar3), (4, .int ar4), (5, .int ar5)]) rfl rfl rfl rfl ?_
                  refine ev_loc f_X1_search (nx := 209) rfl rfl rfl rfl ?_
                  refine ev_loc f_X1_search (nx := 211) rfl rfl rfl rfl ?_
                  refine ev_loc f_X1_search (nx := 212) rfl rfl rfl rfl ?_
                  refine ev_getR f_X1_search (nx := 215) rfl (hI.wf.s rfl) rfl rfl (hI.wf.r rfl) rfl rfl ?_
                  refine ev_getR f_X1_search (nx := 218) rfl (hI.wf.s rfl) rfl rfl (hI.wf.r rfl) rfl rfl ?_
                  refine ev_loc f_X1_search (nx := 220) rfl rfl rfl rfl ?_
                  refine ev_ialdT f_X1_search (nx := 221) rfl (hI.wf.s rfl) l_a4 (by decide) u157 (by decide) rfl (fun w168 e168 => ?_)
                  refine ev_anyIE f_X1_search (nx := 222) rfl rfl rfl rfl (fun z169 e169 => ?_)
                  refine ev_ic f_X1_search (nx := 223) (v := 0) rfl (by decide) rfl ?_
                  refine ev_loc f_X1_search (nx := 224) rfl rfl rfl rfl ?_
                  refine ev_loc f_X1_search (nx := 226) rfl rfl rfl rfl ?_
                  refine ev_ic f_X1_search (nx := 227) (v := 1) rfl (by decide) rfl ?_
                  refine ev_addC f_X1_search (nx := 228) (c := 1) (l := 1) (u := 6) rfl (by decide) l_a4 u157 rfl rfl (by decide) (by decide) rfl (fun z170 e170 l170 u170 => ?_)
                  refine ev_loc f_X1_search (nx := 230) rfl rfl rfl rfl ?_
                  refine ev_loc f_X1_search (nx := 232) rfl rfl rfl rfl ?_
                  refine ev_anyIE f_X1_search (nx := 233) rfl rfl rfl rfl (fun z171 e171 => ?_)
                  refine ev_qN f_X1_search (nx := 236) (r := []) rfl rfl rfl rfl rfl rfl rfl (x_Me.up (ih hI (z169) (0) (by decide : (0:Int) ≤ (0:Int32).toInt) (Int.le_trans (by decide : (0:Int32).toInt ≤ (0:Int)) (by decide : (0:Int) ≤ 1)) (ar3) l_a3 (Int.le_trans u14 (by decide : (5:Int) ≤ 6)) (z170) (Int.le_trans (by decide : (0:Int) ≤ 1) l170) u170 (z171) (by omega)) (by omega)) rfl hX rfl (fun gi172 gl172 gr172 hI hX hC172 q172 => ?_)
                  have ff173 : (gi151 28 5).toInt = (gi 28 5).toInt := congrArg Int32.toInt ((hC151.1 28 5 rfl).1.trans rfl)
                  have q172 : ∀ P : Nat → Nat → Int, s_CP P gi151 gr151 → s_PB P → s_PO P → 0 ≤ z169.toInt → z169.toInt ≤ 2000 → ar3.toInt ≤ P 0 0 → z170.toInt ≤ P 0 1 → 0 ≤ z171.toInt → z171.toInt ≤ 240000 * (ar3.toInt + z170.toInt) → (gi151 28 4).toInt ≤ 1000000000 → s_BB (gi151 28 4).toInt (gi151 28 5).toInt (z171.toInt + s_LS P z169.toInt (0 : Int32).toNatClampNeg ar3.toNatClampNeg z170.toNatClampNeg) (gi172 28 4).toInt := q172
                  exact ev_ret f_X1_search rfl rfl rfl ⟨_, _, _, rfl, hI, hX, ⟨rfl, (show ∀ P : Nat → Nat → Int, s_CP P gi gr → s_PB P → s_PO P → 0 ≤ ar1.toInt → ar1.toInt ≤ 2000 → ar3.toInt ≤ P 0 0 → ar4.toInt ≤ P 0 1 → 0 ≤ ar5.toInt → ar5.toInt ≤ 240000 * (ar3.toInt + ar4.toInt) → (gi 28 4).toInt ≤ 1000000000 → s_BB (gi 28 4).toInt (gi 28 5).toInt (ar5.toInt + s_LS P ar1.toInt ar2.toNatClampNeg ar3.toNatClampNeg ar4.toNatClampNeg) (gi172 28 4).toInt from (by
                                                            intro P hc hb hp h1 h2 h3 h4 h5 h6 h7
                                                            have n0 := hc.1.1
                                                            have n1 := hc.1.2
                                                            have c3 := t_clamp (i := ar3) l_a3
                                                            have c4 := t_clamp (i := ar4) l_a4
                                                            have hd : ¬ (P 0 0 ≤ ((ar3.toNatClampNeg : Nat) : Int) ∧ P 0 1 ≤ ((ar4.toNatClampNeg : Nat) : Int)) := s_hdS (by omega)
                                                            obtain ⟨k, hk⟩ := s_rem1 hd
                                                            have hs3 := hc.2.1 ar3.toNatClampNeg (by omega)
                                                            have hw3 : w59.toInt = P 1 ar3.toNatClampNeg := by rw [e59]; exact hs3.1
                                                            have ho3 : ar2.toNatClampNeg = 1 := by have := t_clamp (i := ar2) (by omega); omega
                                                            have hb3 : z119.toInt = (s_bS P ar1.toInt ar2.toNatClampNeg ar3.toNatClampNeg) := by unfold s_bS; rw [m119 rfl, hw3, ho3, if_pos rfl]
                                                            have hq3 := q120 (by omega) (by omega)
                                                            rw [hs3.1, hs3.2.2.2, hb3] at hq3
                                                            have hy := hq3.mp (by omega)
                                                            have hpa := hp.1 ar3.toNatClampNeg (by omega)
                                                            have hpb := hb.2.1 ar3.toNatClampNeg (by omega)
                                                            have hv3 := q146 (by omega) (by omega) (by rw [hs3.1, hb3]; exact s_bS_le) (by rw [hs3.1, hb3]; omega) (by rw [hs3.2.2.1]; exact hpa.2.2) (by rw [hs3.2.2.1]; exact hpb.2.2)
                                                            rw [hs3.1, hs3.2.2.1, hb3] at hv3
                                                            have ht3 : w147.toInt = P 2 ar3.toNatClampNeg := by rw [e147]; exact hs3.2.1
                                                            have hz3 := s_add e148 hb3 ht3 (by omega)
                                                            have hcs3 := s_cst (n := ar3.toInt + ar4.toInt) h5 h6 hy.1 hpa.1 hv3.2.1 hv3.2.2
                                                            have hu3 := s_add e150 rfl hv3.1 (hcs3.2.2 (by omega))
                                                            have hn3 := s_cp (y := ar3) (z := z149) (by omega) e149
                                                            have hbm := s_bS_m (o := ar2.toNatClampNeg) (s := ar3.toNatClampNeg) hp h1
                                                            have hg3 := q151 P hc hb hp (by omega) (by omega) (by omega) (by omega) (by rw [hu3]; exact hcs3.1) (by rw [hu3, show z149.toInt + ar4.toInt = ar3.toInt + ar4.toInt + 1 from (by omega)]; exact hcs3.2.1) h7
                                                            rw [hz3, hu3, hn3, s_LS_k (k := k) (s_rem2 hk (by omega))] at hg3
                                                            have hA : s_BB (gi 28 4).toInt (gi 28 5).toInt (ar5.toInt + s_oS P (s_ls P k) (s_bS P ar1.toInt ar2.toNatClampNeg ar3.toNatClampNeg) ar3.toNatClampNeg ar4.toNatClampNeg) (gi151 28 4).toInt := s_oS_y ⟨by omega, hy.1, hy.2.2⟩ h5 h7 hg3
                                                            have hcA := hc.fr hC151 rfl rfl
                                                            have hE : (gi151 28 5).toInt = (gi 28 5).toInt := congrArg Int32.toInt (hC151.1 28 5 rfl).1
                                                            have hB1 : (gi151 28 4).toInt ≤ 1000000000 := Int.le_trans hA.2.2 h7
                                                            have n0A := hcA.1.1
                                                            have n1A := hcA.1.2
                                                            have hs4 := hcA.2.2.1 ar4.toNatClampNeg (by omega)
                                                            have hw4 : w159.toInt = P 5 ar4.toNatClampNeg := by rw [e159]; exact hs4.1
                                                            have ho4 : ar2.toNatClampNeg = 1 := by have := t_clamp (i := ar2) (by omega); omega
                                                            have hy4 := q160 P hcA hb h1 (by omega)
                                                            have hb4 : z161.toInt = (s_bC P ar1.toInt ar2.toNatClampNeg ar4.toNatClampNeg) := by unfold s_bC; rw [m161 rfl, hw4, ho4, if_pos rfl, hy4]
                                                            have hq4 := q162 (by omega) (by omega)
                                                            rw [hs4.1, hs4.2.2.2, hb4] at hq4
                                                            have hy := hq4.mp (by omega)
                                                            have hpa := hp.2.1 ar4.toNatClampNeg (by omega)
                                                            have hpb := hb.2.2.1 ar4.toNatClampNeg (by omega)
                                                            have hv4 := q167 (by omega) (by omega) (by rw [hs4.1, hb4]; exact s_bC_le) (by rw [hs4.1, hb4]; omega) (by rw [hs4.2.2.1]; exact hpa.2.2) (by rw [hs4.2.2.1]; exact hpb.2.2)
                                                            rw [hs4.1, hs4.2.2.1, hb4] at hv4
                                                            have ht4 : w168.toInt = P 6 ar4.toNatClampNeg := by rw [e168]; exact hs4.2.1
                                                            have hz4 := s_add e169 hb4 ht4 (by omega)
                                                            have hcs4 := s_cst (n := ar3.toInt + ar4.toInt) h5 h6 hy.1 hpa.1 hv4.2.1 hv4.2.2
                                                            have hu4 := s_add e171 rfl hv4.1 (hcs4.2.2 (by omega))
                                                            have hn4 := s_cp (y := ar4) (z := z170) (by omega) e170
                                                            have hbm := s_bC_m (o := ar2.toNatClampNeg) (c := ar4.toNatClampNeg) hp h1
                                                            have hg4 := q172 P hcA hb hp (by omega) (by omega) (by omega) (by omega) (by rw [hu4]; exact hcs4.1) (by rw [hu4, show ar3.toInt + z170.toInt = ar3.toInt + ar4.toInt + 1 from (by omega)]; exact hcs4.2.1) hB1
                                                            rw [hz4, hu4, hn4, hE, s_LS_k (k := k) (s_rem3 hk (by omega))] at hg4
                                                            have hD : s_BB (gi151 28 4).toInt (gi 28 5).toInt (ar5.toInt + s_oC P (s_ls P k) (s_bC P ar1.toInt ar2.toNatClampNeg ar4.toNatClampNeg) ar3.toNatClampNeg ar4.toNatClampNeg) (gi172 28 4).toInt := s_oC_y ⟨by omega, hy.1⟩ h5 hB1 hg4
                                                            exact s_LS_2 hk hd hA hD))⟩⟩
      · have r175 : (gi 29 0).toInt ≤ ar3.toInt := Int32.le_iff_toInt_le.mp (t_nlt h12)
        refine ev_loc f_X1_search (nx := 34) rfl rfl rfl rfl ?_
        refine ev_loc f_X1_search (nx := 35) rfl rfl rfl rfl ?_
        refine ev_getR f_X1_search (nx := 38) rfl (hI.wf.s rfl) rfl rfl (hI.wf.r rfl) rfl rfl ?_
        refine ev_getI f_X1_search (nx := 41) rfl (hI.wf.s rfl) rfl rfl rfl ?_
        obtain ⟨l176, u176⟩ := hI.b (hI.wf.s (k := 35) rfl) (t_bdK rfl : t_bd 3 0 = some (0, 6))
        refine ev_if f_X1_search (t1 := 51) (t2 := 44) rfl rfl rfl (fun h177 => ?_) (fun h177 => ?_)
        · have r178 : ar4.toInt < (gi 35 0).toInt := Int32.lt_iff_toInt_lt.mp h177
          have u179 : ar4.toInt ≤ 5 := t_ltu h177 u176 rfl
          have l180 : 1 ≤ (gi 35 0).toInt := t_ltl h177 l_a4 rfl
          refine ev_loc f_X1_search (nx := 52) rfl rfl rfl rfl ?_
          refine ev_loc f_X1_search (nx := 53) rfl rfl rfl rfl ?_
          refine ev_getR f_X1_search (nx := 56) rfl (hI.wf.s rfl) rfl rfl (hI.wf.r rfl) rfl rfl ?_
          refine ev_gvI f_X1_search (nx := 59) (w := (gi 29 0)) rfl (hI.wf.s rfl) rfl rfl rfl rfl ?_
          refine ev_if f_X1_search (t1 := 141) (t2 := 62) rfl rfl rfl (fun h181 => ?_) (fun h181 => ?_)
          · have r182 : (gi 29 0).toInt ≤ ar3.toInt := Int32.le_iff_toInt_le.mp h181
            refine ev_loc f_X1_search (nx := 143) rfl rfl rfl rfl ?_
            refine ev_loc f_X1_search (nx := 144) rfl rfl rfl rfl ?_
            refine ev_getR f_X1_search (nx := 147) rfl (hI.wf.s rfl) rfl rfl (hI.wf.r rfl) rfl rfl ?_
            refine ev_gvI f_X1_search (nx := 150) (w := (gi 35 0)) rfl (hI.wf.s rfl) rfl rfl rfl rfl ?_
            refine ev_if f_X1_search (t1 := 236) (t2 := 153) rfl rfl rfl (fun h183 => ?_) (fun h183 => ?_)
            · have r184 : (gi 35 0).toInt ≤ ar4.toInt := Int32.le_iff_toInt_le.mp h183
              have u185 : (gi 35 0).toInt ≤ 5 := t_leu h183 u179
              have l186 : 1 ≤ ar4.toInt := t_lel h183 l180
              exact ev_ret f_X1_search rfl rfl rfl ⟨_, _, _, rfl, hI, hX, ⟨rfl, (show ∀ P : Nat → Nat → Int, s_CP P gi gr → s_PB P → s_PO P → 0 ≤ ar1.toInt → ar1.toInt ≤ 2000 → ar3.toInt ≤ P 0 0 → ar4.toInt ≤ P 0 1 → 0 ≤ ar5.toInt → ar5.toInt ≤ 240000 * (ar3.toInt + ar4.toInt) → (gi 28 4).toInt ≤ 1000000000 → s_BB (gi 28 4).toInt (gi 28 5).toInt (ar5.toInt + s_LS P ar1.toInt ar2.toNatClampNeg ar3.toNatClampNeg ar4.toNatClampNeg) (gi 28 4).toInt from (by
                                                            intro P hc hb hp h1 h2 h3 h4 h5 h6 h7
                                                            have n0 := hc.1.1
                                                            have n1 := hc.1.2
                                                            have c3 := t_clamp (i := ar3) l_a3
                                                            have c4 := t_clamp (i := ar4) l_a4
                                                            have hd : ¬ (P 0 0 ≤ ((ar3.toNatClampNeg : Nat) : Int) ∧ P 0 1 ≤ ((ar4.toNatClampNeg : Nat) : Int)) := s_hdC (by omega)
                                                            obtain ⟨k, hk⟩ := s_rem1 hd
                                                            have hA : s_BB (gi 28 4).toInt (gi 28 5).toInt (ar5.toInt + s_oS P (s_ls P k) (s_bS P ar1.toInt ar2.toNatClampNeg ar3.toNatClampNeg) ar3.toNatClampNeg ar4.toNatClampNeg) (gi 28 4).toInt := s_oS_n (fun hh => absurd hh.1 (by omega)) h5 h7 rfl
                                                            have hD : s_BB (gi 28 4).toInt (gi 28 5).toInt (ar5.toInt + s_oC P (s_ls P k) (s_bC P ar1.toInt ar2.toNatClampNeg ar4.toNatClampNeg) ar3.toNatClampNeg ar4.toNatClampNeg) (gi 28 4).toInt := s_oC_n (fun hh => absurd hh.1 (by omega)) h5 h7 rfl
                                                            exact s_LS_2 hk hd hA hD))⟩⟩
            · have r187 : ar4.toInt < (gi 35 0).toInt := Int32.lt_iff_toInt_lt.mp (t_nle h183)
              refine ev_loc f_X1_search (nx := 154) rfl rfl rfl rfl ?_
              refine ev_getR f_X1_search (nx := 157) rfl (hI.wf.s rfl) rfl rfl (hI.wf.r rfl) rfl rfl ?_
              refine ev_getR f_X1_search (nx := 160) rfl (hI.wf.s rfl) rfl rfl (hI.wf.r rfl) rfl rfl ?_
              refine ev_loc f_X1_search (nx := 162) rfl rfl rfl rfl ?_
              refine ev_ialdT f_X1_search (nx := 163) rfl (hI.wf.s rfl) l_a4 (by decide) u179 (by decide) rfl (fun w188 e188 => ?_)
              refine ev_loc f_X1_search (nx := 164) rfl rfl rfl rfl ?_
              refine ev_if f_X1_search (t1 := 175) (t2 := 167) rfl rfl rfl (fun h189 => ?_) (fun h189 => ?_)
              · have u190 : ar2.toInt ≤ 0 := t_equ h189 (by decide : (0:Int32).toInt ≤ (0:Int))
                refine ev_loc f_X1_search (nx := 176) rfl rfl rfl rfl ?_
                refine ev_mmRE f_X1_search (nx := 179) (l := (-2147483648)) (u := 2147483647) rfl rfl rfl (by omega) rfl (t_lo w188) (t_hi w188) (t_lo ar1) (t_hi ar1) (by decide) (by decide) rfl (fun z191 m191 l191 u191 => ?_)
                refine ev_loc f_X1_search (nx := 181) (lo' := [(6, .int z191), (0, .ref 28), (1, .int ar1), (2, .int ar2), (3, .int ar3), (4, .int ar4), (5, .int ar5)]) rfl rfl rfl rfl ?_
                refine ev_loc f_X1_search (nx := 182) rfl rfl rfl rfl ?_
                refine ev_getR f_X1_search (nx := 185) rfl (hI.wf.s rfl) rfl rfl (hI.wf.r rfl) rfl rfl ?_
                refine ev_loc f_X1_search (nx := 187) rfl rfl rfl rfl ?_
                refine ev_loc f_X1_search (nx := 189) rfl rfl rfl rfl ?_
                refine ev_qI0 f_X1_search (nx := 192) (r := []) rfl rfl rfl rfl rfl rfl rfl (c_d_canBegin_35 hI (ar4) (z191)) rfl (fun w192 l192 u192 q192 => ?_)
                have q192 : s_may ar4.toInt (gi 35 0).toInt z191.toInt (gi 37 ar4.toNatClampNeg).toInt (gi 40 ar4.toNatClampNeg).toInt w192.toInt := q192
                refine ev_if f_X1_search (t1 := 236) (t2 := 195) rfl rfl rfl (fun h193 => ?_) (fun h193 => ?_)
                · have u194 : w192.toInt ≤ 0 := t_equ h193 (by decide : (0:Int32).toInt ≤ (0:Int))
                  exact ev_ret f_X1_search rfl rfl rfl ⟨_, _, _, rfl, hI, hX, ⟨rfl, (show ∀ P : Nat → Nat → Int, s_CP P gi gr → s_PB P → s_PO P → 0 ≤ ar1.toInt → ar1.toInt ≤ 2000 → ar3.toInt ≤ P 0 0 → ar4.toInt ≤ P 0 1 → 0 ≤ ar5.toInt → ar5.toInt ≤ 240000 * (ar3.toInt + ar4.toInt) → (gi 28 4).toInt ≤ 1000000000 → s_BB (gi 28 4).toInt (gi 28 5).toInt (ar5.toInt + s_LS P ar1.toInt ar2.toNatClampNeg ar3.toNatClampNeg ar4.toNatClampNeg) (gi 28 4).toInt from (by
                                                            intro P hc hb hp h1 h2 h3 h4 h5 h6 h7
                                                            have n0 := hc.1.1
                                                            have n1 := hc.1.2
                                                            have c3 := t_clamp (i := ar3) l_a3
                                                            have c4 := t_clamp (i := ar4) l_a4
                                                            have hd : ¬ (P 0 0 ≤ ((ar3.toNatClampNeg : Nat) : Int) ∧ P 0 1 ≤ ((ar4.toNatClampNeg : Nat) : Int)) := s_hdC (by omega)
                                                            obtain ⟨k, hk⟩ := s_rem1 hd
                                                            have hA : s_BB (gi 28 4).toInt (gi 28 5).toInt (ar5.toInt + s_oS P (s_ls P k) (s_bS P ar1.toInt ar2.toNatClampNeg ar3.toNatClampNeg) ar3.toNatClampNeg ar4.toNatClampNeg) (gi 28 4).toInt := s_oS_n (fun hh => absurd hh.1 (by omega)) h5 h7 rfl
                                                            have hs4 := hc.2.2.1 ar4.toNatClampNeg (by omega)
                                                            have hw4 : w188.toInt = P 5 ar4.toNatClampNeg := by rw [e188]; exact hs4.1
                                                            have ho4 : ar2.toNatClampNeg = 0 := by have := t_clamp (i := ar2) (by omega); omega
                                                            have hb4 : z191.toInt = (s_bC P ar1.toInt ar2.toNatClampNeg ar4.toNatClampNeg) := by unfold s_bC; rw [m191 rfl, hw4, ho4, if_neg (by decide)]
                                                            have hq4 := q192 (by omega) (by omega)
                                                            rw [hs4.1, hs4.2.2.2, hb4] at hq4
                                                            have hD : s_BB (gi 28 4).toInt (gi 28 5).toInt (ar5.toInt + s_oC P (s_ls P k) (s_bC P ar1.toInt ar2.toNatClampNeg ar4.toNatClampNeg) ar3.toNatClampNeg ar4.toNatClampNeg) (gi 28 4).toInt := s_oC_n (fun hh => by have h9 := hq4.mpr ⟨hh.2, s_bC_le, Or.inl rfl⟩; omega) h5 h7 rfl
                                                            exact s_LS_2 hk hd hA hD))⟩⟩
                · have r195 : w192.toInt ≠ 0 := fun e => h193 (Int32.toInt_inj.mp (e.trans (by decide : (0:Int) = (0 : Int32).toInt)))
                  have l196 : 1 ≤ w192.toInt := t_nel h193 l192 rfl rfl
                  refine ev_loc f_X1_search (nx := 196) rfl rfl rfl rfl ?_
                  refine ev_getR f_X1_search (nx := 199) rfl (hI.wf.s rfl) rfl rfl (hI.wf.r rfl) rfl rfl ?_
                  refine ev_loc f_X1_search (nx := 201) rfl rfl rfl rfl ?_
                  refine ev_loc f_X1_search (nx := 203) rfl rfl rfl rfl ?_
                  refine ev_qI0 f_X1_search (nx := 206) (r := []) rfl rfl rfl rfl rfl rfl rfl (c_d_waitsOf_35 hI (ar4) (z191)) rfl (fun w197 l197 u197 q197 => ?_)
                  have q197 : s_wts ar4.toInt (gi 35 0).toInt z191.toInt (gi 37 ar4.toNatClampNeg).toInt (gi 39 ar4.toNatClampNeg).toInt w197.toInt := q197
                  refine ev_loc f_X1_search (nx := 208) (lo' := [(7, .int w197), (6, .int z191), (0, .ref 28), (1, .int ar1), (2, .int ar2), (3, .int ar3), (4, .int ar4), (5, .int ar5)]) rfl rfl rfl rfl ?_
                  refine ev_loc f_X1_search (nx := 209) rfl rfl rfl rfl ?_
                  refine ev_loc f_X1_search (nx := 211) rfl rfl rfl rfl ?_
                  refine ev_loc f_X1_search (nx := 212) rfl rfl rfl rfl ?_
                  refine ev_getR f_X1_search (nx := 215) rfl (hI.wf.s rfl) rfl rfl (hI.wf.r rfl) rfl rfl ?_
                  refine ev_getR f_X1_search (nx := 218) rfl (hI.wf.s rfl) rfl rfl (hI.wf.r rfl) rfl rfl ?_
                  refine ev_loc f_X1_search (nx := 220) rfl rfl rfl rfl ?_
                  refine ev_ialdT f_X1_search (nx := 221) rfl (hI.wf.s rfl) l_a4 (by decide) u179 (by decide) rfl (fun w198 e198 => ?_)
                  refine ev_anyIE f_X1_search (nx := 222) rfl rfl rfl rfl (fun z199 e199 => ?_)
                  refine ev_ic f_X1_search (nx := 223) (v := 0) rfl (by decide) rfl ?_
                  refine ev_loc f_X1_search (nx := 224) rfl rfl rfl rfl ?_
                  refine ev_loc f_X1_search (nx := 226) rfl rfl rfl rfl ?_
                  refine ev_ic f_X1_search (nx := 227) (v := 1) rfl (by decide) rfl ?_
                  refine ev_addC f_X1_search (nx := 228) (c := 1) (l := 1) (u := 6) rfl (by decide) l_a4 u179 rfl rfl (by decide) (by decide) rfl (fun z200 e200 l200 u200 => ?_)
                  refine ev_loc f_X1_search (nx := 230) rfl rfl rfl rfl ?_
                  refine ev_loc f_X1_search (nx := 232) rfl rfl rfl rfl ?_
                  refine ev_anyIE f_X1_search (nx := 233) rfl rfl rfl rfl (fun z201 e201 => ?_)
                  refine ev_qN f_X1_search (nx := 236) (r := []) rfl rfl rfl rfl rfl rfl rfl (x_Me.up (ih hI (z199) (0) (by decide : (0:Int) ≤ (0:Int32).toInt) (Int.le_trans (by decide : (0:Int32).toInt ≤ (0:Int)) (by decide : (0:Int) ≤ 1)) (ar3) l_a3 u_a3 (z200) (Int.le_trans (by decide : (0:Int) ≤ 1) l200) u200 (z201) (by omega)) (by omega)) rfl hX rfl (fun gi202 gl202 gr202 hI hX hC202 q202 => ?_)
                  have q202 : ∀ P : Nat → Nat → Int, s_CP P gi gr → s_PB P → s_PO P → 0 ≤ z199.toInt → z199.toInt ≤ 2000 → ar3.toInt ≤ P 0 0 → z200.toInt ≤ P 0 1 → 0 ≤ z201.toInt → z201.toInt ≤ 240000 * (ar3.toInt + z200.toInt) → (gi 28 4).toInt ≤ 1000000000 → s_BB (gi 28 4).toInt (gi 28 5).toInt (z201.toInt + s_LS P z199.toInt (0 : Int32).toNatClampNeg ar3.toNatClampNeg z200.toNatClampNeg) (gi202 28 4).toInt := q202
                  exact ev_ret f_X1_search rfl rfl rfl ⟨_, _, _, rfl, hI, hX, ⟨rfl, (show ∀ P : Nat → Nat → Int, s_CP P gi gr → s_PB P → s_PO P → 0 ≤ ar1.toInt → ar1.toInt ≤ 2000 → ar3.toInt ≤ P 0 0 → ar4.toInt ≤ P 0 1 → 0 ≤ ar5.toInt → ar5.toInt ≤ 240000 * (ar3.toInt + ar4.toInt) → (gi 28 4).toInt ≤ 1000000000 → s_BB (gi 28 4).toInt (gi 28 5).toInt (ar5.toInt + s_LS P ar1.toInt ar2.toNatClampNeg ar3.toNatClampNeg ar4.toNatClampNeg) (gi202 28 4).toInt from (by
                                                            intro P hc hb hp h1 h2 h3 h4 h5 h6 h7
                                                            have n0 := hc.1.1
                                                            have n1 := hc.1.2
                                                            have c3 := t_clamp (i := ar3) l_a3
                                                            have c4 := t_clamp (i := ar4) l_a4
                                                            have hd : ¬ (P 0 0 ≤ ((ar3.toNatClampNeg : Nat) : Int) ∧ P 0 1 ≤ ((ar4.toNatClampNeg : Nat) : Int)) := s_hdC (by omega)
                                                            obtain ⟨k, hk⟩ := s_rem1 hd
                                                            have hA : s_BB (gi 28 4).toInt (gi 28 5).toInt (ar5.toInt + s_oS P (s_ls P k) (s_bS P ar1.toInt ar2.toNatClampNeg ar3.toNatClampNeg) ar3.toNatClampNeg ar4.toNatClampNeg) (gi 28 4).toInt := s_oS_n (fun hh => absurd hh.1 (by omega)) h5 h7 rfl
                                                            have hs4 := hc.2.2.1 ar4.toNatClampNeg (by omega)
                                                            have hw4 : w188.toInt = P 5 ar4.toNatClampNeg := by rw [e188]; exact hs4.1
                                                            have ho4 : ar2.toNatClampNeg = 0 := by have := t_clamp (i := ar2) (by omega); omega
                                                            have hb4 : z191.toInt = (s_bC P ar1.toInt ar2.toNatClampNeg ar4.toNatClampNeg) := by unfold s_bC; rw [m191 rfl, hw4, ho4, if_neg (by decide)]
                                                            have hq4 := q192 (by omega) (by omega)
                                                            rw [hs4.1, hs4.2.2.2, hb4] at hq4
                                                            have hy := hq4.mp (by omega)
                                                            have hpa := hp.2.1 ar4.toNatClampNeg (by omega)
                                                            have hpb := hb.2.2.1 ar4.toNatClampNeg (by omega)
                                                            have hv4 := q197 (by omega) (by omega) (by rw [hs4.1, hb4]; exact s_bC_le) (by rw [hs4.1, hb4]; omega) (by rw [hs4.2.2.1]; exact hpa.2.2) (by rw [hs4.2.2.1]; exact hpb.2.2)
                                                            rw [hs4.1, hs4.2.2.1, hb4] at hv4
                                                            have ht4 : w198.toInt = P 6 ar4.toNatClampNeg := by rw [e198]; exact hs4.2.1
                                                            have hz4 := s_add e199 hb4 ht4 (by omega)
                                                            have hcs4 := s_cst (n := ar3.toInt + ar4.toInt) h5 h6 hy.1 hpa.1 hv4.2.1 hv4.2.2
                                                            have hu4 := s_add e201 rfl hv4.1 (hcs4.2.2 (by omega))
                                                            have hn4 := s_cp (y := ar4) (z := z200) (by omega) e200
                                                            have hbm := s_bC_m (o := ar2.toNatClampNeg) (c := ar4.toNatClampNeg) hp h1
                                                            have hg4 := q202 P hc hb hp (by omega) (by omega) (by omega) (by omega) (by rw [hu4]; exact hcs4.1) (by rw [hu4, show ar3.toInt + z200.toInt = ar3.toInt + ar4.toInt + 1 from (by omega)]; exact hcs4.2.1) h7
                                                            rw [hz4, hu4, hn4, s_LS_k (k := k) (s_rem3 hk (by omega))] at hg4
                                                            have hD : s_BB (gi 28 4).toInt (gi 28 5).toInt (ar5.toInt + s_oC P (s_ls P k) (s_bC P ar1.toInt ar2.toNatClampNeg ar4.toNatClampNeg) ar3.toNatClampNeg ar4.toNatClampNeg) (gi202 28 4).toInt := s_oC_y ⟨by omega, hy.1⟩ h5 h7 hg4
                                                            exact s_LS_2 hk hd hA hD))⟩⟩
              · have r204 : ar2.toInt ≠ 0 := fun e => h189 (Int32.toInt_inj.mp (e.trans (by decide : (0:Int) = (0 : Int32).toInt)))
                have l205 : 1 ≤ ar2.toInt := t_nel h189 l_a2 rfl rfl
                refine ev_loc f_X1_search (nx := 168) rfl rfl rfl rfl ?_
                refine ev_loc f_X1_search (nx := 169) rfl rfl rfl rfl ?_
                refine ev_qI0 f_X1_search (nx := 172) (r := [.int w188]) rfl rfl rfl rfl rfl rfl rfl (c_d_turnEnd hI (ar1)) rfl (fun w206 l206 u206 q206 => ?_)
                have q206 : ∀ P : Nat → Nat → Int, s_CP P gi gr → s_PB P → 0 ≤ ar1.toInt → ar1.toInt ≤ 3000 → w206.toInt = ar1.toInt + P 8 ar1.toInt.toNat := q206
                refine ev_jmp f_X1_search (nx := 176) rfl rfl rfl ?_
                refine ev_mmRE f_X1_search (nx := 179) (l := (-2147483648)) (u := 2147483647) rfl rfl rfl (by omega) rfl (t_lo w188) (t_hi w188) l206 u206 (by decide) (by decide) rfl (fun z207 m207 l207 u207 => ?_)
                refine ev_loc f_X1_search (nx := 181) (lo' := [(6, .int z207), (0, .ref 28), (1, .int ar1), (2, .int ar2), (3, .int ar3), (4, .int ar4), (5, .int ar5)]) rfl rfl rfl rfl ?_
                refine ev_loc f_X1_search (nx := 182) rfl rfl rfl rfl ?_
                refine ev_getR f_X1_search (nx := 185) rfl (hI.wf.s rfl) rfl rfl (hI.wf.r rfl) rfl rfl ?_
                refine ev_loc f_X1_search (nx := 187) rfl rfl rfl rfl ?_
                refine ev_loc f_X1_search (nx := 189) rfl rfl rfl rfl ?_
                refine ev_qI0 f_X1_search (nx := 192) (r := []) rfl rfl rfl rfl rfl rfl rfl (c_d_canBegin_35 hI (ar4) (z207)) rfl (fun w208 l208 u208 q208 => ?_)
                have q208 : s_may ar4.toInt (gi 35 0).toInt z207.toInt (gi 37 ar4.toNatClampNeg).toInt (gi 40 ar4.toNatClampNeg).toInt w208.toInt := q208
                refine ev_if f_X1_search (t1 := 236) (t2 := 195) rfl rfl rfl (fun h209 => ?_) (fun h209 => ?_)
                · have u210 : w208.toInt ≤ 0 := t_equ h209 (by decide : (0:Int32).toInt ≤ (0:Int))
                  exact ev_ret f_X1_search rfl rfl rfl ⟨_, _, _, rfl, hI, hX, ⟨rfl, (show ∀ P : Nat → Nat → Int, s_CP P gi gr → s_PB P → s_PO P → 0 ≤ ar1.toInt → ar1.toInt ≤ 2000 → ar3.toInt ≤ P 0 0 → ar4.toInt ≤ P 0 1 → 0 ≤ ar5.toInt → ar5.toInt ≤ 240000 * (ar3.toInt + ar4.toInt) → (gi 28 4).toInt ≤ 1000000000 → s_BB (gi 28 4).toInt (gi 28 5).toInt (ar5.toInt + s_LS P ar1.toInt ar2.toNatClampNeg ar3.toNatClampNeg ar4.toNatClampNeg) (gi 28 4).toInt from (by
                                                            intro P hc hb hp h1 h2 h3 h4 h5 h6 h7
                                                            have n0 := hc.1.1
                                                            have n1 := hc.1.2
                                                            have c3 := t_clamp (i := ar3) l_a3
                                                            have c4 := t_clamp (i := ar4) l_a4
                                                            have hd : ¬ (P 0 0 ≤ ((ar3.toNatClampNeg : Nat) : Int) ∧ P 0 1 ≤ ((ar4.toNatClampNeg : Nat) : Int)) := s_hdC (by omega)
                                                            obtain ⟨k, hk⟩ := s_rem1 hd
                                                            have hA : s_BB (gi 28 4).toInt (gi 28 5).toInt (ar5.toInt + s_oS P (s_ls P k) (s_bS P ar1.toInt ar2.toNatClampNeg ar3.toNatClampNeg) ar3.toNatClampNeg ar4.toNatClampNeg) (gi 28 4).toInt := s_oS_n (fun hh => absurd hh.1 (by omega)) h5 h7 rfl
                                                            have hs4 := hc.2.2.1 ar4.toNatClampNeg (by omega)
                                                            have hw4 : w188.toInt = P 5 ar4.toNatClampNeg := by rw [e188]; exact hs4.1
                                                            have ho4 : ar2.toNatClampNeg = 1 := by have := t_clamp (i := ar2) (by omega); omega
                                                            have hy4 := q206 P hc hb h1 (by omega)
                                                            have hb4 : z207.toInt = (s_bC P ar1.toInt ar2.toNatClampNeg ar4.toNatClampNeg) := by unfold s_bC; rw [m207 rfl, hw4, ho4, if_pos rfl, hy4]
                                                            have hq4 := q208 (by omega) (by omega)
                                                            rw [hs4.1, hs4.2.2.2, hb4] at hq4
                                                            have hD : s_BB (gi 28 4).toInt (gi 28 5).toInt (ar5.toInt + s_oC P (s_ls P k) (s_bC P ar1.toInt ar2.toNatClampNeg ar4.toNatClampNeg) ar3.toNatClampNeg ar4.toNatClampNeg) (gi 28 4).toInt := s_oC_n (fun hh => by have h9 := hq4.mpr ⟨hh.2, s_bC_le, Or.inl rfl⟩; omega) h5 h7 rfl
                                                            exact s_LS_2 hk hd hA hD))⟩⟩
                · have r211 : w208.toInt ≠ 0 := fun e => h209 (Int32.toInt_inj.mp (e.trans (by decide : (0:Int) = (0 : Int32).toInt)))
                  have l212 : 1 ≤ w208.toInt := t_nel h209 l208 rfl rfl
                  refine ev_loc f_X1_search (nx := 196) rfl rfl rfl rfl ?_
                  refine ev_getR f_X1_search (nx := 199) rfl (hI.wf.s rfl) rfl rfl (hI.wf.r rfl) rfl rfl ?_
                  refine ev_loc f_X1_search (nx := 201) rfl rfl rfl rfl ?_
                  refine ev_loc f_X1_search (nx := 203) rfl rfl rfl rfl ?_
                  refine ev_qI0 f_X1_search (nx := 206) (r := []) rfl rfl rfl rfl rfl rfl rfl (c_d_waitsOf_35 hI (ar4) (z207)) rfl (fun w213 l213 u213 q213 => ?_)
                  have q213 : s_wts ar4.toInt (gi 35 0).toInt z207.toInt (gi 37 ar4.toNatClampNeg).toInt (gi 39 ar4.toNatClampNeg).toInt w213.toInt := q213
                  refine ev_loc f_X1_search (nx := 208) (lo' := [(7, .int w213), (6, .int z207), (0, .ref 28), (1, .int ar1), (2, .int ar2), (3, .int ar3), (4, .int ar4), (5, .int ar5)]) rfl rfl rfl rfl ?_
                  refine ev_loc f_X1_search (nx := 209) rfl rfl rfl rfl ?_
                  refine ev_loc f_X1_search (nx := 211) rfl rfl rfl rfl ?_
                  refine ev_loc f_X1_search (nx := 212) rfl rfl rfl rfl ?_
                  refine ev_getR f_X1_search (nx := 215) rfl (hI.wf.s rfl) rfl rfl (hI.wf.r rfl) rfl rfl ?_
                  refine ev_getR f_X1_search (nx := 218) rfl (hI.wf.s rfl) rfl rfl (hI.wf.r rfl) rfl rfl ?_
                  refine ev_loc f_X1_search (nx := 220) rfl rfl rfl rfl ?_
                  refine ev_ialdT f_X1_search (nx := 221) rfl (hI.wf.s rfl) l_a4 (by decide) u179 (by decide) rfl (fun w214 e214 => ?_)
                  refine ev_anyIE f_X1_search (nx := 222) rfl rfl rfl rfl (fun z215 e215 => ?_)
                  refine ev_ic f_X1_search (nx := 223) (v := 0) rfl (by decide) rfl ?_
                  refine ev_loc f_X1_search (nx := 224) rfl rfl rfl rfl ?_
                  refine ev_loc f_X1_search (nx := 226) rfl rfl rfl rfl ?_
                  refine ev_ic f_X1_search (nx := 227) (v := 1) rfl (by decide) rfl ?_
                  refine ev_addC f_X1_search (nx := 228) (c := 1) (l := 1) (u := 6) rfl (by decide) l_a4 u179 rfl rfl (by decide) (by decide) rfl (fun z216 e216 l216 u216 => ?_)
                  refine ev_loc f_X1_search (nx := 230) rfl rfl rfl rfl ?_
                  refine ev_loc f_X1_search (nx := 232) rfl rfl rfl rfl ?_
                  refine ev_anyIE f_X1_search (nx := 233) rfl rfl rfl rfl (fun z217 e217 => ?_)
                  refine ev_qN f_X1_search (nx := 236) (r := []) rfl rfl rfl rfl rfl rfl rfl (x_Me.up (ih hI (z215) (0) (by decide : (0:Int) ≤ (0:Int32).toInt) (Int.le_trans (by decide : (0:Int32).toInt ≤ (0:Int)) (by decide : (0:Int) ≤ 1)) (ar3) l_a3 u_a3 (z216) (Int.le_trans (by decide : (0:Int) ≤ 1) l216) u216 (z217) (by omega)) (by omega)) rfl hX rfl (fun gi218 gl218 gr218 hI hX hC218 q218 => ?_)
                  have q218 : ∀ P : Nat → Nat → Int, s_CP P gi gr → s_PB P → s_PO P → 0 ≤ z215.toInt → z215.toInt ≤ 2000 → ar3.toInt ≤ P 0 0 → z216.toInt ≤ P 0 1 → 0 ≤ z217.toInt → z217.toInt ≤ 240000 * (ar3.toInt + z216.toInt) → (gi 28 4).toInt ≤ 1000000000 → s_BB (gi 28 4).toInt (gi 28 5).toInt (z217.toInt + s_LS P z215.toInt (0 : Int32).toNatClampNeg ar3.toNatClampNeg z216.toNatClampNeg) (gi218 28 4).toInt := q218
                  exact ev_ret f_X1_search rfl rfl rfl ⟨_, _, _, rfl, hI, hX, ⟨rfl, (show ∀ P : Nat → Nat → Int, s_CP P gi gr → s_PB P → s_PO P → 0 ≤ ar1.toInt → ar1.toInt ≤ 2000 → ar3.toInt ≤ P 0 0 → ar4.toInt ≤ P 0 1 → 0 ≤ ar5.toInt → ar5.toInt ≤ 240000 * (ar3.toInt + ar4.toInt) → (gi 28 4).toInt ≤ 1000000000 → s_BB (gi 28 4).toInt (gi 28 5).toInt (ar5.toInt + s_LS P ar1.toInt ar2.toNatClampNeg ar3.toNatClampNeg ar4.toNatClampNeg) (gi218 28 4).toInt from (by
                                                            intro P hc hb hp h1 h2 h3 h4 h5 h6 h7
                                                            have n0 := hc.1.1
                                                            have n1 := hc.1.2
                                                            have c3 := t_clamp (i := ar3) l_a3
                                                            have c4 := t_clamp (i := ar4) l_a4
                                                            have hd : ¬ (P 0 0 ≤ ((ar3.toNatClampNeg : Nat) : Int) ∧ P 0 1 ≤ ((ar4.toNatClampNeg : Nat) : Int)) := s_hdC (by omega)
                                                            obtain ⟨k, hk⟩ := s_rem1 hd
                                                            have hA : s_BB (gi 28 4).toInt (gi 28 5).toInt (ar5.toInt + s_oS P (s_ls P k) (s_bS P ar1.toInt ar2.toNatClampNeg ar3.toNatClampNeg) ar3.toNatClampNeg ar4.toNatClampNeg) (gi 28 4).toInt := s_oS_n (fun hh => absurd hh.1 (by omega)) h5 h7 rfl
                                                            have hs4 := hc.2.2.1 ar4.toNatClampNeg (by omega)
                                                            have hw4 : w188.toInt = P 5 ar4.toNatClampNeg := by rw [e188]; exact hs4.1
                                                            have ho4 : ar2.toNatClampNeg = 1 := by have := t_clamp (i := ar2) (by omega); omega
                                                            have hy4 := q206 P hc hb h1 (by omega)
                                                            have hb4 : z207.toInt = (s_bC P ar1.toInt ar2.toNatClampNeg ar4.toNatClampNeg) := by unfold s_bC; rw [m207 rfl, hw4, ho4, if_pos rfl, hy4]
                                                            have hq4 := q208 (by omega) (by omega)
                                                            rw [hs4.1, hs4.2.2.2, hb4] at hq4
                                                            have hy := hq4.mp (by omega)
                                                            have hpa := hp.2.1 ar4.toNatClampNeg (by omega)
                                                            have hpb := hb.2.2.1 ar4.toNatClampNeg (by omega)
                                                            have hv4 := q213 (by omega) (by omega) (by rw [hs4.1, hb4]; exact s_bC_le) (by rw [hs4.1, hb4]; omega) (by rw [hs4.2.2.1]; exact hpa.2.2) (by rw [hs4.2.2.1]; exact hpb.2.2)
                                                            rw [hs4.1, hs4.2.2.1, hb4] at hv4
                                                            have ht4 : w214.toInt = P 6 ar4.toNatClampNeg := by rw [e214]; exact hs4.2.1
                                                            have hz4 := s_add e215 hb4 ht4 (by omega)
                                                            have hcs4 := s_cst (n := ar3.toInt + ar4.toInt) h5 h6 hy.1 hpa.1 hv4.2.1 hv4.2.2
                                                            have hu4 := s_add e217 rfl hv4.1 (hcs4.2.2 (by omega))
                                                            have hn4 := s_cp (y := ar4) (z := z216) (by omega) e216
                                                            have hbm := s_bC_m (o := ar2.toNatClampNeg) (c := ar4.toNatClampNeg) hp h1
                                                            have hg4 := q218 P hc hb hp (by omega) (by omega) (by omega) (by omega) (by rw [hu4]; exact hcs4.1) (by rw [hu4, show ar3.toInt + z216.toInt = ar3.toInt + ar4.toInt + 1 from (by omega)]; exact hcs4.2.1) h7
                                                            rw [hz4, hu4, hn4, s_LS_k (k := k) (s_rem3 hk (by omega))] at hg4
                                                            have hD : s_BB (gi 28 4).toInt (gi 28 5).toInt (ar5.toInt + s_oC P (s_ls P k) (s_bC P ar1.toInt ar2.toNatClampNeg ar4.toNatClampNeg) ar3.toNatClampNeg ar4.toNatClampNeg) (gi218 28 4).toInt := s_oC_y ⟨by omega, hy.1⟩ h5 h7 hg4
                                                            exact s_LS_2 hk hd hA hD))⟩⟩
          · have r220 : ar3.toInt < (gi 29 0).toInt := Int32.lt_iff_toInt_lt.mp (t_nle h181)
            have u221 : ar3.toInt ≤ 5 := t_ltu (t_nle h181) u11 rfl
            have l222 : 1 ≤ (gi 29 0).toInt := t_ltl (t_nle h181) l_a3 rfl
            refine ev_loc f_X1_search (nx := 63) rfl rfl rfl rfl ?_
            refine ev_getR f_X1_search (nx := 66) rfl (hI.wf.s rfl) rfl rfl (hI.wf.r rfl) rfl rfl ?_
            refine ev_getR f_X1_search (nx := 69) rfl (hI.wf.s rfl) rfl rfl (hI.wf.r rfl) rfl rfl ?_
            refine ev_loc f_X1_search (nx := 70) rfl rfl rfl rfl ?_
            refine ev_ialdT f_X1_search (nx := 71) rfl (hI.wf.s rfl) l_a3 (by decide) u221 (by decide) rfl (fun w223 e223 => ?_)
            refine ev_loc f_X1_search (nx := 72) rfl rfl rfl rfl ?_
            refine ev_if f_X1_search (t1 := 79) (t2 := 75) rfl rfl rfl (fun h224 => ?_) (fun h224 => ?_)
            · have u225 : ar2.toInt ≤ 0 := t_equ h224 (by decide : (0:Int32).toInt ≤ (0:Int))
              refine ev_loc f_X1_search (nx := 80) rfl rfl rfl rfl ?_
              refine ev_loc f_X1_search (nx := 81) rfl rfl rfl rfl ?_
              refine ev_qI0 f_X1_search (nx := 84) (r := [.int w223]) rfl rfl rfl rfl rfl rfl rfl (c_d_turnEnd hI (ar1)) rfl (fun w226 l226 u226 q226 => ?_)
              have q226 : ∀ P : Nat → Nat → Int, s_CP P gi gr → s_PB P → 0 ≤ ar1.toInt → ar1.toInt ≤ 3000 → w226.toInt = ar1.toInt + P 8 ar1.toInt.toNat := q226
              refine ev_mmRE f_X1_search (nx := 87) (l := (-2147483648)) (u := 2147483647) rfl rfl rfl (by omega) rfl (t_lo w223) (t_hi w223) l226 u226 (by decide) (by decide) rfl (fun z227 m227 l227 u227 => ?_)
              refine ev_loc f_X1_search (nx := 89) (lo' := [(6, .int z227), (0, .ref 28), (1, .int ar1), (2, .int ar2), (3, .int ar3), (4, .int ar4), (5, .int ar5)]) rfl rfl rfl rfl ?_
              refine ev_loc f_X1_search (nx := 90) rfl rfl rfl rfl ?_
              refine ev_getR f_X1_search (nx := 93) rfl (hI.wf.s rfl) rfl rfl (hI.wf.r rfl) rfl rfl ?_
              refine ev_loc f_X1_search (nx := 94) rfl rfl rfl rfl ?_
              refine ev_loc f_X1_search (nx := 96) rfl rfl rfl rfl ?_
              refine ev_qI0 f_X1_search (nx := 99) (r := []) rfl rfl rfl rfl rfl rfl rfl (c_d_canBegin_29 hI (ar3) (z227)) rfl (fun w228 l228 u228 q228 => ?_)
              have q228 : s_may ar3.toInt (gi 29 0).toInt z227.toInt (gi 31 ar3.toNatClampNeg).toInt (gi 34 ar3.toNatClampNeg).toInt w228.toInt := q228
              refine ev_if f_X1_search (t1 := 141) (t2 := 102) rfl rfl rfl (fun h229 => ?_) (fun h229 => ?_)
              · have u230 : w228.toInt ≤ 0 := t_equ h229 (by decide : (0:Int32).toInt ≤ (0:Int))
                refine ev_loc f_X1_search (nx := 143) rfl rfl rfl rfl ?_
                refine ev_loc f_X1_search (nx := 144) rfl rfl rfl rfl ?_
                refine ev_getR f_X1_search (nx := 147) rfl (hI.wf.s rfl) rfl rfl (hI.wf.r rfl) rfl rfl ?_
                refine ev_gvI f_X1_search (nx := 150) (w := (gi 35 0)) rfl (hI.wf.s rfl) rfl rfl rfl rfl ?_
                refine ev_if f_X1_search (t1 := 236) (t2 := 153) rfl rfl rfl (fun h231 => ?_) (fun h231 => ?_)
                · have r232 : (gi 35 0).toInt ≤ ar4.toInt := Int32.le_iff_toInt_le.mp h231
                  have u233 : (gi 35 0).toInt ≤ 5 := t_leu h231 u179
                  have l234 : 1 ≤ ar4.toInt := t_lel h231 l180
                  exact ev_ret f_X1_search rfl rfl rfl ⟨_, _, _, rfl, hI, hX, ⟨rfl, (show ∀ P : Nat → Nat → Int, s_CP P gi gr → s_PB P → s_PO P → 0 ≤ ar1.toInt → ar1.toInt ≤ 2000 → ar3.toInt ≤ P 0 0 → ar4.toInt ≤ P 0 1 → 0 ≤ ar5.toInt → ar5.toInt ≤ 240000 * (ar3.toInt + ar4.toInt) → (gi 28 4).toInt ≤ 1000000000 → s_BB (gi 28 4).toInt (gi 28 5).toInt (ar5.toInt + s_LS P ar1.toInt ar2.toNatClampNeg ar3.toNatClampNeg ar4.toNatClampNeg) (gi 28 4).toInt from (by
                                                            intro P hc hb hp h1 h2 h3 h4 h5 h6 h7
                                                            have n0 := hc.1.1
                                                            have n1 := hc.1.2
                                                            have c3 := t_clamp (i := ar3) l_a3
                                                            have c4 := t_clamp (i := ar4) l_a4
                                                            have hd : ¬ (P 0 0 ≤ ((ar3.toNatClampNeg : Nat) : Int) ∧ P 0 1 ≤ ((ar4.toNatClampNeg : Nat) : Int)) := s_hdC (by omega)
                                                            obtain ⟨k, hk⟩ := s_rem1 hd
                                                            have hs3 := hc.2.1 ar3.toNatClampNeg (by omega)
                                                            have hw3 : w223.toInt = P 1 ar3.toNatClampNeg := by rw [e223]; exact hs3.1
                                                            have ho3 : ar2.toNatClampNeg = 0 := by have := t_clamp (i := ar2) (by omega); omega
                                                            have hy3 := q226 P hc hb h1 (by omega)
                                                            have hb3 : z227.toInt = (s_bS P ar1.toInt ar2.toNatClampNeg ar3.toNatClampNeg) := by unfold s_bS; rw [m227 rfl, hw3, ho3, if_neg (by decide), hy3]
                                                            have hq3 := q228 (by omega) (by omega)
                                                            rw [hs3.1, hs3.2.2.2, hb3] at hq3
                                                            have hA : s_BB (gi 28 4).toInt (gi 28 5).toInt (ar5.toInt + s_oS P (s_ls P k) (s_bS P ar1.toInt ar2.toNatClampNeg ar3.toNatClampNeg) ar3.toNatClampNeg ar4.toNatClampNeg) (gi 28 4).toInt := s_oS_n (fun hh => by have h9 := hq3.mpr ⟨hh.2.1, s_bS_le, hh.2.2⟩; omega) h5 h7 rfl
                                                            have hD : s_BB (gi 28 4).toInt (gi 28 5).toInt (ar5.toInt + s_oC P (s_ls P k) (s_bC P ar1.toInt ar2.toNatClampNeg ar4.toNatClampNeg) ar3.toNatClampNeg ar4.toNatClampNeg) (gi 28 4).toInt := s_oC_n (fun hh => absurd hh.1 (by omega)) h5 h7 rfl
                                                            exact s_LS_2 hk hd hA hD))⟩⟩
                · have r235 : ar4.toInt < (gi 35 0).toInt := Int32.lt_iff_toInt_lt.mp (t_nle h231)
                  refine ev_loc f_X1_search (nx := 154) rfl rfl rfl rfl ?_
                  refine ev_getR f_X1_search (nx := 157) rfl (hI.wf.s rfl) rfl rfl (hI.wf.r rfl) rfl rfl ?_
                  refine ev_getR f_X1_search (nx := 160) rfl (hI.wf.s rfl) rfl rfl (hI.wf.r rfl) rfl rfl ?_
                  refine ev_loc f_X1_search (nx := 162) rfl rfl rfl rfl ?_
                  refine ev_ialdT f_X1_search (nx := 163) rfl (hI.wf.s rfl) l_a4 (by decide) u179 (by decide) rfl (fun w236 e236 => ?_)
                  refine ev_loc f_X1_search (nx := 164) rfl rfl rfl rfl ?_
                  refine ev_t f_X1_search (t1 := 175) (t2 := 167) rfl rfl rfl (t_eqT u225 l_a2 (by decide : (0:Int32).toInt ≤ (0:Int)) (by decide : (0:Int) ≤ (0:Int32).toInt)) ?_
                  refine ev_loc f_X1_search (nx := 176) rfl rfl rfl rfl ?_
                  refine ev_mmRE f_X1_search (nx := 179) (l := (-2147483648)) (u := 2147483647) rfl rfl rfl (by omega) rfl (t_lo w236) (t_hi w236) (t_lo ar1) (t_hi ar1) (by decide) (by decide) rfl (fun z237 m237 l237 u237 => ?_)
                  refine ev_loc f_X1_search (nx := 181) (lo' := [(6, .int z237), (0, .ref 28), (1, .int ar1), (2, .int ar2), (3, .int ar3), (4, .int ar4), (5, .int ar5)]) rfl rfl rfl rfl ?_
                  refine ev_loc f_X1_search (nx := 182) rfl rfl rfl rfl ?_
                  refine ev_getR f_X1_search (nx := 185) rfl (hI.wf.s rfl) rfl rfl (hI.wf.r rfl) rfl rfl ?_
                  refine ev_loc f_X1_search (nx := 187) rfl rfl rfl rfl ?_
                  refine ev_loc f_X1_search (nx := 189) rfl rfl rfl rfl ?_
                  refine ev_qI0 f_X1_search (nx := 192) (r := []) rfl rfl rfl rfl rfl rfl rfl (c_d_canBegin_35 hI (ar4) (z237)) rfl (fun w238 l238 u238 q238 => ?_)
                  have q238 : s_may ar4.toInt (gi 35 0).toInt z237.toInt (gi 37 ar4.toNatClampNeg).toInt (gi 40 ar4.toNatClampNeg).toInt w238.toInt := q238
                  refine ev_if f_X1_search (t1 := 236) (t2 := 195) rfl rfl rfl (fun h239 => ?_) (fun h239 => ?_)
                  · have u240 : w238.toInt ≤ 0 := t_equ h239 (by decide : (0:Int32).toInt ≤ (0:Int))
                    exact ev_ret f_X1_search rfl rfl rfl ⟨_, _, _, rfl, hI, hX, ⟨rfl, (show ∀ P : Nat → Nat → Int, s_CP P gi gr → s_PB P → s_PO P → 0 ≤ ar1.toInt → ar1.toInt ≤ 2000 → ar3.toInt ≤ P 0 0 → ar4.toInt ≤ P 0 1 → 0 ≤ ar5.toInt → ar5.toInt ≤ 240000 * (ar3.toInt + ar4.toInt) → (gi 28 4).toInt ≤ 1000000000 → s_BB (gi 28 4).toInt (gi 28 5).toInt (ar5.toInt + s_LS P ar1.toInt ar2.toNatClampNeg ar3.toNatClampNeg ar4.toNatClampNeg) (gi 28 4).toInt from (by
                                                            intro P hc hb hp h1 h2 h3 h4 h5 h6 h7
                                                            have n0 := hc.1.1
                                                            have n1 := hc.1.2
                                                            have c3 := t_clamp (i := ar3) l_a3
                                                            have c4 := t_clamp (i := ar4) l_a4
                                                            have hd : ¬ (P 0 0 ≤ ((ar3.toNatClampNeg : Nat) : Int) ∧ P 0 1 ≤ ((ar4.toNatClampNeg : Nat) : Int)) := s_hdC (by omega)
                                                            obtain ⟨k, hk⟩ := s_rem1 hd
                                                            have hs3 := hc.2.1 ar3.toNatClampNeg (by omega)
                                                            have hw3 : w223.toInt = P 1 ar3.toNatClampNeg := by rw [e223]; exact hs3.1
                                                            have ho3 : ar2.toNatClampNeg = 0 := by have := t_clamp (i := ar2) (by omega); omega
                                                            have hy3 := q226 P hc hb h1 (by omega)
                                                            have hb3 : z227.toInt = (s_bS P ar1.toInt ar2.toNatClampNeg ar3.toNatClampNeg) := by unfold s_bS; rw [m227 rfl, hw3, ho3, if_neg (by decide), hy3]
                                                            have hq3 := q228 (by omega) (by omega)
                                                            rw [hs3.1, hs3.2.2.2, hb3] at hq3
                                                            have hA : s_BB (gi 28 4).toInt (gi 28 5).toInt (ar5.toInt + s_oS P (s_ls P k) (s_bS P ar1.toInt ar2.toNatClampNeg ar3.toNatClampNeg) ar3.toNatClampNeg ar4.toNatClampNeg) (gi 28 4).toInt := s_oS_n (fun hh => by have h9 := hq3.mpr ⟨hh.2.1, s_bS_le, hh.2.2⟩; omega) h5 h7 rfl
                                                            have hs4 := hc.2.2.1 ar4.toNatClampNeg (by omega)
                                                            have hw4 : w236.toInt = P 5 ar4.toNatClampNeg := by rw [e236]; exact hs4.1
                                                            have ho4 : ar2.toNatClampNeg = 0 := by have := t_clamp (i := ar2) (by omega); omega
                                                            have hb4 : z237.toInt = (s_bC P ar1.toInt ar2.toNatClampNeg ar4.toNatClampNeg) := by unfold s_bC; rw [m237 rfl, hw4, ho4, if_neg (by decide)]
                                                            have hq4 := q238 (by omega) (by omega)
                                                            rw [hs4.1, hs4.2.2.2, hb4] at hq4
                                                            have hD : s_BB (gi 28 4).toInt (gi 28 5).toInt (ar5.toInt + s_oC P (s_ls P k) (s_bC P ar1.toInt ar2.toNatClampNeg ar4.toNatClampNeg) ar3.toNatClampNeg ar4.toNatClampNeg) (gi 28 4).toInt := s_oC_n (fun hh => by have h9 := hq4.mpr ⟨hh.2, s_bC_le, Or.inl rfl⟩; omega) h5 h7 rfl
                                                            exact s_LS_2 hk hd hA hD))⟩⟩
                  · have r241 : w238.toInt ≠ 0 := fun e => h239 (Int32.toInt_inj.mp (e.trans (by decide : (0:Int) = (0 : Int32).toInt)))
                    have l242 : 1 ≤ w238.toInt := t_nel h239 l238 rfl rfl
                    refine ev_loc f_X1_search (nx := 196) rfl rfl rfl rfl ?_
                    refine ev_getR f_X1_search (nx := 199) rfl (hI.wf.s rfl) rfl rfl (hI.wf.r rfl) rfl rfl ?_
                    refine ev_loc f_X1_search (nx := 201) rfl rfl rfl rfl ?_
                    refine ev_loc f_X1_search (nx := 203) rfl rfl rfl rfl ?_
                    refine ev_qI0 f_X1_search (nx := 206) (r := []) rfl rfl rfl rfl rfl rfl rfl (c_d_waitsOf_35 hI (ar4) (z237)) rfl (fun w243 l243 u243 q243 => ?_)
                    have q243 : s_wts ar4.toInt (gi 35 0).toInt z237.toInt (gi 37 ar4.toNatClampNeg).toInt (gi 39 ar4.toNatClampNeg).toInt w243.toInt := q243
                    refine ev_loc f_X1_search (nx := 208) (lo' := [(7, .int w243), (6, .int z237), (0, .ref 28), (1, .int ar1), (2, .int ar2), (3, .int ar3), (4, .int ar4), (5, .int ar5)]) rfl rfl rfl rfl ?_
                    refine ev_loc f_X1_search (nx := 209) rfl rfl rfl rfl ?_
                    refine ev_loc f_X1_search (nx := 211) rfl rfl rfl rfl ?_
                    refine ev_loc f_X1_search (nx := 212) rfl rfl rfl rfl ?_
                    refine ev_getR f_X1_search (nx := 215) rfl (hI.wf.s rfl) rfl rfl (hI.wf.r rfl) rfl rfl ?_
                    refine ev_getR f_X1_search (nx := 218) rfl (hI.wf.s rfl) rfl rfl (hI.wf.r rfl) rfl rfl ?_
                    refine ev_loc f_X1_search (nx := 220) rfl rfl rfl rfl ?_
                    refine ev_ialdT f_X1_search (nx := 221) rfl (hI.wf.s rfl) l_a4 (by decide) u179 (by decide) rfl (fun w244 e244 => ?_)
                    refine ev_anyIE f_X1_search (nx := 222) rfl rfl rfl rfl (fun z245 e245 => ?_)
                    refine ev_ic f_X1_search (nx := 223) (v := 0) rfl (by decide) rfl ?_
                    refine ev_loc f_X1_search (nx := 224) rfl rfl rfl rfl ?_
                    refine ev_loc f_X1_search (nx := 226) rfl rfl rfl rfl ?_
                    refine ev_ic f_X1_search (nx := 227) (v := 1) rfl (by decide) rfl ?_
                    refine ev_addC f_X1_search (nx := 228) (c := 1) (l := 1) (u := 6) rfl (by decide) l_a4 u179 rfl rfl (by decide) (by decide) rfl (fun z246 e246 l246 u246 => ?_)
                    refine ev_loc f_X1_search (nx := 230) rfl rfl rfl rfl ?_
                    refine ev_loc f_X1_search (nx := 232) rfl rfl rfl rfl ?_
                    refine ev_anyIE f_X1_search (nx := 233) rfl rfl rfl rfl (fun z247 e247 => ?_)
                    refine ev_qN f_X1_search (nx := 236) (r := []) rfl rfl rfl rfl rfl rfl rfl (x_Me.up (ih hI (z245) (0) (by decide : (0:Int) ≤ (0:Int32).toInt) (Int.le_trans (by decide : (0:Int32).toInt ≤ (0:Int)) (by decide : (0:Int) ≤ 1)) (ar3) l_a3 (Int.le_trans u221 (by decide : (5:Int) ≤ 6)) (z246) (Int.le_trans (by decide : (0:Int) ≤ 1) l246) u246 (z247) (by omega)) (by omega)) rfl hX rfl (fun gi248 gl248 gr248 hI hX hC248 q248 => ?_)
                    have q248 : ∀ P : Nat → Nat → Int, s_CP P gi gr → s_PB P → s_PO P → 0 ≤ z245.toInt → z245.toInt ≤ 2000 → ar3.toInt ≤ P 0 0 → z246.toInt ≤ P 0 1 → 0 ≤ z247.toInt → z247.toInt ≤ 240000 * (ar3.toInt + z246.toInt) → (gi 28 4).toInt ≤ 1000000000 → s_BB (gi 28 4).toInt (gi 28 5).toInt (z247.toInt + s_LS P z245.toInt (0 : Int32).toNatClampNeg ar3.toNatClampNeg z246.toNatClampNeg) (gi248 28 4).toInt := q248
                    exact ev_ret f_X1_search rfl rfl rfl ⟨_, _, _, rfl, hI, hX, ⟨rfl, (show ∀ P : Nat → Nat → Int, s_CP P gi gr → s_PB P → s_PO P → 0 ≤ ar1.toInt → ar1.toInt ≤ 2000 → ar3.toInt ≤ P 0 0 → ar4.toInt ≤ P 0 1 → 0 ≤ ar5.toInt → ar5.toInt ≤ 240000 * (ar3.toInt + ar4.toInt) → (gi 28 4).toInt ≤ 1000000000 → s_BB (gi 28 4).toInt (gi 28 5).toInt (ar5.toInt + s_LS P ar1.toInt ar2.toNatClampNeg ar3.toNatClampNeg ar4.toNatClampNeg) (gi248 28 4).toInt from (by
                                                            intro P hc hb hp h1 h2 h3 h4 h5 h6 h7
                                                            have n0 := hc.1.1
                                                            have n1 := hc.1.2
                                                            have c3 := t_clamp (i := ar3) l_a3
                                                            have c4 := t_clamp (i := ar4) l_a4
                                                            have hd : ¬ (P 0 0 ≤ ((ar3.toNatClampNeg : Nat) : Int) ∧ P 0 1 ≤ ((ar4.toNatClampNeg : Nat) : Int)) := s_hdC (by omega)
                                                            obtain ⟨k, hk⟩ := s_rem1 hd
                                                            have hs3 := hc.2.1 ar3.toNatClampNeg (by omega)
                                                            have hw3 : w223.toInt = P 1 ar3.toNatClampNeg := by rw [e223]; exact hs3.1
                                                            have ho3 : ar2.toNatClampNeg = 0 := by have := t_clamp (i := ar2) (by omega); omega
                                                            have hy3 := q226 P hc hb h1 (by omega)
                                                            have hb3 : z227.toInt = (s_bS P ar1.toInt ar2.toNatClampNeg ar3.toNatClampNeg) := by unfold s_bS; rw [m227 rfl, hw3, ho3, if_neg (by decide), hy3]
                                                            have hq3 := q228 (by omega) (by omega)
                                                            rw [hs3.1, hs3.2.2.2, hb3] at hq3
                                                            have hA : s_BB (gi 28 4).toInt (gi 28 5).toInt (ar5.toInt + s_oS P (s_ls P k) (s_bS P ar1.toInt ar2.toNatClampNeg ar3.toNatClampNeg) ar3.toNatClampNeg ar4.toNatClampNeg) (gi 28 4).toInt := s_oS_n (fun hh => by have h9 := hq3.mpr ⟨hh.2.1, s_bS_le, hh.2.2⟩; omega) h5 h7 rfl
                                                            have hs4 := hc.2.2.1 ar4.toNatClampNeg (by omega)
                                                            have hw4 : w236.toInt = P 5 ar4.toNatClampNeg := by rw [e236]; exact hs4.1
                                                            have ho4 : ar2.toNatClampNeg = 0 := by have := t_clamp (i := ar2) (by omega); omega
                                                            have hb4 : z237.toInt = (s_bC P ar1.toInt ar2.toNatClampNeg ar4.toNatClampNeg) := by unfold s_bC; rw [m237 rfl, hw4, ho4, if_neg (by decide)]
                                                            have hq4 := q238 (by omega) (by omega)
                                                            rw [hs4.1, hs4.2.2.2, hb4] at hq4
                                                            have hy := hq4.mp (by omega)
                                                            have hpa := hp.2.1 ar4.toNatClampNeg (by omega)
                                                            have hpb := hb.2.2.1 ar4.toNatClampNeg (by omega)
                                                            have hv4 := q243 (by omega) (by omega) (by rw [hs4.1, hb4]; exact s_bC_le) (by rw [hs4.1, hb4]; omega) (by rw [hs4.2.2.1]; exact hpa.2.2) (by rw [hs4.2.2.1]; exact hpb.2.2)
                                                            rw [hs4.1, hs4.2.2.1, hb4] at hv4
                                                            have ht4 : w244.toInt = P 6 ar4.toNatClampNeg := by rw [e244]; exact hs4.2.1
                                                            have hz4 := s_add e245 hb4 ht4 (by omega)
                                                            have hcs4 := s_cst (n := ar3.toInt + ar4.toInt) h5 h6 hy.1 hpa.1 hv4.2.1 hv4.2.2
                                                            have hu4 := s_add e247 rfl hv4.1 (hcs4.2.2 (by omega))
                                                            have hn4 := s_cp (y := ar4) (z := z246) (by omega) e246
                                                            have hbm := s_bC_m (o := ar2.toNatClampNeg) (c := ar4.toNatClampNeg) hp h1
                                                            have hg4 := q248 P hc hb hp (by omega) (by omega) (by omega) (by omega) (by rw [hu4]; exact hcs4.1) (by rw [hu4, show ar3.toInt + z246.toInt = ar3.toInt + ar4.toInt + 1 from (by omega)]; exact hcs4.2.1) h7
                                                            rw [hz4, hu4, hn4, s_LS_k (k := k) (s_rem3 hk (by omega))] at hg4
                                                            have hD : s_BB (gi 28 4).toInt (gi 28 5).toInt (ar5.toInt + s_oC P (s_ls P k) (s_bC P ar1.toInt ar2.toNatClampNeg ar4.toNatClampNeg) ar3.toNatClampNeg ar4.toNatClampNeg) (gi248 28 4).toInt := s_oC_y ⟨by omega, hy.1⟩ h5 h7 hg4
                                                            exact s_LS_2 hk hd hA hD))⟩⟩
              · have r250 : w228.toInt ≠ 0 := fun e => h229 (Int32.toInt_inj.mp (e.trans (by decide : (0:Int) = (0 : Int32).toInt)))
                have l251 : 1 ≤ w228.toInt := t_nel h229 l228 rfl rfl
                refine ev_loc f_X1_search (nx := 103) rfl rfl rfl rfl ?_
                refine ev_getR f_X1_search (nx := 106) rfl (hI.wf.s rfl) rfl rfl (hI.wf.r rfl) rfl rfl ?_
                refine ev_loc f_X1_search (nx := 107) rfl rfl rfl rfl ?_
                refine ev_loc f_X1_search (nx := 109) rfl rfl rfl rfl ?_
                refine ev_qI0 f_X1_search (nx := 112) (r := []) rfl rfl rfl rfl rfl rfl rfl (c_d_waitsOf_29 hI (ar3) (z227)) rfl (fun w252 l252 u252 q252 => ?_)
                have q252 : s_wts ar3.toInt (gi 29 0).toInt z227.toInt (gi 31 ar3.toNatClampNeg).toInt (gi 33 ar3.toNatClampNeg).toInt w252.toInt := q252
                refine ev_loc f_X1_search (nx := 114) (lo' := [(7, .int w252), (6, .int z227), (0, .ref 28), (1, .int ar1), (2, .int ar2), (3, .int ar3), (4, .int ar4), (5, .int ar5)]) rfl rfl rfl rfl ?_
                refine ev_loc f_X1_search (nx := 115) rfl rfl rfl rfl ?_
                refine ev_loc f_X1_search (nx := 117) rfl rfl rfl rfl ?_
                refine ev_loc f_X1_search (nx := 118) rfl rfl rfl rfl ?_
                refine ev_getR f_X1_search (nx := 121) rfl (hI.wf.s rfl) rfl rfl (hI.wf.r rfl) rfl rfl ?_
                refine ev_getR f_X1_search (nx := 124) rfl (hI.wf.s rfl) rfl rfl (hI.wf.r rfl) rfl rfl ?_
                refine ev_loc f_X1_search (nx := 125) rfl rfl rfl rfl ?_
                refine ev_ialdT f_X1_search (nx := 126) rfl (hI.wf.s rfl) l_a3 (by decide) u221 (by decide) rfl (fun w253 e253 => ?_)
                refine ev_anyIE f_X1_search (nx := 127) rfl rfl rfl rfl (fun z254 e254 => ?_)
                refine ev_ic f_X1_search (nx := 128) (v := 1) rfl (by decide) rfl ?_
                refine ev_loc f_X1_search (nx := 129) rfl rfl rfl rfl ?_
                refine ev_ic f_X1_search (nx := 130) (v := 1) rfl (by decide) rfl ?_
                refine ev_addC f_X1_search (nx := 131) (c := 1) (l := 1) (u := 6) rfl (by decide) l_a3 u221 rfl rfl (by decide) (by decide) rfl (fun z255 e255 l255 u255 => ?_)
                refine ev_loc f_X1_search (nx := 133) rfl rfl rfl rfl ?_
                refine ev_loc f_X1_search (nx := 135) rfl rfl rfl rfl ?_
                refine ev_loc f_X1_search (nx := 137) rfl rfl rfl rfl ?_
                refine ev_anyIE f_X1_search (nx := 138) rfl rfl rfl rfl (fun z256 e256 => ?_)
                refine ev_qN f_X1_search (nx := 141) (r := []) rfl rfl rfl rfl rfl rfl rfl (x_Me.up (ih hI (z254) (1) (Int.le_trans (by decide : (0:Int) ≤ 1) (by decide : (1:Int) ≤ (1:Int32).toInt)) (by decide : (1:Int32).toInt ≤ (1:Int)) (z255) (Int.le_trans (by decide : (0:Int) ≤ 1) l255) u255 (ar4) l_a4 (Int.le_trans u179 (by decide : (5:Int) ≤ 6)) (z256) (by omega)) (by omega)) rfl hX rfl (fun gi257 gl257 gr257 hI hX hC257 q257 => ?_)
                have q257 : ∀ P : Nat → Nat → Int, s_CP P gi gr → s_PB P → s_PO P → 0 ≤ z254.toInt → z254.toInt ≤ 2000 → z255.toInt ≤ P 0 0 → ar4.toInt ≤ P 0 1 → 0 ≤ z256.toInt → z256.toInt ≤ 240000 * (z255.toInt + ar4.toInt) → (gi 28 4).toInt ≤ 1000000000 → s_BB (gi 28 4).toInt (gi 28 5).toInt (z256.toInt + s_LS P z254.toInt (1 : Int32).toNatClampNeg z255.toNatClampNeg ar4.toNatClampNeg) (gi257 28 4).toInt := q257
                refine ev_loc f_X1_search (nx := 143) rfl rfl rfl rfl ?_
                refine ev_loc f_X1_search (nx := 144) rfl rfl rfl rfl ?_
                refine ev_getR f_X1_search (nx := 147) rfl (hI.wf.s rfl) rfl rfl (hI.wf.r rfl) rfl rfl ?_
                refine ev_gvI f_X1_search (nx := 150) (w := (gi 35 0)) rfl (hI.wf.s rfl) rfl rfl ((hC257.1 35 0 rfl).1.trans rfl) rfl ?_
                refine ev_if f_X1_search (t1 := 236) (t2 := 153) rfl rfl rfl (fun h259 => ?_) (fun h259 => ?_)
                · have r260 : (gi 35 0).toInt ≤ ar4.toInt := Int32.le_iff_toInt_le.mp h259
                  have u261 : (gi 35 0).toInt ≤ 5 := t_leu h259 u179
                  have l262 : 1 ≤ ar4.toInt := t_lel h259 l180
                  exact ev_ret f_X1_search rfl rfl rfl ⟨_, _, _, rfl, hI, hX, ⟨rfl, (show ∀ P : Nat → Nat → Int, s_CP P gi gr → s_PB P → s_PO P → 0 ≤ ar1.toInt → ar1.toInt ≤ 2000 → ar3.toInt ≤ P 0 0 → ar4.toInt ≤ P 0 1 → 0 ≤ ar5.toInt → ar5.toInt ≤ 240000 * (ar3.toInt + ar4.toInt) → (gi 28 4).toInt ≤ 1000000000 → s_BB (gi 28 4).toInt (gi 28 5).toInt (ar5.toInt + s_LS P ar1.toInt ar2.toNatClampNeg ar3.toNatClampNeg ar4.toNatClampNeg) (gi257 28 4).toInt from (by
                                                            intro P hc hb hp h1 h2 h3 h4 h5 h6 h7
                                                            have n0 := hc.1.1
                                                            have n1 := hc.1.2
                                                            have c3 := t_clamp (i := ar3) l_a3
                                                            have c4 := t_clamp (i := ar4) l_a4
                                                            have hd : ¬ (P 0 0 ≤ ((ar3.toNatClampNeg : Nat) : Int) ∧ P 0 1 ≤ ((ar4.toNatClampNeg : Nat) : Int)) := s_hdC (by omega)
                                                            obtain ⟨k, hk⟩ := s_rem1 hd
                                                            have hs3 := hc.2.1 ar3.toNatClampNeg (by omega)
                                                            have hw3 : w223.toInt = P 1 ar3.toNatClampNeg := by rw [e223]; exact hs3.1
                                                            have ho3 : ar2.toNatClampNeg = 0 := by have := t_clamp (i := ar2) (by omega); omega
                                                            have hy3 := q226 P hc hb h1 (by omega)
                                                            have hb3 : z227.toInt = (s_bS P ar1.toInt ar2.toNatClampNeg ar3.toNatClampNeg) := by unfold s_bS; rw [m227 rfl, hw3, ho3, if_neg (by decide), hy3]
                                                            have hq3 := q228 (by omega) (by omega)
                                                            rw [hs3.1, hs3.2.2.2, hb3] at hq3
                                                            have hy := hq3.mp (by omega)
                                                            have hpa := hp.1 ar3.toNatClampNeg (by omega)
                                                            have hpb := hb.2.1 ar3.toNatClampNeg (by omega)
                                                            have hv3 := q252 (by omega) (by omega) (by rw [hs3.1, hb3]; exact s_bS_le) (by rw [hs3.1, hb3]; omega) (by rw [hs3.2.2.1]; exact hpa.2.2) (by rw [hs3.2.2.1]; exact hpb.2.2)
                                                            rw [hs3.1, hs3.2.2.1, hb3] at hv3
                                                            have ht3 : w253.toInt = P 2 ar3.toNatClampNeg := by rw [e253]; exact hs3.2.1
                                                            have hz3 := s_add e254 hb3 ht3 (by omega)
                                                            have hcs3 := s_cst (n := ar3.toInt + ar4.toInt) h5 h6 hy.1 hpa.1 hv3.2.1 hv3.2.2
                                                            have hu3 := s_add e256 rfl hv3.1 (hcs3.2.2 (by omega))
                                                            have hn3 := s_cp (y := ar3) (z := z255) (by omega) e255
                                                            have hbm := s_bS_m (o := ar2.toNatClampNeg) (s := ar3.toNatClampNeg) hp h1
                                                            have hg3 := q257 P hc hb hp (by omega) (by omega) (by omega) (by omega) (by rw [hu3]; exact hcs3.1) (by rw [hu3, show z255.toInt + ar4.toInt = ar3.toInt + ar4.toInt + 1 from (by omega)]; exact hcs3.2.1) h7
                                                            rw [hz3, hu3, hn3, s_LS_k (k := k) (s_rem2 hk (by omega))] at hg3
                                                            have hA : s_BB (gi 28 4).toInt (gi 28 5).toInt (ar5.toInt + s_oS P (s_ls P k) (s_bS P ar1.toInt ar2.toNatClampNeg ar3.toNatClampNeg) ar3.toNatClampNeg ar4.toNatClampNeg) (gi257 28 4).toInt := s_oS_y ⟨by omega, hy.1, hy.2.2⟩ h5 h7 hg3
                                                            have hcA := hc.fr hC257 rfl rfl
                                                            have hE : (gi257 28 5).toInt = (gi 28 5).toInt := congrArg Int32.toInt (hC257.1 28 5 rfl).1
                                                            have hB1 : (gi257 28 4).toInt ≤ 1000000000 := Int.le_trans hA.2.2 h7
                                                            have n0A := hcA.1.1
                                                            have n1A := hcA.1.2
                                                            have hD : s_BB (gi257 28 4).toInt (gi 28 5).toInt (ar5.toInt + s_oC P (s_ls P k) (s_bC P ar1.toInt ar2.toNatClampNeg ar4.toNatClampNeg) ar3.toNatClampNeg ar4.toNatClampNeg) (gi257 28 4).toInt := s_oC_n (fun hh => absurd hh.1 (by omega)) h5 hB1 rfl
                                                            exact s_LS_2 hk hd hA hD))⟩⟩
                · have r263 : ar4.toInt < (gi 35 0).toInt := Int32.lt_iff_toInt_lt.mp (t_nle h259)
                  refine ev_loc f_X1_search (nx := 154) rfl rfl rfl rfl ?_
                  refine ev_getR f_X1_search (nx := 157) rfl (hI.wf.s rfl) rfl rfl (hI.wf.r rfl) rfl rfl ?_
                  refine ev_getR f_X1_search (nx := 160) rfl (hI.wf.s rfl) rfl rfl (hI.wf.r rfl) rfl rfl ?_
                  refine ev_loc f_X1_search (nx := 162) rfl rfl rfl rfl ?_
                  refine ev_ialdT f_X1_search (nx := 163) rfl (hI.wf.s rfl) l_a4 (by decide) u179 (by decide) rfl (fun w264 e264 => ?_)
                  refine ev_loc f_X1_search (nx := 164) rfl rfl rfl rfl ?_
                  refine ev_t f_X1_search (t1 := 175) (t2 := 167) rfl rfl rfl (t_eqT u225 l_a2 (by decide : (0:Int32).toInt ≤ (0:Int)) (by decide : (0:Int) ≤ (0:Int32).toInt)) ?_
                  refine ev_loc f_X1_search (nx := 176) rfl rfl rfl rfl ?_
                  refine ev_mmRE f_X1_search (nx := 179) (l := (-2147483648)) (u := 2147483647) rfl rfl rfl (by omega) rfl (t_lo w264) (t_hi w264) (t_lo ar1) (t_hi ar1) (by decide) (by decide) rfl (fun z265 m265 l265 u265 => ?_)
                  refine ev_loc f_X1_search (nx := 181) (lo' := [(6, .int z265), (7, .int w252), (0, .ref 28), (1, .int ar1), (2, .int ar2), (3, .int ar3), (4, .int ar4), (5, .int ar5)]) rfl rfl rfl rfl ?_
                  refine ev_loc f_X1_search (nx := 182) rfl rfl rfl rfl ?_
                  refine ev_getR f_X1_search (nx := 185) rfl (hI.wf.s rfl) rfl rfl (hI.wf.r rfl) rfl rfl ?_
                  refine ev_loc f_X1_search (nx := 187) rfl rfl rfl rfl ?_
                  refine ev_loc f_X1_search (nx := 189) rfl rfl rfl rfl ?_
                  refine ev_qI0 f_X1_search (nx := 192) (r := []) rfl rfl rfl rfl rfl rfl rfl (c_d_canBegin_35 hI (ar4) (z265)) rfl (fun w266 l266 u266 q266 => ?_)
                  have ff267 : (gi257 35 0).toInt = (gi 35 0).toInt := congrArg Int32.toInt ((hC257.1 35 0 rfl).1.trans rfl)
                  have q266 : s_may ar4.toInt (gi257 35 0).toInt z265.toInt (gi257 37 ar4.toNatClampNeg).toInt (gi257 40 ar4.toNatClampNeg).toInt w266.toInt := q266
                  refine ev_if f_X1_search (t1 := 236) (t2 := 195) rfl rfl rfl (fun h268 => ?_) (fun h268 => ?_)
                  · have u269 : w266.toInt ≤ 0 := t_equ h268 (by decide : (0:Int32).toInt ≤ (0:Int))
                    exact ev_ret f_X1_search rfl rfl rfl ⟨_, _, _, rfl, hI, hX, ⟨rfl, (show ∀ P : Nat → Nat → Int, s_CP P gi gr → s_PB P → s_PO P → 0 ≤ ar1.toInt → ar1.toInt ≤ 2000 → ar3.toInt ≤ P 0 0 → ar4.toInt ≤ P 0 1 → 0 ≤ ar5.toInt → ar5.toInt ≤ 240000 * (ar3.toInt + ar4.toInt) → (gi 28 4).toInt ≤ 1000000000 → s_BB (gi 28 4).toInt (gi 28 5).toInt (ar5.toInt + s_LS P ar1.toInt ar2.toNatClampNeg ar3.toNatClampNeg ar4.toNatClampNeg) (gi257 28 4).toInt from (by
                                                            intro P hc hb hp h1 h2 h3 h4 h5 h6 h7
                                                            have n0 := hc.1.1
                                                            have n1 := hc.1.2
                                                            have c3 := t_clamp (i := ar3) l_a3
                                                            have c4 := t_clamp (i := ar4) l_a4
                                                            have hd : ¬ (P 0 0 ≤ ((ar3.toNatClampNeg : Nat) : Int) ∧ P 0 1 ≤ ((ar4.toNatClampNeg : Nat) : Int)) := s_hdC (by omega)
                                                            obtain ⟨k, hk⟩ := s_rem1 hd
                                                            have hs3 := hc.2.1 ar3.toNatClampNeg (by omega)
                                                            have hw3 : w223.toInt = P 1 ar3.toNatClampNeg := by rw [e223]; exact hs3.1
                                                            have ho3 : ar2.toNatClampNeg = 0 := by have := t_clamp (i := ar2) (by omega); omega
                                                            have hy3 := q226 P hc hb h1 (by omega)
                                                            have hb3 : z227.toInt = (s_bS P ar1.toInt ar2.toNatClampNeg ar3.toNatClampNeg) := by unfold s_bS; rw [m227 rfl, hw3, ho3, if_neg (by decide), hy3]
                                                            have hq3 := q228 (by omega) (by omega)
                                                            rw [hs3.1, hs3.2.2.2, hb3] at hq3
                                                            have hy := hq3.mp (by omega)
                                                            have hpa := hp.1 ar3.toNatClampNeg (by omega)
                                                            have hpb := hb.2.1 ar3.toNatClampNeg (by omega)
                                                            have hv3 := q252 (by omega) (by omega) (by rw [hs3.1, hb3]; exact s_bS_le) (by rw [hs3.1, hb3]; omega) (by rw [hs3.2.2.1]; exact hpa.2.2) (by rw [hs3.2.2.1]; exact hpb.2.2)
                                                            rw [hs3.1, hs3.2.2.1, hb3] at hv3
                                                            have ht3 : w253.toInt = P 2 ar3.toNatClampNeg := by rw [e253]; exact hs3.2.1
                                                            have hz3 := s_add e254 hb3 ht3 (by omega)
                                                            have hcs3 := s_cst (n := ar3.toInt + ar4.toInt) h5 h6 hy.1 hpa.1 hv3.2.1 hv3.2.2
                                                            have hu3 := s_add e256 rfl hv3.1 (hcs3.2.2 (by omega))
                                                            have hn3 := s_cp (y := ar3) (z := z255) (by omega) e255
                                                            have hbm := s_bS_m (o := ar2.toNatClampNeg) (s := ar3.toNatClampNeg) hp h1
                                                            have hg3 := q257 P hc hb hp (by omega) (by omega) (by omega) (by omega) (by rw [hu3]; exact hcs3.1) (by rw [hu3, show z255.toInt + ar4.toInt = ar3.toInt + ar4.toInt + 1 from (by omega)]; exact hcs3.2.1) h7
                                                            rw [hz3, hu3, hn3, s_LS_k (k := k) (s_rem2 hk (by omega))] at hg3
                                                            have hA : s_BB (gi 28 4).toInt (gi 28 5).toInt (ar5.toInt + s_oS P (s_ls P k) (s_bS P ar1.toInt ar2.toNatClampNeg ar3.toNatClampNeg) ar3.toNatClampNeg ar4.toNatClampNeg) (gi257 28 4).toInt := s_oS_y ⟨by omega, hy.1, hy.2.2⟩ h5 h7 hg3
                                                            have hcA := hc.fr hC257 rfl rfl
                                                            have hE : (gi257 28 5).toInt = (gi 28 5).toInt := congrArg Int32.toInt (hC257.1 28 5 rfl).1
                                                            have hB1 : (gi257 28 4).toInt ≤ 1000000000 := Int.le_trans hA.2.2 h7
                                                            have n0A := hcA.1.1
                                                            have n1A := hcA.1.2
                                                            have hs4 := hcA.2.2.1 ar4.toNatClampNeg (by omega)
                                                            have hw4 : w264.toInt = P 5 ar4.toNatClampNeg := by rw [e264]; exact hs4.1
                                                            have ho4 : ar2.toNatClampNeg = 0 := by have := t_clamp (i := ar2) (by omega); omega
                                                            have hb4 : z265.toInt = (s_bC P ar1.toInt ar2.toNatClampNeg ar4.toNatClampNeg) := by unfold s_bC; rw [m265 rfl, hw4, ho4, if_neg (by decide)]
                                                            have hq4 := q266 (by omega) (by omega)
                                                            rw [hs4.1, hs4.2.2.2, hb4] at hq4
                                                            have hD : s_BB (gi257 28 4).toInt (gi 28 5).toInt (ar5.toInt + s_oC P (s_ls P k) (s_bC P ar1.toInt ar2.toNatClampNeg ar4.toNatClampNeg) ar3.toNatClampNeg ar4.toNatClampNeg) (gi257 28 4).toInt := s_oC_n (fun hh => by have h9 := hq4.mpr ⟨hh.2, s_bC_le, Or.inl rfl⟩; omega) h5 hB1 rfl
                                                            exact s_LS_2 hk hd hA hD))⟩⟩
                  · have r270 : w266.toInt ≠ 0 := fun e => h268 (Int32.toInt_inj.mp (e.trans (by decide : (0:Int) = (0 : Int32).toInt)))
                    have l271 : 1 ≤ w266.toInt := t_nel h268 l266 rfl rfl
                    refine ev_loc f_X1_search (nx := 196) rfl rfl rfl rfl ?_
                    refine ev_getR f_X1_search (nx := 199) rfl (hI.wf.s rfl) rfl rfl (hI.wf.r rfl) rfl rfl ?_
                    refine ev_loc f_X1_search (nx := 201) rfl rfl rfl rfl ?_
                    refine ev_loc f_X1_search (nx := 203) rfl rfl rfl rfl ?_
                    refine ev_qI0 f_X1_search (nx := 206) (r := []) rfl rfl rfl rfl rfl rfl rfl (c_d_waitsOf_35 hI (ar4) (z265)) rfl (fun w272 l272 u272 q272 => ?_)
                    have ff273 : (gi257 35 0).toInt = (gi 35 0).toInt := congrArg Int32.toInt ((hC257.1 35 0 rfl).1.trans rfl)
                    have q272 : s_wts ar4.toInt (gi257 35 0).toInt z265.toInt (gi257 37 ar4.toNatClampNeg).toInt (gi257 39 ar4.toNatClampNeg).toInt w272.toInt := q272
                    refine ev_loc f_X1_search (nx := 208) (lo' := [(7, .int w272), (6, .int z265), (0, .ref 28), (1, .int ar1), (2, .int ar2), (3, .int ar3), (4, .int ar4), (5, .int ar5)]) rfl rfl rfl rfl ?_
                    refine ev_loc f_X1_search (nx := 209) rfl rfl rfl rfl ?_
                    refine ev_loc f_X1_search (nx := 211) rfl rfl rfl rfl ?_
                    refine ev_loc f_X1_search (nx := 212) rfl rfl rfl rfl ?_
                    refine ev_getR f_X1_search (nx := 215) rfl (hI.wf.s rfl) rfl rfl (hI.wf.r rfl) rfl rfl ?_
                    refine ev_getR f_X1_search (nx := 218) rfl (hI.wf.s rfl) rfl rfl (hI.wf.r rfl) rfl rfl ?_
                    refine ev_loc f_X1_search (nx := 220) rfl rfl rfl rfl ?_
                    refine ev_ialdT f_X1_search (nx := 221) rfl (hI.wf.s rfl) l_a4 (by decide) u179 (by decide) rfl (fun w274 e274 => ?_)
                    refine ev_anyIE f_X1_search (nx := 222) rfl rfl rfl rfl (fun z275 e275 => ?_)
                    refine ev_ic f_X1_search (nx := 223) (v := 0) rfl (by decide) rfl ?_
                    refine ev_loc f_X1_search (nx := 224) rfl rfl rfl rfl ?_
                    refine ev_loc f_X1_search (nx := 226) rfl rfl rfl rfl ?_
                    refine ev_ic f_X1_search (nx := 227) (v := 1) rfl (by decide) rfl ?_
                    refine ev_addC f_X1_search (nx := 228) (c := 1) (l := 1) (u := 6) rfl (by decide) l_a4 u179 rfl rfl (by decide) (by decide) rfl (fun z276 e276 l276 u276 => ?_)
                    refine ev_loc f_X1_search (nx := 230) rfl rfl rfl rfl ?_
                    refine ev_loc f_X1_search (nx := 232) rfl rfl rfl rfl ?_
                    refine ev_anyIE f_X1_search (nx := 233) rfl rfl rfl rfl (fun z277 e277 => ?_)
                    refine ev_qN f_X1_search (nx := 236) (r := []) rfl rfl rfl rfl rfl rfl rfl (x_Me.up (ih hI (z275) (0) (by decide : (0:Int) ≤ (0:Int32).toInt) (Int.le_trans (by decide : (0:Int32).toInt ≤ (0:Int)) (by decide : (0:Int) ≤ 1)) (ar3) l_a3 (Int.le_trans u221 (by decide : (5:Int) ≤ 6)) (z276) (Int.le_trans (by decide : (0:Int) ≤ 1) l276) u276 (z277) (by omega)) (by omega)) rfl hX rfl (fun gi278 gl278 gr278 hI hX hC278 q278 => ?_)
                    have ff279 : (gi257 28 5).toInt = (gi 28 5).toInt := congrArg Int32.toInt ((hC257.1 28 5 rfl).1.trans rfl)
                    have q278 : ∀ P : Nat → Nat → Int, s_CP P gi257 gr257 → s_PB P → s_PO P → 0 ≤ z275.toInt → z275.toInt ≤ 2000 → ar3.toInt ≤ P 0 0 → z276.toInt ≤ P 0 1 → 0 ≤ z277.toInt → z277.toInt ≤ 240000 * (ar3.toInt + z276.toInt) → (gi257 28 4).toInt ≤ 1000000000 → s_BB (gi257 28 4).toInt (gi257 28 5).toInt (z277.toInt + s_LS P z275.toInt (0 : Int32).toNatClampNeg ar3.toNatClampNeg z276.toNatClampNeg) (gi278 28 4).toInt := q278
                    exact ev_ret f_X1_search rfl rfl rfl ⟨_, _, _, rfl, hI, hX, ⟨rfl, (show ∀ P : Nat → Nat → Int, s_CP P gi gr → s_PB P → s_PO P → 0 ≤ ar1.toInt → ar1.toInt ≤ 2000 → ar3.toInt ≤ P 0 0 → ar4.toInt ≤ P 0 1 → 0 ≤ ar5.toInt → ar5.toInt ≤ 240000 * (ar3.toInt + ar4.toInt) → (gi 28 4).toInt ≤ 1000000000 → s_BB (gi 28 4).toInt (gi 28 5).toInt (ar5.toInt + s_LS P ar1.toInt ar2.toNatClampNeg ar3.toNatClampNeg ar4.toNatClampNeg) (gi278 28 4).toInt from (by
                                                            intro P hc hb hp h1 h2 h3 h4 h5 h6 h7
                                                            have n0 := hc.1.1
                                                            have n1 := hc.1.2
                                                            have c3 := t_clamp (i := ar3) l_a3
                                                            have c4 := t_clamp (i := ar4) l_a4
                                                            have hd : ¬ (P 0 0 ≤ ((ar3.toNatClampNeg : Nat) : Int) ∧ P 0 1 ≤ ((ar4.toNatClampNeg : Nat) : Int)) := s_hdC (by omega)
                                                            obtain ⟨k, hk⟩ := s_rem1 hd
                                                            have hs3 := hc.2.1 ar3.toNatClampNeg (by omega)
                                                            have hw3 : w223.toInt = P 1 ar3.toNatClampNeg := by rw [e223]; exact hs3.1
                                                            have ho3 : ar2.toNatClampNeg = 0 := by have := t_clamp (i := ar2) (by omega); omega
                                                            have hy3 := q226 P hc hb h1 (by omega)
                                                            have hb3 : z227.toInt = (s_bS P ar1.toInt ar2.toNatClampNeg ar3.toNatClampNeg) := by unfold s_bS; rw [m227 rfl, hw3, ho3, if_neg (by decide), hy3]
                                                            have hq3 := q228 (by omega) (by omega)
                                                            rw [hs3.1, hs3.2.2.2, hb3] at hq3
                                                            have hy := hq3.mp (by omega)
                                                            have hpa := hp.1 ar3.toNatClampNeg (by omega)
                                                            have hpb := hb.2.1 ar3.toNatClampNeg (by omega)
                                                            have hv3 := q252 (by omega) (by omega) (by rw [hs3.1, hb3]; exact s_bS_le) (by rw [hs3.1, hb3]; omega) (by rw [hs3.2.2.1]; exact hpa.2.2) (by rw [hs3.2.2.1]; exact hpb.2.2)
                                                            rw [hs3.1, hs3.2.2.1, hb3] at hv3
                                                            have ht3 : w253.toInt = P 2 ar3.toNatClampNeg := by rw [e253]; exact hs3.2.1
                                                            have hz3 := s_add e254 hb3 ht3 (by omega)
                                                            have hcs3 := s_cst (n := ar3.toInt + ar4.toInt) h5 h6 hy.1 hpa.1 hv3.2.1 hv3.2.2
                                                            have hu3 := s_add e256 rfl hv3.1 (hcs3.2.2 (by omega))
                                                            have hn3 := s_cp (y := ar3) (z := z255) (by omega) e255
                                                            have hbm := s_bS_m (o := ar2.toNatClampNeg) (s := ar3.toNatClampNeg) hp h1
                                                            have hg3 := q257 P hc hb hp (by omega) (by omega) (by omega) (by omega) (by rw [hu3]; exact hcs3.1) (by rw [hu3, show z255.toInt + ar4.toInt = ar3.toInt + ar4.toInt + 1 from (by omega)]; exact hcs3.2.1) h7
                                                            rw [hz3, hu3, hn3, s_LS_k (k := k) (s_rem2 hk (by omega))] at hg3
                                                            have hA : s_BB (gi 28 4).toInt (gi 28 5).toInt (ar5.toInt + s_oS P (s_ls P k) (s_bS P ar1.toInt ar2.toNatClampNeg ar3.toNatClampNeg) ar3.toNatClampNeg ar4.toNatClampNeg) (gi257 28 4).toInt := s_oS_y ⟨by omega, hy.1, hy.2.2⟩ h5 h7 hg3
                                                            have hcA := hc.fr hC257 rfl rfl
                                                            have hE : (gi257 28 5).toInt = (gi 28 5).toInt := congrArg Int32.toInt (hC257.1 28 5 rfl).1
                                                            have hB1 : (gi257 28 4).toInt ≤ 1000000000 := Int.le_trans hA.2.2 h7
                                                            have n0A := hcA.1.1
                                                            have n1A := hcA.1.2
                                                            have hs4 := hcA.2.2.1 ar4.toNatClampNeg (by omega)
                                                            have hw4 : w264.toInt = P 5 ar4.toNatClampNeg := by rw [e264]; exact hs4.1
                                                            have ho4 : ar2.toNatClampNeg = 0 := by have := t_clamp (i := ar2) (by omega); omega
                                                            have hb4 : z265.toInt = (s_bC P ar1.toInt ar2.toNatClampNeg ar4.toNatClampNeg) := by unfold s_bC; rw [m265 rfl, hw4, ho4, if_neg (by decide)]
                                                            have hq4 := q266 (by omega) (by omega)
                                                            rw [hs4.1, hs4.2.2.2, hb4] at hq4
                                                            have hy := hq4.mp (by omega)
                                                            have hpa := hp.2.1 ar4.toNatClampNeg (by omega)
                                                            have hpb := hb.2.2.1 ar4.toNatClampNeg (by omega)
                                                            have hv4 := q272 (by omega) (by omega) (by rw [hs4.1, hb4]; exact s_bC_le) (by rw [hs4.1, hb4]; omega) (by rw [hs4.2.2.1]; exact hpa.2.2) (by rw [hs4.2.2.1]; exact hpb.2.2)
                                                            rw [hs4.1, hs4.2.2.1, hb4] at hv4
                                                            have ht4 : w274.toInt = P 6 ar4.toNatClampNeg := by rw [e274]; exact hs4.2.1
                                                            have hz4 := s_add e275 hb4 ht4 (by omega)
                                                            have hcs4 := s_cst (n := ar3.toInt + ar4.toInt) h5 h6 hy.1 hpa.1 hv4.2.1 hv4.2.2
                                                            have hu4 := s_add e277 rfl hv4.1 (hcs4.2.2 (by omega))
                                                            have hn4 := s_cp (y := ar4) (z := z276) (by omega) e276
                                                            have hbm := s_bC_m (o := ar2.toNatClampNeg) (c := ar4.toNatClampNeg) hp h1
                                                            have hg4 := q278 P hcA hb hp (by omega) (by omega) (by omega) (by omega) (by rw [hu4]; exact hcs4.1) (by rw [hu4, show ar3.toInt + z276.toInt = ar3.toInt + ar4.toInt + 1 from (by omega)]; exact hcs4.2.1) hB1
                                                            rw [hz4, hu4, hn4, hE, s_LS_k (k := k) (s_rem3 hk (by omega))] at hg4
                                                            have hD : s_BB (gi257 28 4).toInt (gi 28 5).toInt (ar5.toInt + s_oC P (s_ls P k) (s_bC P ar1.toInt ar2.toNatClampNeg ar4.toNatClampNeg) ar3.toNatClampNeg ar4.toNatClampNeg) (gi278 28 4).toInt := s_oC_y ⟨by omega, hy.1⟩ h5 hB1 hg4
                                                            exact s_LS_2 hk hd hA hD))⟩⟩
            · have r281 : ar2.toInt ≠ 0 := fun e => h224 (Int32.toInt_inj.mp (e.trans (by decide : (0:Int) = (0 : Int32).toInt)))
              have l282 : 1 ≤ ar2.toInt := t_nel h224 l_a2 rfl rfl
              refine ev_loc f_X1_search (nx := 76) rfl rfl rfl rfl ?_
              refine ev_jmp f_X1_search (nx := 84) rfl rfl rfl ?_
              refine ev_mmRE f_X1_search (nx := 87) (l := (-2147483648)) (u := 2147483647) rfl rfl rfl (by omega) rfl (t_lo w223) (t_hi w223) (t_lo ar1) (t_hi ar1) (by decide) (by decide) rfl (fun z283 m283 l283 u283 => ?_)
              refine ev_loc f_X1_search (nx := 89) (lo' := [(6, .int z283), (0, .ref 28), (1, .int ar1), (2, .int ar2), (3, .int ar3), (4, .int ar4), (5, .int ar5)]) rfl rfl rfl rfl ?_
              refine ev_loc f_X1_search (nx := 90) rfl rfl rfl rfl ?_
              refine ev_getR f_X1_search (nx := 93) rfl (hI.wf.s rfl) rfl rfl (hI.wf.r rfl) rfl rfl ?_
              refine ev_loc f_X1_search (nx := 94) rfl rfl rfl rfl ?_
              refine ev_loc f_X1_search (nx := 96) rfl rfl rfl rfl ?_
              refine ev_qI0 f_X1_search (nx := 99) (r := []) rfl rfl rfl rfl rfl rfl rfl (c_d_canBegin_29 hI (ar3) (z283)) rfl (fun w284 l284 u284 q284 => ?_)
              have q284 : s_may ar3.toInt (gi 29 0).toInt z283.toInt (gi 31 ar3.toNatClampNeg).toInt (gi 34 ar3.toNatClampNeg).toInt w284.toInt := q284
              refine ev_if f_X1_search (t1 := 141) (t2 := 102) rfl rfl rfl (fun h285 => ?_) (fun h285 => ?_)
              · have u286 : w284.toInt ≤ 0 := t_equ h285 (by decide : (0:Int32).toInt ≤ (0:Int))
                refine ev_loc f_X1_search (nx := 143) rfl rfl rfl rfl ?_
                refine ev_loc f_X1_search (nx := 144) rfl rfl rfl rfl ?_
                refine ev_getR f_X1_search (nx := 147) rfl (hI.wf.s rfl) rfl rfl (hI.wf.r rfl) rfl rfl ?_
                refine ev_gvI f_X1_search (nx := 150) (w := (gi 35 0)) rfl (hI.wf.s rfl) rfl rfl rfl rfl ?_
                refine ev_if f_X1_search (t1 := 236) (t2 := 153) rfl rfl rfl (fun h287 => ?_) (fun h287 => ?_)
                · have r288 : (gi 35 0).toInt ≤ ar4.toInt := Int32.le_iff_toInt_le.mp h287
                  have u289 : (gi 35 0).toInt ≤ 5 := t_leu h287 u179
                  have l290 : 1 ≤ ar4.toInt := t_lel h287 l180
                  exact ev_ret f_X1_search rfl rfl rfl ⟨_, _, _, rfl, hI, hX, ⟨rfl, (show ∀ P : Nat → Nat → Int, s_CP P gi gr → s_PB P → s_PO P → 0 ≤ ar1.toInt → ar1.toInt ≤ 2000 → ar3.toInt ≤ P 0 0 → ar4.toInt ≤ P 0 1 → 0 ≤ ar5.toInt → ar5.toInt ≤ 240000 * (ar3.toInt + ar4.toInt) → (gi 28 4).toInt ≤ 1000000000 → s_BB (gi 28 4).toInt (gi 28 5).toInt (ar5.toInt + s_LS P ar1.toInt ar2.toNatClampNeg ar3.toNatClampNeg ar4.toNatClampNeg) (gi 28 4).toInt from (by
                                                            intro P hc hb hp h1 h2 h3 h4 h5 h6 h7
                                                            have n0 := hc.1.1
                                                            have n1 := hc.1.2
                                                            have c3 := t_clamp (i := ar3) l_a3
                                                            have c4 := t_clamp (i := ar4) l_a4
                                                            have hd : ¬ (P 0 0 ≤ ((ar3.toNatClampNeg : Nat) : Int) ∧ P 0 1 ≤ ((ar4.toNatClampNeg : Nat) : Int)) := s_hdC (by omega)
                                                            obtain ⟨k, hk⟩ := s_rem1 hd
                                                            have hs3 := hc.2.1 ar3.toNatClampNeg (by omega)
                                                            have hw3 : w223.toInt = P 1 ar3.toNatClampNeg := by rw [e223]; exact hs3.1
                                                            have ho3 : ar2.toNatClampNeg = 1 := by have := t_clamp (i := ar2) (by omega); omega
                                                            have hb3 : z283.toInt = (s_bS P ar1.toInt ar2.toNatClampNeg ar3.toNatClampNeg) := by unfold s_bS; rw [m283 rfl, hw3, ho3, if_pos rfl]
                                                            have hq3 := q284 (by omega) (by omega)
                                                            rw [hs3.1, hs3.2.2.2, hb3] at hq3
                                                            have hA : s_BB (gi 28 4).toInt (gi 28 5).toInt (ar5.toInt + s_oS P (s_ls P k) (s_bS P ar1.toInt ar2.toNatClampNeg ar3.toNatClampNeg) ar3.toNatClampNeg ar4.toNatClampNeg) (gi 28 4).toInt := s_oS_n (fun hh => by have h9 := hq3.mpr ⟨hh.2.1, s_bS_le, hh.2.2⟩; omega) h5 h7 rfl
                                                            have hD : s_BB (gi 28 4).toInt (gi 28 5).toInt (ar5.toInt + s_oC P (s_ls P k) (s_bC P ar1.toInt ar2.toNatClampNeg ar4.toNatClampNeg) ar3.toNatClampNeg ar4.toNatClampNeg) (gi 28 4).toInt := s_oC_n (fun hh => absurd hh.1 (by omega)) h5 h7 rfl
                                                            exact s_LS_2 hk hd hA hD))⟩⟩
                · have r291 : ar4.toInt < (gi 35 0).toInt := Int32.lt_iff_toInt_lt.mp (t_nle h287)
                  refine ev_loc f_X1_search (nx := 154) rfl rfl rfl rfl ?_
                  refine ev_getR f_X1_search (nx := 157) rfl (hI.wf.s rfl) rfl rfl (hI.wf.r rfl) rfl rfl ?_
                  refine ev_getR f_X1_search (nx := 160) rfl (hI.wf.s rfl) rfl rfl (hI.wf.r rfl) rfl rfl ?_
                  refine ev_loc f_X1_search (nx := 162) rfl rfl rfl rfl ?_
                  refine ev_ialdT f_X1_search (nx := 163) rfl (hI.wf.s rfl) l_a4 (by decide) u179 (by decide) rfl (fun w292 e292 => ?_)
                  refine ev_loc f_X1_search (nx := 164) rfl rfl rfl rfl ?_
                  refine ev_f f_X1_search (t1 := 175) (t2 := 167) rfl rfl rfl (t_neT' (by decide : (0:Int32).toInt ≤ (0:Int)) l282 (by decide)) ?_
                  refine ev_loc f_X1_search (nx := 168) rfl rfl rfl rfl ?_
                  refine ev_loc f_X1_search (nx := 169) rfl rfl rfl rfl ?_
                  refine ev_qI0 f_X1_search (nx := 172) (r := [.int w292]) rfl rfl rfl rfl rfl rfl rfl (c_d_turnEnd hI (ar1)) rfl (fun w293 l293 u293 q293 => ?_)
                  have q293 : ∀ P : Nat → Nat → Int, s_CP P gi gr → s_PB P → 0 ≤ ar1.toInt → ar1.toInt ≤ 3000 → w293.toInt = ar1.toInt + P 8 ar1.toInt.toNat := q293
                  refine ev_jmp f_X1_search (nx := 176) rfl rfl rfl ?_
                  refine ev_mmRE f_X1_search (nx := 179) (l := (-2147483648)) (u := 2147483647) rfl rfl rfl (by omega) rfl (t_lo w292) (t_hi w292) l293 u293 (by decide) (by decide) rfl (fun z294 m294 l294 u294 => ?_)
                  refine ev_loc f_X1_search (nx := 181) (lo' := [(6, .int z294), (0, .ref 28), (1, .int ar1), (2, .int ar2), (3, .int ar3), (4, .int ar4), (5, .int ar5)]) rfl rfl rfl rfl ?_
                  refine ev_loc f_X1_search (nx := 182) rfl rfl rfl rfl ?_
                  refine ev_getR f_X1_search (nx := 185) rfl (hI.wf.s rfl) rfl rfl (hI.wf.r rfl) rfl rfl ?_
                  refine ev_loc f_X1_search (nx := 187) rfl rfl rfl rfl ?_
                  refine ev_loc f_X1_search (nx := 189) rfl rfl rfl rfl ?_
                  refine ev_qI0 f_X1_search (nx := 192) (r := []) rfl rfl rfl rfl rfl rfl rfl (c_d_canBegin_35 hI (ar4) (z294)) rfl (fun w295 l295 u295 q295 => ?_)
                  have q295 : s_may ar4.toInt (gi 35 0).toInt z294.toInt (gi 37 ar4.toNatClampNeg).toInt (gi 40 ar4.toNatClampNeg).toInt w295.toInt := q295
                  refine ev_if f_X1_search (t1 := 236) (t2 := 195) rfl rfl rfl (fun h296 => ?_) (fun h296 => ?_)
                  · have u297 : w295.toInt ≤ 0 := t_equ h296 (by decide : (0:Int32).toInt ≤ (0:Int))
                    exact ev_ret f_X1_search rfl rfl rfl ⟨_, _, _, rfl, hI, hX, ⟨rfl, (show ∀ P : Nat → Nat → Int, s_CP P gi gr → s_PB P → s_PO P → 0 ≤ ar1.toInt → ar1.toInt ≤ 2000 → ar3.toInt ≤ P 0 0 → ar4.toInt ≤ P 0 1 → 0 ≤ ar5.toInt → ar5.toInt ≤ 240000 * (ar3.toInt + ar4.toInt) → (gi 28 4).toInt ≤ 1000000000 → s_BB (gi 28 4).toInt (gi 28 5).toInt (ar5.toInt + s_LS P ar1.toInt ar2.toNatClampNeg ar3.toNatClampNeg ar4.toNatClampNeg) (gi 28 4).toInt from (by
                                                            intro P hc hb hp h1 h2 h3 h4 h5 h6 h7
                                                            have n0 := hc.1.1
                                                            have n1 := hc.1.2
                                                            have c3 := t_clamp (i := ar3) l_a3
                                                            have c4 := t_clamp (i := ar4) l_a4
                                                            have hd : ¬ (P 0 0 ≤ ((ar3.toNatClampNeg : Nat) : Int) ∧ P 0 1 ≤ ((ar4.toNatClampNeg : Nat) : Int)) := s_hdC (by omega)
                                                            obtain ⟨k, hk⟩ := s_rem1 hd
                                                            have hs3 := hc.2.1 ar3.toNatClampNeg (by omega)
                                                            have hw3 : w223.toInt = P 1 ar3.toNatClampNeg := by rw [e223]; exact hs3.1
                                                            have ho3 : ar2.toNatClampNeg = 1 := by have := t_clamp (i := ar2) (by omega); omega
                                                            have hb3 : z283.toInt = (s_bS P ar1.toInt ar2.toNatClampNeg ar3.toNatClampNeg) := by unfold s_bS; rw [m283 rfl, hw3, ho3, if_pos rfl]
                                                            have hq3 := q284 (by omega) (by omega)
                                                            rw [hs3.1, hs3.2.2.2, hb3] at hq3
                                                            have hA : s_BB (gi 28 4).toInt (gi 28 5).toInt (ar5.toInt + s_oS P (s_ls P k) (s_bS P ar1.toInt ar2.toNatClampNeg ar3.toNatClampNeg) ar3.toNatClampNeg ar4.toNatClampNeg) (gi 28 4).toInt := s_oS_n (fun hh => by have h9 := hq3.mpr ⟨hh.2.1, s_bS_le, hh.2.2⟩; omega) h5 h7 rfl
                                                            have hs4 := hc.2.2.1 ar4.toNatClampNeg (by omega)
                                                            have hw4 : w292.toInt = P 5 ar4.toNatClampNeg := by rw [e292]; exact hs4.1
                                                            have ho4 : ar2.toNatClampNeg = 1 := by have := t_clamp (i := ar2) (by omega); omega
                                                            have hy4 := q293 P hc hb h1 (by omega)
                                                            have hb4 : z294.toInt = (s_bC P ar1.toInt ar2.toNatClampNeg ar4.toNatClampNeg) := by unfold s_bC; rw [m294 rfl, hw4, ho4, if_pos rfl, hy4]
                                                            have hq4 := q295 (by omega) (by omega)
                                                            rw [hs4.1, hs4.2.2.2, hb4] at hq4
                                                            have hD : s_BB (gi 28 4).toInt (gi 28 5).toInt (ar5.toInt + s_oC P (s_ls P k) (s_bC P ar1.toInt ar2.toNatClampNeg ar4.toNatClampNeg) ar3.toNatClampNeg ar4.toNatClampNeg) (gi 28 4).toInt := s_oC_n (fun hh => by have h9 := hq4.mpr ⟨hh.2, s_bC_le, Or.inl rfl⟩; omega) h5 h7 rfl
                                                            exact s_LS_2 hk hd hA hD))⟩⟩
                  · have r298 : w295.toInt ≠ 0 := fun e => h296 (Int32.toInt_inj.mp (e.trans (by decide : (0:Int) = (0 : Int32).toInt)))
                    have l299 : 1 ≤ w295.toInt := t_nel h296 l295 rfl rfl
                    refine ev_loc f_X1_search (nx := 196) rfl rfl rfl rfl ?_
                    refine ev_getR f_X1_search (nx := 199) rfl (hI.wf.s rfl) rfl rfl (hI.wf.r rfl) rfl rfl ?_
                    refine ev_loc f_X1_search (nx := 201) rfl rfl rfl rfl ?_
                    refine ev_loc f_X1_search (nx := 203) rfl rfl rfl rfl ?_
                    refine ev_qI0 f_X1_search (nx := 206) (r := []) rfl rfl rfl rfl rfl rfl rfl (c_d_waitsOf_35 hI (ar4) (z294)) rfl (fun w300 l300 u300 q300 => ?_)
                    have q300 : s_wts ar4.toInt (gi 35 0).toInt z294.toInt (gi 37 ar4.toNatClampNeg).toInt (gi 39 ar4.toNatClampNeg).toInt w300.toInt := q300
                    refine ev_loc f_X1_search (nx := 208) (lo' := [(7, .int w300), (6, .int z294), (0, .ref 28), (1, .int ar1), (2, .int ar2), (3, .int ar3), (4, .int ar4), (5, .int ar5)]) rfl rfl rfl rfl ?_
                    refine ev_loc f_X1_search (nx := 209) rfl rfl rfl rfl ?_
                    refine ev_loc f_X1_search (nx := 211) rfl rfl rfl rfl ?_
                    refine ev_loc f_X1_search (nx := 212) rfl rfl rfl rfl ?_
                    refine ev_getR f_X1_search (nx := 215) rfl (hI.wf.s rfl) rfl rfl (hI.wf.r rfl) rfl rfl ?_
                    refine ev_getR f_X1_search (nx := 218) rfl (hI.wf.s rfl) rfl rfl (hI.wf.r rfl) rfl rfl ?_
                    refine ev_loc f_X1_search (nx := 220) rfl rfl rfl rfl ?_
                    refine ev_ialdT f_X1_search (nx := 221) rfl (hI.wf.s rfl) l_a4 (by decide) u179 (by decide) rfl (fun w301 e301 => ?_)
                    refine ev_anyIE f_X1_search (nx := 222) rfl rfl rfl rfl (fun z302 e302 => ?_)
                    refine ev_ic f_X1_search (nx := 223) (v := 0) rfl (by decide) rfl ?_
                    refine ev_loc f_X1_search (nx := 224) rfl rfl rfl rfl ?_
                    refine ev_loc f_X1_search (nx := 226) rfl rfl rfl rfl ?_
                    refine ev_ic f_X1_search (nx := 227) (v := 1) rfl (by decide) rfl ?_
                    refine ev_addC f_X1_search (nx := 228) (c := 1) (l := 1) (u := 6) rfl (by decide) l_a4 u179 rfl rfl (by decide) (by decide) rfl (fun z303 e303 l303 u303 => ?_)
                    refine ev_loc f_X1_search (nx := 230) rfl rfl rfl rfl ?_
                    refine ev_loc f_X1_search (nx := 232) rfl rfl rfl rfl ?_
                    refine ev_anyIE f_X1_search (nx := 233) rfl rfl rfl rfl (fun z304 e304 => ?_)
                    refine ev_qN f_X1_search (nx := 236) (r := []) rfl rfl rfl rfl rfl rfl rfl (x_Me.up (ih hI (z302) (0) (by decide : (0:Int) ≤ (0:Int32).toInt) (Int.le_trans (by decide : (0:Int32).toInt ≤ (0:Int)) (by decide : (0:Int) ≤ 1)) (ar3) l_a3 (Int.le_trans u221 (by decide : (5:Int) ≤ 6)) (z303) (Int.le_trans (by decide : (0:Int) ≤ 1) l303) u303 (z304) (by omega)) (by omega)) rfl hX rfl (fun gi305 gl305 gr305 hI hX hC305 q305 => ?_)
                    have q305 : ∀ P : Nat → Nat → Int, s_CP P gi gr → s_PB P → s_PO P → 0 ≤ z302.toInt → z302.toInt ≤ 2000 → ar3.toInt ≤ P 0 0 → z303.toInt ≤ P 0 1 → 0 ≤ z304.toInt → z304.toInt ≤ 240000 * (ar3.toInt + z303.toInt) → (gi 28 4).toInt ≤ 1000000000 → s_BB (gi 28 4).toInt (gi 28 5).toInt (z304.toInt + s_LS P z302.toInt (0 : Int32).toNatClampNeg ar3.toNatClampNeg z303.toNatClampNeg) (gi305 28 4).toInt := q305
                    exact ev_ret f_X1_search rfl rfl rfl ⟨_, _, _, rfl, hI, hX, ⟨rfl, (show ∀ P : Nat → Nat → Int, s_CP P gi gr → s_PB P → s_PO P → 0 ≤ ar1.toInt → ar1.toInt ≤ 2000 → ar3.toInt ≤ P 0 0 → ar4.toInt ≤ P 0 1 → 0 ≤ ar5.toInt → ar5.toInt ≤ 240000 * (ar3.toInt + ar4.toInt) → (gi 28 4).toInt ≤ 1000000000 → s_BB (gi 28 4).toInt (gi 28 5).toInt (ar5.toInt + s_LS P ar1.toInt ar2.toNatClampNeg ar3.toNatClampNeg ar4.toNatClampNeg) (gi305 28 4).toInt from (by
                                                            intro P hc hb hp h1 h2 h3 h4 h5 h6 h7
                                                            have n0 := hc.1.1
                                                            have n1 := hc.1.2
                                                            have c3 := t_clamp (i := ar3) l_a3
                                                            have c4 := t_clamp (i := ar4) l_a4
                                                            have hd : ¬ (P 0 0 ≤ ((ar3.toNatClampNeg : Nat) : Int) ∧ P 0 1 ≤ ((ar4.toNatClampNeg : Nat) : Int)) := s_hdC (by omega)
                                                            obtain ⟨k, hk⟩ := s_rem1 hd
                                                            have hs3 := hc.2.1 ar3.toNatClampNeg (by omega)
                                                            have hw3 : w223.toInt = P 1 ar3.toNatClampNeg := by rw [e223]; exact hs3.1
                                                            have ho3 : ar2.toNatClampNeg = 1 := by have := t_clamp (i := ar2) (by omega); omega
                                                            have hb3 : z283.toInt = (s_bS P ar1.toInt ar2.toNatClampNeg ar3.toNatClampNeg) := by unfold s_bS; rw [m283 rfl, hw3, ho3, if_pos rfl]
                                                            have hq3 := q284 (by omega) (by omega)
                                                            rw [hs3.1, hs3.2.2.2, hb3] at hq3
                                                            have hA : s_BB (gi 28 4).toInt (gi 28 5).toInt (ar5.toInt + s_oS P (s_ls P k) (s_bS P ar1.toInt ar2.toNatClampNeg ar3.toNatClampNeg) ar3.toNatClampNeg ar4.toNatClampNeg) (gi 28 4).toInt := s_oS_n (fun hh => by have h9 := hq3.mpr ⟨hh.2.1, s_bS_le, hh.2.2⟩; omega) h5 h7 rfl
                                                            have hs4 := hc.2.2.1 ar4.toNatClampNeg (by omega)
                                                            have hw4 : w292.toInt = P 5 ar4.toNatClampNeg := by rw [e292]; exact hs4.1
                                                            have ho4 : ar2.toNatClampNeg = 1 := by have := t_clamp (i := ar2) (by omega); omega
                                                            have hy4 := q293 P hc hb h1 (by omega)
                                                            have hb4 : z294.toInt = (s_bC P ar1.toInt ar2.toNatClampNeg ar4.toNatClampNeg) := by unfold s_bC; rw [m294 rfl, hw4, ho4, if_pos rfl, hy4]
                                                            have hq4 := q295 (by omega) (by omega)
                                                            rw [hs4.1, hs4.2.2.2, hb4] at hq4
                                                            have hy := hq4.mp (by omega)
                                                            have hpa := hp.2.1 ar4.toNatClampNeg (by omega)
                                                            have hpb := hb.2.2.1 ar4.toNatClampNeg (by omega)
                                                            have hv4 := q300 (by omega) (by omega) (by rw [hs4.1, hb4]; exact s_bC_le) (by rw [hs4.1, hb4]; omega) (by rw [hs4.2.2.1]; exact hpa.2.2) (by rw [hs4.2.2.1]; exact hpb.2.2)
                                                            rw [hs4.1, hs4.2.2.1, hb4] at hv4
                                                            have ht4 : w301.toInt = P 6 ar4.toNatClampNeg := by rw [e301]; exact hs4.2.1
                                                            have hz4 := s_add e302 hb4 ht4 (by omega)
                                                            have hcs4 := s_cst (n := ar3.toInt + ar4.toInt) h5 h6 hy.1 hpa.1 hv4.2.1 hv4.2.2
                                                            have hu4 := s_add e304 rfl hv4.1 (hcs4.2.2 (by omega))
                                                            have hn4 := s_cp (y := ar4) (z := z303) (by omega) e303
                                                            have hbm := s_bC_m (o := ar2.toNatClampNeg) (c := ar4.toNatClampNeg) hp h1
                                                            have hg4 := q305 P hc hb hp (by omega) (by omega) (by omega) (by omega) (by rw [hu4]; exact hcs4.1) (by rw [hu4, show ar3.toInt + z303.toInt = ar3.toInt + ar4.toInt + 1 from (by omega)]; exact hcs4.2.1) h7
                                                            rw [hz4, hu4, hn4, s_LS_k (k := k) (s_rem3 hk (by omega))] at hg4
                                                            have hD : s_BB (gi 28 4).toInt (gi 28 5).toInt (ar5.toInt + s_oC P (s_ls P k) (s_bC P ar1.toInt ar2.toNatClampNeg ar4.toNatClampNeg) ar3.toNatClampNeg ar4.toNatClampNeg) (gi305 28 4).toInt := s_oC_y ⟨by omega, hy.1⟩ h5 h7 hg4
                                                            exact s_LS_2 hk hd hA hD))⟩⟩
              · have r307 : w284.toInt ≠ 0 := fun e => h285 (Int32.toInt_inj.mp (e.trans (by decide : (0:Int) = (0 : Int32).toInt)))
                have l308 : 1 ≤ w284.toInt := t_nel h285 l284 rfl rfl
                refine ev_loc f_X1_search (nx := 103) rfl rfl rfl rfl ?_
                refine ev_getR f_X1_search (nx := 106) rfl (hI.wf.s rfl) rfl rfl (hI.wf.r rfl) rfl rfl ?_
                refine ev_loc f_X1_search (nx := 107) rfl rfl rfl rfl ?_
                refine ev_loc f_X1_search (nx := 109) rfl rfl rfl rfl ?_
                refine ev_qI0 f_X1_search (nx := 112) (r := []) rfl rfl rfl rfl rfl rfl rfl (c_d_waitsOf_29 hI (ar3) (z283)) rfl (fun w309 l309 u309 q309 => ?_)
                have q309 : s_wts ar3.toInt (gi 29 0).toInt z283.toInt (gi 31 ar3.toNatClampNeg).toInt (gi 33 ar3.toNatClampNeg).toInt w309.toInt := q309
                refine ev_loc f_X1_search (nx := 114) (lo' := [(7, .int w309), (6, .int z283), (0, .ref 28), (1, .int ar1), (2, .int ar2), (3, .int ar3), (4, .int ar4), (5, .int ar5)]) rfl rfl rfl rfl ?_
                refine ev_loc f_X1_search (nx := 115) rfl rfl rfl rfl ?_
                refine ev_loc f_X1_search (nx := 117) rfl rfl rfl rfl ?_
                refine ev_loc f_X1_search (nx := 118) rfl rfl rfl rfl ?_
                refine ev_getR f_X1_search (nx := 121) rfl (hI.wf.s rfl) rfl rfl (hI.wf.r rfl) rfl rfl ?_
                refine ev_getR f_X1_search (nx := 124) rfl (hI.wf.s rfl) rfl rfl (hI.wf.r rfl) rfl rfl ?_
                refine ev_loc f_X1_search (nx := 125) rfl rfl rfl rfl ?_
                refine ev_ialdT f_X1_search (nx := 126) rfl (hI.wf.s rfl) l_a3 (by decide) u221 (by decide) rfl (fun w310 e310 => ?_)
                refine ev_anyIE f_X1_search (nx := 127) rfl rfl rfl rfl (fun z311 e311 => ?_)
                refine ev_ic f_X1_search (nx := 128) (v := 1) rfl (by decide) rfl ?_
                refine ev_loc f_X1_search (nx := 129) rfl rfl rfl rfl ?_
                refine ev_ic f_X1_search (nx := 130) (v := 1) rfl (by decide) rfl ?_
                refine ev_addC f_X1_search (nx := 131) (c := 1) (l := 1) (u := 6) rfl (by decide) l_a3 u221 rfl rfl (by decide) (by decide) rfl (fun z312 e312 l312 u312 => ?_)
                refine ev_loc f_X1_search (nx := 133) rfl rfl rfl rfl ?_
                refine ev_loc f_X1_search (nx := 135) rfl rfl rfl rfl ?_
                refine ev_loc f_X1_search (nx := 137) rfl rfl rfl rfl ?_
                refine ev_anyIE f_X1_search (nx := 138) rfl rfl rfl rfl (fun z313 e313 => ?_)
                refine ev_qN f_X1_search (nx := 141) (r := []) rfl rfl rfl rfl rfl rfl rfl (x_Me.up (ih hI (z311) (1) (Int.le_trans (by decide : (0:Int) ≤ 1) (by decide : (1:Int) ≤ (1:Int32).toInt)) (by decide : (1:Int32).toInt ≤ (1:Int)) (z312) (Int.le_trans (by decide : (0:Int) ≤ 1) l312) u312 (ar4) l_a4 (Int.le_trans u179 (by decide : (5:Int) ≤ 6)) (z313) (by omega)) (by omega)) rfl hX rfl (fun gi314 gl314 gr314 hI hX hC314 q314 => ?_)
                have q314 : ∀ P : Nat → Nat → Int, s_CP P gi gr → s_PB P → s_PO P → 0 ≤ z311.toInt → z311.toInt ≤ 2000 → z312.toInt ≤ P 0 0 → ar4.toInt ≤ P 0 1 → 0 ≤ z313.toInt → z313.toInt ≤ 240000 * (z312.toInt + ar4.toInt) → (gi 28 4).toInt ≤ 1000000000 → s_BB (gi 28 4).toInt (gi 28 5).toInt (z313.toInt + s_LS P z311.toInt (1 : Int32).toNatClampNeg z312.toNatClampNeg ar4.toNatClampNeg) (gi314 28 4).toInt := q314
                refine ev_loc f_X1_search (nx := 143) rfl rfl rfl rfl ?_
                refine ev_loc f_X1_search (nx := 144) rfl rfl rfl rfl ?_
                refine ev_getR f_X1_search (nx := 147) rfl (hI.wf.s rfl) rfl rfl (hI.wf.r rfl) rfl rfl ?_
                refine ev_gvI f_X1_search (nx := 150) (w := (gi 35 0)) rfl (hI.wf.s rfl) rfl rfl ((hC314.1 35 0 rfl).1.trans rfl) rfl ?_
                refine ev_if f_X1_search (t1 := 236) (t2 := 153) rfl rfl rfl (fun h316 => ?_) (fun h316 => ?_)
                · have r317 : (gi 35 0).toInt ≤ ar4.toInt := Int32.le_iff_toInt_le.mp h316
                  have u318 : (gi 35 0).toInt ≤ 5 := t_leu h316 u179
                  have l319 : 1 ≤ ar4.toInt := t_lel h316 l180
                  exact ev_ret f_X1_search rfl rfl rfl ⟨_, _, _, rfl, hI, hX, ⟨rfl, (show ∀ P : Nat → Nat → Int, s_CP P gi gr → s_PB P → s_PO P → 0 ≤ ar1.toInt → ar1.toInt ≤ 2000 → ar3.toInt ≤ P 0 0 → ar4.toInt ≤ P 0 1 → 0 ≤ ar5.toInt → ar5.toInt ≤ 240000 * (ar3.toInt + ar4.toInt) → (gi 28 4).toInt ≤ 1000000000 → s_BB (gi 28 4).toInt (gi 28 5).toInt (ar5.toInt + s_LS P ar1.toInt ar2.toNatClampNeg ar3.toNatClampNeg ar4.toNatClampNeg) (gi314 28 4).toInt from (by
                                                            intro P hc hb hp h1 h2 h3 h4 h5 h6 h7
                                                            have n0 := hc.1.1
                                                            have n1 := hc.1.2
                                                            have c3 := t_clamp (i := ar3) l_a3
                                                            have c4 := t_clamp (i := ar4) l_a4
                                                            have hd : ¬ (P 0 0 ≤ ((ar3.toNatClampNeg : Nat) : Int) ∧ P 0 1 ≤ ((ar4.toNatClampNeg : Nat) : Int)) := s_hdC (by omega)
                                                            obtain ⟨k, hk⟩ := s_rem1 hd
                                                            have hs3 := hc.2.1 ar3.toNatClampNeg (by omega)
                                                            have hw3 : w223.toInt = P 1 ar3.toNatClampNeg := by rw [e223]; exact hs3.1
                                                            have ho3 : ar2.toNatClampNeg = 1 := by have := t_clamp (i := ar2) (by omega); omega
                                                            have hb3 : z283.toInt = (s_bS P ar1.toInt ar2.toNatClampNeg ar3.toNatClampNeg) := by unfold s_bS; rw [m283 rfl, hw3, ho3, if_pos rfl]
                                                            have hq3 := q284 (by omega) (by omega)
                                                            rw [hs3.1, hs3.2.2.2, hb3] at hq3
                                                            have hy := hq3.mp (by omega)
                                                            have hpa := hp.1 ar3.toNatClampNeg (by omega)
                                                            have hpb := hb.2.1 ar3.toNatClampNeg (by omega)
                                                            have hv3 := q309 (by omega) (by omega) (by rw [hs3.1, hb3]; exact s_bS_le) (by rw [hs3.1, hb3]; omega) (by rw [hs3.2.2.1]; exact hpa.2.2) (by rw [hs3.2.2.1]; exact hpb.2.2)
                                                            rw [hs3.1, hs3.2.2.1, hb3] at hv3
                                                            have ht3 : w310.toInt = P 2 ar3.toNatClampNeg := by rw [e310]; exact hs3.2.1
                                                            have hz3 := s_add e311 hb3 ht3 (by omega)
                                                            have hcs3 := s_cst (n := ar3.toInt + ar4.toInt) h5 h6 hy.1 hpa.1 hv3.2.1 hv3.2.2
                                                            have hu3 := s_add e313 rfl hv3.1 (hcs3.2.2 (by omega))
                                                            have hn3 := s_cp (y := ar3) (z := z312) (by omega) e312
                                                            have hbm := s_bS_m (o := ar2.toNatClampNeg) (s := ar3.toNatClampNeg) hp h1
                                                            have hg3 := q314 P hc hb hp (by omega) (by omega) (by omega) (by omega) (by rw [hu3]; exact hcs3.1) (by rw [hu3, show z312.toInt + ar4.toInt = ar3.toInt + ar4.toInt + 1 from (by omega)]; exact hcs3.2.1) h7
                                                            rw [hz3, hu3, hn3, s_LS_k (k := k) (s_rem2 hk (by omega))] at hg3
                                                            have hA : s_BB (gi 28 4).toInt (gi 28 5).toInt (ar5.toInt + s_oS P (s_ls P k) (s_bS P ar1.toInt ar2.toNatClampNeg ar3.toNatClampNeg) ar3.toNatClampNeg ar4.toNatClampNeg) (gi314 28 4).toInt := s_oS_y ⟨by omega, hy.1, hy.2.2⟩ h5 h7 hg3
                                                            have hcA := hc.fr hC314 rfl rfl
                                                            have hE : (gi314 28 5).toInt = (gi 28 5).toInt := congrArg Int32.toInt (hC314.1 28 5 rfl).1
                                                            have hB1 : (gi314 28 4).toInt ≤ 1000000000 := Int.le_trans hA.2.2 h7
                                                            have n0A := hcA.1.1
                                                            have n1A := hcA.1.2
                                                            have hD : s_BB (gi314 28 4).toInt (gi 28 5).toInt (ar5.toInt + s_oC P (s_ls P k) (s_bC P ar1.toInt ar2.toNatClampNeg ar4.toNatClampNeg) ar3.toNatClampNeg ar4.toNatClampNeg) (gi314 28 4).toInt := s_oC_n (fun hh => absurd hh.1 (by omega)) h5 hB1 rfl
                                                            exact s_LS_2 hk hd hA hD))⟩⟩
                · have r320 : ar4.toInt < (gi 35 0).toInt := Int32.lt_iff_toInt_lt.mp (t_nle h316)
                  refine ev_loc f_X1_search (nx := 154) rfl rfl rfl rfl ?_
                  refine ev_getR f_X1_search (nx := 157) rfl (hI.wf.s rfl) rfl rfl (hI.wf.r rfl) rfl rfl ?_
                  refine ev_getR f_X1_search (nx := 160) rfl (hI.wf.s rfl) rfl rfl (hI.wf.r rfl) rfl rfl ?_
                  refine ev_loc f_X1_search (nx := 162) rfl rfl rfl rfl ?_
                  refine ev_ialdT f_X1_search (nx := 163) rfl (hI.wf.s rfl) l_a4 (by decide) u179 (by decide) rfl (fun w321 e321 => ?_)
                  refine ev_loc f_X1_search (nx := 164) rfl rfl rfl rfl ?_
                  refine ev_f f_X1_search (t1 := 175) (t2 := 167) rfl rfl rfl (t_neT' (by decide : (0:Int32).toInt ≤ (0:Int)) l282 (by decide)) ?_
                  refine ev_loc f_X1_search (nx := 168) rfl rfl rfl rfl ?_
                  refine ev_loc f_X1_search (nx := 169) rfl rfl rfl rfl ?_
                  refine ev_qI0 f_X1_search (nx := 172) (r := [.int w321]) rfl rfl rfl rfl rfl rfl rfl (c_d_turnEnd hI (ar1)) rfl (fun w322 l322 u322 q322 => ?_)
                  have q322 : ∀ P : Nat → Nat → Int, s_CP P gi314 gr314 → s_PB P → 0 ≤ ar1.toInt → ar1.toInt ≤ 3000 → w322.toInt = ar1.toInt + P 8 ar1.toInt.toNat := q322
                  refine ev_jmp f_X1_search (nx := 176) rfl rfl rfl ?_
                  refine ev_mmRE f_X1_search (nx := 179) (l := (-2147483648)) (u := 2147483647) rfl rfl rfl (by omega) rfl (t_lo w321) (t_hi w321) l322 u322 (by decide) (by decide) rfl (fun z323 m323 l323 u323 => ?_)
                  refine ev_loc f_X1_search (nx := 181) (lo' := [(6, .int z323), (7, .int w309), (0, .ref 28), (1, .int ar1), (2, .int ar2), (3, .int ar3), (4, .int ar4), (5, .int ar5)]) rfl rfl rfl rfl ?_
                  refine ev_loc f_X1_search (nx := 182) rfl rfl rfl rfl ?_
                  refine ev_getR f_X1_search (nx := 185) rfl (hI.wf.s rfl) rfl rfl (hI.wf.r rfl) rfl rfl ?_
                  refine ev_loc f_X1_search (nx := 187) rfl rfl rfl rfl ?_
                  refine ev_loc f_X1_search (nx := 189) rfl rfl rfl rfl ?_
                  refine ev_qI0 f_X1_search (nx := 192) (r := []) rfl rfl rfl rfl rfl rfl rfl (c_d_canBegin_35 hI (ar4) (z323)) rfl (fun w324 l324 u324 q324 => ?_)
                  have ff325 : (gi314 35 0).toInt = (gi 35 0).toInt := congrArg Int32.toInt ((hC314.1 35 0 rfl).1.trans rfl)
                  have q324 : s_may ar4.toInt (gi314 35 0).toInt z323.toInt (gi314 37 ar4.toNatClampNeg).toInt (gi314 40 ar4.toNatClampNeg).toInt w324.toInt := q324
                  refine ev_if f_X1_search (t1 := 236) (t2 := 195) rfl rfl rfl (fun h326 => ?_) (fun h326 => ?_)
                  · have u327 : w324.toInt ≤ 0 := t_equ h326 (by decide : (0:Int32).toInt ≤ (0:Int))
                    exact ev_ret f_X1_search rfl rfl rfl ⟨_, _, _, rfl, hI, hX, ⟨rfl, (show ∀ P : Nat → Nat → Int, s_CP P gi gr → s_PB P → s_PO P → 0 ≤ ar1.toInt → ar1.toInt ≤ 2000 → ar3.toInt ≤ P 0 0 → ar4.toInt ≤ P 0 1 → 0 ≤ ar5.toInt → ar5.toInt ≤ 240000 * (ar3.toInt + ar4.toInt) → (gi 28 4).toInt ≤ 1000000000 → s_BB (gi 28 4).toInt (gi 28 5).toInt (ar5.toInt + s_LS P ar1.toInt ar2.toNatClampNeg ar3.toNatClampNeg ar4.toNatClampNeg) (gi314 28 4).toInt from (by
                                                            intro P hc hb hp h1 h2 h3 h4 h5 h6 h7
                                                            have n0 := hc.1.1
                                                            have n1 := hc.1.2
                                                            have c3 := t_clamp (i := ar3) l_a3
                                                            have c4 := t_clamp (i := ar4) l_a4
                                                            have hd : ¬ (P 0 0 ≤ ((ar3.toNatClampNeg : Nat) : Int) ∧ P 0 1 ≤ ((ar4.toNatClampNeg : Nat) : Int)) := s_hdC (by omega)
                                                            obtain ⟨k, hk⟩ := s_rem1 hd
                                                            have hs3 := hc.2.1 ar3.toNatClampNeg (by omega)
                                                            have hw3 : w223.toInt = P 1 ar3.toNatClampNeg := by rw [e223]; exact hs3.1
                                                            have ho3 : ar2.toNatClampNeg = 1 := by have := t_clamp (i := ar2) (by omega); omega
                                                            have hb3 : z283.toInt = (s_bS P ar1.toInt ar2.toNatClampNeg ar3.toNatClampNeg) := by unfold s_bS; rw [m283 rfl, hw3, ho3, if_pos rfl]
                                                            have hq3 := q284 (by omega) (by omega)
                                                            rw [hs3.1, hs3.2.2.2, hb3] at hq3
                                                            have hy := hq3.mp (by omega)
                                                            have hpa := hp.1 ar3.toNatClampNeg (by omega)
                                                            have hpb := hb.2.1 ar3.toNatClampNeg (by omega)
                                                            have hv3 := q309 (by omega) (by omega) (by rw [hs3.1, hb3]; exact s_bS_le) (by rw [hs3.1, hb3]; omega) (by rw [hs3.2.2.1]; exact hpa.2.2) (by rw [hs3.2.2.1]; exact hpb.2.2)
                                                            rw [hs3.1, hs3.2.2.1, hb3] at hv3
                                                            have ht3 : w310.toInt = P 2 ar3.toNatClampNeg := by rw [e310]; exact hs3.2.1
                                                            have hz3 := s_add e311 hb3 ht3 (by omega)
                                                            have hcs3 := s_cst (n := ar3.toInt + ar4.toInt) h5 h6 hy.1 hpa.1 hv3.2.1 hv3.2.2
                                                            have hu3 := s_add e313 rfl hv3.1 (hcs3.2.2 (by omega))
                                                            have hn3 := s_cp (y := ar3) (z := z312) (by omega) e312
                                                            have hbm := s_bS_m (o := ar2.toNatClampNeg) (s := ar3.toNatClampNeg) hp h1
                                                            have hg3 := q314 P hc hb hp (by omega) (by omega) (by omega) (by omega) (by rw [hu3]; exact hcs3.1) (by rw [hu3, show z312.toInt + ar4.toInt = ar3.toInt + ar4.toInt + 1 from (by omega)]; exact hcs3.2.1) h7
                                                            rw [hz3, hu3, hn3, s_LS_k (k := k) (s_rem2 hk (by omega))] at hg3
                                                            have hA : s_BB (gi 28 4).toInt (gi 28 5).toInt (ar5.toInt + s_oS P (s_ls P k) (s_bS P ar1.toInt ar2.toNatClampNeg ar3.toNatClampNeg) ar3.toNatClampNeg ar4.toNatClampNeg) (gi314 28 4).toInt := s_oS_y ⟨by omega, hy.1, hy.2.2⟩ h5 h7 hg3
                                                            have hcA := hc.fr hC314 rfl rfl
                                                            have hE : (gi314 28 5).toInt = (gi 28 5).toInt := congrArg Int32.toInt (hC314.1 28 5 rfl).1
                                                            have hB1 : (gi314 28 4).toInt ≤ 1000000000 := Int.le_trans hA.2.2 h7
                                                            have n0A := hcA.1.1
                                                            have n1A := hcA.1.2
                                                            have hs4 := hcA.2.2.1 ar4.toNatClampNeg (by omega)
                                                            have hw4 : w321.toInt = P 5 ar4.toNatClampNeg := by rw [e321]; exact hs4.1
                                                            have ho4 : ar2.toNatClampNeg = 1 := by have := t_clamp (i := ar2) (by omega); omega
                                                            have hy4 := q322 P hcA hb h1 (by omega)
                                                            have hb4 : z323.toInt = (s_bC P ar1.toInt ar2.toNatClampNeg ar4.toNatClampNeg) := by unfold s_bC; rw [m323 rfl, hw4, ho4, if_pos rfl, hy4]
                                                            have hq4 := q324 (by omega) (by omega)
                                                            rw [hs4.1, hs4.2.2.2, hb4] at hq4
                                                            have hD : s_BB (gi314 28 4).toInt (gi 28 5).toInt (ar5.toInt + s_oC P (s_ls P k) (s_bC P ar1.toInt ar2.toNatClampNeg ar4.toNatClampNeg) ar3.toNatClampNeg ar4.toNatClampNeg) (gi314 28 4).toInt := s_oC_n (fun hh => by have h9 := hq4.mpr ⟨hh.2, s_bC_le, Or.inl rfl⟩; omega) h5 hB1 rfl
                                                            exact s_LS_2 hk hd hA hD))⟩⟩
                  · have r328 : w324.toInt ≠ 0 := fun e => h326 (Int32.toInt_inj.mp (e.trans (by decide : (0:Int) = (0 : Int32).toInt)))
                    have l329 : 1 ≤ w324.toInt := t_nel h326 l324 rfl rfl
                    refine ev_loc f_X1_search (nx := 196) rfl rfl rfl rfl ?_
                    refine ev_getR f_X1_search (nx := 199) rfl (hI.wf.s rfl) rfl rfl (hI.wf.r rfl) rfl rfl ?_
                    refine ev_loc f_X1_search (nx := 201) rfl rfl rfl rfl ?_
                    refine ev_loc f_X1_search (nx := 203) rfl rfl rfl rfl ?_
                    refine ev_qI0 f_X1_search (nx := 206) (r := []) rfl rfl rfl rfl rfl rfl rfl (c_d_waitsOf_35 hI (ar4) (z323)) rfl (fun w330 l330 u330 q330 => ?_)
                    have ff331 : (gi314 35 0).toInt = (gi 35 0).toInt := congrArg Int32.toInt ((hC314.1 35 0 rfl).1.trans rfl)
                    have q330 : s_wts ar4.toInt (gi314 35 0).toInt z323.toInt (gi314 37 ar4.toNatClampNeg).toInt (gi314 39 ar4.toNatClampNeg).toInt w330.toInt := q330
                    refine ev_loc f_X1_search (nx := 208) (lo' := [(7, .int w330), (6, .int z323), (0, .ref 28), (1, .int ar1), (2, .int ar2), (3, .int ar3), (4, .int ar4), (5, .int ar5)]) rfl rfl rfl rfl ?_
                    refine ev_loc f_X1_search (nx := 209) rfl rfl rfl rfl ?_
                    refine ev_loc f_X1_search (nx := 211) rfl rfl rfl rfl ?_
                    refine ev_loc f_X1_search (nx := 212) rfl rfl rfl rfl ?_
                    refine ev_getR f_X1_search (nx := 215) rfl (hI.wf.s rfl) rfl rfl (hI.wf.r rfl) rfl rfl ?_
                    refine ev_getR f_X1_search (nx := 218) rfl (hI.wf.s rfl) rfl rfl (hI.wf.r rfl) rfl rfl ?_
                    refine ev_loc f_X1_search (nx := 220) rfl rfl rfl rfl ?_
                    refine ev_ialdT f_X1_search (nx := 221) rfl (hI.wf.s rfl) l_a4 (by decide) u179 (by decide) rfl (fun w332 e332 => ?_)
                    refine ev_anyIE f_X1_search (nx := 222) rfl rfl rfl rfl (fun z333 e333 => ?_)
                    refine ev_ic f_X1_search (nx := 223) (v := 0) rfl (by decide) rfl ?_
                    refine ev_loc f_X1_search (nx := 224) rfl rfl rfl rfl ?_
                    refine ev_loc f_X1_search (nx := 226) rfl rfl rfl rfl ?_
                    refine ev_ic f_X1_search (nx := 227) (v := 1) rfl (by decide) rfl ?_
                    refine ev_addC f_X1_search (nx := 228) (c := 1) (l := 1) (u := 6) rfl (by decide) l_a4 u179 rfl rfl (by decide) (by decide) rfl (fun z334 e334 l334 u334 => ?_)
                    refine ev_loc f_X1_search (nx := 230) rfl rfl rfl rfl ?_
                    refine ev_loc f_X1_search (nx := 232) rfl rfl rfl rfl ?_
                    refine ev_anyIE f_X1_search (nx := 233) rfl rfl rfl rfl (fun z335 e335 => ?_)
                    refine ev_qN f_X1_search (nx := 236) (r := []) rfl rfl rfl rfl rfl rfl rfl (x_Me.up (ih hI (z333) (0) (by decide : (0:Int) ≤ (0:Int32).toInt) (Int.le_trans (by decide : (0:Int32).toInt ≤ (0:Int)) (by decide : (0:Int) ≤ 1)) (ar3) l_a3 (Int.le_trans u221 (by decide : (5:Int) ≤ 6)) (z334) (Int.le_trans (by decide : (0:Int) ≤ 1) l334) u334 (z335) (by omega)) (by omega)) rfl hX rfl (fun gi336 gl336 gr336 hI hX hC336 q336 => ?_)
                    have ff337 : (gi314 28 5).toInt = (gi 28 5).toInt := congrArg Int32.toInt ((hC314.1 28 5 rfl).1.trans rfl)
                    have q336 : ∀ P : Nat → Nat → Int, s_CP P gi314 gr314 → s_PB P → s_PO P → 0 ≤ z333.toInt → z333.toInt ≤ 2000 → ar3.toInt ≤ P 0 0 → z334.toInt ≤ P 0 1 → 0 ≤ z335.toInt → z335.toInt ≤ 240000 * (ar3.toInt + z334.toInt) → (gi314 28 4).toInt ≤ 1000000000 → s_BB (gi314 28 4).toInt (gi314 28 5).toInt (z335.toInt + s_LS P z333.toInt (0 : Int32).toNatClampNeg ar3.toNatClampNeg z334.toNatClampNeg) (gi336 28 4).toInt := q336
                    exact ev_ret f_X1_search rfl rfl rfl ⟨_, _, _, rfl, hI, hX, ⟨rfl, (show ∀ P : Nat → Nat → Int, s_CP P gi gr → s_PB P → s_PO P → 0 ≤ ar1.toInt → ar1.toInt ≤ 2000 → ar3.toInt ≤ P 0 0 → ar4.toInt ≤ P 0 1 → 0 ≤ ar5.toInt → ar5.toInt ≤ 240000 * (ar3.toInt + ar4.toInt) → (gi 28 4).toInt ≤ 1000000000 → s_BB (gi 28 4).toInt (gi 28 5).toInt (ar5.toInt + s_LS P ar1.toInt ar2.toNatClampNeg ar3.toNatClampNeg ar4.toNatClampNeg) (gi336 28 4).toInt from (by
                                                            intro P hc hb hp h1 h2 h3 h4 h5 h6 h7
                                                            have n0 := hc.1.1
                                                            have n1 := hc.1.2
                                                            have c3 := t_clamp (i := ar3) l_a3
                                                            have c4 := t_clamp (i := ar4) l_a4
                                                            have hd : ¬ (P 0 0 ≤ ((ar3.toNatClampNeg : Nat) : Int) ∧ P 0 1 ≤ ((ar4.toNatClampNeg : Nat) : Int)) := s_hdC (by omega)
                                                            obtain ⟨k, hk⟩ := s_rem1 hd
                                                            have hs3 := hc.2.1 ar3.toNatClampNeg (by omega)
                                                            have hw3 : w223.toInt = P 1 ar3.toNatClampNeg := by rw [e223]; exact hs3.1
                                                            have ho3 : ar2.toNatClampNeg = 1 := by have := t_clamp (i := ar2) (by omega); omega
                                                            have hb3 : z283.toInt = (s_bS P ar1.toInt ar2.toNatClampNeg ar3.toNatClampNeg) := by unfold s_bS; rw [m283 rfl, hw3, ho3, if_pos rfl]
                                                            have hq3 := q284 (by omega) (by omega)
                                                            rw [hs3.1, hs3.2.2.2, hb3] at hq3
                                                            have hy := hq3.mp (by omega)
                                                            have hpa := hp.1 ar3.toNatClampNeg (by omega)
                                                            have hpb := hb.2.1 ar3.toNatClampNeg (by omega)
                                                            have hv3 := q309 (by omega) (by omega) (by rw [hs3.1, hb3]; exact s_bS_le) (by rw [hs3.1, hb3]; omega) (by rw [hs3.2.2.1]; exact hpa.2.2) (by rw [hs3.2.2.1]; exact hpb.2.2)
                                                            rw [hs3.1, hs3.2.2.1, hb3] at hv3
                                                            have ht3 : w310.toInt = P 2 ar3.toNatClampNeg := by rw [e310]; exact hs3.2.1
                                                            have hz3 := s_add e311 hb3 ht3 (by omega)
                                                            have hcs3 := s_cst (n := ar3.toInt + ar4.toInt) h5 h6 hy.1 hpa.1 hv3.2.1 hv3.2.2
                                                            have hu3 := s_add e313 rfl hv3.1 (hcs3.2.2 (by omega))
                                                            have hn3 := s_cp (y := ar3) (z := z312) (by omega) e312
                                                            have hbm := s_bS_m (o := ar2.toNatClampNeg) (s := ar3.toNatClampNeg) hp h1
                                                            have hg3 := q314 P hc hb hp (by omega) (by omega) (by omega) (by omega) (by rw [hu3]; exact hcs3.1) (by rw [hu3, show z312.toInt + ar4.toInt = ar3.toInt + ar4.toInt + 1 from (by omega)]; exact hcs3.2.1) h7
                                                            rw [hz3, hu3, hn3, s_LS_k (k := k) (s_rem2 hk (by omega))] at hg3
                                                            have hA : s_BB (gi 28 4).toInt (gi 28 5).toInt (ar5.toInt + s_oS P (s_ls P k) (s_bS P ar1.toInt ar2.toNatClampNeg ar3.toNatClampNeg) ar3.toNatClampNeg ar4.toNatClampNeg) (gi314 28 4).toInt := s_oS_y ⟨by omega, hy.1, hy.2.2⟩ h5 h7 hg3
                                                            have hcA := hc.fr hC314 rfl rfl
                                                            have hE : (gi314 28 5).toInt = (gi 28 5).toInt := congrArg Int32.toInt (hC314.1 28 5 rfl).1
                                                            have hB1 : (gi314 28 4).toInt ≤ 1000000000 := Int.le_trans hA.2.2 h7
                                                            have n0A := hcA.1.1
                                                            have n1A := hcA.1.2
                                                            have hs4 := hcA.2.2.1 ar4.toNatClampNeg (by omega)
                                                            have hw4 : w321.toInt = P 5 ar4.toNatClampNeg := by rw [e321]; exact hs4.1
                                                            have ho4 : ar2.toNatClampNeg = 1 := by have := t_clamp (i := ar2) (by omega); omega
                                                            have hy4 := q322 P hcA hb h1 (by omega)
                                                            have hb4 : z323.toInt = (s_bC P ar1.toInt ar2.toNatClampNeg ar4.toNatClampNeg) := by unfold s_bC; rw [m323 rfl, hw4, ho4, if_pos rfl, hy4]
                                                            have hq4 := q324 (by omega) (by omega)
                                                            rw [hs4.1, hs4.2.2.2, hb4] at hq4
                                                            have hy := hq4.mp (by omega)
                                                            have hpa := hp.2.1 ar4.toNatClampNeg (by omega)
                                                            have hpb := hb.2.2.1 ar4.toNatClampNeg (by omega)
                                                            have hv4 := q330 (by omega) (by omega) (by rw [hs4.1, hb4]; exact s_bC_le) (by rw [hs4.1, hb4]; omega) (by rw [hs4.2.2.1]; exact hpa.2.2) (by rw [hs4.2.2.1]; exact hpb.2.2)
                                                            rw [hs4.1, hs4.2.2.1, hb4] at hv4
                                                            have ht4 : w332.toInt = P 6 ar4.toNatClampNeg := by rw [e332]; exact hs4.2.1
                                                            have hz4 := s_add e333 hb4 ht4 (by omega)
                                                            have hcs4 := s_cst (n := ar3.toInt + ar4.toInt) h5 h6 hy.1 hpa.1 hv4.2.1 hv4.2.2
                                                            have hu4 := s_add e335 rfl hv4.1 (hcs4.2.2 (by omega))
                                                            have hn4 := s_cp (y := ar4) (z := z334) (by omega) e334
                                                            have hbm := s_bC_m (o := ar2.toNatClampNeg) (c := ar4.toNatClampNeg) hp h1
                                                            have hg4 := q336 P hcA hb hp (by omega) (by omega) (by omega) (by omega) (by rw [hu4]; exact hcs4.1) (by rw [hu4, show ar3.toInt + z334.toInt = ar3.toInt + ar4.toInt + 1 from (by omega)]; exact hcs4.2.1) hB1
                                                            rw [hz4, hu4, hn4, hE, s_LS_k (k := k) (s_rem3 hk (by omega))] at hg4
                                                            have hD : s_BB (gi314 28 4).toInt (gi 28 5).toInt (ar5.toInt + s_oC P (s_ls P k) (s_bC P ar1.toInt ar2.toNatClampNeg ar4.toNatClampNeg) ar3.toNatClampNeg ar4.toNatClampNeg) (gi336 28 4).toInt := s_oC_y ⟨by omega, hy.1⟩ h5 hB1 hg4
                                                            exact s_LS_2 hk hd hA hD))⟩⟩
        · have r339 : (gi 35 0).toInt ≤ ar4.toInt := Int32.le_iff_toInt_le.mp (t_nlt h177)
          refine ev_loc f_X1_search (nx := 45) rfl rfl rfl rfl ?_
          refine ev_loc f_X1_search (nx := 47) rfl rfl rfl rfl ?_
          refine ev_putIT f_X1_search (nx := 50) rfl (hI.wf.s rfl) rfl rfl rfl (hI.put0 (hI.wf.s rfl) rfl rfl) (hX.upI rfl) (fun g340 e340 hI hX => ?_)
          exact ev_ret f_X1_search rfl rfl rfl ⟨_, _, _, rfl, hI, hX, ⟨rfl, (show ∀ P : Nat → Nat → Int, s_CP P gi gr → s_PB P → s_PO P → 0 ≤ ar1.toInt → ar1.toInt ≤ 2000 → ar3.toInt ≤ P 0 0 → ar4.toInt ≤ P 0 1 → 0 ≤ ar5.toInt → ar5.toInt ≤ 240000 * (ar3.toInt + ar4.toInt) → (gi 28 4).toInt ≤ 1000000000 → s_BB (gi 28 4).toInt (gi 28 5).toInt (ar5.toInt + s_LS P ar1.toInt ar2.toNatClampNeg ar3.toNatClampNeg ar4.toNatClampNeg) (g340 28 4).toInt from (by
                                                            intro P hc hb hp h1 h2 h3 h4 h5 h6 h7
                                                            have n0 := hc.1.1
                                                            have n1 := hc.1.2
                                                            have c3 := t_clamp (i := ar3) l_a3
                                                            have c4 := t_clamp (i := ar4) l_a4
                                                            have ff341 : (g340 28 4).toInt = ar5.toInt := congrArg Int32.toInt (by rw [e340]; exact x_up2_at _ _ _ _ : g340 28 4 = ar5)
                                                            rw [s_LS_0 ⟨by omega, by omega⟩]
                                                            have e0 : (g340 28 4).toInt = ar5.toInt + 0 := by omega
                                                            rw [e0]
                                                            exact s_BB_1 (by omega) (by omega)))⟩⟩
    · have r342 : (gi 28 4).toInt ≤ (gi 28 5).toInt := Int32.le_iff_toInt_le.mp (t_nlt h8)
      have l343 : (-2147483647) ≤ (gi 28 5).toInt := t_lel (t_nlt h8) l7
      exact ev_ret f_X1_search rfl rfl rfl ⟨_, _, _, rfl, hI, hX, ⟨rfl, (show ∀ P : Nat → Nat → Int, s_CP P gi gr → s_PB P → s_PO P → 0 ≤ ar1.toInt → ar1.toInt ≤ 2000 → ar3.toInt ≤ P 0 0 → ar4.toInt ≤ P 0 1 → 0 ≤ ar5.toInt → ar5.toInt ≤ 240000 * (ar3.toInt + ar4.toInt) → (gi 28 4).toInt ≤ 1000000000 → s_BB (gi 28 4).toInt (gi 28 5).toInt (ar5.toInt + s_LS P ar1.toInt ar2.toNatClampNeg ar3.toNatClampNeg ar4.toNatClampNeg) (gi 28 4).toInt from (by
                                                            intro P hc hb hp h1 h2 h3 h4 h5 h6 h7
                                                            have n0 := hc.1.1
                                                            have n1 := hc.1.2
                                                            have c3 := t_clamp (i := ar3) l_a3
                                                            have c4 := t_clamp (i := ar4) l_a4
                                                            have hlo := s_LS_lo hp ar1.toInt ar2.toNatClampNeg ar3.toNatClampNeg ar4.toNatClampNeg
                                                            exact s_BB_0 (by omega)))⟩⟩
theorem c_d_search {X : x_Ext} {d : Nat} {sh : List (Nat ⊕ (Nat × Nat))} {gi : Nat → Nat → Int32} {gl : Nat → Nat → Int64} {gr : Nat → Nat → Value} (hI : t_I sh gi gr) (ar1 : Int32) (ar2 : Int32) (l_a2 : 0 ≤ ar2.toInt) (u_a2 : ar2.toInt ≤ 1) (ar3 : Int32) (l_a3 : 0 ≤ ar3.toInt) (u_a3 : ar3.toInt ≤ 6) (ar4 : Int32) (l_a4 : 0 ≤ ar4.toInt) (u_a4 : ar4.toInt ≤ 6) (ar5 : Int32) : x_Me X (d + 16) n_X1_search [.ref 28, .int ar1, .int ar2, .int ar3, .int ar4, .int ar5] (sh, gi, gl, gr) (t_PN wl_d_search sh gi gl gr (Q_d_search gi gl gr ar1 ar2 ar3 ar4 ar5)) := r_d_search 13 hI ar1 ar2 l_a2 u_a2 ar3 l_a3 u_a3 ar4 l_a4 u_a4 ar5 (by omega)
/-! ===== the numbers of a crossing, by what the RIVER tells ===== -/
/-- N SHIPS in the order F, who come at A; M CARTS in the order G; a turn takes q minutes -/
noncomputable def s_PG (D : s_D) (q : Int) (A : Nat → Int) (N : Nat) (F : Nat → Nat) (M : Nat) (G : Nat → Nat) (k j : Nat) : Int :=
  match k with
  | 0 => if j = 0 then (N : Int) else (M : Int)
  | 1 => A (F j)
  | 2 => D (54 + 5 * F j)
  | 3 => D (55 + 5 * F j)
  | 4 => D (56 + 5 * F j)
  | 5 => s_B D (G j)
  | 6 => D (83 + 3 * G j)
  | 7 => D (84 + 3 * G j)
  | _ => q + (if (j : Int) < D 6 then 0 else D 5)
/-- the bounds of what is told -/
noncomputable def s_DB (D : s_D) : Prop := (∀ s : Nat, (s : Int) < D 1 → (0 ≤ D (53 + 5 * s) ∧ D (53 + 5 * s) ≤ 500) ∧ (0 ≤ D (54 + 5 * s) ∧ D (54 + 5 * s) ≤ 1000) ∧ 0 ≤ D (55 + 5 * s) ∧ D (55 + 5 * s) ≤ 1000) ∧ (∀ c : Nat, (c : Int) < D 2 → (0 ≤ D (82 + 3 * c) ∧ D (82 + 3 * c) ≤ 500) ∧ (0 ≤ D (83 + 3 * c) ∧ D (83 + 3 * c) ≤ 1000) ∧ 0 ≤ D (84 + 3 * c) ∧ D (84 + 3 * c) ≤ 1000) ∧ (1 ≤ D 4 ∧ D 4 ≤ 500) ∧ 0 ≤ D 5 ∧ D 5 ≤ 400
/-- all of them -/
noncomputable def s_PD (D : s_D) (q : Int) : Nat → Nat → Int := s_PG D q (s_A D) (D 1).toNat (s_or (s_A D) (D 1).toNat) (D 2).toNat (s_or (s_B D) (D 2).toNat)
section LEA
variable {D : s_D} {q : Int} {A : Nat → Int} {N M : Nat} {F G : Nat → Nat} {g : Nat → Nat → Int32}
theorem s_PG_O (hD : s_DB D) (hq : 1 ≤ q) (hF : ∀ j : Nat, j < N → (F j : Int) < D 1) (hA : ∀ j : Nat, j < N → 0 ≤ A (F j)) (hG : ∀ j : Nat, j < M → (G j : Int) < D 2) : s_PO (s_PG D q A N F M G) := by
  refine ⟨fun s hs => ?_, fun c hc => ?_, fun m => ?_⟩
  · have hs2 : s < N := Int.ofNat_lt.mp (show (s : Int) < (N : Int) from hs)
    have h := hD.1 _ (hF s hs2)
    exact ⟨hA s hs2, h.2.1.1, h.2.2.1⟩
  · have hc2 : c < M := Int.ofNat_lt.mp (show (c : Int) < (M : Int) from hc)
    have h := hD.2.1 _ (hG c hc2)
    exact ⟨h.1.1, h.2.1.1, h.2.2.1⟩
  · have h := hD.2.2.2
    show 1 ≤ q + (if (m : Int) < D 6 then 0 else D 5) ∧ q + (if (m : Int) < D 6 then 0 else D 5) ≤ q + (if ((m + 1 : Nat) : Int) < D 6 then 0 else D 5)
    by_cases h1 : (m : Int) < D 6
    · rw [if_pos h1]; split <;> omega
    · rw [if_neg h1, if_neg (by omega)]; omega
theorem s_PG_B (hD : s_DB D) (hq : 1 ≤ q ∧ q ≤ 500) (hN : N ≤ 6) (hM : M ≤ 6) (hF : ∀ j : Nat, j < N → (F j : Int) < D 1) (hA : ∀ j : Nat, j < N → A (F j) ≤ 1000) (hG : ∀ j : Nat, j < M → (G j : Int) < D 2) : s_PB (s_PG D q A N F M G) := by
  refine ⟨⟨?_, ?_, ?_, ?_⟩, fun s hs => ?_, fun c hc => ?_, fun m => ?_⟩
  · show 0 ≤ (N : Int); omega
  · show (N : Int) ≤ 6; omega
  · show 0 ≤ (M : Int); omega
  · show (M : Int) ≤ 6; omega
  · have hs2 : s < N := Int.ofNat_lt.mp (show (s : Int) < (N : Int) from hs)
    have h := hD.1 _ (hF s hs2)
    exact ⟨hA s hs2, h.2.1.2, h.2.2.2⟩
  · have hc2 : c < M := Int.ofNat_lt.mp (show (c : Int) < (M : Int) from hc)
    have h := hD.2.1 _ (hG c hc2)
    exact ⟨Int.le_trans h.1.2 (by decide), h.2.1.2, h.2.2.2⟩
  · have h := hD.2.2.2
    show 0 ≤ q + (if (m : Int) < D 6 then 0 else D 5) ∧ q + (if (m : Int) < D 6 then 0 else D 5) ≤ 1000
    split <;> omega
theorem s_PD_F (h : 0 ≤ D 1) (j : Nat) (hj : j < (D 1).toNat) : ((s_or (s_A D) (D 1).toNat j : Nat) : Int) < D 1 := by
  have := s_or_lt (s_A D) _ _ hj; omega
theorem s_PD_G (h : 0 ≤ D 2) (j : Nat) (hj : j < (D 2).toNat) : ((s_or (s_B D) (D 2).toNat j : Nat) : Int) < D 2 := by
  have := s_or_lt (s_B D) _ _ hj; omega
theorem s_PD_O (hb : t_Cb D) (hD : s_DB D) (hq : 1 ≤ q) : s_PO (s_PD D q) :=
  s_PG_O hD hq (s_PD_F hb.2.1.1) (fun j hj => (hD.1 _ (s_PD_F hb.2.1.1 j hj)).1.1) (s_PD_G hb.2.2.1)
theorem s_PD_B (hb : t_Cb D) (hD : s_DB D) (hq : 1 ≤ q ∧ q ≤ 500) : s_PB (s_PD D q) :=
  s_PG_B hD hq (by have := hb.2.1.2; omega) (by have := hb.2.2.2; omega) (s_PD_F hb.2.1.1) (fun j hj => Int.le_trans (hD.1 _ (s_PD_F hb.2.1.1 j hj)).1.2 (by decide)) (s_PD_G hb.2.2.1)
/-- the other side's numbers are these -/
theorem s_TP_of (hb : t_Cb D) (hD : s_DB D) (hq : 1 ≤ q) (hm : t_ME 0 g D) (h44 : (g 69 44).toInt = D 1) (h45 : (g 69 45).toInt = D 2) (hR : s_RO (s_A D) (g 90) (D 1).toNat) (hS : s_RO (s_B D) (g 91) (D 2).toNat) (hA : ∀ j : Nat, (j : Int) < D 1 → (g 89 j).toInt = s_A D j) (hB : ∀ j : Nat, (j : Int) < D 2 → (g 89 (6 + j)).toInt = s_B D j) : s_TP g q (s_PD D q) := by
  have b1 := hb.2.1
  have b2 := hb.2.2
  have k70 : ∀ j : Nat, 52 ≤ j → (j : Int) < 52 + 5 * D 1 → (g 70 j).toInt = D j := fun j h1 h2 => by have h := hm.2.2.1 j h1 h2; rw [Nat.zero_add] at h; exact h
  have c70 : ∀ j : Nat, 82 ≤ j → (j : Int) < 82 + 3 * D 2 → (g 70 j).toInt = D j := fun j h1 h2 => by have h := hm.2.2.2 j h1 h2; rw [Nat.zero_add] at h; exact h
  have eS : t_S g = (D 1).toNat := by unfold t_S; rw [h44]
  have eC : t_C g = (D 2).toNat := by unfold t_C; rw [h45]
  refine ⟨⟨?_, ?_⟩, fun s hs => ?_, fun c hc => ?_, fun m => ?_⟩
  · rw [eS]; rfl
  · rw [eC]; rfl
  · rw [eS] at hs
    have hl := s_PD_F (D := D) b1.1 s hs
    have e : t_si g s = s_or (s_A D) (D 1).toNat s := by unfold t_si; rw [hR s hs]; rfl
    have hd := hD.1 _ hl
    refine ⟨?_, ?_, ?_, ?_⟩
    · show s_A D _ = t_sa g s
      unfold t_sa; rw [e, hA _ hl]
    · show D _ = ((t_st g s : Nat) : Int)
      unfold t_st; rw [e, k70 _ (by omega) (by omega)]; omega
    · show D _ = t_so g s
      unfold t_so; rw [e, k70 _ (by omega) (by omega)]
    · show D _ = t_ss g s
      unfold t_ss; rw [e, k70 _ (by omega) (by omega)]
  · rw [eC] at hc
    have hl := s_PD_G (D := D) b2.1 c hc
    have e : t_ci g c = s_or (s_B D) (D 2).toNat c := by unfold t_ci; rw [hS c hc]; rfl
    have hd := hD.2.1 _ hl
    refine ⟨?_, ?_, ?_⟩
    · show s_B D _ = t_ca g c
      unfold t_ca; rw [e, hB _ hl]
    · show D _ = ((t_ct g c : Nat) : Int)
      unfold t_ct; rw [e, c70 _ (by omega) (by omega)]; omega
    · show D _ = t_cc g c
      unfold t_cc; rw [e, c70 _ (by omega) (by omega)]
  · have h5 : (g 70 5).toInt = D 5 := hm.1.2.2.1
    have h6 : (g 70 6).toInt = D 6 := hm.1.2.2.2.1
    have hd := hD.2.2.2
    show q + (if (m : Int) < D 6 then 0 else D 5) = ((t_tt g q m : Nat) : Int)
    unfold t_tt
    rw [h5, h6]
    by_cases h1 : (m : Int) < D 6
    · rw [if_pos h1, if_neg (by omega)]; omega
    · rw [if_neg h1]
      by_cases h2 : 0 < D 5
      · rw [if_pos ⟨h2, by omega⟩]; omega
      · rw [if_neg (by omega)]; omega
end LEA
/-- what is answered: the least, or that there is none -/
noncomputable def s_an (x : Int) : Int := if 1000000000 ≤ x then -1 else x
theorem s_an_rk {v x : Int} (h : t_rk v x) : v = s_an x := by
  unfold t_rk at h; unfold s_an; split <;> omega
theorem s_BB_L {x B : Int} (h : s_BB 1000000000 0 x B) (h0 : 0 ≤ x) (h1 : x ≤ 1000000000) : B = x := by unfold s_BB at h; omega
theorem s_ab6 {sh : List (Nat ⊕ (Nat × Nat))} {gi : Nat → Nat → Int32} {gr : Nat → Nat → Value} (hI : t_I sh gi gr) : ∀ j : Nat, j < 6 → ((0 ≤ (gi 70 (53 + 5 * j)).toInt ∧ (gi 70 (53 + 5 * j)).toInt ≤ 120) ∧ (0 ≤ (gi 70 (54 + 5 * j)).toInt ∧ (gi 70 (54 + 5 * j)).toInt ≤ 20) ∧ 0 ≤ (gi 70 (55 + 5 * j)).toInt ∧ (gi 70 (55 + 5 * j)).toInt ≤ 99) ∧ (0 ≤ (gi 70 (82 + 3 * j)).toInt ∧ (gi 70 (82 + 3 * j)).toInt ≤ 120) ∧ (0 ≤ (gi 70 (83 + 3 * j)).toInt ∧ (gi 70 (83 + 3 * j)).toInt ≤ 20) ∧ 0 ≤ (gi 70 (84 + 3 * j)).toInt ∧ (gi 70 (84 + 3 * j)).toInt ≤ 99 := by
  intro j hj
  have hj : j = 0 ∨ j = 1 ∨ j = 2 ∨ j = 3 ∨ j = 4 ∨ j = 5 := by omega
  rcases hj with rfl | rfl | rfl | rfl | rfl | rfl <;>
    exact ⟨⟨hI.ab (lo := 0) (hi := 120) (by decide +kernel) (Nat.le_refl _) (Nat.le_refl _), hI.ab (lo := 0) (hi := 20) (by decide +kernel) (Nat.le_refl _) (Nat.le_refl _), hI.ab (lo := 0) (hi := 99) (by decide +kernel) (Nat.le_refl _) (Nat.le_refl _)⟩, hI.ab (lo := 0) (hi := 120) (by decide +kernel) (Nat.le_refl _) (Nat.le_refl _), hI.ab (lo := 0) (hi := 20) (by decide +kernel) (Nat.le_refl _) (Nat.le_refl _), hI.ab (lo := 0) (hi := 99) (by decide +kernel) (Nat.le_refl _) (Nat.le_refl _)⟩
/-- the minutes told lie in bounds -/
theorem s_min12 {sh : List (Nat ⊕ (Nat × Nat))} {gi ga : Nat → Nat → Int32} {gr : Nat → Nat → Value} (hI : t_I sh gi gr) (h1 : ∀ j : Nat, j < 6 → ga 89 j = gi 70 (53 + 5 * j)) (h2 : ∀ j : Nat, j < 6 → ga 89 (6 + j) = gi 70 (82 + 3 * j)) : ∀ j : Nat, j < 12 → 0 ≤ (ga 89 j).toInt ∧ (ga 89 j).toInt ≤ 300 := by
  intro j hj
  by_cases h : j < 6
  · rw [h1 j h]
    have h9 := (s_ab6 hI j h).1.1
    exact ⟨h9.1, Int.le_trans h9.2 (by decide)⟩
  · rw [show j = 6 + (j - 6) by omega, h2 (j - 6) (by omega)]
    have h9 := (s_ab6 hI (j - 6) (by omega)).2.1
    exact ⟨h9.1, Int.le_trans h9.2 (by decide)⟩
theorem s_DB_of {sh : List (Nat ⊕ (Nat × Nat))} {gi : Nat → Nat → Int32} {gr : Nat → Nat → Value} {D : s_D} (hI : t_I sh gi gr) (hm : t_ME 0 gi D) (hb : t_Cb D) (h4 : 1 ≤ (gi 70 4).toInt) : s_DB D := by
  have b1 := hb.2.1
  have b2 := hb.2.2
  have e4 : (gi 70 4).toInt = D 4 := hm.1.2.1
  have e5 : (gi 70 5).toInt = D 5 := hm.1.2.2.1
  have a4 := hI.ab (k := 70) (i := 4) (j := 4) (m := 4) (lo := 0) (hi := 20) (by decide +kernel) (Nat.le_refl _) (Nat.le_refl _)
  have a5 := hI.ab (k := 70) (i := 5) (j := 5) (m := 5) (lo := 0) (hi := 20) (by decide +kernel) (Nat.le_refl _) (Nat.le_refl _)
  refine ⟨fun s hs => ?_, fun c hc => ?_, ⟨by omega, by omega⟩, by omega, by omega⟩
  · have h := (s_ab6 hI s (by omega)).1
    have k1 := hm.2.2.1 (53 + 5 * s) (by omega) (by omega)
    have k2 := hm.2.2.1 (54 + 5 * s) (by omega) (by omega)
    have k3 := hm.2.2.1 (55 + 5 * s) (by omega) (by omega)
    rw [Nat.zero_add] at k1 k2 k3
    rw [k1, k2, k3] at h
    omega
  · have h := (s_ab6 hI c (by omega)).2
    have k1 := hm.2.2.2 (82 + 3 * c) (by omega) (by omega)
    have k2 := hm.2.2.2 (83 + 3 * c) (by omega) (by omega)
    have k3 := hm.2.2.2 (84 + 3 * c) (by omega) (by omega)
    rw [Nat.zero_add] at k1 k2 k3
    rw [k1, k2, k3] at h
    omega
/-- a turn of another length -/
theorem s_CP.qk {P P' : Nat → Nat → Int} {gi g1 : Nat → Nat → Int32} {gl : Nat → Nat → Int64} {gr : Nat → Nat → Value} {D : s_D} {v : Nat} {q : Int} {x : Int32} (h : s_CP P gi gr) (e : g1 = x_up2 gi 28 1 x) (hr : gr 28 0 = .ref v) (hv : v = 3 ∨ 102 ≤ v) (hc : t_CV gi gl v D) (hx : x.toInt = q) (hP : ∀ k j : Nat, k < 8 → P' k j = P k j) (h8 : ∀ j : Nat, P' 8 j = q + (if (j : Int) < D 6 then 0 else D 5)) : s_CP P' g1 gr := by
  obtain ⟨⟨h1, h2⟩, h3, h4, -⟩ := h
  have hk : ∀ k : Nat, k ≠ 28 → g1 k = gi k := fun k hk => by rw [e]; exact x_up2_ne hk
  have hv2 : v ≠ 28 := by omega
  refine ⟨⟨by rw [hk 29 (by decide), hP 0 0 (by decide)]; exact h1, by rw [hk 35 (by decide), hP 0 1 (by decide)]; exact h2⟩, fun s hs => ?_, fun c hc2 => ?_, Or.inr ⟨v, hr, hv, fun m => ?_⟩⟩
  · rw [hP 0 0 (by decide)] at hs
    rw [hk 31 (by decide), hk 32 (by decide), hk 33 (by decide), hk 34 (by decide), hP 1 s (by decide), hP 2 s (by decide), hP 3 s (by decide), hP 4 s (by decide)]
    exact h3 s hs
  · rw [hP 0 1 (by decide)] at hc2
    rw [hk 37 (by decide), hk 38 (by decide), hk 39 (by decide), hk 40 (by decide), hP 5 c (by decide), hP 6 c (by decide), hP 7 c (by decide)]
    exact h4 c hc2
  · have e1 : (g1 28 1).toInt = q := by rw [e, x_up2_at]; exact hx
    rw [h8, e1, hk v hv2, hc.2.1.2.1, hc.2.1.2.2.1]
theorem s_PD_q (D : s_D) (q q' : Int) (k j : Nat) (hk : k < 8) : s_PD D q' k j = s_PD D q k j := by
  have hk : k = 0 ∨ k = 1 ∨ k = 2 ∨ k = 3 ∨ k = 4 ∨ k = 5 ∨ k = 6 ∨ k = 7 := by omega
  rcases hk with rfl | rfl | rfl | rfl | rfl | rfl | rfl | rfl <;> rfl
