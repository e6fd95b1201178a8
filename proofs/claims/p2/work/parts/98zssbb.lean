/-! ===== printed by riv.py: STATUS, the other side ===== -/
noncomputable def wl_g_lasts : List (Nat × Nat) := [(69, 2)]
noncomputable def Q_g_lasts (gi : Nat → Nat → Int32) (gl : Nat → Nat → Int64) (gr : Nat → Nat → Value) (ar1 : Int32) : Int32 → (Nat → Nat → Int32) → (Nat → Nat → Int64) → (Nat → Nat → Value) → Prop := fun (v : Int32) (gi2 : Nat → Nat → Int32) (gl2 : Nat → Nat → Int64) (gr2 : Nat → Nat → Value) => (¬ (0 ≤ ar1.toInt ∧ ar1.toInt < (gi 70 0).toInt) → (gi2 69 2).toInt = 1) ∧ ((0 ≤ ar1.toInt ∧ ar1.toInt < (gi 70 0).toInt) → (gi2 69 2).toInt = 0)
theorem c_g_lasts {X : x_Ext} {d : Nat} {sh : List (Nat ⊕ (Nat × Nat))} {gi : Nat → Nat → Int32} {gl : Nat → Nat → Int64} {gr : Nat → Nat → Value} (hI : t_I sh gi gr) (ar1 : Int32) : x_Me X (d + 4) n_X12_lasts [.ref 69, .int ar1] (sh, gi, gl, gr) (t_PI wl_g_lasts sh gi gl gr (-2147483648) 2147483647 (Q_g_lasts gi gl gr ar1)) := by
  have hX : t_X wl_g_lasts sh gi gl gr gi gl gr := t_X.rf
  refine me_i f_X12_lasts (hI.wf.s rfl) rfl rfl rfl ?_
  obtain ⟨l2, u2⟩ := hI.ab (by decide +kernel : t_abr 70 0 0 0 6 = true) (Nat.le_refl _) (Nat.le_refl _)
  refine ev_loc f_X12_lasts (nx := 1) rfl rfl rfl rfl ?_
  refine ev_loc f_X12_lasts (nx := 2) rfl rfl rfl rfl ?_
  refine ev_inV2 f_X12_lasts (nx := 5) (lo2 := [(0, .ref 69), (1, .int ar1)]) rfl rfl rfl rfl f_X12_isPort (hI.wf.s rfl) rfl rfl rfl rfl rfl ?_
  refine ev_loc f_X12_isPort (nx := 1) rfl rfl rfl rfl ?_
  refine ev_if f_X12_isPort (t1 := 18) (t2 := 4) rfl rfl rfl (fun h3 => ?_) (fun h3 => ?_)
  · have u4 : ar1.toInt ≤ (-1) := t_ltu h3 (by decide : (0:Int32).toInt ≤ (0:Int)) rfl
    refine ev_ic f_X12_isPort (nx := 19) (v := 0) rfl (by decide) rfl ?_
    refine ev_retK1 f_X12_isPort rfl rfl rfl ?_
    refine ev_t f_X12_lasts (t1 := 8) (t2 := 14) rfl rfl rfl (by decide) ?_
    refine ev_loc f_X12_lasts (nx := 9) rfl rfl rfl rfl ?_
    refine ev_ic f_X12_lasts (nx := 10) (v := 1) rfl (by decide) rfl ?_
    refine ev_inV2 f_X12_lasts (nx := 13) (lo2 := [(0, .ref 69), (1, .int 1)]) rfl rfl rfl rfl f_X12_refuse (hI.wf.s rfl) rfl rfl rfl rfl rfl ?_
    refine ev_loc f_X12_refuse (nx := 1) rfl rfl rfl rfl ?_
    refine ev_loc f_X12_refuse (nx := 2) rfl rfl rfl rfl ?_
    refine ev_putIT f_X12_refuse (nx := 5) rfl (hI.wf.s rfl) rfl rfl rfl (hI.put0 (hI.wf.s rfl) rfl rfl) (hX.upI rfl) (fun g5 e5 hI hX => ?_)
    refine ev_ic f_X12_refuse (nx := 6) (v := -1) rfl (by decide) rfl ?_
    refine ev_retK1 f_X12_refuse rfl rfl rfl ?_
    exact ev_ret f_X12_lasts rfl rfl rfl ⟨_, _, _, rfl, hI, hX, ⟨_, rfl, (Int.le_trans (by decide : ((-2147483648):Int) ≤ (-1)) (by decide : ((-1):Int) ≤ ((-1):Int32).toInt)), (Int.le_trans (by decide : ((-1):Int32).toInt ≤ ((-1):Int)) (by decide : ((-1):Int) ≤ 2147483647)), (show (¬ (0 ≤ ar1.toInt ∧ ar1.toInt < (gi 70 0).toInt) → (g5 69 2).toInt = 1) ∧ ((0 ≤ ar1.toInt ∧ ar1.toInt < (gi 70 0).toInt) → (g5 69 2).toInt = 0) from ⟨fun h => (by have ffs : (g5 69 2).toInt = 1 := (congrArg Int32.toInt (by rw [e5]; exact x_up2_at _ _ _ _ : g5 69 2 = 1)).trans (by decide); omega), fun h => (by have ffs : (g5 69 2).toInt = 1 := (congrArg Int32.toInt (by rw [e5]; exact x_up2_at _ _ _ _ : g5 69 2 = 1)).trans (by decide); omega)⟩)⟩⟩
  · have l6 : 0 ≤ ar1.toInt := t_lel (t_nlt h3) (by decide : (0:Int) ≤ (0:Int32).toInt)
    refine ev_loc f_X12_isPort (nx := 5) rfl rfl rfl rfl ?_
    refine ev_loc f_X12_isPort (nx := 6) rfl rfl rfl rfl ?_
    refine ev_getR f_X12_isPort (nx := 9) rfl (hI.wf.s rfl) rfl rfl (hI.wf.r rfl) rfl rfl ?_
    refine ev_ic f_X12_isPort (nx := 10) (v := 0) rfl (by decide) rfl ?_
    refine ev_ialdv f_X12_isPort (nx := 11) (w := (gi 70 0)) rfl (hI.wf.s rfl) (by decide) (rfl : (0 : Int32).toNatClampNeg = 0) (by decide) rfl rfl ?_
    refine ev_if f_X12_isPort (t1 := 18) (t2 := 14) rfl rfl rfl (fun h8 => ?_) (fun h8 => ?_)
    · have r9 : (gi 70 0).toInt ≤ ar1.toInt := Int32.le_iff_toInt_le.mp h8
      refine ev_ic f_X12_isPort (nx := 19) (v := 0) rfl (by decide) rfl ?_
      refine ev_retK1 f_X12_isPort rfl rfl rfl ?_
      refine ev_t f_X12_lasts (t1 := 8) (t2 := 14) rfl rfl rfl (by decide) ?_
      refine ev_loc f_X12_lasts (nx := 9) rfl rfl rfl rfl ?_
      refine ev_ic f_X12_lasts (nx := 10) (v := 1) rfl (by decide) rfl ?_
      refine ev_inV2 f_X12_lasts (nx := 13) (lo2 := [(0, .ref 69), (1, .int 1)]) rfl rfl rfl rfl f_X12_refuse (hI.wf.s rfl) rfl rfl rfl rfl rfl ?_
      refine ev_loc f_X12_refuse (nx := 1) rfl rfl rfl rfl ?_
      refine ev_loc f_X12_refuse (nx := 2) rfl rfl rfl rfl ?_
      refine ev_putIT f_X12_refuse (nx := 5) rfl (hI.wf.s rfl) rfl rfl rfl (hI.put0 (hI.wf.s rfl) rfl rfl) (hX.upI rfl) (fun g10 e10 hI hX => ?_)
      refine ev_ic f_X12_refuse (nx := 6) (v := -1) rfl (by decide) rfl ?_
      refine ev_retK1 f_X12_refuse rfl rfl rfl ?_
      exact ev_ret f_X12_lasts rfl rfl rfl ⟨_, _, _, rfl, hI, hX, ⟨_, rfl, (Int.le_trans (by decide : ((-2147483648):Int) ≤ (-1)) (by decide : ((-1):Int) ≤ ((-1):Int32).toInt)), (Int.le_trans (by decide : ((-1):Int32).toInt ≤ ((-1):Int)) (by decide : ((-1):Int) ≤ 2147483647)), (show (¬ (0 ≤ ar1.toInt ∧ ar1.toInt < (gi 70 0).toInt) → (g10 69 2).toInt = 1) ∧ ((0 ≤ ar1.toInt ∧ ar1.toInt < (gi 70 0).toInt) → (g10 69 2).toInt = 0) from ⟨fun h => (by have ffs : (g10 69 2).toInt = 1 := (congrArg Int32.toInt (by rw [e10]; exact x_up2_at _ _ _ _ : g10 69 2 = 1)).trans (by decide); omega), fun h => (by have ffs : (g10 69 2).toInt = 1 := (congrArg Int32.toInt (by rw [e10]; exact x_up2_at _ _ _ _ : g10 69 2 = 1)).trans (by decide); omega)⟩)⟩⟩
    · have r11 : ar1.toInt < (gi 70 0).toInt := Int32.lt_iff_toInt_lt.mp (t_nle h8)
      have u12 : ar1.toInt ≤ 5 := t_ltu (t_nle h8) u2 rfl
      have l13 : 1 ≤ (gi 70 0).toInt := t_ltl (t_nle h8) l6 rfl
      refine ev_ic f_X12_isPort (nx := 15) (v := 1) rfl (by decide) rfl ?_
      refine ev_jmp f_X12_isPort (nx := 19) rfl rfl rfl ?_
      refine ev_retK1 f_X12_isPort rfl rfl rfl ?_
      refine ev_f f_X12_lasts (t1 := 8) (t2 := 14) rfl rfl rfl (by decide) ?_
      refine ev_ic f_X12_lasts (nx := 15) (v := 0) rfl (by decide) rfl ?_
      refine ev_loc f_X12_lasts (nx := 16) (lo' := [(2, .int 0), (0, .ref 69), (1, .int ar1)]) rfl rfl rfl rfl ?_
      refine ev_loc f_X12_lasts (nx := 17) rfl rfl rfl rfl ?_
      refine ev_loc f_X12_lasts (nx := 18) rfl rfl rfl rfl ?_
      refine ev_qL f_X12_lasts (nx := 21) (r := []) rfl rfl rfl rfl rfl rfl rfl (c_m_heardOf hI (ar1) l6 u12) rfl hX rfl (fun w14 gi14 gl14 gr14 hI hX hC14 q14 => ?_)
      have q14 : 0 ≤ w14.toInt ∧ w14.toInt < 8589934592 := q14
      refine ev_loc f_X12_lasts (nx := 22) (lo' := [(3, .long w14), (2, .int 0), (0, .ref 69), (1, .int ar1)]) rfl rfl rfl rfl ?_
      have L15 : ∀ (m15 : Nat) (gi15 : Nat → Nat → Int32) (gl15 : Nat → Nat → Int64) (gr15 : Nat → Nat → Value) (y15_3 : Int64) (y15_2 : Int32), t_I sh gi15 gr15 → t_X wl_g_lasts sh gi gl gr gi15 gl15 gr15 → gi15 69 2 = (gi 69 2) → gi15 70 0 = (gi 70 0) → y15_3.toInt.toNat = m15 → x_Ev X (d + 4) n_X12_lasts 22 [(3, .long y15_3), (2, .int y15_2), (0, .ref 69), (1, .int ar1)] [] (sh, gi15, gl15, gr15) (t_PI wl_g_lasts sh gi gl gr (-2147483648) 2147483647 (Q_g_lasts gi gl gr ar1)) := by
        intro m15
        induction m15 using Nat.strongRecOn with
        | _ m15 ih15 =>
        intro gi15 gl15 gr15 y15_3 y15_2 hI hX c15_0 c15_1 hm15
        refine ev_loc f_X12_lasts (nx := 23) rfl rfl rfl rfl ?_
        refine ev_lc f_X12_lasts (nx := 24) (v := 0) rfl (by decide) rfl ?_
        refine ev_anyIE f_X12_lasts (nx := 25) rfl rfl rfl rfl (fun z16 e16 => ?_)
        refine ev_if f_X12_lasts (t1 := 38) (t2 := 28) rfl rfl rfl (fun h17 => ?_) (fun h17 => ?_)
        · have u18 : z16.toInt ≤ 0 := t_leu h17 (by decide : (0:Int32).toInt ≤ (0:Int))
          refine ev_loc f_X12_lasts (nx := 39) rfl rfl rfl rfl ?_
          refine ev_loc f_X12_lasts (nx := 40) rfl rfl rfl rfl ?_
          refine ev_inV2 f_X12_lasts (nx := 43) (lo2 := [(0, .ref 69), (1, .int y15_2)]) rfl rfl rfl rfl f_X12_gives (hI.wf.s rfl) rfl rfl rfl rfl rfl ?_
          refine ev_loc f_X12_gives (nx := 1) rfl rfl rfl rfl ?_
          refine ev_ic f_X12_gives (nx := 2) (v := 0) rfl (by decide) rfl ?_
          refine ev_putIT f_X12_gives (nx := 5) rfl (hI.wf.s rfl) rfl rfl rfl (hI.put0 (hI.wf.s rfl) rfl rfl) (hX.upI rfl) (fun g19 e19 hI hX => ?_)
          refine ev_loc f_X12_gives (nx := 6) rfl rfl rfl rfl ?_
          refine ev_retK1 f_X12_gives rfl rfl rfl ?_
          exact ev_ret f_X12_lasts rfl rfl rfl ⟨_, _, _, rfl, hI, hX, ⟨_, rfl, (t_lo y15_2), (t_hi y15_2), (show (¬ (0 ≤ ar1.toInt ∧ ar1.toInt < (gi 70 0).toInt) → (g19 69 2).toInt = 1) ∧ ((0 ≤ ar1.toInt ∧ ar1.toInt < (gi 70 0).toInt) → (g19 69 2).toInt = 0) from ⟨fun h => (by have ffs : (g19 69 2).toInt = 0 := (congrArg Int32.toInt (by rw [e19]; exact x_up2_at _ _ _ _ : g19 69 2 = 0)).trans (by decide); omega), fun h => (by have ffs : (g19 69 2).toInt = 0 := (congrArg Int32.toInt (by rw [e19]; exact x_up2_at _ _ _ _ : g19 69 2 = 0)).trans (by decide); omega)⟩)⟩⟩
        · have l20 : 1 ≤ z16.toInt := t_ltl (t_nle h17) (by decide : (0:Int) ≤ (0:Int32).toInt) rfl
          refine ev_incN f_X12_lasts (nx := 31) rfl rfl (by decide) rfl (fun z21 => ?_)
          refine ev_loc f_X12_lasts (nx := 32) rfl rfl rfl rfl ?_
          refine ev_ic f_X12_lasts (nx := 33) (v := 1) rfl (by decide) rfl ?_
          refine ev_anyLE f_X12_lasts (nx := 34) rfl rfl rfl rfl (fun z22 e22 => ?_)
          refine ev_loc f_X12_lasts (nx := 35) (lo' := [(3, .long z22), (2, .int z21), (0, .ref 69), (1, .int ar1)]) rfl rfl rfl rfl ?_
          refine ev_jmp f_X12_lasts (nx := 22) rfl rfl rfl ?_
          refine ev_sub (lo := [(3, .long z22), (2, .int z21), (0, .ref 69), (1, .int ar1)]) rfl (t_sc rfl (t_sc rfl (t_sc rfl (t_sc rfl t_sn)))) ?_
          exact ih15 _ (by have := t_shr1 e16 h17 e22; omega) gi15 gl15 gr15 (z22) (z21) hI hX  c15_0 c15_1 rfl
      refine ev_sub (lo := [(3, .long w14), (2, .int 0), (0, .ref 69), (1, .int ar1)]) rfl (t_sc rfl (t_sc rfl (t_sc rfl (t_sc rfl t_sn)))) ?_
      exact L15 _ gi14 gl14 gr14 (w14) (0) hI hX  ((hC14.1 69 2 rfl).1.trans rfl) ((hC14.1 70 0 rfl).1.trans rfl) rfl
noncomputable def wl_g_far : List (Nat × Nat) := [(69, 2)]
noncomputable def Q_g_far (gi : Nat → Nat → Int32) (gl : Nat → Nat → Int64) (gr : Nat → Nat → Value) (ar1 : Int32) (ar2 : Int32) : Int32 → (Nat → Nat → Int32) → (Nat → Nat → Int64) → (Nat → Nat → Value) → Prop := fun (v : Int32) (gi2 : Nat → Nat → Int32) (gl2 : Nat → Nat → Int64) (gr2 : Nat → Nat → Value) => (¬ (0 ≤ ar1.toInt ∧ ar1.toInt < (gi 70 0).toInt ∧ 0 ≤ ar2.toInt ∧ ar2.toInt < (gi 70 0).toInt) → (gi2 69 2).toInt = 1) ∧ ((0 ≤ ar1.toInt ∧ ar1.toInt < (gi 70 0).toInt ∧ 0 ≤ ar2.toInt ∧ ar2.toInt < (gi 70 0).toInt) → (gi2 69 2).toInt = 0)
theorem c_g_far {X : x_Ext} {d : Nat} {sh : List (Nat ⊕ (Nat × Nat))} {gi : Nat → Nat → Int32} {gl : Nat → Nat → Int64} {gr : Nat → Nat → Value} (hI : t_I sh gi gr) (ar1 : Int32) (ar2 : Int32) : x_Me X (d + 4) n_X12_far [.ref 69, .int ar1, .int ar2] (sh, gi, gl, gr) (t_PI wl_g_far sh gi gl gr (-2147483648) 2147483647 (Q_g_far gi gl gr ar1 ar2)) := by
  have hX : t_X wl_g_far sh gi gl gr gi gl gr := t_X.rf
  refine me_i f_X12_far (hI.wf.s rfl) rfl rfl rfl ?_
  obtain ⟨l2, u2⟩ := hI.ab (by decide +kernel : t_abr 70 0 0 0 6 = true) (Nat.le_refl _) (Nat.le_refl _)
  refine ev_loc f_X12_far (nx := 1) rfl rfl rfl rfl ?_
  refine ev_loc f_X12_far (nx := 2) rfl rfl rfl rfl ?_
  refine ev_inV2 f_X12_far (nx := 5) (lo2 := [(0, .ref 69), (1, .int ar1)]) rfl rfl rfl rfl f_X12_isPort (hI.wf.s rfl) rfl rfl rfl rfl rfl ?_
  refine ev_loc f_X12_isPort (nx := 1) rfl rfl rfl rfl ?_
  refine ev_if f_X12_isPort (t1 := 18) (t2 := 4) rfl rfl rfl (fun h3 => ?_) (fun h3 => ?_)
  · have u4 : ar1.toInt ≤ (-1) := t_ltu h3 (by decide : (0:Int32).toInt ≤ (0:Int)) rfl
    refine ev_ic f_X12_isPort (nx := 19) (v := 0) rfl (by decide) rfl ?_
    refine ev_retK1 f_X12_isPort rfl rfl rfl ?_
    refine ev_t f_X12_far (t1 := 37) (t2 := 8) rfl rfl rfl (by decide) ?_
    refine ev_loc f_X12_far (nx := 38) rfl rfl rfl rfl ?_
    refine ev_ic f_X12_far (nx := 39) (v := 1) rfl (by decide) rfl ?_
    refine ev_inV2 f_X12_far (nx := 42) (lo2 := [(0, .ref 69), (1, .int 1)]) rfl rfl rfl rfl f_X12_refuse (hI.wf.s rfl) rfl rfl rfl rfl rfl ?_
    refine ev_loc f_X12_refuse (nx := 1) rfl rfl rfl rfl ?_
    refine ev_loc f_X12_refuse (nx := 2) rfl rfl rfl rfl ?_
    refine ev_putIT f_X12_refuse (nx := 5) rfl (hI.wf.s rfl) rfl rfl rfl (hI.put0 (hI.wf.s rfl) rfl rfl) (hX.upI rfl) (fun g5 e5 hI hX => ?_)
    refine ev_ic f_X12_refuse (nx := 6) (v := -1) rfl (by decide) rfl ?_
    refine ev_retK1 f_X12_refuse rfl rfl rfl ?_
    exact ev_ret f_X12_far rfl rfl rfl ⟨_, _, _, rfl, hI, hX, ⟨_, rfl, (Int.le_trans (by decide : ((-2147483648):Int) ≤ (-1)) (by decide : ((-1):Int) ≤ ((-1):Int32).toInt)), (Int.le_trans (by decide : ((-1):Int32).toInt ≤ ((-1):Int)) (by decide : ((-1):Int) ≤ 2147483647)), (show (¬ (0 ≤ ar1.toInt ∧ ar1.toInt < (gi 70 0).toInt ∧ 0 ≤ ar2.toInt ∧ ar2.toInt < (gi 70 0).toInt) → (g5 69 2).toInt = 1) ∧ ((0 ≤ ar1.toInt ∧ ar1.toInt < (gi 70 0).toInt ∧ 0 ≤ ar2.toInt ∧ ar2.toInt < (gi 70 0).toInt) → (g5 69 2).toInt = 0) from ⟨fun h => (by have ffs : (g5 69 2).toInt = 1 := (congrArg Int32.toInt (by rw [e5]; exact x_up2_at _ _ _ _ : g5 69 2 = 1)).trans (by decide); omega), fun h => (by have ffs : (g5 69 2).toInt = 1 := (congrArg Int32.toInt (by rw [e5]; exact x_up2_at _ _ _ _ : g5 69 2 = 1)).trans (by decide); omega)⟩)⟩⟩
  · have l6 : 0 ≤ ar1.toInt := t_lel (t_nlt h3) (by decide : (0:Int) ≤ (0:Int32).toInt)
    refine ev_loc f_X12_isPort (nx := 5) rfl rfl rfl rfl ?_
    refine ev_loc f_X12_isPort (nx := 6) rfl rfl rfl rfl ?_
    refine ev_getR f_X12_isPort (nx := 9) rfl (hI.wf.s rfl) rfl rfl (hI.wf.r rfl) rfl rfl ?_
    refine ev_ic f_X12_isPort (nx := 10) (v := 0) rfl (by decide) rfl ?_
    refine ev_ialdv f_X12_isPort (nx := 11) (w := (gi 70 0)) rfl (hI.wf.s rfl) (by decide) (rfl : (0 : Int32).toNatClampNeg = 0) (by decide) rfl rfl ?_
    refine ev_if f_X12_isPort (t1 := 18) (t2 := 14) rfl rfl rfl (fun h8 => ?_) (fun h8 => ?_)
    · have r9 : (gi 70 0).toInt ≤ ar1.toInt := Int32.le_iff_toInt_le.mp h8
      refine ev_ic f_X12_isPort (nx := 19) (v := 0) rfl (by decide) rfl ?_
      refine ev_retK1 f_X12_isPort rfl rfl rfl ?_
      refine ev_t f_X12_far (t1 := 37) (t2 := 8) rfl rfl rfl (by decide) ?_
      refine ev_loc f_X12_far (nx := 38) rfl rfl rfl rfl ?_
      refine ev_ic f_X12_far (nx := 39) (v := 1) rfl (by decide) rfl ?_
      refine ev_inV2 f_X12_far (nx := 42) (lo2 := [(0, .ref 69), (1, .int 1)]) rfl rfl rfl rfl f_X12_refuse (hI.wf.s rfl) rfl rfl rfl rfl rfl ?_
      refine ev_loc f_X12_refuse (nx := 1) rfl rfl rfl rfl ?_
      refine ev_loc f_X12_refuse (nx := 2) rfl rfl rfl rfl ?_
      refine ev_putIT f_X12_refuse (nx := 5) rfl (hI.wf.s rfl) rfl rfl rfl (hI.put0 (hI.wf.s rfl) rfl rfl) (hX.upI rfl) (fun g10 e10 hI hX => ?_)
      refine ev_ic f_X12_refuse (nx := 6) (v := -1) rfl (by decide) rfl ?_
      refine ev_retK1 f_X12_refuse rfl rfl rfl ?_
      exact ev_ret f_X12_far rfl rfl rfl ⟨_, _, _, rfl, hI, hX, ⟨_, rfl, (Int.le_trans (by decide : ((-2147483648):Int) ≤ (-1)) (by decide : ((-1):Int) ≤ ((-1):Int32).toInt)), (Int.le_trans (by decide : ((-1):Int32).toInt ≤ ((-1):Int)) (by decide : ((-1):Int) ≤ 2147483647)), (show (¬ (0 ≤ ar1.toInt ∧ ar1.toInt < (gi 70 0).toInt ∧ 0 ≤ ar2.toInt ∧ ar2.toInt < (gi 70 0).toInt) → (g10 69 2).toInt = 1) ∧ ((0 ≤ ar1.toInt ∧ ar1.toInt < (gi 70 0).toInt ∧ 0 ≤ ar2.toInt ∧ ar2.toInt < (gi 70 0).toInt) → (g10 69 2).toInt = 0) from ⟨fun h => (by have ffs : (g10 69 2).toInt = 1 := (congrArg Int32.toInt (by rw [e10]; exact x_up2_at _ _ _ _ : g10 69 2 = 1)).trans (by decide); omega), fun h => (by have ffs : (g10 69 2).toInt = 1 := (congrArg Int32.toInt (by rw [e10]; exact x_up2_at _ _ _ _ : g10 69 2 = 1)).trans (by decide); omega)⟩)⟩⟩
    · have r11 : ar1.toInt < (gi 70 0).toInt := Int32.lt_iff_toInt_lt.mp (t_nle h8)
      have u12 : ar1.toInt ≤ 5 := t_ltu (t_nle h8) u2 rfl
      have l13 : 1 ≤ (gi 70 0).toInt := t_ltl (t_nle h8) l6 rfl
      refine ev_ic f_X12_isPort (nx := 15) (v := 1) rfl (by decide) rfl ?_
      refine ev_jmp f_X12_isPort (nx := 19) rfl rfl rfl ?_
      refine ev_retK1 f_X12_isPort rfl rfl rfl ?_
      refine ev_f f_X12_far (t1 := 37) (t2 := 8) rfl rfl rfl (by decide) ?_
      refine ev_loc f_X12_far (nx := 9) rfl rfl rfl rfl ?_
      refine ev_loc f_X12_far (nx := 10) rfl rfl rfl rfl ?_
      refine ev_inV2 f_X12_far (nx := 13) (lo2 := [(0, .ref 69), (1, .int ar2)]) rfl rfl rfl rfl f_X12_isPort (hI.wf.s rfl) rfl rfl rfl rfl rfl ?_
      refine ev_loc f_X12_isPort (nx := 1) rfl rfl rfl rfl ?_
      refine ev_if f_X12_isPort (t1 := 18) (t2 := 4) rfl rfl rfl (fun h14 => ?_) (fun h14 => ?_)
      · have u15 : ar2.toInt ≤ (-1) := t_ltu h14 (by decide : (0:Int32).toInt ≤ (0:Int)) rfl
        refine ev_ic f_X12_isPort (nx := 19) (v := 0) rfl (by decide) rfl ?_
        refine ev_retK1 f_X12_isPort rfl rfl rfl ?_
        refine ev_t f_X12_far (t1 := 37) (t2 := 16) rfl rfl rfl (by decide) ?_
        refine ev_loc f_X12_far (nx := 38) rfl rfl rfl rfl ?_
        refine ev_ic f_X12_far (nx := 39) (v := 1) rfl (by decide) rfl ?_
        refine ev_inV2 f_X12_far (nx := 42) (lo2 := [(0, .ref 69), (1, .int 1)]) rfl rfl rfl rfl f_X12_refuse (hI.wf.s rfl) rfl rfl rfl rfl rfl ?_
        refine ev_loc f_X12_refuse (nx := 1) rfl rfl rfl rfl ?_
        refine ev_loc f_X12_refuse (nx := 2) rfl rfl rfl rfl ?_
        refine ev_putIT f_X12_refuse (nx := 5) rfl (hI.wf.s rfl) rfl rfl rfl (hI.put0 (hI.wf.s rfl) rfl rfl) (hX.upI rfl) (fun g16 e16 hI hX => ?_)
        refine ev_ic f_X12_refuse (nx := 6) (v := -1) rfl (by decide) rfl ?_
        refine ev_retK1 f_X12_refuse rfl rfl rfl ?_
        exact ev_ret f_X12_far rfl rfl rfl ⟨_, _, _, rfl, hI, hX, ⟨_, rfl, (Int.le_trans (by decide : ((-2147483648):Int) ≤ (-1)) (by decide : ((-1):Int) ≤ ((-1):Int32).toInt)), (Int.le_trans (by decide : ((-1):Int32).toInt ≤ ((-1):Int)) (by decide : ((-1):Int) ≤ 2147483647)), (show (¬ (0 ≤ ar1.toInt ∧ ar1.toInt < (gi 70 0).toInt ∧ 0 ≤ ar2.toInt ∧ ar2.toInt < (gi 70 0).toInt) → (g16 69 2).toInt = 1) ∧ ((0 ≤ ar1.toInt ∧ ar1.toInt < (gi 70 0).toInt ∧ 0 ≤ ar2.toInt ∧ ar2.toInt < (gi 70 0).toInt) → (g16 69 2).toInt = 0) from ⟨fun h => (by have ffs : (g16 69 2).toInt = 1 := (congrArg Int32.toInt (by rw [e16]; exact x_up2_at _ _ _ _ : g16 69 2 = 1)).trans (by decide); omega), fun h => (by have ffs : (g16 69 2).toInt = 1 := (congrArg Int32.toInt (by rw [e16]; exact x_up2_at _ _ _ _ : g16 69 2 = 1)).trans (by decide); omega)⟩)⟩⟩
      · have l17 : 0 ≤ ar2.toInt := t_lel (t_nlt h14) (by decide : (0:Int) ≤ (0:Int32).toInt)
        refine ev_loc f_X12_isPort (nx := 5) rfl rfl rfl rfl ?_
        refine ev_loc f_X12_isPort (nx := 6) rfl rfl rfl rfl ?_
        refine ev_getR f_X12_isPort (nx := 9) rfl (hI.wf.s rfl) rfl rfl (hI.wf.r rfl) rfl rfl ?_
        refine ev_ic f_X12_isPort (nx := 10) (v := 0) rfl (by decide) rfl ?_
        refine ev_ialdv f_X12_isPort (nx := 11) (w := (gi 70 0)) rfl (hI.wf.s rfl) (by decide) (rfl : (0 : Int32).toNatClampNeg = 0) (by decide) rfl rfl ?_
        refine ev_if f_X12_isPort (t1 := 18) (t2 := 14) rfl rfl rfl (fun h19 => ?_) (fun h19 => ?_)
        · have r20 : (gi 70 0).toInt ≤ ar2.toInt := Int32.le_iff_toInt_le.mp h19
          have l21 : 1 ≤ ar2.toInt := t_lel h19 l13
          refine ev_ic f_X12_isPort (nx := 19) (v := 0) rfl (by decide) rfl ?_
          refine ev_retK1 f_X12_isPort rfl rfl rfl ?_
          refine ev_t f_X12_far (t1 := 37) (t2 := 16) rfl rfl rfl (by decide) ?_
          refine ev_loc f_X12_far (nx := 38) rfl rfl rfl rfl ?_
          refine ev_ic f_X12_far (nx := 39) (v := 1) rfl (by decide) rfl ?_
          refine ev_inV2 f_X12_far (nx := 42) (lo2 := [(0, .ref 69), (1, .int 1)]) rfl rfl rfl rfl f_X12_refuse (hI.wf.s rfl) rfl rfl rfl rfl rfl ?_
          refine ev_loc f_X12_refuse (nx := 1) rfl rfl rfl rfl ?_
          refine ev_loc f_X12_refuse (nx := 2) rfl rfl rfl rfl ?_
          refine ev_putIT f_X12_refuse (nx := 5) rfl (hI.wf.s rfl) rfl rfl rfl (hI.put0 (hI.wf.s rfl) rfl rfl) (hX.upI rfl) (fun g22 e22 hI hX => ?_)
          refine ev_ic f_X12_refuse (nx := 6) (v := -1) rfl (by decide) rfl ?_
          refine ev_retK1 f_X12_refuse rfl rfl rfl ?_
          exact ev_ret f_X12_far rfl rfl rfl ⟨_, _, _, rfl, hI, hX, ⟨_, rfl, (Int.le_trans (by decide : ((-2147483648):Int) ≤ (-1)) (by decide : ((-1):Int) ≤ ((-1):Int32).toInt)), (Int.le_trans (by decide : ((-1):Int32).toInt ≤ ((-1):Int)) (by decide : ((-1):Int) ≤ 2147483647)), (show (¬ (0 ≤ ar1.toInt ∧ ar1.toInt < (gi 70 0).toInt ∧ 0 ≤ ar2.toInt ∧ ar2.toInt < (gi 70 0).toInt) → (g22 69 2).toInt = 1) ∧ ((0 ≤ ar1.toInt ∧ ar1.toInt < (gi 70 0).toInt ∧ 0 ≤ ar2.toInt ∧ ar2.toInt < (gi 70 0).toInt) → (g22 69 2).toInt = 0) from ⟨fun h => (by have ffs : (g22 69 2).toInt = 1 := (congrArg Int32.toInt (by rw [e22]; exact x_up2_at _ _ _ _ : g22 69 2 = 1)).trans (by decide); omega), fun h => (by have ffs : (g22 69 2).toInt = 1 := (congrArg Int32.toInt (by rw [e22]; exact x_up2_at _ _ _ _ : g22 69 2 = 1)).trans (by decide); omega)⟩)⟩⟩
        · have r23 : ar2.toInt < (gi 70 0).toInt := Int32.lt_iff_toInt_lt.mp (t_nle h19)
          have u24 : ar2.toInt ≤ 5 := t_ltu (t_nle h19) u2 rfl
          refine ev_ic f_X12_isPort (nx := 15) (v := 1) rfl (by decide) rfl ?_
          refine ev_jmp f_X12_isPort (nx := 19) rfl rfl rfl ?_
          refine ev_retK1 f_X12_isPort rfl rfl rfl ?_
          refine ev_f f_X12_far (t1 := 37) (t2 := 16) rfl rfl rfl (by decide) ?_
          refine ev_loc f_X12_far (nx := 17) rfl rfl rfl rfl ?_
          refine ev_loc f_X12_far (nx := 18) rfl rfl rfl rfl ?_
          refine ev_loc f_X12_far (nx := 19) rfl rfl rfl rfl ?_
          refine ev_qL f_X12_far (nx := 22) (r := [.ref 69]) rfl rfl rfl rfl rfl rfl rfl (c_m_heardOf hI (ar1) l6 u12) rfl hX rfl (fun w25 gi25 gl25 gr25 hI hX hC25 q25 => ?_)
          have q25 : 0 ≤ w25.toInt ∧ w25.toInt < 8589934592 := q25
          refine ev_loc f_X12_far (nx := 23) rfl rfl rfl rfl ?_
          refine ev_loc f_X12_far (nx := 24) rfl rfl rfl rfl ?_
          refine ev_qL f_X12_far (nx := 27) (r := [.long w25, .ref 69]) rfl rfl rfl rfl rfl rfl rfl (c_m_heardOf hI (ar2) l17 u24) rfl hX rfl (fun w26 gi26 gl26 gr26 hI hX hC26 q26 => ?_)
          have q26 : 0 ≤ w26.toInt ∧ w26.toInt < 8589934592 := q26
          refine ev_anyL f_X12_far (nx := 28) rfl rfl rfl rfl (fun z27 => ?_)
          refine ev_cI f_X12_far (nx := 31) (r := [.ref 69]) rfl rfl rfl rfl rfl rfl rfl (c_m_bits hI (z27)) rfl hX rfl (fun w28 gi28 gl28 gr28 l28 u28 hI hX hC28 => ?_)
          refine ev_inV2 f_X12_far (nx := 34) (lo2 := [(0, .ref 69), (1, .int w28)]) rfl rfl rfl rfl f_X12_gives (hI.wf.s rfl) rfl rfl rfl rfl rfl ?_
          refine ev_loc f_X12_gives (nx := 1) rfl rfl rfl rfl ?_
          refine ev_ic f_X12_gives (nx := 2) (v := 0) rfl (by decide) rfl ?_
          refine ev_putIT f_X12_gives (nx := 5) rfl (hI.wf.s rfl) rfl rfl rfl (hI.put0 (hI.wf.s rfl) rfl rfl) (hX.upI rfl) (fun g29 e29 hI hX => ?_)
          refine ev_loc f_X12_gives (nx := 6) rfl rfl rfl rfl ?_
          refine ev_retK1 f_X12_gives rfl rfl rfl ?_
          refine ev_jmp f_X12_far (nx := 42) rfl rfl rfl ?_
          exact ev_ret f_X12_far rfl rfl rfl ⟨_, _, _, rfl, hI, hX, ⟨_, rfl, l28, u28, (show (¬ (0 ≤ ar1.toInt ∧ ar1.toInt < (gi 70 0).toInt ∧ 0 ≤ ar2.toInt ∧ ar2.toInt < (gi 70 0).toInt) → (g29 69 2).toInt = 1) ∧ ((0 ≤ ar1.toInt ∧ ar1.toInt < (gi 70 0).toInt ∧ 0 ≤ ar2.toInt ∧ ar2.toInt < (gi 70 0).toInt) → (g29 69 2).toInt = 0) from ⟨fun h => (by have ffs : (g29 69 2).toInt = 0 := (congrArg Int32.toInt (by rw [e29]; exact x_up2_at _ _ _ _ : g29 69 2 = 0)).trans (by decide); omega), fun h => (by have ffs : (g29 69 2).toInt = 0 := (congrArg Int32.toInt (by rw [e29]; exact x_up2_at _ _ _ _ : g29 69 2 = 0)).trans (by decide); omega)⟩)⟩⟩
noncomputable def wl_g_readings : List (Nat × Nat) := [(69, 2), (69, 29), (69, 30), (78, 9999), (79, 9999), (80, 9999), (81, 9999), (82, 9999), (83, 9999)]
noncomputable def Q_g_readings (gi : Nat → Nat → Int32) (gl : Nat → Nat → Int64) (gr : Nat → Nat → Value) (ar1 : Int64) : Int32 → (Nat → Nat → Int32) → (Nat → Nat → Int64) → (Nat → Nat → Value) → Prop := fun (v : Int32) (gi2 : Nat → Nat → Int32) (gl2 : Nat → Nat → Int64) (gr2 : Nat → Nat → Value) => (¬ (1 ≤ ar1.toInt) → (gi2 69 2).toInt = 1) ∧ ((1 ≤ ar1.toInt) → (gi2 69 2).toInt = 0)
theorem c_g_readings {X : x_Ext} {d : Nat} {sh : List (Nat ⊕ (Nat × Nat))} {gi : Nat → Nat → Int32} {gl : Nat → Nat → Int64} {gr : Nat → Nat → Value} (hI : t_I sh gi gr) (ar1 : Int64) : x_Me X (d + 5) n_X12_readings [.ref 69, .long ar1] (sh, gi, gl, gr) (t_PI wl_g_readings sh gi gl gr (-1) 500 (Q_g_readings gi gl gr ar1)) := by
  have hX : t_X wl_g_readings sh gi gl gr gi gl gr := t_X.rf
  refine me_i f_X12_readings (hI.wf.s rfl) rfl rfl rfl ?_
  refine ev_loc f_X12_readings (nx := 1) rfl rfl rfl rfl ?_
  refine ev_lc f_X12_readings (nx := 2) (v := 1) rfl (by decide) rfl ?_
  refine ev_anyIE f_X12_readings (nx := 3) rfl rfl rfl rfl (fun z2 e2 => ?_)
  refine ev_if f_X12_readings (t1 := 12) (t2 := 6) rfl rfl rfl (fun h3 => ?_) (fun h3 => ?_)
  · have l4 : 0 ≤ z2.toInt := t_lel h3 (by decide : (0:Int) ≤ (0:Int32).toInt)
    have hlt := (t_lt1r e2 h3)
    refine ev_loc f_X12_readings (nx := 13) rfl rfl rfl rfl ?_
    refine ev_loc f_X12_readings (nx := 14) rfl rfl rfl rfl ?_
    refine ev_qN f_X12_readings (nx := 17) (r := []) rfl rfl rfl rfl rfl rfl rfl (c_m_findsReadings hI (ar1)) rfl hX rfl (fun gi5 gl5 gr5 hI hX hC5 q5 => ?_)
    have q5 : (gi5 69 29).toInt ≤ 474 := q5
    refine ev_ic f_X12_readings (nx := 18) (v := 0) rfl (by decide) rfl ?_
    refine ev_loc f_X12_readings (nx := 19) (lo' := [(3, .int 0), (0, .ref 69), (1, .long ar1)]) rfl rfl rfl rfl ?_
    have L6 : ∀ (m6 : Nat) (gi6 : Nat → Nat → Int32) (gl6 : Nat → Nat → Int64) (gr6 : Nat → Nat → Value) (y6_3 : Int32), t_I sh gi6 gr6 → t_X wl_g_readings sh gi gl gr gi6 gl6 gr6 → 0 ≤ y6_3.toInt → y6_3.toInt ≤ 899 → gi6 69 2 = (gi 69 2) → (899 - y6_3.toInt).toNat = m6 → x_Ev X (d + 5) n_X12_readings 19 [(3, .int y6_3), (0, .ref 69), (1, .long ar1)] [] (sh, gi6, gl6, gr6) (t_PI wl_g_readings sh gi gl gr (-1) 500 (Q_g_readings gi gl gr ar1)) := by
      intro m6
      induction m6 using Nat.strongRecOn with
      | _ m6 ih6 =>
      intro gi6 gl6 gr6 y6_3 hI hX l6_3 u6_3 c6_0 hm6
      refine ev_loc f_X12_readings (nx := 20) rfl rfl rfl rfl ?_
      refine ev_loc f_X12_readings (nx := 21) rfl rfl rfl rfl ?_
      refine ev_getI f_X12_readings (nx := 24) rfl (hI.wf.s rfl) rfl rfl rfl ?_
      obtain ⟨l7, u7⟩ := hI.b (hI.wf.s (k := 69) rfl) (t_bdK rfl : t_bd 11 29 = some (0, 500))
      refine ev_if f_X12_readings (t1 := 69) (t2 := 27) rfl rfl rfl (fun h8 => ?_) (fun h8 => ?_)
      · have r9 : (gi6 69 29).toInt ≤ y6_3.toInt := Int32.le_iff_toInt_le.mp h8
        refine ev_loc f_X12_readings (nx := 70) rfl rfl rfl rfl ?_
        refine ev_loc f_X12_readings (nx := 71) rfl rfl rfl rfl ?_
        refine ev_gvI f_X12_readings (nx := 74) (w := (gi6 69 29)) rfl (hI.wf.s rfl) rfl rfl rfl rfl ?_
        refine ev_putIT f_X12_readings (nx := 77) rfl (hI.wf.s rfl) rfl rfl rfl (hI.putB (hI.wf.s rfl) rfl rfl l7 (by decide) u7 (by decide)) (hX.upI rfl) (fun g10 e10 hI hX => ?_)
        refine ev_loc f_X12_readings (nx := 78) rfl rfl rfl rfl ?_
        refine ev_loc f_X12_readings (nx := 79) rfl rfl rfl rfl ?_
        refine ev_gvI f_X12_readings (nx := 82) (w := (gi6 69 29)) rfl (hI.wf.s rfl) rfl rfl ((by rw [e10]; exact x_up2_off (Or.inr (by decide)) : g10 69 29 = gi6 69 29).trans rfl) rfl ?_
        refine ev_inV2 f_X12_readings (nx := 85) (lo2 := [(0, .ref 69), (1, .int (gi6 69 29))]) rfl rfl rfl rfl f_X12_gives (hI.wf.s rfl) rfl rfl rfl rfl rfl ?_
        refine ev_loc f_X12_gives (nx := 1) rfl rfl rfl rfl ?_
        refine ev_ic f_X12_gives (nx := 2) (v := 0) rfl (by decide) rfl ?_
        refine ev_putIT f_X12_gives (nx := 5) rfl (hI.wf.s rfl) rfl rfl rfl (hI.put0 (hI.wf.s rfl) rfl rfl) (hX.upI rfl) (fun g11 e11 hI hX => ?_)
        refine ev_loc f_X12_gives (nx := 6) rfl rfl rfl rfl ?_
        refine ev_retK1 f_X12_gives rfl rfl rfl ?_
        exact ev_ret f_X12_readings rfl rfl rfl ⟨_, _, _, rfl, hI, hX, ⟨_, rfl, (Int.le_trans (by decide : ((-1):Int) ≤ 0) l7), u7, (show (¬ (1 ≤ ar1.toInt) → (g11 69 2).toInt = 1) ∧ ((1 ≤ ar1.toInt) → (g11 69 2).toInt = 0) from ⟨fun h => (by have ffs : (g11 69 2).toInt = 0 := (congrArg Int32.toInt (by rw [e11]; exact x_up2_at _ _ _ _ : g11 69 2 = 0)).trans (by decide); omega), fun h => (by have ffs : (g11 69 2).toInt = 0 := (congrArg Int32.toInt (by rw [e11]; exact x_up2_at _ _ _ _ : g11 69 2 = 0)).trans (by decide); omega)⟩)⟩⟩
      · have r12 : y6_3.toInt < (gi6 69 29).toInt := Int32.lt_iff_toInt_lt.mp (t_nle h8)
        have u13 : y6_3.toInt ≤ 499 := t_ltu (t_nle h8) u7 rfl
        have l14 : 1 ≤ (gi6 69 29).toInt := t_ltl (t_nle h8) l6_3 rfl
        refine ev_loc f_X12_readings (nx := 28) rfl rfl rfl rfl ?_
        refine ev_getR f_X12_readings (nx := 31) rfl (hI.wf.s rfl) rfl rfl (hI.wf.r rfl) rfl rfl ?_
        refine ev_loc f_X12_readings (nx := 32) rfl rfl rfl rfl ?_
        refine ev_loc f_X12_readings (nx := 33) rfl rfl rfl rfl ?_
        refine ev_getR f_X12_readings (nx := 36) rfl (hI.wf.s rfl) rfl rfl (hI.wf.r rfl) rfl rfl ?_
        refine ev_loc f_X12_readings (nx := 37) rfl rfl rfl rfl ?_
        refine ev_ialdT f_X12_readings (nx := 38) rfl (hI.wf.s rfl) l6_3 (by decide) u13 (by decide) rfl (fun w15 e15 => ?_)
        refine ev_iastT f_X12_readings (nx := 39) rfl (hI.wf.s rfl) l6_3 (by decide) u13 (by decide) rfl (hI.astG (hI.wf.s rfl) (fun lo hi e => absurd e (t_nob (by decide +kernel) _)) (fun k hk e => by have := hk.2.1; omega)) (hX.upI (t_inA_ok rfl)) (fun g16 e16 hI hX => ?_)
        refine ev_loc f_X12_readings (nx := 40) rfl rfl rfl rfl ?_
        refine ev_getR f_X12_readings (nx := 43) rfl (hI.wf.s rfl) rfl rfl (hI.wf.r rfl) rfl rfl ?_
        refine ev_loc f_X12_readings (nx := 44) rfl rfl rfl rfl ?_
        refine ev_loc f_X12_readings (nx := 45) rfl rfl rfl rfl ?_
        refine ev_getR f_X12_readings (nx := 48) rfl (hI.wf.s rfl) rfl rfl (hI.wf.r rfl) rfl rfl ?_
        refine ev_loc f_X12_readings (nx := 49) rfl rfl rfl rfl ?_
        refine ev_ialdT f_X12_readings (nx := 50) rfl (hI.wf.s rfl) l6_3 (by decide) u13 (by decide) rfl (fun w17 e17 => ?_)
        refine ev_iastT f_X12_readings (nx := 51) rfl (hI.wf.s rfl) l6_3 (by decide) u13 (by decide) rfl (hI.astG (hI.wf.s rfl) (fun lo hi e => absurd e (t_nob (by decide +kernel) _)) (fun k hk e => by have := hk.2.1; omega)) (hX.upI (t_inA_ok rfl)) (fun g18 e18 hI hX => ?_)
        refine ev_loc f_X12_readings (nx := 52) rfl rfl rfl rfl ?_
        refine ev_getR f_X12_readings (nx := 55) rfl (hI.wf.s rfl) rfl rfl (hI.wf.r rfl) rfl rfl ?_
        refine ev_loc f_X12_readings (nx := 56) rfl rfl rfl rfl ?_
        refine ev_loc f_X12_readings (nx := 57) rfl rfl rfl rfl ?_
        refine ev_getR f_X12_readings (nx := 60) rfl (hI.wf.s rfl) rfl rfl (hI.wf.r rfl) rfl rfl ?_
        refine ev_loc f_X12_readings (nx := 61) rfl rfl rfl rfl ?_
        refine ev_ialdT f_X12_readings (nx := 62) rfl (hI.wf.s rfl) l6_3 (by decide) u13 (by decide) rfl (fun w19 e19 => ?_)
        refine ev_iastT f_X12_readings (nx := 63) rfl (hI.wf.s rfl) l6_3 (by decide) u13 (by decide) rfl (hI.astG (hI.wf.s rfl) (fun lo hi e => absurd e (t_nob (by decide +kernel) _)) (fun k hk e => by have := hk.2.1; omega)) (hX.upI (t_inA_ok rfl)) (fun g20 e20 hI hX => ?_)
        refine ev_incR f_X12_readings (nx := 66) (c := 1) (l := 1) (u := 500) rfl rfl (by decide) (by decide) l6_3 u13 rfl rfl (by decide) (by decide) rfl (fun z21 e21 l21 u21 => ?_)
        refine ev_jmp f_X12_readings (nx := 19) rfl rfl rfl ?_
        refine ev_sub (lo := [(3, .int z21), (0, .ref 69), (1, .long ar1)]) rfl (t_sc rfl (t_sc rfl (t_sc rfl t_sn))) ?_
        exact ih6 _ (by omega) g20 gl6 gr6 (z21) hI hX  (Int.le_trans (by decide : (0:Int) ≤ 1) l21) (Int.le_trans u21 (by decide : (500:Int) ≤ 899)) ((by rw [e20]; exact x_up2_off (Or.inl (by decide)) : g20 69 2 = g18 69 2).trans ((by rw [e18]; exact x_up2_off (Or.inl (by decide)) : g18 69 2 = g16 69 2).trans ((by rw [e16]; exact x_up2_off (Or.inl (by decide)) : g16 69 2 = gi6 69 2).trans c6_0))) rfl
    refine ev_sub (lo := [(3, .int 0), (0, .ref 69), (1, .long ar1)]) rfl (t_sc rfl (t_sc rfl (t_sc rfl t_sn))) ?_
    exact L6 _ gi5 gl5 gr5 (0) hI hX  (by decide : (0:Int) ≤ (0:Int32).toInt) (Int.le_trans (by decide : (0:Int32).toInt ≤ (0:Int)) (by decide : (0:Int) ≤ 899)) ((hC5.1 69 2 rfl).1.trans rfl) rfl
  · have u22 : z2.toInt ≤ (-1) := t_ltu (t_nle h3) (by decide : (0:Int32).toInt ≤ (0:Int)) rfl
    have hlt := (t_lt1q e2 h3)
    refine ev_loc f_X12_readings (nx := 7) rfl rfl rfl rfl ?_
    refine ev_ic f_X12_readings (nx := 8) (v := 1) rfl (by decide) rfl ?_
    refine ev_inV2 f_X12_readings (nx := 11) (lo2 := [(0, .ref 69), (1, .int 1)]) rfl rfl rfl rfl f_X12_refuse (hI.wf.s rfl) rfl rfl rfl rfl rfl ?_
    refine ev_loc f_X12_refuse (nx := 1) rfl rfl rfl rfl ?_
    refine ev_loc f_X12_refuse (nx := 2) rfl rfl rfl rfl ?_
    refine ev_putIT f_X12_refuse (nx := 5) rfl (hI.wf.s rfl) rfl rfl rfl (hI.put0 (hI.wf.s rfl) rfl rfl) (hX.upI rfl) (fun g23 e23 hI hX => ?_)
    refine ev_ic f_X12_refuse (nx := 6) (v := -1) rfl (by decide) rfl ?_
    refine ev_retK1 f_X12_refuse rfl rfl rfl ?_
    exact ev_ret f_X12_readings rfl rfl rfl ⟨_, _, _, rfl, hI, hX, ⟨_, rfl, (by decide : ((-1):Int) ≤ ((-1):Int32).toInt), (Int.le_trans (by decide : ((-1):Int32).toInt ≤ ((-1):Int)) (by decide : ((-1):Int) ≤ 500)), (show (¬ (1 ≤ ar1.toInt) → (g23 69 2).toInt = 1) ∧ ((1 ≤ ar1.toInt) → (g23 69 2).toInt = 0) from ⟨fun h => (by have ffs : (g23 69 2).toInt = 1 := (congrArg Int32.toInt (by rw [e23]; exact x_up2_at _ _ _ _ : g23 69 2 = 1)).trans (by decide); omega), fun h => (by have ffs : (g23 69 2).toInt = 1 := (congrArg Int32.toInt (by rw [e23]; exact x_up2_at _ _ _ _ : g23 69 2 = 1)).trans (by decide); omega)⟩)⟩⟩
noncomputable def wl_g_reading : List (Nat × Nat) := [(69, 2)]
noncomputable def Q_g_reading (gi : Nat → Nat → Int32) (gl : Nat → Nat → Int64) (gr : Nat → Nat → Value) (ar1 : Int32) (ar2 : Int32) : Int32 → (Nat → Nat → Int32) → (Nat → Nat → Int64) → (Nat → Nat → Value) → Prop := fun (v : Int32) (gi2 : Nat → Nat → Int32) (gl2 : Nat → Nat → Int64) (gr2 : Nat → Nat → Value) => (¬ (0 ≤ ar2.toInt ∧ ar2.toInt ≤ 2) → (gi2 69 2).toInt = 1) ∧ ((0 ≤ ar2.toInt ∧ ar2.toInt ≤ 2) → (v.toInt = -1 → (gi2 69 2).toInt = 6) ∧ (v.toInt ≠ -1 → (gi2 69 2).toInt = 0))
theorem c_g_reading {X : x_Ext} {d : Nat} {sh : List (Nat ⊕ (Nat × Nat))} {gi : Nat → Nat → Int32} {gl : Nat → Nat → Int64} {gr : Nat → Nat → Value} (hI : t_I sh gi gr) (ar1 : Int32) (ar2 : Int32) : x_Me X (d + 3) n_X12_reading [.ref 69, .int ar1, .int ar2] (sh, gi, gl, gr) (t_PI wl_g_reading sh gi gl gr (-2147483648) 2147483647 (Q_g_reading gi gl gr ar1 ar2)) := by
  have hX : t_X wl_g_reading sh gi gl gr gi gl gr := t_X.rf
  refine me_i f_X12_reading (hI.wf.s rfl) rfl rfl rfl ?_
  refine ev_loc f_X12_reading (nx := 1) rfl rfl rfl rfl ?_
  refine ev_if f_X12_reading (t1 := 9) (t2 := 4) rfl rfl rfl (fun h2 => ?_) (fun h2 => ?_)
  · have u3 : ar2.toInt ≤ (-1) := t_ltu h2 (by decide : (0:Int32).toInt ≤ (0:Int)) rfl
    refine ev_loc f_X12_reading (nx := 10) rfl rfl rfl rfl ?_
    refine ev_ic f_X12_reading (nx := 11) (v := 1) rfl (by decide) rfl ?_
    refine ev_inV2 f_X12_reading (nx := 14) (lo2 := [(0, .ref 69), (1, .int 1)]) rfl rfl rfl rfl f_X12_refuse (hI.wf.s rfl) rfl rfl rfl rfl rfl ?_
    refine ev_loc f_X12_refuse (nx := 1) rfl rfl rfl rfl ?_
    refine ev_loc f_X12_refuse (nx := 2) rfl rfl rfl rfl ?_
    refine ev_putIT f_X12_refuse (nx := 5) rfl (hI.wf.s rfl) rfl rfl rfl (hI.put0 (hI.wf.s rfl) rfl rfl) (hX.upI rfl) (fun g4 e4 hI hX => ?_)
    refine ev_ic f_X12_refuse (nx := 6) (v := -1) rfl (by decide) rfl ?_
    refine ev_retK1 f_X12_refuse rfl rfl rfl ?_
    exact ev_ret f_X12_reading rfl rfl rfl ⟨_, _, _, rfl, hI, hX, ⟨_, rfl, (Int.le_trans (by decide : ((-2147483648):Int) ≤ (-1)) (by decide : ((-1):Int) ≤ ((-1):Int32).toInt)), (Int.le_trans (by decide : ((-1):Int32).toInt ≤ ((-1):Int)) (by decide : ((-1):Int) ≤ 2147483647)), (show (¬ (0 ≤ ar2.toInt ∧ ar2.toInt ≤ 2) → (g4 69 2).toInt = 1) ∧ ((0 ≤ ar2.toInt ∧ ar2.toInt ≤ 2) → (((-1) : Int) = -1 → (g4 69 2).toInt = 6) ∧ (((-1) : Int) ≠ -1 → (g4 69 2).toInt = 0)) from ⟨fun h => (by have ffs : (g4 69 2).toInt = 1 := (congrArg Int32.toInt (by rw [e4]; exact x_up2_at _ _ _ _ : g4 69 2 = 1)).trans (by decide); omega), fun h => ⟨fun h2 => (by have ffs : (g4 69 2).toInt = 1 := (congrArg Int32.toInt (by rw [e4]; exact x_up2_at _ _ _ _ : g4 69 2 = 1)).trans (by decide); omega), fun h2 => (by have ffs : (g4 69 2).toInt = 1 := (congrArg Int32.toInt (by rw [e4]; exact x_up2_at _ _ _ _ : g4 69 2 = 1)).trans (by decide); omega)⟩⟩)⟩⟩
  · have l5 : 0 ≤ ar2.toInt := t_lel (t_nlt h2) (by decide : (0:Int) ≤ (0:Int32).toInt)
    refine ev_loc f_X12_reading (nx := 5) rfl rfl rfl rfl ?_
    refine ev_ic f_X12_reading (nx := 6) (v := 2) rfl (by decide) rfl ?_
    refine ev_if f_X12_reading (t1 := 15) (t2 := 9) rfl rfl rfl (fun h6 => ?_) (fun h6 => ?_)
    · have u7 : ar2.toInt ≤ 2 := t_leu h6 (by decide : (2:Int32).toInt ≤ (2:Int))
      refine ev_loc f_X12_reading (nx := 16) rfl rfl rfl rfl ?_
      refine ev_if f_X12_reading (t1 := 27) (t2 := 19) rfl rfl rfl (fun h8 => ?_) (fun h8 => ?_)
      · have u9 : ar1.toInt ≤ (-1) := t_ltu h8 (by decide : (0:Int32).toInt ≤ (0:Int)) rfl
        refine ev_loc f_X12_reading (nx := 28) rfl rfl rfl rfl ?_
        refine ev_bp f_X12_reading (nx := 30) (v := 6) rfl (by decide) rfl ?_
        refine ev_inV2 f_X12_reading (nx := 33) (lo2 := [(0, .ref 69), (1, .int 6)]) rfl rfl rfl rfl f_X12_refuse (hI.wf.s rfl) rfl rfl rfl rfl rfl ?_
        refine ev_loc f_X12_refuse (nx := 1) rfl rfl rfl rfl ?_
        refine ev_loc f_X12_refuse (nx := 2) rfl rfl rfl rfl ?_
        refine ev_putIT f_X12_refuse (nx := 5) rfl (hI.wf.s rfl) rfl rfl rfl (hI.put0 (hI.wf.s rfl) rfl rfl) (hX.upI rfl) (fun g10 e10 hI hX => ?_)
        refine ev_ic f_X12_refuse (nx := 6) (v := -1) rfl (by decide) rfl ?_
        refine ev_retK1 f_X12_refuse rfl rfl rfl ?_
        exact ev_ret f_X12_reading rfl rfl rfl ⟨_, _, _, rfl, hI, hX, ⟨_, rfl, (Int.le_trans (by decide : ((-2147483648):Int) ≤ (-1)) (by decide : ((-1):Int) ≤ ((-1):Int32).toInt)), (Int.le_trans (by decide : ((-1):Int32).toInt ≤ ((-1):Int)) (by decide : ((-1):Int) ≤ 2147483647)), (show (¬ (0 ≤ ar2.toInt ∧ ar2.toInt ≤ 2) → (g10 69 2).toInt = 1) ∧ ((0 ≤ ar2.toInt ∧ ar2.toInt ≤ 2) → (((-1) : Int) = -1 → (g10 69 2).toInt = 6) ∧ (((-1) : Int) ≠ -1 → (g10 69 2).toInt = 0)) from ⟨fun h => (by have ffs : (g10 69 2).toInt = 6 := (congrArg Int32.toInt (by rw [e10]; exact x_up2_at _ _ _ _ : g10 69 2 = 6)).trans (by decide); omega), fun h => ⟨fun h2 => (by have ffs : (g10 69 2).toInt = 6 := (congrArg Int32.toInt (by rw [e10]; exact x_up2_at _ _ _ _ : g10 69 2 = 6)).trans (by decide); omega), fun h2 => (by have ffs : (g10 69 2).toInt = 6 := (congrArg Int32.toInt (by rw [e10]; exact x_up2_at _ _ _ _ : g10 69 2 = 6)).trans (by decide); omega)⟩⟩)⟩⟩
      · have l11 : 0 ≤ ar1.toInt := t_lel (t_nlt h8) (by decide : (0:Int) ≤ (0:Int32).toInt)
        refine ev_loc f_X12_reading (nx := 20) rfl rfl rfl rfl ?_
        refine ev_loc f_X12_reading (nx := 21) rfl rfl rfl rfl ?_
        refine ev_getI f_X12_reading (nx := 24) rfl (hI.wf.s rfl) rfl rfl rfl ?_
        obtain ⟨l12, u12⟩ := hI.b (hI.wf.s (k := 69) rfl) (t_bdK rfl : t_bd 11 30 = some (0, 500))
        refine ev_if f_X12_reading (t1 := 34) (t2 := 27) rfl rfl rfl (fun h13 => ?_) (fun h13 => ?_)
        · have r14 : ar1.toInt < (gi 69 30).toInt := Int32.lt_iff_toInt_lt.mp h13
          have u15 : ar1.toInt ≤ 499 := t_ltu h13 u12 rfl
          have l16 : 1 ≤ (gi 69 30).toInt := t_ltl h13 l11 rfl
          refine ev_loc f_X12_reading (nx := 35) rfl rfl rfl rfl ?_
          refine ev_loc f_X12_reading (nx := 36) rfl rfl rfl rfl ?_
          refine ev_if f_X12_reading (t1 := 39) (t2 := 48) rfl rfl rfl (fun h17 => ?_) (fun h17 => ?_)
          · have u18 : ar2.toInt ≤ 0 := t_equ h17 (by decide : (0:Int32).toInt ≤ (0:Int))
            refine ev_loc f_X12_reading (nx := 40) rfl rfl rfl rfl ?_
            refine ev_getR f_X12_reading (nx := 43) rfl (hI.wf.s rfl) rfl rfl (hI.wf.r rfl) rfl rfl ?_
            refine ev_loc f_X12_reading (nx := 44) rfl rfl rfl rfl ?_
            refine ev_ialdT f_X12_reading (nx := 45) rfl (hI.wf.s rfl) l11 (by decide) u15 (by decide) rfl (fun w19 e19 => ?_)
            refine ev_jmp f_X12_reading (nx := 68) rfl rfl rfl ?_
            refine ev_inV2 f_X12_reading (nx := 71) (lo2 := [(0, .ref 69), (1, .int w19)]) rfl rfl rfl rfl f_X12_orNone (hI.wf.s rfl) rfl rfl rfl rfl rfl ?_
            refine ev_loc f_X12_orNone (nx := 1) rfl rfl rfl rfl ?_
            refine ev_ic f_X12_orNone (nx := 2) (v := -1) rfl (by decide) rfl ?_
            refine ev_if f_X12_orNone (t1 := 5) (t2 := 14) rfl rfl rfl (fun h20 => ?_) (fun h20 => ?_)
            · have u21 : w19.toInt ≤ (-1) := t_equ h20 (by decide : ((-1):Int32).toInt ≤ ((-1):Int))
              have l22 : (-1) ≤ w19.toInt := t_eql h20 (by decide : ((-1):Int) ≤ ((-1):Int32).toInt)
              refine ev_loc f_X12_orNone (nx := 6) rfl rfl rfl rfl ?_
              refine ev_bp f_X12_orNone (nx := 8) (v := 6) rfl (by decide) rfl ?_
              refine ev_inV2 f_X12_orNone (nx := 11) (lo2 := [(0, .ref 69), (1, .int 6)]) rfl rfl rfl rfl f_X12_refuse (hI.wf.s rfl) rfl rfl rfl rfl rfl ?_
              refine ev_loc f_X12_refuse (nx := 1) rfl rfl rfl rfl ?_
              refine ev_loc f_X12_refuse (nx := 2) rfl rfl rfl rfl ?_
              refine ev_putIT f_X12_refuse (nx := 5) rfl (hI.wf.s rfl) rfl rfl rfl (hI.put0 (hI.wf.s rfl) rfl rfl) (hX.upI rfl) (fun g23 e23 hI hX => ?_)
              refine ev_ic f_X12_refuse (nx := 6) (v := -1) rfl (by decide) rfl ?_
              refine ev_retK1 f_X12_refuse rfl rfl rfl ?_
              refine ev_jmp f_X12_orNone (nx := 19) rfl rfl rfl ?_
              refine ev_retK1 f_X12_orNone rfl rfl rfl ?_
              exact ev_ret f_X12_reading rfl rfl rfl ⟨_, _, _, rfl, hI, hX, ⟨_, rfl, (Int.le_trans (by decide : ((-2147483648):Int) ≤ (-1)) (by decide : ((-1):Int) ≤ ((-1):Int32).toInt)), (Int.le_trans (by decide : ((-1):Int32).toInt ≤ ((-1):Int)) (by decide : ((-1):Int) ≤ 2147483647)), (show (¬ (0 ≤ ar2.toInt ∧ ar2.toInt ≤ 2) → (g23 69 2).toInt = 1) ∧ ((0 ≤ ar2.toInt ∧ ar2.toInt ≤ 2) → (((-1) : Int) = -1 → (g23 69 2).toInt = 6) ∧ (((-1) : Int) ≠ -1 → (g23 69 2).toInt = 0)) from ⟨fun h => (by have ffs : (g23 69 2).toInt = 6 := (congrArg Int32.toInt (by rw [e23]; exact x_up2_at _ _ _ _ : g23 69 2 = 6)).trans (by decide); omega), fun h => ⟨fun h2 => (by have ffs : (g23 69 2).toInt = 6 := (congrArg Int32.toInt (by rw [e23]; exact x_up2_at _ _ _ _ : g23 69 2 = 6)).trans (by decide); omega), fun h2 => (by have ffs : (g23 69 2).toInt = 6 := (congrArg Int32.toInt (by rw [e23]; exact x_up2_at _ _ _ _ : g23 69 2 = 6)).trans (by decide); omega)⟩⟩)⟩⟩
            · have r24 : w19.toInt ≠ (-1) := fun e => h20 (Int32.toInt_inj.mp (e.trans (by decide : ((-1):Int) = ((-1) : Int32).toInt)))
              refine ev_loc f_X12_orNone (nx := 15) rfl rfl rfl rfl ?_
              refine ev_loc f_X12_orNone (nx := 16) rfl rfl rfl rfl ?_
              refine ev_inV2 f_X12_orNone (nx := 19) (lo2 := [(0, .ref 69), (1, .int w19)]) rfl rfl rfl rfl f_X12_gives (hI.wf.s rfl) rfl rfl rfl rfl rfl ?_
              refine ev_loc f_X12_gives (nx := 1) rfl rfl rfl rfl ?_
              refine ev_ic f_X12_gives (nx := 2) (v := 0) rfl (by decide) rfl ?_
              refine ev_putIT f_X12_gives (nx := 5) rfl (hI.wf.s rfl) rfl rfl rfl (hI.put0 (hI.wf.s rfl) rfl rfl) (hX.upI rfl) (fun g25 e25 hI hX => ?_)
              refine ev_loc f_X12_gives (nx := 6) rfl rfl rfl rfl ?_
              refine ev_retK1 f_X12_gives rfl rfl rfl ?_
              refine ev_retK1 f_X12_orNone rfl rfl rfl ?_
              exact ev_ret f_X12_reading rfl rfl rfl ⟨_, _, _, rfl, hI, hX, ⟨_, rfl, (t_lo w19), (t_hi w19), (show (¬ (0 ≤ ar2.toInt ∧ ar2.toInt ≤ 2) → (g25 69 2).toInt = 1) ∧ ((0 ≤ ar2.toInt ∧ ar2.toInt ≤ 2) → (w19.toInt = -1 → (g25 69 2).toInt = 6) ∧ (w19.toInt ≠ -1 → (g25 69 2).toInt = 0)) from ⟨fun h => (by have ffs : (g25 69 2).toInt = 0 := (congrArg Int32.toInt (by rw [e25]; exact x_up2_at _ _ _ _ : g25 69 2 = 0)).trans (by decide); omega), fun h => ⟨fun h2 => (by have ffs : (g25 69 2).toInt = 0 := (congrArg Int32.toInt (by rw [e25]; exact x_up2_at _ _ _ _ : g25 69 2 = 0)).trans (by decide); omega), fun h2 => (by have ffs : (g25 69 2).toInt = 0 := (congrArg Int32.toInt (by rw [e25]; exact x_up2_at _ _ _ _ : g25 69 2 = 0)).trans (by decide); omega)⟩⟩)⟩⟩
          · have r26 : ar2.toInt ≠ 0 := fun e => h17 (Int32.toInt_inj.mp (e.trans (by decide : (0:Int) = (0 : Int32).toInt)))
            have l27 : 1 ≤ ar2.toInt := t_nel h17 l5 rfl rfl
            refine ev_loc f_X12_reading (nx := 49) rfl rfl rfl rfl ?_
            refine ev_ic f_X12_reading (nx := 50) (v := 1) rfl (by decide) rfl ?_
            refine ev_if f_X12_reading (t1 := 53) (t2 := 62) rfl rfl rfl (fun h28 => ?_) (fun h28 => ?_)
            · have u29 : ar2.toInt ≤ 1 := t_equ h28 (by decide : (1:Int32).toInt ≤ (1:Int))
              refine ev_loc f_X12_reading (nx := 54) rfl rfl rfl rfl ?_
              refine ev_getR f_X12_reading (nx := 57) rfl (hI.wf.s rfl) rfl rfl (hI.wf.r rfl) rfl rfl ?_
              refine ev_loc f_X12_reading (nx := 58) rfl rfl rfl rfl ?_
              refine ev_ialdT f_X12_reading (nx := 59) rfl (hI.wf.s rfl) l11 (by decide) u15 (by decide) rfl (fun w30 e30 => ?_)
              refine ev_jmp f_X12_reading (nx := 68) rfl rfl rfl ?_
              refine ev_inV2 f_X12_reading (nx := 71) (lo2 := [(0, .ref 69), (1, .int w30)]) rfl rfl rfl rfl f_X12_orNone (hI.wf.s rfl) rfl rfl rfl rfl rfl ?_
              refine ev_loc f_X12_orNone (nx := 1) rfl rfl rfl rfl ?_
              refine ev_ic f_X12_orNone (nx := 2) (v := -1) rfl (by decide) rfl ?_
              refine ev_if f_X12_orNone (t1 := 5) (t2 := 14) rfl rfl rfl (fun h31 => ?_) (fun h31 => ?_)
              · have u32 : w30.toInt ≤ (-1) := t_equ h31 (by decide : ((-1):Int32).toInt ≤ ((-1):Int))
                have l33 : (-1) ≤ w30.toInt := t_eql h31 (by decide : ((-1):Int) ≤ ((-1):Int32).toInt)
                refine ev_loc f_X12_orNone (nx := 6) rfl rfl rfl rfl ?_
                refine ev_bp f_X12_orNone (nx := 8) (v := 6) rfl (by decide) rfl ?_
                refine ev_inV2 f_X12_orNone (nx := 11) (lo2 := [(0, .ref 69), (1, .int 6)]) rfl rfl rfl rfl f_X12_refuse (hI.wf.s rfl) rfl rfl rfl rfl rfl ?_
                refine ev_loc f_X12_refuse (nx := 1) rfl rfl rfl rfl ?_
                refine ev_loc f_X12_refuse (nx := 2) rfl rfl rfl rfl ?_
                refine ev_putIT f_X12_refuse (nx := 5) rfl (hI.wf.s rfl) rfl rfl rfl (hI.put0 (hI.wf.s rfl) rfl rfl) (hX.upI rfl) (fun g34 e34 hI hX => ?_)
                refine ev_ic f_X12_refuse (nx := 6) (v := -1) rfl (by decide) rfl ?_
                refine ev_retK1 f_X12_refuse rfl rfl rfl ?_
                refine ev_jmp f_X12_orNone (nx := 19) rfl rfl rfl ?_
                refine ev_retK1 f_X12_orNone rfl rfl rfl ?_
                exact ev_ret f_X12_reading rfl rfl rfl ⟨_, _, _, rfl, hI, hX, ⟨_, rfl, (Int.le_trans (by decide : ((-2147483648):Int) ≤ (-1)) (by decide : ((-1):Int) ≤ ((-1):Int32).toInt)), (Int.le_trans (by decide : ((-1):Int32).toInt ≤ ((-1):Int)) (by decide : ((-1):Int) ≤ 2147483647)), (show (¬ (0 ≤ ar2.toInt ∧ ar2.toInt ≤ 2) → (g34 69 2).toInt = 1) ∧ ((0 ≤ ar2.toInt ∧ ar2.toInt ≤ 2) → (((-1) : Int) = -1 → (g34 69 2).toInt = 6) ∧ (((-1) : Int) ≠ -1 → (g34 69 2).toInt = 0)) from ⟨fun h => (by have ffs : (g34 69 2).toInt = 6 := (congrArg Int32.toInt (by rw [e34]; exact x_up2_at _ _ _ _ : g34 69 2 = 6)).trans (by decide); omega), fun h => ⟨fun h2 => (by have ffs : (g34 69 2).toInt = 6 := (congrArg Int32.toInt (by rw [e34]; exact x_up2_at _ _ _ _ : g34 69 2 = 6)).trans (by decide); omega), fun h2 => (by have ffs : (g34 69 2).toInt = 6 := (congrArg Int32.toInt (by rw [e34]; exact x_up2_at _ _ _ _ : g34 69 2 = 6)).trans (by decide); omega)⟩⟩)⟩⟩
              · have r35 : w30.toInt ≠ (-1) := fun e => h31 (Int32.toInt_inj.mp (e.trans (by decide : ((-1):Int) = ((-1) : Int32).toInt)))
                refine ev_loc f_X12_orNone (nx := 15) rfl rfl rfl rfl ?_
                refine ev_loc f_X12_orNone (nx := 16) rfl rfl rfl rfl ?_
                refine ev_inV2 f_X12_orNone (nx := 19) (lo2 := [(0, .ref 69), (1, .int w30)]) rfl rfl rfl rfl f_X12_gives (hI.wf.s rfl) rfl rfl rfl rfl rfl ?_
                refine ev_loc f_X12_gives (nx := 1) rfl rfl rfl rfl ?_
                refine ev_ic f_X12_gives (nx := 2) (v := 0) rfl (by decide) rfl ?_
                refine ev_putIT f_X12_gives (nx := 5) rfl (hI.wf.s rfl) rfl rfl rfl (hI.put0 (hI.wf.s rfl) rfl rfl) (hX.upI rfl) (fun g36 e36 hI hX => ?_)
                refine ev_loc f_X12_gives (nx := 6) rfl rfl rfl rfl ?_
                refine ev_retK1 f_X12_gives rfl rfl rfl ?_
                refine ev_retK1 f_X12_orNone rfl rfl rfl ?_
                exact ev_ret f_X12_reading rfl rfl rfl ⟨_, _, _, rfl, hI, hX, ⟨_, rfl, (t_lo w30), (t_hi w30), (show (¬ (0 ≤ ar2.toInt ∧ ar2.toInt ≤ 2) → (g36 69 2).toInt = 1) ∧ ((0 ≤ ar2.toInt ∧ ar2.toInt ≤ 2) → (w30.toInt = -1 → (g36 69 2).toInt = 6) ∧ (w30.toInt ≠ -1 → (g36 69 2).toInt = 0)) from ⟨fun h => (by have ffs : (g36 69 2).toInt = 0 := (congrArg Int32.toInt (by rw [e36]; exact x_up2_at _ _ _ _ : g36 69 2 = 0)).trans (by decide); omega), fun h => ⟨fun h2 => (by have ffs : (g36 69 2).toInt = 0 := (congrArg Int32.toInt (by rw [e36]; exact x_up2_at _ _ _ _ : g36 69 2 = 0)).trans (by decide); omega), fun h2 => (by have ffs : (g36 69 2).toInt = 0 := (congrArg Int32.toInt (by rw [e36]; exact x_up2_at _ _ _ _ : g36 69 2 = 0)).trans (by decide); omega)⟩⟩)⟩⟩
            · have r37 : ar2.toInt ≠ 1 := fun e => h28 (Int32.toInt_inj.mp (e.trans (by decide : (1:Int) = (1 : Int32).toInt)))
              have l38 : 2 ≤ ar2.toInt := t_nel h28 l27 rfl rfl
              refine ev_loc f_X12_reading (nx := 63) rfl rfl rfl rfl ?_
              refine ev_getR f_X12_reading (nx := 66) rfl (hI.wf.s rfl) rfl rfl (hI.wf.r rfl) rfl rfl ?_
              refine ev_loc f_X12_reading (nx := 67) rfl rfl rfl rfl ?_
              refine ev_ialdT f_X12_reading (nx := 68) rfl (hI.wf.s rfl) l11 (by decide) u15 (by decide) rfl (fun w39 e39 => ?_)
              refine ev_inV2 f_X12_reading (nx := 71) (lo2 := [(0, .ref 69), (1, .int w39)]) rfl rfl rfl rfl f_X12_orNone (hI.wf.s rfl) rfl rfl rfl rfl rfl ?_
              refine ev_loc f_X12_orNone (nx := 1) rfl rfl rfl rfl ?_
              refine ev_ic f_X12_orNone (nx := 2) (v := -1) rfl (by decide) rfl ?_
              refine ev_if f_X12_orNone (t1 := 5) (t2 := 14) rfl rfl rfl (fun h40 => ?_) (fun h40 => ?_)
              · have u41 : w39.toInt ≤ (-1) := t_equ h40 (by decide : ((-1):Int32).toInt ≤ ((-1):Int))
                have l42 : (-1) ≤ w39.toInt := t_eql h40 (by decide : ((-1):Int) ≤ ((-1):Int32).toInt)
                refine ev_loc f_X12_orNone (nx := 6) rfl rfl rfl rfl ?_
                refine ev_bp f_X12_orNone (nx := 8) (v := 6) rfl (by decide) rfl ?_
                refine ev_inV2 f_X12_orNone (nx := 11) (lo2 := [(0, .ref 69), (1, .int 6)]) rfl rfl rfl rfl f_X12_refuse (hI.wf.s rfl) rfl rfl rfl rfl rfl ?_
                refine ev_loc f_X12_refuse (nx := 1) rfl rfl rfl rfl ?_
                refine ev_loc f_X12_refuse (nx := 2) rfl rfl rfl rfl ?_
                refine ev_putIT f_X12_refuse (nx := 5) rfl (hI.wf.s rfl) rfl rfl rfl (hI.put0 (hI.wf.s rfl) rfl rfl) (hX.upI rfl) (fun g43 e43 hI hX => ?_)
                refine ev_ic f_X12_refuse (nx := 6) (v := -1) rfl (by decide) rfl ?_
                refine ev_retK1 f_X12_refuse rfl rfl rfl ?_
                refine ev_jmp f_X12_orNone (nx := 19) rfl rfl rfl ?_
                refine ev_retK1 f_X12_orNone rfl rfl rfl ?_
                exact ev_ret f_X12_reading rfl rfl rfl ⟨_, _, _, rfl, hI, hX, ⟨_, rfl, (Int.le_trans (by decide : ((-2147483648):Int) ≤ (-1)) (by decide : ((-1):Int) ≤ ((-1):Int32).toInt)), (Int.le_trans (by decide : ((-1):Int32).toInt ≤ ((-1):Int)) (by decide : ((-1):Int) ≤ 2147483647)), (show (¬ (0 ≤ ar2.toInt ∧ ar2.toInt ≤ 2) → (g43 69 2).toInt = 1) ∧ ((0 ≤ ar2.toInt ∧ ar2.toInt ≤ 2) → (((-1) : Int) = -1 → (g43 69 2).toInt = 6) ∧ (((-1) : Int) ≠ -1 → (g43 69 2).toInt = 0)) from ⟨fun h => (by have ffs : (g43 69 2).toInt = 6 := (congrArg Int32.toInt (by rw [e43]; exact x_up2_at _ _ _ _ : g43 69 2 = 6)).trans (by decide); omega), fun h => ⟨fun h2 => (by have ffs : (g43 69 2).toInt = 6 := (congrArg Int32.toInt (by rw [e43]; exact x_up2_at _ _ _ _ : g43 69 2 = 6)).trans (by decide); omega), fun h2 => (by have ffs : (g43 69 2).toInt = 6 := (congrArg Int32.toInt (by rw [e43]; exact x_up2_at _ _ _ _ : g43 69 2 = 6)).trans (by decide); omega)⟩⟩)⟩⟩
              · have r44 : w39.toInt ≠ (-1) := fun e => h40 (Int32.toInt_inj.mp (e.trans (by decide : ((-1):Int) = ((-1) : Int32).toInt)))
                refine ev_loc f_X12_orNone (nx := 15) rfl rfl rfl rfl ?_
                refine ev_loc f_X12_orNone (nx := 16) rfl rfl rfl rfl ?_
                refine ev_inV2 f_X12_orNone (nx := 19) (lo2 := [(0, .ref 69), (1, .int w39)]) rfl rfl rfl rfl f_X12_gives (hI.wf.s rfl) rfl rfl rfl rfl rfl ?_
                refine ev_loc f_X12_gives (nx := 1) rfl rfl rfl rfl ?_
                refine ev_ic f_X12_gives (nx := 2) (v := 0) rfl (by decide) rfl ?_
                refine ev_putIT f_X12_gives (nx := 5) rfl (hI.wf.s rfl) rfl rfl rfl (hI.put0 (hI.wf.s rfl) rfl rfl) (hX.upI rfl) (fun g45 e45 hI hX => ?_)
                refine ev_loc f_X12_gives (nx := 6) rfl rfl rfl rfl ?_
                refine ev_retK1 f_X12_gives rfl rfl rfl ?_
                refine ev_retK1 f_X12_orNone rfl rfl rfl ?_
                exact ev_ret f_X12_reading rfl rfl rfl ⟨_, _, _, rfl, hI, hX, ⟨_, rfl, (t_lo w39), (t_hi w39), (show (¬ (0 ≤ ar2.toInt ∧ ar2.toInt ≤ 2) → (g45 69 2).toInt = 1) ∧ ((0 ≤ ar2.toInt ∧ ar2.toInt ≤ 2) → (w39.toInt = -1 → (g45 69 2).toInt = 6) ∧ (w39.toInt ≠ -1 → (g45 69 2).toInt = 0)) from ⟨fun h => (by have ffs : (g45 69 2).toInt = 0 := (congrArg Int32.toInt (by rw [e45]; exact x_up2_at _ _ _ _ : g45 69 2 = 0)).trans (by decide); omega), fun h => ⟨fun h2 => (by have ffs : (g45 69 2).toInt = 0 := (congrArg Int32.toInt (by rw [e45]; exact x_up2_at _ _ _ _ : g45 69 2 = 0)).trans (by decide); omega), fun h2 => (by have ffs : (g45 69 2).toInt = 0 := (congrArg Int32.toInt (by rw [e45]; exact x_up2_at _ _ _ _ : g45 69 2 = 0)).trans (by decide); omega)⟩⟩)⟩⟩
        · have r46 : (gi 69 30).toInt ≤ ar1.toInt := Int32.le_iff_toInt_le.mp (t_nlt h13)
          refine ev_loc f_X12_reading (nx := 28) rfl rfl rfl rfl ?_
          refine ev_bp f_X12_reading (nx := 30) (v := 6) rfl (by decide) rfl ?_
          refine ev_inV2 f_X12_reading (nx := 33) (lo2 := [(0, .ref 69), (1, .int 6)]) rfl rfl rfl rfl f_X12_refuse (hI.wf.s rfl) rfl rfl rfl rfl rfl ?_
          refine ev_loc f_X12_refuse (nx := 1) rfl rfl rfl rfl ?_
          refine ev_loc f_X12_refuse (nx := 2) rfl rfl rfl rfl ?_
          refine ev_putIT f_X12_refuse (nx := 5) rfl (hI.wf.s rfl) rfl rfl rfl (hI.put0 (hI.wf.s rfl) rfl rfl) (hX.upI rfl) (fun g47 e47 hI hX => ?_)
          refine ev_ic f_X12_refuse (nx := 6) (v := -1) rfl (by decide) rfl ?_
          refine ev_retK1 f_X12_refuse rfl rfl rfl ?_
          exact ev_ret f_X12_reading rfl rfl rfl ⟨_, _, _, rfl, hI, hX, ⟨_, rfl, (Int.le_trans (by decide : ((-2147483648):Int) ≤ (-1)) (by decide : ((-1):Int) ≤ ((-1):Int32).toInt)), (Int.le_trans (by decide : ((-1):Int32).toInt ≤ ((-1):Int)) (by decide : ((-1):Int) ≤ 2147483647)), (show (¬ (0 ≤ ar2.toInt ∧ ar2.toInt ≤ 2) → (g47 69 2).toInt = 1) ∧ ((0 ≤ ar2.toInt ∧ ar2.toInt ≤ 2) → (((-1) : Int) = -1 → (g47 69 2).toInt = 6) ∧ (((-1) : Int) ≠ -1 → (g47 69 2).toInt = 0)) from ⟨fun h => (by have ffs : (g47 69 2).toInt = 6 := (congrArg Int32.toInt (by rw [e47]; exact x_up2_at _ _ _ _ : g47 69 2 = 6)).trans (by decide); omega), fun h => ⟨fun h2 => (by have ffs : (g47 69 2).toInt = 6 := (congrArg Int32.toInt (by rw [e47]; exact x_up2_at _ _ _ _ : g47 69 2 = 6)).trans (by decide); omega), fun h2 => (by have ffs : (g47 69 2).toInt = 6 := (congrArg Int32.toInt (by rw [e47]; exact x_up2_at _ _ _ _ : g47 69 2 = 6)).trans (by decide); omega)⟩⟩)⟩⟩
    · have l48 : 3 ≤ ar2.toInt := t_ltl (t_nle h6) (by decide : (2:Int) ≤ (2:Int32).toInt) rfl
      refine ev_loc f_X12_reading (nx := 10) rfl rfl rfl rfl ?_
      refine ev_ic f_X12_reading (nx := 11) (v := 1) rfl (by decide) rfl ?_
      refine ev_inV2 f_X12_reading (nx := 14) (lo2 := [(0, .ref 69), (1, .int 1)]) rfl rfl rfl rfl f_X12_refuse (hI.wf.s rfl) rfl rfl rfl rfl rfl ?_
      refine ev_loc f_X12_refuse (nx := 1) rfl rfl rfl rfl ?_
      refine ev_loc f_X12_refuse (nx := 2) rfl rfl rfl rfl ?_
      refine ev_putIT f_X12_refuse (nx := 5) rfl (hI.wf.s rfl) rfl rfl rfl (hI.put0 (hI.wf.s rfl) rfl rfl) (hX.upI rfl) (fun g49 e49 hI hX => ?_)
      refine ev_ic f_X12_refuse (nx := 6) (v := -1) rfl (by decide) rfl ?_
      refine ev_retK1 f_X12_refuse rfl rfl rfl ?_
      exact ev_ret f_X12_reading rfl rfl rfl ⟨_, _, _, rfl, hI, hX, ⟨_, rfl, (Int.le_trans (by decide : ((-2147483648):Int) ≤ (-1)) (by decide : ((-1):Int) ≤ ((-1):Int32).toInt)), (Int.le_trans (by decide : ((-1):Int32).toInt ≤ ((-1):Int)) (by decide : ((-1):Int) ≤ 2147483647)), (show (¬ (0 ≤ ar2.toInt ∧ ar2.toInt ≤ 2) → (g49 69 2).toInt = 1) ∧ ((0 ≤ ar2.toInt ∧ ar2.toInt ≤ 2) → (((-1) : Int) = -1 → (g49 69 2).toInt = 6) ∧ (((-1) : Int) ≠ -1 → (g49 69 2).toInt = 0)) from ⟨fun h => (by have ffs : (g49 69 2).toInt = 1 := (congrArg Int32.toInt (by rw [e49]; exact x_up2_at _ _ _ _ : g49 69 2 = 1)).trans (by decide); omega), fun h => ⟨fun h2 => (by have ffs : (g49 69 2).toInt = 1 := (congrArg Int32.toInt (by rw [e49]; exact x_up2_at _ _ _ _ : g49 69 2 = 1)).trans (by decide); omega), fun h2 => (by have ffs : (g49 69 2).toInt = 1 := (congrArg Int32.toInt (by rw [e49]; exact x_up2_at _ _ _ _ : g49 69 2 = 1)).trans (by decide); omega)⟩⟩)⟩⟩
noncomputable def wl_g_alike : List (Nat × Nat) := [(69, 2)]
noncomputable def Q_g_alike (gi : Nat → Nat → Int32) (gl : Nat → Nat → Int64) (gr : Nat → Nat → Value) : Int32 → (Nat → Nat → Int32) → (Nat → Nat → Int64) → (Nat → Nat → Value) → Prop := fun (v : Int32) (gi2 : Nat → Nat → Int32) (gl2 : Nat → Nat → Int64) (gr2 : Nat → Nat → Value) => (gi2 69 2).toInt = 0
theorem c_g_alike {X : x_Ext} {d : Nat} {sh : List (Nat ⊕ (Nat × Nat))} {gi : Nat → Nat → Int32} {gl : Nat → Nat → Int64} {gr : Nat → Nat → Value} (hI : t_I sh gi gr) : x_Me X (d + 4) n_X12_alike [.ref 69] (sh, gi, gl, gr) (t_PI wl_g_alike sh gi gl gr (-2147483648) 2147483647 (Q_g_alike gi gl gr)) := by
  have hX : t_X wl_g_alike sh gi gl gr gi gl gr := t_X.rf
  refine me_i f_X12_alike (hI.wf.s rfl) rfl rfl rfl ?_
  refine ev_loc f_X12_alike (nx := 1) rfl rfl rfl rfl ?_
  refine ev_loc f_X12_alike (nx := 2) rfl rfl rfl rfl ?_
  refine ev_loc f_X12_alike (nx := 3) rfl rfl rfl rfl ?_
  refine ev_getR f_X12_alike (nx := 6) rfl (hI.wf.s rfl) rfl rfl (hI.wf.r rfl) rfl rfl ?_
  refine ev_bp f_X12_alike (nx := 8) (v := 7) rfl (by decide) rfl ?_
  obtain ⟨l2, u2⟩ := hI.ab (by decide +kernel : t_abr 70 7 7 0 9 = true) (Nat.le_refl _) (Nat.le_refl _)
  refine ev_ialdv f_X12_alike (nx := 9) (w := (gi 70 7)) rfl (hI.wf.s rfl) (by decide) (rfl : (7 : Int32).toNatClampNeg = 7) (by decide) rfl rfl ?_
  refine ev_cI f_X12_alike (nx := 12) (r := [.ref 69]) rfl rfl rfl rfl rfl rfl rfl (c_m_alikeBy hI ((gi 70 7)) l2 u2) rfl hX rfl (fun w3 gi3 gl3 gr3 l3 u3 hI hX hC3 => ?_)
  refine ev_inV2 f_X12_alike (nx := 15) (lo2 := [(0, .ref 69), (1, .int w3)]) rfl rfl rfl rfl f_X12_gives (hI.wf.s rfl) rfl rfl rfl rfl rfl ?_
  refine ev_loc f_X12_gives (nx := 1) rfl rfl rfl rfl ?_
  refine ev_ic f_X12_gives (nx := 2) (v := 0) rfl (by decide) rfl ?_
  refine ev_putIT f_X12_gives (nx := 5) rfl (hI.wf.s rfl) rfl rfl rfl (hI.put0 (hI.wf.s rfl) rfl rfl) (hX.upI rfl) (fun g4 e4 hI hX => ?_)
  refine ev_loc f_X12_gives (nx := 6) rfl rfl rfl rfl ?_
  refine ev_retK1 f_X12_gives rfl rfl rfl ?_
  exact ev_ret f_X12_alike rfl rfl rfl ⟨_, _, _, rfl, hI, hX, ⟨_, rfl, l3, u3, (show (g4 69 2).toInt = 0 from (by have ffs : (g4 69 2).toInt = 0 := (congrArg Int32.toInt (by rw [e4]; exact x_up2_at _ _ _ _ : g4 69 2 = 0)).trans (by decide); omega))⟩⟩
noncomputable def wl_g_parts : List (Nat × Nat) := [(69, 2)]
noncomputable def Q_g_parts (gi : Nat → Nat → Int32) (gl : Nat → Nat → Int64) (gr : Nat → Nat → Value) (ar1 : Int64) : Int32 → (Nat → Nat → Int32) → (Nat → Nat → Int64) → (Nat → Nat → Value) → Prop := fun (v : Int32) (gi2 : Nat → Nat → Int32) (gl2 : Nat → Nat → Int64) (gr2 : Nat → Nat → Value) => (¬ (1 ≤ ar1.toInt) → (gi2 69 2).toInt = 1) ∧ ((1 ≤ ar1.toInt) → (gi2 69 2).toInt = 0)
theorem c_g_parts {X : x_Ext} {d : Nat} {sh : List (Nat ⊕ (Nat × Nat))} {gi : Nat → Nat → Int32} {gl : Nat → Nat → Int64} {gr : Nat → Nat → Value} (hI : t_I sh gi gr) (ar1 : Int64) : x_Me X (d + 4) n_X12_parts [.ref 69, .long ar1] (sh, gi, gl, gr) (t_PI wl_g_parts sh gi gl gr (-2147483648) 2147483647 (Q_g_parts gi gl gr ar1)) := by
  have hX : t_X wl_g_parts sh gi gl gr gi gl gr := t_X.rf
  refine me_i f_X12_parts (hI.wf.s rfl) rfl rfl rfl ?_
  refine ev_loc f_X12_parts (nx := 1) rfl rfl rfl rfl ?_
  refine ev_lc f_X12_parts (nx := 2) (v := 1) rfl (by decide) rfl ?_
  refine ev_anyIE f_X12_parts (nx := 3) rfl rfl rfl rfl (fun z2 e2 => ?_)
  refine ev_if f_X12_parts (t1 := 12) (t2 := 6) rfl rfl rfl (fun h3 => ?_) (fun h3 => ?_)
  · have l4 : 0 ≤ z2.toInt := t_lel h3 (by decide : (0:Int) ≤ (0:Int32).toInt)
    have hlt := (t_lt1r e2 h3)
    refine ev_ic f_X12_parts (nx := 13) (v := 0) rfl (by decide) rfl ?_
    refine ev_loc f_X12_parts (nx := 14) (lo' := [(3, .int 0), (0, .ref 69), (1, .long ar1)]) rfl rfl rfl rfl ?_
    refine ev_ic f_X12_parts (nx := 15) (v := 0) rfl (by decide) rfl ?_
    refine ev_loc f_X12_parts (nx := 17) (lo' := [(4, .int 0), (3, .int 0), (0, .ref 69), (1, .long ar1)]) rfl rfl rfl rfl ?_
    have L5 : ∀ (m5 : Nat) (gi5 : Nat → Nat → Int32) (gl5 : Nat → Nat → Int64) (gr5 : Nat → Nat → Value) (y5_4 : Int32) (y5_3 : Int32), t_I sh gi5 gr5 → t_X wl_g_parts sh gi gl gr gi5 gl5 gr5 → 0 ≤ y5_4.toInt → y5_4.toInt ≤ 6 → gi5 69 2 = (gi 69 2) → (6 - y5_4.toInt).toNat = m5 → x_Ev X (d + 4) n_X12_parts 17 [(4, .int y5_4), (3, .int y5_3), (0, .ref 69), (1, .long ar1)] [] (sh, gi5, gl5, gr5) (t_PI wl_g_parts sh gi gl gr (-2147483648) 2147483647 (Q_g_parts gi gl gr ar1)) := by
      intro m5
      induction m5 using Nat.strongRecOn with
      | _ m5 ih5 =>
      intro gi5 gl5 gr5 y5_4 y5_3 hI hX l5_4 u5_4 c5_0 hm5
      refine ev_loc f_X12_parts (nx := 19) rfl rfl rfl rfl ?_
      refine ev_loc f_X12_parts (nx := 20) rfl rfl rfl rfl ?_
      refine ev_getR f_X12_parts (nx := 23) rfl (hI.wf.s rfl) rfl rfl (hI.wf.r rfl) rfl rfl ?_
      refine ev_ic f_X12_parts (nx := 24) (v := 0) rfl (by decide) rfl ?_
      obtain ⟨l6, u6⟩ := hI.ab (by decide +kernel : t_abr 70 0 0 0 6 = true) (Nat.le_refl _) (Nat.le_refl _)
      refine ev_ialdv f_X12_parts (nx := 25) (w := (gi5 70 0)) rfl (hI.wf.s rfl) (by decide) (rfl : (0 : Int32).toNatClampNeg = 0) (by decide) rfl rfl ?_
      refine ev_if f_X12_parts (t1 := 62) (t2 := 28) rfl rfl rfl (fun h7 => ?_) (fun h7 => ?_)
      · have r8 : (gi5 70 0).toInt ≤ y5_4.toInt := Int32.le_iff_toInt_le.mp h7
        refine ev_loc f_X12_parts (nx := 63) rfl rfl rfl rfl ?_
        refine ev_loc f_X12_parts (nx := 64) rfl rfl rfl rfl ?_
        refine ev_inV2 f_X12_parts (nx := 67) (lo2 := [(0, .ref 69), (1, .int y5_3)]) rfl rfl rfl rfl f_X12_gives (hI.wf.s rfl) rfl rfl rfl rfl rfl ?_
        refine ev_loc f_X12_gives (nx := 1) rfl rfl rfl rfl ?_
        refine ev_ic f_X12_gives (nx := 2) (v := 0) rfl (by decide) rfl ?_
        refine ev_putIT f_X12_gives (nx := 5) rfl (hI.wf.s rfl) rfl rfl rfl (hI.put0 (hI.wf.s rfl) rfl rfl) (hX.upI rfl) (fun g9 e9 hI hX => ?_)
        refine ev_loc f_X12_gives (nx := 6) rfl rfl rfl rfl ?_
        refine ev_retK1 f_X12_gives rfl rfl rfl ?_
        exact ev_ret f_X12_parts rfl rfl rfl ⟨_, _, _, rfl, hI, hX, ⟨_, rfl, (t_lo y5_3), (t_hi y5_3), (show (¬ (1 ≤ ar1.toInt) → (g9 69 2).toInt = 1) ∧ ((1 ≤ ar1.toInt) → (g9 69 2).toInt = 0) from ⟨fun h => (by have ffs : (g9 69 2).toInt = 0 := (congrArg Int32.toInt (by rw [e9]; exact x_up2_at _ _ _ _ : g9 69 2 = 0)).trans (by decide); omega), fun h => (by have ffs : (g9 69 2).toInt = 0 := (congrArg Int32.toInt (by rw [e9]; exact x_up2_at _ _ _ _ : g9 69 2 = 0)).trans (by decide); omega)⟩)⟩⟩
      · have r10 : y5_4.toInt < (gi5 70 0).toInt := Int32.lt_iff_toInt_lt.mp (t_nle h7)
        have u11 : y5_4.toInt ≤ 5 := t_ltu (t_nle h7) u6 rfl
        have l12 : 1 ≤ (gi5 70 0).toInt := t_ltl (t_nle h7) l5_4 rfl
        refine ev_loc f_X12_parts (nx := 29) rfl rfl rfl rfl ?_
        refine ev_loc f_X12_parts (nx := 30) rfl rfl rfl rfl ?_
        refine ev_loc f_X12_parts (nx := 32) rfl rfl rfl rfl ?_
        refine ev_qL f_X12_parts (nx := 35) (r := [.int y5_3]) rfl rfl rfl rfl rfl rfl rfl (c_m_heardOf hI (y5_4) l5_4 u11) rfl hX rfl (fun w13 gi13 gl13 gr13 hI hX hC13 q13 => ?_)
        have q13 : 0 ≤ w13.toInt ∧ w13.toInt < 8589934592 := q13
        refine ev_loc f_X12_parts (nx := 36) rfl rfl rfl rfl ?_
        refine ev_ldL f_X12_parts (nx := 39) (v := -1) rfl (by decide) rfl ?_
        refine ev_anyLE f_X12_parts (nx := 40) rfl rfl rfl rfl (fun z14 e14 => ?_)
        refine ev_anyLE f_X12_parts (nx := 41) rfl rfl rfl rfl (fun z15 e15 => ?_)
        refine ev_lc f_X12_parts (nx := 42) (v := 0) rfl (by decide) rfl ?_
        refine ev_anyIE f_X12_parts (nx := 43) rfl rfl rfl rfl (fun z16 e16 => ?_)
        refine ev_if f_X12_parts (t1 := 46) (t2 := 53) rfl rfl rfl (fun h17 => ?_) (fun h17 => ?_)
        · have u18 : z16.toInt ≤ 0 := t_equ h17 (by decide : (0:Int32).toInt ≤ (0:Int))
          have l19 : 0 ≤ z16.toInt := t_eql h17 (by decide : (0:Int) ≤ (0:Int32).toInt)
          refine ev_ic f_X12_parts (nx := 47) (v := 1) rfl (by decide) rfl ?_
          refine ev_loc f_X12_parts (nx := 49) rfl rfl rfl rfl ?_
          refine ev_shl1E f_X12_parts (nx := 50) rfl l5_4 u11 (by decide) (by decide) rfl (fun z20 s20 => ?_)
          have l20 : 1 ≤ z20.toInt := by have := l5_4; have := u11; omega
          have u20 : z20.toInt ≤ 32 := by have := l5_4; have := u11; omega
          refine ev_jmp f_X12_parts (nx := 54) rfl rfl rfl ?_
          refine ev_anyIE f_X12_parts (nx := 55) rfl rfl rfl rfl (fun z21 e21 => ?_)
          refine ev_loc f_X12_parts (nx := 56) (lo' := [(3, .int z21), (4, .int y5_4), (0, .ref 69), (1, .long ar1)]) rfl rfl rfl rfl ?_
          refine ev_incR f_X12_parts (nx := 59) (c := 1) (l := 1) (u := 6) rfl rfl (by decide) (by decide) l5_4 u11 rfl rfl (by decide) (by decide) rfl (fun z22 e22 l22 u22 => ?_)
          refine ev_jmp f_X12_parts (nx := 17) rfl rfl rfl ?_
          refine ev_sub (lo := [(4, .int z22), (3, .int z21), (0, .ref 69), (1, .long ar1)]) rfl (t_sc rfl (t_sc rfl (t_sc rfl (t_sc rfl t_sn)))) ?_
          exact ih5 _ (by omega) gi13 gl13 gr13 (z22) (z21) hI hX  (Int.le_trans (by decide : (0:Int) ≤ 1) l22) u22 ((hC13.1 69 2 rfl).1.trans c5_0) rfl
        · have r23 : z16.toInt ≠ 0 := fun e => h17 (Int32.toInt_inj.mp (e.trans (by decide : (0:Int) = (0 : Int32).toInt)))
          refine ev_ic f_X12_parts (nx := 54) (v := 0) rfl (by decide) rfl ?_
          refine ev_anyIE f_X12_parts (nx := 55) rfl rfl rfl rfl (fun z24 e24 => ?_)
          refine ev_loc f_X12_parts (nx := 56) (lo' := [(3, .int z24), (4, .int y5_4), (0, .ref 69), (1, .long ar1)]) rfl rfl rfl rfl ?_
          refine ev_incR f_X12_parts (nx := 59) (c := 1) (l := 1) (u := 6) rfl rfl (by decide) (by decide) l5_4 u11 rfl rfl (by decide) (by decide) rfl (fun z25 e25 l25 u25 => ?_)
          refine ev_jmp f_X12_parts (nx := 17) rfl rfl rfl ?_
          refine ev_sub (lo := [(4, .int z25), (3, .int z24), (0, .ref 69), (1, .long ar1)]) rfl (t_sc rfl (t_sc rfl (t_sc rfl (t_sc rfl t_sn)))) ?_
          exact ih5 _ (by omega) gi13 gl13 gr13 (z25) (z24) hI hX  (Int.le_trans (by decide : (0:Int) ≤ 1) l25) u25 ((hC13.1 69 2 rfl).1.trans c5_0) rfl
    refine ev_sub (lo := [(4, .int 0), (3, .int 0), (0, .ref 69), (1, .long ar1)]) rfl (t_sc rfl (t_sc rfl (t_sc rfl (t_sc rfl t_sn)))) ?_
    exact L5 _ gi gl gr (0) (0) hI hX  (by decide : (0:Int) ≤ (0:Int32).toInt) (Int.le_trans (by decide : (0:Int32).toInt ≤ (0:Int)) (by decide : (0:Int) ≤ 6)) rfl rfl
  · have u26 : z2.toInt ≤ (-1) := t_ltu (t_nle h3) (by decide : (0:Int32).toInt ≤ (0:Int)) rfl
    have hlt := (t_lt1q e2 h3)
    refine ev_loc f_X12_parts (nx := 7) rfl rfl rfl rfl ?_
    refine ev_ic f_X12_parts (nx := 8) (v := 1) rfl (by decide) rfl ?_
    refine ev_inV2 f_X12_parts (nx := 11) (lo2 := [(0, .ref 69), (1, .int 1)]) rfl rfl rfl rfl f_X12_refuse (hI.wf.s rfl) rfl rfl rfl rfl rfl ?_
    refine ev_loc f_X12_refuse (nx := 1) rfl rfl rfl rfl ?_
    refine ev_loc f_X12_refuse (nx := 2) rfl rfl rfl rfl ?_
    refine ev_putIT f_X12_refuse (nx := 5) rfl (hI.wf.s rfl) rfl rfl rfl (hI.put0 (hI.wf.s rfl) rfl rfl) (hX.upI rfl) (fun g27 e27 hI hX => ?_)
    refine ev_ic f_X12_refuse (nx := 6) (v := -1) rfl (by decide) rfl ?_
    refine ev_retK1 f_X12_refuse rfl rfl rfl ?_
    exact ev_ret f_X12_parts rfl rfl rfl ⟨_, _, _, rfl, hI, hX, ⟨_, rfl, (Int.le_trans (by decide : ((-2147483648):Int) ≤ (-1)) (by decide : ((-1):Int) ≤ ((-1):Int32).toInt)), (Int.le_trans (by decide : ((-1):Int32).toInt ≤ ((-1):Int)) (by decide : ((-1):Int) ≤ 2147483647)), (show (¬ (1 ≤ ar1.toInt) → (g27 69 2).toInt = 1) ∧ ((1 ≤ ar1.toInt) → (g27 69 2).toInt = 0) from ⟨fun h => (by have ffs : (g27 69 2).toInt = 1 := (congrArg Int32.toInt (by rw [e27]; exact x_up2_at _ _ _ _ : g27 69 2 = 1)).trans (by decide); omega), fun h => (by have ffs : (g27 69 2).toInt = 1 := (congrArg Int32.toInt (by rw [e27]; exact x_up2_at _ _ _ _ : g27 69 2 = 1)).trans (by decide); omega)⟩)⟩⟩
noncomputable def wl_g_clearBeats : List (Nat × Nat) := [(69, 2), (69, 29), (78, 9999), (79, 9999), (80, 9999)]
noncomputable def Q_g_clearBeats (gi : Nat → Nat → Int32) (gl : Nat → Nat → Int64) (gr : Nat → Nat → Value) (ar1 : Int32) (ar2 : Int32) : Int32 → (Nat → Nat → Int32) → (Nat → Nat → Int64) → (Nat → Nat → Value) → Prop := fun (v : Int32) (gi2 : Nat → Nat → Int32) (gl2 : Nat → Nat → Int64) (gr2 : Nat → Nat → Value) => (¬ (0 ≤ ar1.toInt ∧ ar1.toInt < (gi 70 0).toInt ∧ 0 ≤ ar2.toInt ∧ ar2.toInt < (gi 70 0).toInt) → (gi2 69 2).toInt = 1) ∧ ((0 ≤ ar1.toInt ∧ ar1.toInt < (gi 70 0).toInt ∧ 0 ≤ ar2.toInt ∧ ar2.toInt < (gi 70 0).toInt) → (v.toInt = -1 → (gi2 69 2).toInt = 6) ∧ (v.toInt ≠ -1 → (gi2 69 2).toInt = 0))
theorem c_g_clearBeats {X : x_Ext} {d : Nat} {sh : List (Nat ⊕ (Nat × Nat))} {gi : Nat → Nat → Int32} {gl : Nat → Nat → Int64} {gr : Nat → Nat → Value} (hI : t_I sh gi gr) (ar1 : Int32) (ar2 : Int32) : x_Me X (d + 5) n_X12_clearBeats [.ref 69, .int ar1, .int ar2] (sh, gi, gl, gr) (t_PI wl_g_clearBeats sh gi gl gr (-1) 12 (Q_g_clearBeats gi gl gr ar1 ar2)) := by
  have hX : t_X wl_g_clearBeats sh gi gl gr gi gl gr := t_X.rf
  refine me_i f_X12_clearBeats (hI.wf.s rfl) rfl rfl rfl ?_
  obtain ⟨l2, u2⟩ := hI.ab (by decide +kernel : t_abr 70 0 0 0 6 = true) (Nat.le_refl _) (Nat.le_refl _)
  refine ev_loc f_X12_clearBeats (nx := 1) rfl rfl rfl rfl ?_
  refine ev_loc f_X12_clearBeats (nx := 2) rfl rfl rfl rfl ?_
  refine ev_inV2 f_X12_clearBeats (nx := 5) (lo2 := [(0, .ref 69), (1, .int ar1)]) rfl rfl rfl rfl f_X12_isPort (hI.wf.s rfl) rfl rfl rfl rfl rfl ?_
  refine ev_loc f_X12_isPort (nx := 1) rfl rfl rfl rfl ?_
  refine ev_if f_X12_isPort (t1 := 18) (t2 := 4) rfl rfl rfl (fun h3 => ?_) (fun h3 => ?_)
  · have u4 : ar1.toInt ≤ (-1) := t_ltu h3 (by decide : (0:Int32).toInt ≤ (0:Int)) rfl
    refine ev_ic f_X12_isPort (nx := 19) (v := 0) rfl (by decide) rfl ?_
    refine ev_retK1 f_X12_isPort rfl rfl rfl ?_
    refine ev_t f_X12_clearBeats (t1 := 16) (t2 := 8) rfl rfl rfl (by decide) ?_
    refine ev_loc f_X12_clearBeats (nx := 17) rfl rfl rfl rfl ?_
    refine ev_ic f_X12_clearBeats (nx := 18) (v := 1) rfl (by decide) rfl ?_
    refine ev_inV2 f_X12_clearBeats (nx := 21) (lo2 := [(0, .ref 69), (1, .int 1)]) rfl rfl rfl rfl f_X12_refuse (hI.wf.s rfl) rfl rfl rfl rfl rfl ?_
    refine ev_loc f_X12_refuse (nx := 1) rfl rfl rfl rfl ?_
    refine ev_loc f_X12_refuse (nx := 2) rfl rfl rfl rfl ?_
    refine ev_putIT f_X12_refuse (nx := 5) rfl (hI.wf.s rfl) rfl rfl rfl (hI.put0 (hI.wf.s rfl) rfl rfl) (hX.upI rfl) (fun g5 e5 hI hX => ?_)
    refine ev_ic f_X12_refuse (nx := 6) (v := -1) rfl (by decide) rfl ?_
    refine ev_retK1 f_X12_refuse rfl rfl rfl ?_
    exact ev_ret f_X12_clearBeats rfl rfl rfl ⟨_, _, _, rfl, hI, hX, ⟨_, rfl, (by decide : ((-1):Int) ≤ ((-1):Int32).toInt), (Int.le_trans (by decide : ((-1):Int32).toInt ≤ ((-1):Int)) (by decide : ((-1):Int) ≤ 12)), (show (¬ (0 ≤ ar1.toInt ∧ ar1.toInt < (gi 70 0).toInt ∧ 0 ≤ ar2.toInt ∧ ar2.toInt < (gi 70 0).toInt) → (g5 69 2).toInt = 1) ∧ ((0 ≤ ar1.toInt ∧ ar1.toInt < (gi 70 0).toInt ∧ 0 ≤ ar2.toInt ∧ ar2.toInt < (gi 70 0).toInt) → (((-1) : Int) = -1 → (g5 69 2).toInt = 6) ∧ (((-1) : Int) ≠ -1 → (g5 69 2).toInt = 0)) from ⟨fun h => (by have ffs : (g5 69 2).toInt = 1 := (congrArg Int32.toInt (by rw [e5]; exact x_up2_at _ _ _ _ : g5 69 2 = 1)).trans (by decide); omega), fun h => ⟨fun h2 => (by have ffs : (g5 69 2).toInt = 1 := (congrArg Int32.toInt (by rw [e5]; exact x_up2_at _ _ _ _ : g5 69 2 = 1)).trans (by decide); omega), fun h2 => (by have ffs : (g5 69 2).toInt = 1 := (congrArg Int32.toInt (by rw [e5]; exact x_up2_at _ _ _ _ : g5 69 2 = 1)).trans (by decide); omega)⟩⟩)⟩⟩
  · have l6 : 0 ≤ ar1.toInt := t_lel (t_nlt h3) (by decide : (0:Int) ≤ (0:Int32).toInt)
    refine ev_loc f_X12_isPort (nx := 5) rfl rfl rfl rfl ?_
    refine ev_loc f_X12_isPort (nx := 6) rfl rfl rfl rfl ?_
    refine ev_getR f_X12_isPort (nx := 9) rfl (hI.wf.s rfl) rfl rfl (hI.wf.r rfl) rfl rfl ?_
    refine ev_ic f_X12_isPort (nx := 10) (v := 0) rfl (by decide) rfl ?_
    refine ev_ialdv f_X12_isPort (nx := 11) (w := (gi 70 0)) rfl (hI.wf.s rfl) (by decide) (rfl : (0 : Int32).toNatClampNeg = 0) (by decide) rfl rfl ?_
    refine ev_if f_X12_isPort (t1 := 18) (t2 := 14) rfl rfl rfl (fun h8 => ?_) (fun h8 => ?_)
    · have r9 : (gi 70 0).toInt ≤ ar1.toInt := Int32.le_iff_toInt_le.mp h8
      refine ev_ic f_X12_isPort (nx := 19) (v := 0) rfl (by decide) rfl ?_
      refine ev_retK1 f_X12_isPort rfl rfl rfl ?_
      refine ev_t f_X12_clearBeats (t1 := 16) (t2 := 8) rfl rfl rfl (by decide) ?_
      refine ev_loc f_X12_clearBeats (nx := 17) rfl rfl rfl rfl ?_
      refine ev_ic f_X12_clearBeats (nx := 18) (v := 1) rfl (by decide) rfl ?_
      refine ev_inV2 f_X12_clearBeats (nx := 21) (lo2 := [(0, .ref 69), (1, .int 1)]) rfl rfl rfl rfl f_X12_refuse (hI.wf.s rfl) rfl rfl rfl rfl rfl ?_
      refine ev_loc f_X12_refuse (nx := 1) rfl rfl rfl rfl ?_
      refine ev_loc f_X12_refuse (nx := 2) rfl rfl rfl rfl ?_
      refine ev_putIT f_X12_refuse (nx := 5) rfl (hI.wf.s rfl) rfl rfl rfl (hI.put0 (hI.wf.s rfl) rfl rfl) (hX.upI rfl) (fun g10 e10 hI hX => ?_)
      refine ev_ic f_X12_refuse (nx := 6) (v := -1) rfl (by decide) rfl ?_
      refine ev_retK1 f_X12_refuse rfl rfl rfl ?_
      exact ev_ret f_X12_clearBeats rfl rfl rfl ⟨_, _, _, rfl, hI, hX, ⟨_, rfl, (by decide : ((-1):Int) ≤ ((-1):Int32).toInt), (Int.le_trans (by decide : ((-1):Int32).toInt ≤ ((-1):Int)) (by decide : ((-1):Int) ≤ 12)), (show (¬ (0 ≤ ar1.toInt ∧ ar1.toInt < (gi 70 0).toInt ∧ 0 ≤ ar2.toInt ∧ ar2.toInt < (gi 70 0).toInt) → (g10 69 2).toInt = 1) ∧ ((0 ≤ ar1.toInt ∧ ar1.toInt < (gi 70 0).toInt ∧ 0 ≤ ar2.toInt ∧ ar2.toInt < (gi 70 0).toInt) → (((-1) : Int) = -1 → (g10 69 2).toInt = 6) ∧ (((-1) : Int) ≠ -1 → (g10 69 2).toInt = 0)) from ⟨fun h => (by have ffs : (g10 69 2).toInt = 1 := (congrArg Int32.toInt (by rw [e10]; exact x_up2_at _ _ _ _ : g10 69 2 = 1)).trans (by decide); omega), fun h => ⟨fun h2 => (by have ffs : (g10 69 2).toInt = 1 := (congrArg Int32.toInt (by rw [e10]; exact x_up2_at _ _ _ _ : g10 69 2 = 1)).trans (by decide); omega), fun h2 => (by have ffs : (g10 69 2).toInt = 1 := (congrArg Int32.toInt (by rw [e10]; exact x_up2_at _ _ _ _ : g10 69 2 = 1)).trans (by decide); omega)⟩⟩)⟩⟩
    · have r11 : ar1.toInt < (gi 70 0).toInt := Int32.lt_iff_toInt_lt.mp (t_nle h8)
      have u12 : ar1.toInt ≤ 5 := t_ltu (t_nle h8) u2 rfl
      have l13 : 1 ≤ (gi 70 0).toInt := t_ltl (t_nle h8) l6 rfl
      refine ev_ic f_X12_isPort (nx := 15) (v := 1) rfl (by decide) rfl ?_
      refine ev_jmp f_X12_isPort (nx := 19) rfl rfl rfl ?_
      refine ev_retK1 f_X12_isPort rfl rfl rfl ?_
      refine ev_f f_X12_clearBeats (t1 := 16) (t2 := 8) rfl rfl rfl (by decide) ?_
      refine ev_loc f_X12_clearBeats (nx := 9) rfl rfl rfl rfl ?_
      refine ev_loc f_X12_clearBeats (nx := 10) rfl rfl rfl rfl ?_
      refine ev_inV2 f_X12_clearBeats (nx := 13) (lo2 := [(0, .ref 69), (1, .int ar2)]) rfl rfl rfl rfl f_X12_isPort (hI.wf.s rfl) rfl rfl rfl rfl rfl ?_
      refine ev_loc f_X12_isPort (nx := 1) rfl rfl rfl rfl ?_
      refine ev_if f_X12_isPort (t1 := 18) (t2 := 4) rfl rfl rfl (fun h14 => ?_) (fun h14 => ?_)
      · have u15 : ar2.toInt ≤ (-1) := t_ltu h14 (by decide : (0:Int32).toInt ≤ (0:Int)) rfl
        refine ev_ic f_X12_isPort (nx := 19) (v := 0) rfl (by decide) rfl ?_
        refine ev_retK1 f_X12_isPort rfl rfl rfl ?_
        refine ev_t f_X12_clearBeats (t1 := 16) (t2 := 22) rfl rfl rfl (by decide) ?_
        refine ev_loc f_X12_clearBeats (nx := 17) rfl rfl rfl rfl ?_
        refine ev_ic f_X12_clearBeats (nx := 18) (v := 1) rfl (by decide) rfl ?_
        refine ev_inV2 f_X12_clearBeats (nx := 21) (lo2 := [(0, .ref 69), (1, .int 1)]) rfl rfl rfl rfl f_X12_refuse (hI.wf.s rfl) rfl rfl rfl rfl rfl ?_
        refine ev_loc f_X12_refuse (nx := 1) rfl rfl rfl rfl ?_
        refine ev_loc f_X12_refuse (nx := 2) rfl rfl rfl rfl ?_
        refine ev_putIT f_X12_refuse (nx := 5) rfl (hI.wf.s rfl) rfl rfl rfl (hI.put0 (hI.wf.s rfl) rfl rfl) (hX.upI rfl) (fun g16 e16 hI hX => ?_)
        refine ev_ic f_X12_refuse (nx := 6) (v := -1) rfl (by decide) rfl ?_
        refine ev_retK1 f_X12_refuse rfl rfl rfl ?_
        exact ev_ret f_X12_clearBeats rfl rfl rfl ⟨_, _, _, rfl, hI, hX, ⟨_, rfl, (by decide : ((-1):Int) ≤ ((-1):Int32).toInt), (Int.le_trans (by decide : ((-1):Int32).toInt ≤ ((-1):Int)) (by decide : ((-1):Int) ≤ 12)), (show (¬ (0 ≤ ar1.toInt ∧ ar1.toInt < (gi 70 0).toInt ∧ 0 ≤ ar2.toInt ∧ ar2.toInt < (gi 70 0).toInt) → (g16 69 2).toInt = 1) ∧ ((0 ≤ ar1.toInt ∧ ar1.toInt < (gi 70 0).toInt ∧ 0 ≤ ar2.toInt ∧ ar2.toInt < (gi 70 0).toInt) → (((-1) : Int) = -1 → (g16 69 2).toInt = 6) ∧ (((-1) : Int) ≠ -1 → (g16 69 2).toInt = 0)) from ⟨fun h => (by have ffs : (g16 69 2).toInt = 1 := (congrArg Int32.toInt (by rw [e16]; exact x_up2_at _ _ _ _ : g16 69 2 = 1)).trans (by decide); omega), fun h => ⟨fun h2 => (by have ffs : (g16 69 2).toInt = 1 := (congrArg Int32.toInt (by rw [e16]; exact x_up2_at _ _ _ _ : g16 69 2 = 1)).trans (by decide); omega), fun h2 => (by have ffs : (g16 69 2).toInt = 1 := (congrArg Int32.toInt (by rw [e16]; exact x_up2_at _ _ _ _ : g16 69 2 = 1)).trans (by decide); omega)⟩⟩)⟩⟩
      · have l17 : 0 ≤ ar2.toInt := t_lel (t_nlt h14) (by decide : (0:Int) ≤ (0:Int32).toInt)
        refine ev_loc f_X12_isPort (nx := 5) rfl rfl rfl rfl ?_
        refine ev_loc f_X12_isPort (nx := 6) rfl rfl rfl rfl ?_
        refine ev_getR f_X12_isPort (nx := 9) rfl (hI.wf.s rfl) rfl rfl (hI.wf.r rfl) rfl rfl ?_
        refine ev_ic f_X12_isPort (nx := 10) (v := 0) rfl (by decide) rfl ?_
        refine ev_ialdv f_X12_isPort (nx := 11) (w := (gi 70 0)) rfl (hI.wf.s rfl) (by decide) (rfl : (0 : Int32).toNatClampNeg = 0) (by decide) rfl rfl ?_
        refine ev_if f_X12_isPort (t1 := 18) (t2 := 14) rfl rfl rfl (fun h19 => ?_) (fun h19 => ?_)
        · have r20 : (gi 70 0).toInt ≤ ar2.toInt := Int32.le_iff_toInt_le.mp h19
          have l21 : 1 ≤ ar2.toInt := t_lel h19 l13
          refine ev_ic f_X12_isPort (nx := 19) (v := 0) rfl (by decide) rfl ?_
          refine ev_retK1 f_X12_isPort rfl rfl rfl ?_
          refine ev_t f_X12_clearBeats (t1 := 16) (t2 := 22) rfl rfl rfl (by decide) ?_
          refine ev_loc f_X12_clearBeats (nx := 17) rfl rfl rfl rfl ?_
          refine ev_ic f_X12_clearBeats (nx := 18) (v := 1) rfl (by decide) rfl ?_
          refine ev_inV2 f_X12_clearBeats (nx := 21) (lo2 := [(0, .ref 69), (1, .int 1)]) rfl rfl rfl rfl f_X12_refuse (hI.wf.s rfl) rfl rfl rfl rfl rfl ?_
          refine ev_loc f_X12_refuse (nx := 1) rfl rfl rfl rfl ?_
          refine ev_loc f_X12_refuse (nx := 2) rfl rfl rfl rfl ?_
          refine ev_putIT f_X12_refuse (nx := 5) rfl (hI.wf.s rfl) rfl rfl rfl (hI.put0 (hI.wf.s rfl) rfl rfl) (hX.upI rfl) (fun g22 e22 hI hX => ?_)
          refine ev_ic f_X12_refuse (nx := 6) (v := -1) rfl (by decide) rfl ?_
          refine ev_retK1 f_X12_refuse rfl rfl rfl ?_
          exact ev_ret f_X12_clearBeats rfl rfl rfl ⟨_, _, _, rfl, hI, hX, ⟨_, rfl, (by decide : ((-1):Int) ≤ ((-1):Int32).toInt), (Int.le_trans (by decide : ((-1):Int32).toInt ≤ ((-1):Int)) (by decide : ((-1):Int) ≤ 12)), (show (¬ (0 ≤ ar1.toInt ∧ ar1.toInt < (gi 70 0).toInt ∧ 0 ≤ ar2.toInt ∧ ar2.toInt < (gi 70 0).toInt) → (g22 69 2).toInt = 1) ∧ ((0 ≤ ar1.toInt ∧ ar1.toInt < (gi 70 0).toInt ∧ 0 ≤ ar2.toInt ∧ ar2.toInt < (gi 70 0).toInt) → (((-1) : Int) = -1 → (g22 69 2).toInt = 6) ∧ (((-1) : Int) ≠ -1 → (g22 69 2).toInt = 0)) from ⟨fun h => (by have ffs : (g22 69 2).toInt = 1 := (congrArg Int32.toInt (by rw [e22]; exact x_up2_at _ _ _ _ : g22 69 2 = 1)).trans (by decide); omega), fun h => ⟨fun h2 => (by have ffs : (g22 69 2).toInt = 1 := (congrArg Int32.toInt (by rw [e22]; exact x_up2_at _ _ _ _ : g22 69 2 = 1)).trans (by decide); omega), fun h2 => (by have ffs : (g22 69 2).toInt = 1 := (congrArg Int32.toInt (by rw [e22]; exact x_up2_at _ _ _ _ : g22 69 2 = 1)).trans (by decide); omega)⟩⟩)⟩⟩
        · have r23 : ar2.toInt < (gi 70 0).toInt := Int32.lt_iff_toInt_lt.mp (t_nle h19)
          have u24 : ar2.toInt ≤ 5 := t_ltu (t_nle h19) u2 rfl
          refine ev_ic f_X12_isPort (nx := 15) (v := 1) rfl (by decide) rfl ?_
          refine ev_jmp f_X12_isPort (nx := 19) rfl rfl rfl ?_
          refine ev_retK1 f_X12_isPort rfl rfl rfl ?_
          refine ev_f f_X12_clearBeats (t1 := 16) (t2 := 22) rfl rfl rfl (by decide) ?_
          refine ev_ic f_X12_clearBeats (nx := 23) (v := 0) rfl (by decide) rfl ?_
          refine ev_loc f_X12_clearBeats (nx := 24) (lo' := [(3, .int 0), (0, .ref 69), (1, .int ar1), (2, .int ar2)]) rfl rfl rfl rfl ?_
          have L25 : ∀ (m25 : Nat) (gi25 : Nat → Nat → Int32) (gl25 : Nat → Nat → Int64) (gr25 : Nat → Nat → Value) (y25_3 : Int32), t_I sh gi25 gr25 → t_X wl_g_clearBeats sh gi gl gr gi25 gl25 gr25 → 0 ≤ y25_3.toInt → y25_3.toInt ≤ 13 → gi25 69 2 = (gi 69 2) → gi25 70 0 = (gi 70 0) → (13 - y25_3.toInt).toNat = m25 → x_Ev X (d + 5) n_X12_clearBeats 24 [(3, .int y25_3), (0, .ref 69), (1, .int ar1), (2, .int ar2)] [] (sh, gi25, gl25, gr25) (t_PI wl_g_clearBeats sh gi gl gr (-1) 12 (Q_g_clearBeats gi gl gr ar1 ar2)) := by
            intro m25
            induction m25 using Nat.strongRecOn with
            | _ m25 ih25 =>
            intro gi25 gl25 gr25 y25_3 hI hX l25_3 u25_3 c25_0 c25_1 hm25
            refine ev_loc f_X12_clearBeats (nx := 25) rfl rfl rfl rfl ?_
            refine ev_bp f_X12_clearBeats (nx := 27) (v := 12) rfl (by decide) rfl ?_
            refine ev_if f_X12_clearBeats (t1 := 67) (t2 := 30) rfl rfl rfl (fun h26 => ?_) (fun h26 => ?_)
            · have l27 : 13 ≤ y25_3.toInt := t_ltl h26 (by decide : (12:Int) ≤ (12:Int32).toInt) rfl
              refine ev_loc f_X12_clearBeats (nx := 68) rfl rfl rfl rfl ?_
              refine ev_bp f_X12_clearBeats (nx := 70) (v := 6) rfl (by decide) rfl ?_
              refine ev_inV2 f_X12_clearBeats (nx := 73) (lo2 := [(0, .ref 69), (1, .int 6)]) rfl rfl rfl rfl f_X12_refuse (hI.wf.s rfl) rfl rfl rfl rfl rfl ?_
              refine ev_loc f_X12_refuse (nx := 1) rfl rfl rfl rfl ?_
              refine ev_loc f_X12_refuse (nx := 2) rfl rfl rfl rfl ?_
              refine ev_putIT f_X12_refuse (nx := 5) rfl (hI.wf.s rfl) rfl rfl rfl (hI.put0 (hI.wf.s rfl) rfl rfl) (hX.upI rfl) (fun g28 e28 hI hX => ?_)
              refine ev_ic f_X12_refuse (nx := 6) (v := -1) rfl (by decide) rfl ?_
              refine ev_retK1 f_X12_refuse rfl rfl rfl ?_
              exact ev_ret f_X12_clearBeats rfl rfl rfl ⟨_, _, _, rfl, hI, hX, ⟨_, rfl, (by decide : ((-1):Int) ≤ ((-1):Int32).toInt), (Int.le_trans (by decide : ((-1):Int32).toInt ≤ ((-1):Int)) (by decide : ((-1):Int) ≤ 12)), (show (¬ (0 ≤ ar1.toInt ∧ ar1.toInt < (gi 70 0).toInt ∧ 0 ≤ ar2.toInt ∧ ar2.toInt < (gi 70 0).toInt) → (g28 69 2).toInt = 1) ∧ ((0 ≤ ar1.toInt ∧ ar1.toInt < (gi 70 0).toInt ∧ 0 ≤ ar2.toInt ∧ ar2.toInt < (gi 70 0).toInt) → (((-1) : Int) = -1 → (g28 69 2).toInt = 6) ∧ (((-1) : Int) ≠ -1 → (g28 69 2).toInt = 0)) from ⟨fun h => (by have ffs : (g28 69 2).toInt = 6 := (congrArg Int32.toInt (by rw [e28]; exact x_up2_at _ _ _ _ : g28 69 2 = 6)).trans (by decide); omega), fun h => ⟨fun h2 => (by have ffs : (g28 69 2).toInt = 6 := (congrArg Int32.toInt (by rw [e28]; exact x_up2_at _ _ _ _ : g28 69 2 = 6)).trans (by decide); omega), fun h2 => (by have ffs : (g28 69 2).toInt = 6 := (congrArg Int32.toInt (by rw [e28]; exact x_up2_at _ _ _ _ : g28 69 2 = 6)).trans (by decide); omega)⟩⟩)⟩⟩
            · have u29 : y25_3.toInt ≤ 12 := t_leu (t_nlt h26) (by decide : (12:Int32).toInt ≤ (12:Int))
              refine ev_loc f_X12_clearBeats (nx := 31) rfl rfl rfl rfl ?_
              refine ev_loc f_X12_clearBeats (nx := 32) rfl rfl rfl rfl ?_
              refine ev_loc f_X12_clearBeats (nx := 33) rfl rfl rfl rfl ?_
              refine ev_qL f_X12_clearBeats (nx := 36) (r := [.ref 69]) rfl rfl rfl rfl rfl rfl rfl (c_m_heardOf hI (ar1) l6 u12) rfl hX rfl (fun w30 gi30 gl30 gr30 hI hX hC30 q30 => ?_)
              have q30 : 0 ≤ w30.toInt ∧ w30.toInt < 8589934592 := q30
              refine ev_loc f_X12_clearBeats (nx := 37) rfl rfl rfl rfl ?_
              refine ev_loc f_X12_clearBeats (nx := 38) rfl rfl rfl rfl ?_
              refine ev_qL f_X12_clearBeats (nx := 41) (r := [.long w30, .ref 69]) rfl rfl rfl rfl rfl rfl rfl (c_m_heardOf hI (ar2) l17 u24) rfl hX rfl (fun w31 gi31 gl31 gr31 hI hX hC31 q31 => ?_)
              have q31 : 0 ≤ w31.toInt ∧ w31.toInt < 8589934592 := q31
              refine ev_loc f_X12_clearBeats (nx := 42) rfl rfl rfl rfl ?_
              refine ev_anyL f_X12_clearBeats (nx := 43) rfl rfl rfl rfl (fun z32 => ?_)
              refine ev_anyL f_X12_clearBeats (nx := 44) rfl rfl rfl rfl (fun z33 => ?_)
              refine ev_qN f_X12_clearBeats (nx := 47) (r := []) rfl rfl rfl rfl rfl rfl rfl (c_m_findsReadings hI (z33)) rfl hX rfl (fun gi34 gl34 gr34 hI hX hC34 q34 => ?_)
              have q34 : (gi34 69 29).toInt ≤ 474 := q34
              refine ev_loc f_X12_clearBeats (nx := 48) rfl rfl rfl rfl ?_
              refine ev_getI f_X12_clearBeats (nx := 51) rfl (hI.wf.s rfl) rfl rfl rfl ?_
              obtain ⟨l35, u35⟩ := hI.b (hI.wf.s (k := 69) rfl) (t_bdK rfl : t_bd 11 29 = some (0, 500))
              refine ev_ic f_X12_clearBeats (nx := 52) (v := 1) rfl (by decide) rfl ?_
              refine ev_if f_X12_clearBeats (t1 := 55) (t2 := 61) rfl rfl rfl (fun h36 => ?_) (fun h36 => ?_)
              · have u37 : (gi34 69 29).toInt ≤ 1 := t_equ h36 (by decide : (1:Int32).toInt ≤ (1:Int))
                have l38 : 1 ≤ (gi34 69 29).toInt := t_eql h36 (by decide : (1:Int) ≤ (1:Int32).toInt)
                refine ev_loc f_X12_clearBeats (nx := 56) rfl rfl rfl rfl ?_
                refine ev_loc f_X12_clearBeats (nx := 57) rfl rfl rfl rfl ?_
                refine ev_inV2 f_X12_clearBeats (nx := 60) (lo2 := [(0, .ref 69), (1, .int y25_3)]) rfl rfl rfl rfl f_X12_gives (hI.wf.s rfl) rfl rfl rfl rfl rfl ?_
                refine ev_loc f_X12_gives (nx := 1) rfl rfl rfl rfl ?_
                refine ev_ic f_X12_gives (nx := 2) (v := 0) rfl (by decide) rfl ?_
                refine ev_putIT f_X12_gives (nx := 5) rfl (hI.wf.s rfl) rfl rfl rfl (hI.put0 (hI.wf.s rfl) rfl rfl) (hX.upI rfl) (fun g39 e39 hI hX => ?_)
                refine ev_loc f_X12_gives (nx := 6) rfl rfl rfl rfl ?_
                refine ev_retK1 f_X12_gives rfl rfl rfl ?_
                exact ev_ret f_X12_clearBeats rfl rfl rfl ⟨_, _, _, rfl, hI, hX, ⟨_, rfl, (Int.le_trans (by decide : ((-1):Int) ≤ 0) l25_3), u29, (show (¬ (0 ≤ ar1.toInt ∧ ar1.toInt < (gi 70 0).toInt ∧ 0 ≤ ar2.toInt ∧ ar2.toInt < (gi 70 0).toInt) → (g39 69 2).toInt = 1) ∧ ((0 ≤ ar1.toInt ∧ ar1.toInt < (gi 70 0).toInt ∧ 0 ≤ ar2.toInt ∧ ar2.toInt < (gi 70 0).toInt) → (y25_3.toInt = -1 → (g39 69 2).toInt = 6) ∧ (y25_3.toInt ≠ -1 → (g39 69 2).toInt = 0)) from ⟨fun h => (by have ffs : (g39 69 2).toInt = 0 := (congrArg Int32.toInt (by rw [e39]; exact x_up2_at _ _ _ _ : g39 69 2 = 0)).trans (by decide); omega), fun h => ⟨fun h2 => (by have ffs : (g39 69 2).toInt = 0 := (congrArg Int32.toInt (by rw [e39]; exact x_up2_at _ _ _ _ : g39 69 2 = 0)).trans (by decide); omega), fun h2 => (by have ffs : (g39 69 2).toInt = 0 := (congrArg Int32.toInt (by rw [e39]; exact x_up2_at _ _ _ _ : g39 69 2 = 0)).trans (by decide); omega)⟩⟩)⟩⟩
              · have r40 : (gi34 69 29).toInt ≠ 1 := fun e => h36 (Int32.toInt_inj.mp (e.trans (by decide : (1:Int) = (1 : Int32).toInt)))
                refine ev_incR f_X12_clearBeats (nx := 64) (c := 1) (l := 1) (u := 13) rfl rfl (by decide) (by decide) l25_3 u29 rfl rfl (by decide) (by decide) rfl (fun z41 e41 l41 u41 => ?_)
                refine ev_jmp f_X12_clearBeats (nx := 24) rfl rfl rfl ?_
                refine ev_sub (lo := [(3, .int z41), (0, .ref 69), (1, .int ar1), (2, .int ar2)]) rfl (t_sc rfl (t_sc rfl (t_sc rfl (t_sc rfl t_sn)))) ?_
                exact ih25 _ (by omega) gi34 gl34 gr34 (z41) hI hX  (Int.le_trans (by decide : (0:Int) ≤ 1) l41) u41 ((hC34.1 69 2 rfl).1.trans ((hC31.1 69 2 rfl).1.trans ((hC30.1 69 2 rfl).1.trans c25_0))) ((hC34.1 70 0 rfl).1.trans ((hC31.1 70 0 rfl).1.trans ((hC30.1 70 0 rfl).1.trans c25_1))) rfl
          refine ev_sub (lo := [(3, .int 0), (0, .ref 69), (1, .int ar1), (2, .int ar2)]) rfl (t_sc rfl (t_sc rfl (t_sc rfl (t_sc rfl t_sn)))) ?_
          exact L25 _ gi gl gr (0) hI hX  (by decide : (0:Int) ≤ (0:Int32).toInt) (Int.le_trans (by decide : (0:Int32).toInt ≤ (0:Int)) (by decide : (0:Int) ≤ 13)) rfl rfl rfl
noncomputable def wl_g_clearEcho : List (Nat × Nat) := [(69, 2)]
noncomputable def Q_g_clearEcho (gi : Nat → Nat → Int32) (gl : Nat → Nat → Int64) (gr : Nat → Nat → Value) : Int32 → (Nat → Nat → Int32) → (Nat → Nat → Int64) → (Nat → Nat → Value) → Prop := fun (v : Int32) (gi2 : Nat → Nat → Int32) (gl2 : Nat → Nat → Int64) (gr2 : Nat → Nat → Value) => (v.toInt = -1 → (gi2 69 2).toInt = 6) ∧ (v.toInt ≠ -1 → (gi2 69 2).toInt = 0)
theorem c_g_clearEcho {X : x_Ext} {d : Nat} {sh : List (Nat ⊕ (Nat × Nat))} {gi : Nat → Nat → Int32} {gl : Nat → Nat → Int64} {gr : Nat → Nat → Value} (hI : t_I sh gi gr) : x_Me X (d + 4) n_X12_clearEcho [.ref 69] (sh, gi, gl, gr) (t_PI wl_g_clearEcho sh gi gl gr (-1) 9 (Q_g_clearEcho gi gl gr)) := by
  have hX : t_X wl_g_clearEcho sh gi gl gr gi gl gr := t_X.rf
  refine me_i f_X12_clearEcho (hI.wf.s rfl) rfl rfl rfl ?_
  refine ev_ic f_X12_clearEcho (nx := 1) (v := 0) rfl (by decide) rfl ?_
  refine ev_loc f_X12_clearEcho (nx := 2) (lo' := [(1, .int 0), (0, .ref 69)]) rfl rfl rfl rfl ?_
  have L2 : ∀ (m2 : Nat) (gi2 : Nat → Nat → Int32) (gl2 : Nat → Nat → Int64) (gr2 : Nat → Nat → Value) (y2_1 : Int32), t_I sh gi2 gr2 → t_X wl_g_clearEcho sh gi gl gr gi2 gl2 gr2 → 0 ≤ y2_1.toInt → y2_1.toInt ≤ 12 → gi2 69 2 = (gi 69 2) → (12 - y2_1.toInt).toNat = m2 → x_Ev X (d + 4) n_X12_clearEcho 2 [(1, .int y2_1), (0, .ref 69)] [] (sh, gi2, gl2, gr2) (t_PI wl_g_clearEcho sh gi gl gr (-1) 9 (Q_g_clearEcho gi gl gr)) := by
    intro m2
    induction m2 using Nat.strongRecOn with
    | _ m2 ih2 =>
    intro gi2 gl2 gr2 y2_1 hI hX l2_1 u2_1 c2_0 hm2
    refine ev_loc f_X12_clearEcho (nx := 3) rfl rfl rfl rfl ?_
    refine ev_bp f_X12_clearEcho (nx := 5) (v := 10) rfl (by decide) rfl ?_
    refine ev_if f_X12_clearEcho (t1 := 28) (t2 := 8) rfl rfl rfl (fun h3 => ?_) (fun h3 => ?_)
    · have l4 : 10 ≤ y2_1.toInt := t_lel h3 (by decide : (10:Int) ≤ (10:Int32).toInt)
      refine ev_loc f_X12_clearEcho (nx := 29) rfl rfl rfl rfl ?_
      refine ev_bp f_X12_clearEcho (nx := 31) (v := 6) rfl (by decide) rfl ?_
      refine ev_inV2 f_X12_clearEcho (nx := 34) (lo2 := [(0, .ref 69), (1, .int 6)]) rfl rfl rfl rfl f_X12_refuse (hI.wf.s rfl) rfl rfl rfl rfl rfl ?_
      refine ev_loc f_X12_refuse (nx := 1) rfl rfl rfl rfl ?_
      refine ev_loc f_X12_refuse (nx := 2) rfl rfl rfl rfl ?_
      refine ev_putIT f_X12_refuse (nx := 5) rfl (hI.wf.s rfl) rfl rfl rfl (hI.put0 (hI.wf.s rfl) rfl rfl) (hX.upI rfl) (fun g5 e5 hI hX => ?_)
      refine ev_ic f_X12_refuse (nx := 6) (v := -1) rfl (by decide) rfl ?_
      refine ev_retK1 f_X12_refuse rfl rfl rfl ?_
      exact ev_ret f_X12_clearEcho rfl rfl rfl ⟨_, _, _, rfl, hI, hX, ⟨_, rfl, (by decide : ((-1):Int) ≤ ((-1):Int32).toInt), (Int.le_trans (by decide : ((-1):Int32).toInt ≤ ((-1):Int)) (by decide : ((-1):Int) ≤ 9)), (show (((-1) : Int) = -1 → (g5 69 2).toInt = 6) ∧ (((-1) : Int) ≠ -1 → (g5 69 2).toInt = 0) from ⟨fun h => (by have ffs : (g5 69 2).toInt = 6 := (congrArg Int32.toInt (by rw [e5]; exact x_up2_at _ _ _ _ : g5 69 2 = 6)).trans (by decide); omega), fun h => (by have ffs : (g5 69 2).toInt = 6 := (congrArg Int32.toInt (by rw [e5]; exact x_up2_at _ _ _ _ : g5 69 2 = 6)).trans (by decide); omega)⟩)⟩⟩
    · have u6 : y2_1.toInt ≤ 9 := t_ltu (t_nle h3) (by decide : (10:Int32).toInt ≤ (10:Int)) rfl
      refine ev_loc f_X12_clearEcho (nx := 9) rfl rfl rfl rfl ?_
      refine ev_loc f_X12_clearEcho (nx := 10) rfl rfl rfl rfl ?_
      refine ev_cI f_X12_clearEcho (nx := 13) (r := []) rfl rfl rfl rfl rfl rfl rfl (c_m_alikeBy hI (y2_1) l2_1 u6) rfl hX rfl (fun w7 gi7 gl7 gr7 l7 u7 hI hX hC7 => ?_)
      refine ev_if f_X12_clearEcho (t1 := 16) (t2 := 22) rfl rfl rfl (fun h8 => ?_) (fun h8 => ?_)
      · have u9 : w7.toInt ≤ 0 := t_equ h8 (by decide : (0:Int32).toInt ≤ (0:Int))
        have l10 : 0 ≤ w7.toInt := t_eql h8 (by decide : (0:Int) ≤ (0:Int32).toInt)
        refine ev_loc f_X12_clearEcho (nx := 17) rfl rfl rfl rfl ?_
        refine ev_loc f_X12_clearEcho (nx := 18) rfl rfl rfl rfl ?_
        refine ev_inV2 f_X12_clearEcho (nx := 21) (lo2 := [(0, .ref 69), (1, .int y2_1)]) rfl rfl rfl rfl f_X12_gives (hI.wf.s rfl) rfl rfl rfl rfl rfl ?_
        refine ev_loc f_X12_gives (nx := 1) rfl rfl rfl rfl ?_
        refine ev_ic f_X12_gives (nx := 2) (v := 0) rfl (by decide) rfl ?_
        refine ev_putIT f_X12_gives (nx := 5) rfl (hI.wf.s rfl) rfl rfl rfl (hI.put0 (hI.wf.s rfl) rfl rfl) (hX.upI rfl) (fun g11 e11 hI hX => ?_)
        refine ev_loc f_X12_gives (nx := 6) rfl rfl rfl rfl ?_
        refine ev_retK1 f_X12_gives rfl rfl rfl ?_
        exact ev_ret f_X12_clearEcho rfl rfl rfl ⟨_, _, _, rfl, hI, hX, ⟨_, rfl, (Int.le_trans (by decide : ((-1):Int) ≤ 0) l2_1), u6, (show (y2_1.toInt = -1 → (g11 69 2).toInt = 6) ∧ (y2_1.toInt ≠ -1 → (g11 69 2).toInt = 0) from ⟨fun h => (by have ffs : (g11 69 2).toInt = 0 := (congrArg Int32.toInt (by rw [e11]; exact x_up2_at _ _ _ _ : g11 69 2 = 0)).trans (by decide); omega), fun h => (by have ffs : (g11 69 2).toInt = 0 := (congrArg Int32.toInt (by rw [e11]; exact x_up2_at _ _ _ _ : g11 69 2 = 0)).trans (by decide); omega)⟩)⟩⟩
      · have r12 : w7.toInt ≠ 0 := fun e => h8 (Int32.toInt_inj.mp (e.trans (by decide : (0:Int) = (0 : Int32).toInt)))
        refine ev_incR f_X12_clearEcho (nx := 25) (c := 1) (l := 1) (u := 10) rfl rfl (by decide) (by decide) l2_1 u6 rfl rfl (by decide) (by decide) rfl (fun z13 e13 l13 u13 => ?_)
        refine ev_jmp f_X12_clearEcho (nx := 2) rfl rfl rfl ?_
        refine ev_sub (lo := [(1, .int z13), (0, .ref 69)]) rfl (t_sc rfl (t_sc rfl t_sn)) ?_
        exact ih2 _ (by omega) gi7 gl7 gr7 (z13) hI hX  (Int.le_trans (by decide : (0:Int) ≤ 1) l13) (Int.le_trans u13 (by decide : (10:Int) ≤ 12)) ((hC7.1 69 2 rfl).1.trans c2_0) rfl
  refine ev_sub (lo := [(1, .int 0), (0, .ref 69)]) rfl (t_sc rfl (t_sc rfl t_sn)) ?_
  exact L2 _ gi gl gr (0) hI hX  (by decide : (0:Int) ≤ (0:Int32).toInt) (Int.le_trans (by decide : (0:Int32).toInt ≤ (0:Int)) (by decide : (0:Int) ≤ 12)) rfl rfl
noncomputable def wl_g_silent : List (Nat × Nat) := [(69, 2)]
noncomputable def Q_g_silent (gi : Nat → Nat → Int32) (gl : Nat → Nat → Int64) (gr : Nat → Nat → Value) : Int32 → (Nat → Nat → Int32) → (Nat → Nat → Int64) → (Nat → Nat → Value) → Prop := fun (v : Int32) (gi2 : Nat → Nat → Int32) (gl2 : Nat → Nat → Int64) (gr2 : Nat → Nat → Value) => (gi2 69 2).toInt = 0
theorem c_g_silent {X : x_Ext} {d : Nat} {sh : List (Nat ⊕ (Nat × Nat))} {gi : Nat → Nat → Int32} {gl : Nat → Nat → Int64} {gr : Nat → Nat → Value} (hI : t_I sh gi gr) : x_Me X (d + 4) n_X12_silent [.ref 69] (sh, gi, gl, gr) (t_PI wl_g_silent sh gi gl gr 0 33 (Q_g_silent gi gl gr)) := by
  have hX : t_X wl_g_silent sh gi gl gr gi gl gr := t_X.rf
  refine me_i f_X12_silent (hI.wf.s rfl) rfl rfl rfl ?_
  refine ev_lc f_X12_silent (nx := 1) (v := 0) rfl (by decide) rfl ?_
  refine ev_loc f_X12_silent (nx := 2) (lo' := [(1, .long 0), (0, .ref 69)]) rfl rfl rfl rfl ?_
  refine ev_ic f_X12_silent (nx := 3) (v := 0) rfl (by decide) rfl ?_
  refine ev_loc f_X12_silent (nx := 4) (lo' := [(3, .int 0), (1, .long 0), (0, .ref 69)]) rfl rfl rfl rfl ?_
  have L2 : ∀ (m2 : Nat) (gi2 : Nat → Nat → Int32) (gl2 : Nat → Nat → Int64) (gr2 : Nat → Nat → Value) (y2_3 : Int32) (y2_1 : Int64), t_I sh gi2 gr2 → t_X wl_g_silent sh gi gl gr gi2 gl2 gr2 → 0 ≤ y2_3.toInt → y2_3.toInt ≤ 6 → gi2 69 2 = (gi 69 2) → 0 ≤ y2_1.toInt ∧ y2_1.toInt < 8589934592 → (6 - y2_3.toInt).toNat = m2 → x_Ev X (d + 4) n_X12_silent 4 [(3, .int y2_3), (1, .long y2_1), (0, .ref 69)] [] (sh, gi2, gl2, gr2) (t_PI wl_g_silent sh gi gl gr 0 33 (Q_g_silent gi gl gr)) := by
    intro m2
    induction m2 using Nat.strongRecOn with
    | _ m2 ih2 =>
    intro gi2 gl2 gr2 y2_3 y2_1 hI hX l2_3 u2_3 c2_0 j2_0 hm2
    refine ev_loc f_X12_silent (nx := 5) rfl rfl rfl rfl ?_
    refine ev_loc f_X12_silent (nx := 6) rfl rfl rfl rfl ?_
    refine ev_getR f_X12_silent (nx := 9) rfl (hI.wf.s rfl) rfl rfl (hI.wf.r rfl) rfl rfl ?_
    refine ev_ic f_X12_silent (nx := 10) (v := 0) rfl (by decide) rfl ?_
    obtain ⟨l3, u3⟩ := hI.ab (by decide +kernel : t_abr 70 0 0 0 6 = true) (Nat.le_refl _) (Nat.le_refl _)
    refine ev_ialdv f_X12_silent (nx := 11) (w := (gi2 70 0)) rfl (hI.wf.s rfl) (by decide) (rfl : (0 : Int32).toNatClampNeg = 0) (by decide) rfl rfl ?_
    refine ev_if f_X12_silent (t1 := 28) (t2 := 14) rfl rfl rfl (fun h4 => ?_) (fun h4 => ?_)
    · have r5 : (gi2 70 0).toInt ≤ y2_3.toInt := Int32.le_iff_toInt_le.mp h4
      refine ev_ic f_X12_silent (nx := 29) (v := 0) rfl (by decide) rfl ?_
      refine ev_loc f_X12_silent (nx := 30) (lo' := [(3, .int 0), (1, .long y2_1), (0, .ref 69)]) rfl rfl rfl rfl ?_
      have L6 : ∀ (m6 : Nat) (gi6 : Nat → Nat → Int32) (gl6 : Nat → Nat → Int64) (gr6 : Nat → Nat → Value) (y6_3 : Int32), t_I sh gi6 gr6 → t_X wl_g_silent sh gi gl gr gi6 gl6 gr6 → 0 ≤ y6_3.toInt → y6_3.toInt ≤ 33 → gi6 69 2 = (gi 69 2) → gi6 70 0 = (gi2 70 0) → 0 ≤ y2_1.toInt ∧ y2_1.toInt < 8589934592 → (34 - y6_3.toInt).toNat = m6 → x_Ev X (d + 4) n_X12_silent 30 [(3, .int y6_3), (1, .long y2_1), (0, .ref 69)] [] (sh, gi6, gl6, gr6) (t_PI wl_g_silent sh gi gl gr 0 33 (Q_g_silent gi gl gr)) := by
        intro m6
        induction m6 using Nat.strongRecOn with
        | _ m6 ih6 =>
        intro gi6 gl6 gr6 y6_3 hI hX l6_3 u6_3 c6_0 c6_1 j6_0 hm6
        refine ev_loc f_X12_silent (nx := 31) rfl rfl rfl rfl ?_
        refine ev_loc f_X12_silent (nx := 32) rfl rfl rfl rfl ?_
        refine ev_anyLE f_X12_silent (nx := 33) rfl rfl rfl rfl (fun z7 e7 => ?_)
        refine ev_lc f_X12_silent (nx := 34) (v := 1) rfl (by decide) rfl ?_
        refine ev_anyLE f_X12_silent (nx := 35) rfl rfl rfl rfl (fun z8 e8 => ?_)
        refine ev_lc f_X12_silent (nx := 36) (v := 1) rfl (by decide) rfl ?_
        refine ev_anyIE f_X12_silent (nx := 37) rfl rfl rfl rfl (fun z9 e9 => ?_)
        refine ev_if f_X12_silent (t1 := 40) (t2 := 46) rfl rfl rfl (fun h10 => ?_) (fun h10 => ?_)
        · have u11 : z9.toInt ≤ 0 := t_equ h10 (by decide : (0:Int32).toInt ≤ (0:Int))
          have l12 : 0 ≤ z9.toInt := t_eql h10 (by decide : (0:Int) ≤ (0:Int32).toInt)
          refine ev_incR f_X12_silent (nx := 43) (c := 1) (l := 1) (u := 34) rfl rfl (by decide) (by decide) l6_3 u6_3 rfl rfl (by decide) (by decide) rfl (fun z13 e13 l13 u13 => ?_)
          refine ev_jmp f_X12_silent (nx := 30) rfl rfl rfl ?_
          have hs14 : y6_3.toInt ≤ 32 := t_sil e7 e8 e9 h10 (by omega) (by omega)
          refine ev_sub (lo := [(3, .int z13), (1, .long y2_1), (0, .ref 69)]) rfl (t_sc rfl (t_sc rfl (t_sc rfl t_sn))) ?_
          exact ih6 _ (by omega) gi6 gl6 gr6 (z13) hI hX  (Int.le_trans (by decide : (0:Int) ≤ 1) l13) (by omega : z13.toInt ≤ (33:Int)) c6_0 c6_1 (by omega) rfl
        · have r15 : z9.toInt ≠ 0 := fun e => h10 (Int32.toInt_inj.mp (e.trans (by decide : (0:Int) = (0 : Int32).toInt)))
          refine ev_loc f_X12_silent (nx := 47) rfl rfl rfl rfl ?_
          refine ev_loc f_X12_silent (nx := 48) rfl rfl rfl rfl ?_
          refine ev_inV2 f_X12_silent (nx := 51) (lo2 := [(0, .ref 69), (1, .int y6_3)]) rfl rfl rfl rfl f_X12_gives (hI.wf.s rfl) rfl rfl rfl rfl rfl ?_
          refine ev_loc f_X12_gives (nx := 1) rfl rfl rfl rfl ?_
          refine ev_ic f_X12_gives (nx := 2) (v := 0) rfl (by decide) rfl ?_
          refine ev_putIT f_X12_gives (nx := 5) rfl (hI.wf.s rfl) rfl rfl rfl (hI.put0 (hI.wf.s rfl) rfl rfl) (hX.upI rfl) (fun g16 e16 hI hX => ?_)
          refine ev_loc f_X12_gives (nx := 6) rfl rfl rfl rfl ?_
          refine ev_retK1 f_X12_gives rfl rfl rfl ?_
          exact ev_ret f_X12_silent rfl rfl rfl ⟨_, _, _, rfl, hI, hX, ⟨_, rfl, l6_3, u6_3, (show (g16 69 2).toInt = 0 from (by have ffs : (g16 69 2).toInt = 0 := (congrArg Int32.toInt (by rw [e16]; exact x_up2_at _ _ _ _ : g16 69 2 = 0)).trans (by decide); omega))⟩⟩
      refine ev_sub (lo := [(3, .int 0), (1, .long y2_1), (0, .ref 69)]) rfl (t_sc rfl (t_sc rfl (t_sc rfl t_sn))) ?_
      exact L6 _ gi2 gl2 gr2 (0) hI hX  (by decide : (0:Int) ≤ (0:Int32).toInt) (Int.le_trans (by decide : (0:Int32).toInt ≤ (0:Int)) (by decide : (0:Int) ≤ 33)) c2_0 rfl (by omega) rfl
    · have r17 : y2_3.toInt < (gi2 70 0).toInt := Int32.lt_iff_toInt_lt.mp (t_nle h4)
      have u18 : y2_3.toInt ≤ 5 := t_ltu (t_nle h4) u3 rfl
      have l19 : 1 ≤ (gi2 70 0).toInt := t_ltl (t_nle h4) l2_3 rfl
      refine ev_loc f_X12_silent (nx := 15) rfl rfl rfl rfl ?_
      refine ev_loc f_X12_silent (nx := 16) rfl rfl rfl rfl ?_
      refine ev_loc f_X12_silent (nx := 17) rfl rfl rfl rfl ?_
      refine ev_qL f_X12_silent (nx := 20) (r := [.long y2_1]) rfl rfl rfl rfl rfl rfl rfl (c_m_heardOf hI (y2_3) l2_3 u18) rfl hX rfl (fun w20 gi20 gl20 gr20 hI hX hC20 q20 => ?_)
      have q20 : 0 ≤ w20.toInt ∧ w20.toInt < 8589934592 := q20
      refine ev_anyLE f_X12_silent (nx := 21) rfl rfl rfl rfl (fun z21 e21 => ?_)
      refine ev_loc f_X12_silent (nx := 22) (lo' := [(1, .long z21), (3, .int y2_3), (0, .ref 69)]) rfl rfl rfl rfl ?_
      refine ev_incR f_X12_silent (nx := 25) (c := 1) (l := 1) (u := 6) rfl rfl (by decide) (by decide) l2_3 u18 rfl rfl (by decide) (by decide) rfl (fun z22 e22 l22 u22 => ?_)
      refine ev_jmp f_X12_silent (nx := 4) rfl rfl rfl ?_
      refine ev_sub (lo := [(3, .int z22), (1, .long z21), (0, .ref 69)]) rfl (t_sc rfl (t_sc rfl (t_sc rfl t_sn))) ?_
      exact ih2 _ (by omega) gi20 gl20 gr20 (z22) (z21) hI hX  (Int.le_trans (by decide : (0:Int) ≤ 1) l22) u22 ((hC20.1 69 2 rfl).1.trans c2_0) (t_or33 e21 (by omega) (by omega)) rfl
  refine ev_sub (lo := [(3, .int 0), (1, .long 0), (0, .ref 69)]) rfl (t_sc rfl (t_sc rfl (t_sc rfl t_sn))) ?_
  exact L2 _ gi gl gr (0) (0) hI hX  (by decide : (0:Int) ≤ (0:Int32).toInt) (Int.le_trans (by decide : (0:Int32).toInt ≤ (0:Int)) (by decide : (0:Int) ≤ 6)) rfl (by decide) rfl
noncomputable def wl_g_tellsBy : List (Nat × Nat) := [(69, 2), (69, 3), (69, 4)]
noncomputable def Q_g_tellsBy (gi : Nat → Nat → Int32) (gl : Nat → Nat → Int64) (gr : Nat → Nat → Value) (ar1 : Int64) (ar2 : Int64) : Int32 → (Nat → Nat → Int32) → (Nat → Nat → Int64) → (Nat → Nat → Value) → Prop := fun (v : Int32) (gi2 : Nat → Nat → Int32) (gl2 : Nat → Nat → Int64) (gr2 : Nat → Nat → Value) => (gi2 69 2).toInt = 0
theorem c_g_tellsBy {X : x_Ext} {d : Nat} {sh : List (Nat ⊕ (Nat × Nat))} {gi : Nat → Nat → Int32} {gl : Nat → Nat → Int64} {gr : Nat → Nat → Value} (hI : t_I sh gi gr) (ar1 : Int64) (ar2 : Int64) (e_p0 : 0 ≤ ar1.toInt) (e_p1 : 0 < ar2.toInt) : x_Me X (d + 2) n_X12_tellsBy [.ref 69, .long ar1, .long ar2] (sh, gi, gl, gr) (t_PI wl_g_tellsBy sh gi gl gr 1 1 (Q_g_tellsBy gi gl gr ar1 ar2)) := by
  have hX : t_X wl_g_tellsBy sh gi gl gr gi gl gr := t_X.rf
  refine me_i f_X12_tellsBy (hI.wf.s rfl) rfl rfl rfl ?_
  refine ev_loc f_X12_tellsBy (nx := 1) rfl rfl rfl rfl ?_
  refine ev_loc f_X12_tellsBy (nx := 3) (lo' := [(5, .long ar1), (0, .ref 69), (1, .long ar1), (3, .long ar2)]) rfl rfl rfl rfl ?_
  refine ev_loc f_X12_tellsBy (nx := 4) rfl rfl rfl rfl ?_
  refine ev_loc f_X12_tellsBy (nx := 6) (lo' := [(7, .long ar2), (5, .long ar1), (0, .ref 69), (1, .long ar1), (3, .long ar2)]) rfl rfl rfl rfl ?_
  have L2 : ∀ (m2 : Nat) (gi2 : Nat → Nat → Int32) (gl2 : Nat → Nat → Int64) (gr2 : Nat → Nat → Value) (y2_7 : Int64) (y2_5 : Int64), t_I sh gi2 gr2 → t_X wl_g_tellsBy sh gi gl gr gi2 gl2 gr2 → gi2 69 2 = (gi 69 2) → 0 ≤ y2_5.toInt → 0 ≤ y2_7.toInt → (0 < y2_5.toInt ∨ 0 < y2_7.toInt) → y2_7.toInt.toNat = m2 → x_Ev X (d + 2) n_X12_tellsBy 6 [(7, .long y2_7), (5, .long y2_5), (0, .ref 69), (1, .long ar1), (3, .long ar2)] [] (sh, gi2, gl2, gr2) (t_PI wl_g_tellsBy sh gi gl gr 1 1 (Q_g_tellsBy gi gl gr ar1 ar2)) := by
    intro m2
    induction m2 using Nat.strongRecOn with
    | _ m2 ih2 =>
    intro gi2 gl2 gr2 y2_7 y2_5 hI hX c2_0 j2_0 j2_1 j2_2 hm2
    refine ev_loc f_X12_tellsBy (nx := 8) rfl rfl rfl rfl ?_
    refine ev_lc f_X12_tellsBy (nx := 9) (v := 0) rfl (by decide) rfl ?_
    refine ev_anyIE f_X12_tellsBy (nx := 10) rfl rfl rfl rfl (fun z3 e3 => ?_)
    refine ev_if f_X12_tellsBy (t1 := 31) (t2 := 13) rfl rfl rfl (fun h4 => ?_) (fun h4 => ?_)
    · have u5 : z3.toInt ≤ 0 := t_equ h4 (by decide : (0:Int32).toInt ≤ (0:Int))
      have l6 : 0 ≤ z3.toInt := t_eql h4 (by decide : (0:Int) ≤ (0:Int32).toInt)
      refine ev_loc f_X12_tellsBy (nx := 32) rfl rfl rfl rfl ?_
      refine ev_loc f_X12_tellsBy (nx := 33) rfl rfl rfl rfl ?_
      refine ev_loc f_X12_tellsBy (nx := 35) rfl rfl rfl rfl ?_
      refine ev_ldivN f_X12_tellsBy (nx := 36) rfl (t_lne (by have := t_lz e3 h4; omega)) rfl (fun z7 e7 => ?_)
      refine ev_putLT f_X12_tellsBy (nx := 39) rfl (hI.wf.s rfl) rfl rfl rfl (hX.upL rfl) (fun g8 e8 hX => ?_)
      refine ev_loc f_X12_tellsBy (nx := 40) rfl rfl rfl rfl ?_
      refine ev_loc f_X12_tellsBy (nx := 41) rfl rfl rfl rfl ?_
      refine ev_loc f_X12_tellsBy (nx := 43) rfl rfl rfl rfl ?_
      refine ev_ldivN f_X12_tellsBy (nx := 44) rfl (t_lne (by have := t_lz e3 h4; omega)) rfl (fun z9 e9 => ?_)
      refine ev_putLT f_X12_tellsBy (nx := 47) rfl (hI.wf.s rfl) rfl rfl rfl (hX.upL rfl) (fun g10 e10 hX => ?_)
      refine ev_loc f_X12_tellsBy (nx := 48) rfl rfl rfl rfl ?_
      refine ev_ic f_X12_tellsBy (nx := 49) (v := 0) rfl (by decide) rfl ?_
      refine ev_inV2 f_X12_tellsBy (nx := 52) (lo2 := [(0, .ref 69), (1, .int 0)]) rfl rfl rfl rfl f_X12_is (hI.wf.s rfl) rfl rfl rfl rfl rfl ?_
      refine ev_loc f_X12_is (nx := 1) rfl rfl rfl rfl ?_
      refine ev_loc f_X12_is (nx := 2) rfl rfl rfl rfl ?_
      refine ev_putIT f_X12_is (nx := 5) rfl (hI.wf.s rfl) rfl rfl rfl (hI.put0 (hI.wf.s rfl) rfl rfl) (hX.upI rfl) (fun g11 e11 hI hX => ?_)
      refine ev_loc f_X12_is (nx := 6) rfl rfl rfl rfl ?_
      refine ev_t f_X12_is (t1 := 9) (t2 := 13) rfl rfl rfl (by decide) ?_
      refine ev_ic f_X12_is (nx := 10) (v := 1) rfl (by decide) rfl ?_
      refine ev_jmp f_X12_is (nx := 14) rfl rfl rfl ?_
      refine ev_retK1 f_X12_is rfl rfl rfl ?_
      exact ev_ret f_X12_tellsBy rfl rfl rfl ⟨_, _, _, rfl, hI, hX, ⟨_, rfl, (by decide : (1:Int) ≤ (1:Int32).toInt), (by decide : (1:Int32).toInt ≤ (1:Int)), (show (g11 69 2).toInt = 0 from (by have ffs : (g11 69 2).toInt = 0 := (congrArg Int32.toInt (by rw [e11]; exact x_up2_at _ _ _ _ : g11 69 2 = 0)).trans (by decide); omega))⟩⟩
    · have r12 : z3.toInt ≠ 0 := fun e => h4 (Int32.toInt_inj.mp (e.trans (by decide : (0:Int) = (0 : Int32).toInt)))
      refine ev_loc f_X12_tellsBy (nx := 15) rfl rfl rfl rfl ?_
      refine ev_loc f_X12_tellsBy (nx := 17) rfl rfl rfl rfl ?_
      refine ev_lremN f_X12_tellsBy (nx := 18) rfl (t_lne (t_lnz e3 h4 (by omega))) rfl (fun z13 e13 => ?_)
      refine ev_loc f_X12_tellsBy (nx := 20) (lo' := [(9, .long z13), (7, .long y2_7), (5, .long y2_5), (0, .ref 69), (1, .long ar1), (3, .long ar2)]) rfl rfl rfl rfl ?_
      refine ev_loc f_X12_tellsBy (nx := 22) rfl rfl rfl rfl ?_
      refine ev_loc f_X12_tellsBy (nx := 24) (lo' := [(5, .long y2_7), (9, .long z13), (7, .long y2_7), (0, .ref 69), (1, .long ar1), (3, .long ar2)]) rfl rfl rfl rfl ?_
      refine ev_loc f_X12_tellsBy (nx := 26) rfl rfl rfl rfl ?_
      refine ev_loc f_X12_tellsBy (nx := 28) (lo' := [(7, .long z13), (5, .long y2_7), (9, .long z13), (0, .ref 69), (1, .long ar1), (3, .long ar2)]) rfl rfl rfl rfl ?_
      refine ev_jmp f_X12_tellsBy (nx := 6) rfl rfl rfl ?_
      refine ev_sub (lo := [(7, .long z13), (5, .long y2_7), (0, .ref 69), (1, .long ar1), (3, .long ar2)]) rfl (t_sc rfl (t_sc rfl (t_sc rfl (t_sc rfl (t_sc rfl t_sn))))) ?_
      exact ih2 _ (by have hb := t_lnz e3 h4 (by omega); have hr := t_lrem e13 (by omega) hb; omega) gi2 gl2 gr2 (z13) (y2_7) hI hX  c2_0 (by have hb := t_lnz e3 h4 (by omega); have hr := t_lrem e13 (by omega) hb; omega) (by have hb := t_lnz e3 h4 (by omega); have hr := t_lrem e13 (by omega) hb; omega) (by have hb := t_lnz e3 h4 (by omega); have hr := t_lrem e13 (by omega) hb; omega) rfl
  refine ev_sub (lo := [(7, .long ar2), (5, .long ar1), (0, .ref 69), (1, .long ar1), (3, .long ar2)]) rfl (t_sc rfl (t_sc rfl (t_sc rfl (t_sc rfl (t_sc rfl t_sn))))) ?_
  exact L2 _ gi gl gr (ar2) (ar1) hI hX  rfl (by omega) (by omega) (by omega) rfl
/-! ===== printed by riv.py: STATUS, the other side ===== -/
noncomputable def wl_g_doubt : List (Nat × Nat) := [(69, 2), (69, 3), (69, 4), (69, 29), (78, 9999), (79, 9999), (80, 9999)]
noncomputable def Q_g_doubt (gi : Nat → Nat → Int32) (gl : Nat → Nat → Int64) (gr : Nat → Nat → Value) (ar1 : Int64) (ar2 : Int32) : Int32 → (Nat → Nat → Int32) → (Nat → Nat → Int64) → (Nat → Nat → Value) → Prop := fun (v : Int32) (gi2 : Nat → Nat → Int32) (gl2 : Nat → Nat → Int64) (gr2 : Nat → Nat → Value) => (¬ (1 ≤ ar1.toInt ∧ 0 ≤ ar2.toInt ∧ ar2.toInt < (gi 70 0).toInt) → (gi2 69 2).toInt = 1) ∧ ((1 ≤ ar1.toInt ∧ 0 ≤ ar2.toInt ∧ ar2.toInt < (gi 70 0).toInt) → (v.toInt ≠ 1 → (gi2 69 2).toInt = 6) ∧ (v.toInt = 1 → (gi2 69 2).toInt = 0))
theorem c_g_doubt {X : x_Ext} {d : Nat} {sh : List (Nat ⊕ (Nat × Nat))} {gi : Nat → Nat → Int32} {gl : Nat → Nat → Int64} {gr : Nat → Nat → Value} (hI : t_I sh gi gr) (ar1 : Int64) (ar2 : Int32) : x_Me X (d + 5) n_X12_doubt [.ref 69, .long ar1, .int ar2] (sh, gi, gl, gr) (t_PI wl_g_doubt sh gi gl gr 0 1 (Q_g_doubt gi gl gr ar1 ar2)) := by
  have hX : t_X wl_g_doubt sh gi gl gr gi gl gr := t_X.rf
  refine me_i f_X12_doubt (hI.wf.s rfl) rfl rfl rfl ?_
  obtain ⟨l2, u2⟩ := hI.ab (by decide +kernel : t_abr 70 0 0 0 6 = true) (Nat.le_refl _) (Nat.le_refl _)
  refine ev_loc f_X12_doubt (nx := 1) rfl rfl rfl rfl ?_
  refine ev_lc f_X12_doubt (nx := 2) (v := 1) rfl (by decide) rfl ?_
  refine ev_anyIE f_X12_doubt (nx := 3) rfl rfl rfl rfl (fun z3 e3 => ?_)
  refine ev_if f_X12_doubt (t1 := 14) (t2 := 6) rfl rfl rfl (fun h4 => ?_) (fun h4 => ?_)
  · have u5 : z3.toInt ≤ (-1) := t_ltu h4 (by decide : (0:Int32).toInt ≤ (0:Int)) rfl
    have hlt := (t_lt1n e3 h4)
    refine ev_loc f_X12_doubt (nx := 15) rfl rfl rfl rfl ?_
    refine ev_ic f_X12_doubt (nx := 16) (v := 1) rfl (by decide) rfl ?_
    refine ev_inV2 f_X12_doubt (nx := 19) (lo2 := [(0, .ref 69), (1, .int 1)]) rfl rfl rfl rfl f_X12_is (hI.wf.s rfl) rfl rfl rfl rfl rfl ?_
    refine ev_loc f_X12_is (nx := 1) rfl rfl rfl rfl ?_
    refine ev_loc f_X12_is (nx := 2) rfl rfl rfl rfl ?_
    refine ev_putIT f_X12_is (nx := 5) rfl (hI.wf.s rfl) rfl rfl rfl (hI.put0 (hI.wf.s rfl) rfl rfl) (hX.upI rfl) (fun g6 e6 hI hX => ?_)
    refine ev_loc f_X12_is (nx := 6) rfl rfl rfl rfl ?_
    refine ev_f f_X12_is (t1 := 9) (t2 := 13) rfl rfl rfl (by decide) ?_
    refine ev_ic f_X12_is (nx := 14) (v := 0) rfl (by decide) rfl ?_
    refine ev_retK1 f_X12_is rfl rfl rfl ?_
    exact ev_ret f_X12_doubt rfl rfl rfl ⟨_, _, _, rfl, hI, hX, ⟨_, rfl, (by decide : (0:Int) ≤ (0:Int32).toInt), (Int.le_trans (by decide : (0:Int32).toInt ≤ (0:Int)) (by decide : (0:Int) ≤ 1)), (show (¬ (1 ≤ ar1.toInt ∧ 0 ≤ ar2.toInt ∧ ar2.toInt < (gi 70 0).toInt) → (g6 69 2).toInt = 1) ∧ ((1 ≤ ar1.toInt ∧ 0 ≤ ar2.toInt ∧ ar2.toInt < (gi 70 0).toInt) → ((0 : Int) ≠ 1 → (g6 69 2).toInt = 6) ∧ ((0 : Int) = 1 → (g6 69 2).toInt = 0)) from ⟨fun h => (by have ffs : (g6 69 2).toInt = 1 := (congrArg Int32.toInt (by rw [e6]; exact x_up2_at _ _ _ _ : g6 69 2 = 1)).trans (by decide); omega), fun h => ⟨fun h2 => (by have ffs : (g6 69 2).toInt = 1 := (congrArg Int32.toInt (by rw [e6]; exact x_up2_at _ _ _ _ : g6 69 2 = 1)).trans (by decide); omega), fun h2 => (by have ffs : (g6 69 2).toInt = 1 := (congrArg Int32.toInt (by rw [e6]; exact x_up2_at _ _ _ _ : g6 69 2 = 1)).trans (by decide); omega)⟩⟩)⟩⟩
  · have l7 : 0 ≤ z3.toInt := t_lel (t_nlt h4) (by decide : (0:Int) ≤ (0:Int32).toInt)
    have hlt := (t_lt1p e3 h4)
    refine ev_loc f_X12_doubt (nx := 7) rfl rfl rfl rfl ?_
    refine ev_loc f_X12_doubt (nx := 8) rfl rfl rfl rfl ?_
    refine ev_inV2 f_X12_doubt (nx := 11) (lo2 := [(0, .ref 69), (1, .int ar2)]) rfl rfl rfl rfl f_X12_isPort (hI.wf.s rfl) rfl rfl rfl rfl rfl ?_
    refine ev_loc f_X12_isPort (nx := 1) rfl rfl rfl rfl ?_
    refine ev_if f_X12_isPort (t1 := 18) (t2 := 4) rfl rfl rfl (fun h8 => ?_) (fun h8 => ?_)
    · have u9 : ar2.toInt ≤ (-1) := t_ltu h8 (by decide : (0:Int32).toInt ≤ (0:Int)) rfl
      refine ev_ic f_X12_isPort (nx := 19) (v := 0) rfl (by decide) rfl ?_
      refine ev_retK1 f_X12_isPort rfl rfl rfl ?_
      refine ev_t f_X12_doubt (t1 := 14) (t2 := 20) rfl rfl rfl (by decide) ?_
      have hlt := (t_lt1p e3 h4)
      refine ev_loc f_X12_doubt (nx := 15) rfl rfl rfl rfl ?_
      refine ev_ic f_X12_doubt (nx := 16) (v := 1) rfl (by decide) rfl ?_
      refine ev_inV2 f_X12_doubt (nx := 19) (lo2 := [(0, .ref 69), (1, .int 1)]) rfl rfl rfl rfl f_X12_is (hI.wf.s rfl) rfl rfl rfl rfl rfl ?_
      refine ev_loc f_X12_is (nx := 1) rfl rfl rfl rfl ?_
      refine ev_loc f_X12_is (nx := 2) rfl rfl rfl rfl ?_
      refine ev_putIT f_X12_is (nx := 5) rfl (hI.wf.s rfl) rfl rfl rfl (hI.put0 (hI.wf.s rfl) rfl rfl) (hX.upI rfl) (fun g10 e10 hI hX => ?_)
      refine ev_loc f_X12_is (nx := 6) rfl rfl rfl rfl ?_
      refine ev_f f_X12_is (t1 := 9) (t2 := 13) rfl rfl rfl (by decide) ?_
      refine ev_ic f_X12_is (nx := 14) (v := 0) rfl (by decide) rfl ?_
      refine ev_retK1 f_X12_is rfl rfl rfl ?_
      exact ev_ret f_X12_doubt rfl rfl rfl ⟨_, _, _, rfl, hI, hX, ⟨_, rfl, (by decide : (0:Int) ≤ (0:Int32).toInt), (Int.le_trans (by decide : (0:Int32).toInt ≤ (0:Int)) (by decide : (0:Int) ≤ 1)), (show (¬ (1 ≤ ar1.toInt ∧ 0 ≤ ar2.toInt ∧ ar2.toInt < (gi 70 0).toInt) → (g10 69 2).toInt = 1) ∧ ((1 ≤ ar1.toInt ∧ 0 ≤ ar2.toInt ∧ ar2.toInt < (gi 70 0).toInt) → ((0 : Int) ≠ 1 → (g10 69 2).toInt = 6) ∧ ((0 : Int) = 1 → (g10 69 2).toInt = 0)) from ⟨fun h => (by have ffs : (g10 69 2).toInt = 1 := (congrArg Int32.toInt (by rw [e10]; exact x_up2_at _ _ _ _ : g10 69 2 = 1)).trans (by decide); omega), fun h => ⟨fun h2 => (by have ffs : (g10 69 2).toInt = 1 := (congrArg Int32.toInt (by rw [e10]; exact x_up2_at _ _ _ _ : g10 69 2 = 1)).trans (by decide); omega), fun h2 => (by have ffs : (g10 69 2).toInt = 1 := (congrArg Int32.toInt (by rw [e10]; exact x_up2_at _ _ _ _ : g10 69 2 = 1)).trans (by decide); omega)⟩⟩)⟩⟩
    · have l11 : 0 ≤ ar2.toInt := t_lel (t_nlt h8) (by decide : (0:Int) ≤ (0:Int32).toInt)
      refine ev_loc f_X12_isPort (nx := 5) rfl rfl rfl rfl ?_
      refine ev_loc f_X12_isPort (nx := 6) rfl rfl rfl rfl ?_
      refine ev_getR f_X12_isPort (nx := 9) rfl (hI.wf.s rfl) rfl rfl (hI.wf.r rfl) rfl rfl ?_
      refine ev_ic f_X12_isPort (nx := 10) (v := 0) rfl (by decide) rfl ?_
      refine ev_ialdv f_X12_isPort (nx := 11) (w := (gi 70 0)) rfl (hI.wf.s rfl) (by decide) (rfl : (0 : Int32).toNatClampNeg = 0) (by decide) rfl rfl ?_
      refine ev_if f_X12_isPort (t1 := 18) (t2 := 14) rfl rfl rfl (fun h13 => ?_) (fun h13 => ?_)
      · have r14 : (gi 70 0).toInt ≤ ar2.toInt := Int32.le_iff_toInt_le.mp h13
        refine ev_ic f_X12_isPort (nx := 19) (v := 0) rfl (by decide) rfl ?_
        refine ev_retK1 f_X12_isPort rfl rfl rfl ?_
        refine ev_t f_X12_doubt (t1 := 14) (t2 := 20) rfl rfl rfl (by decide) ?_
        have hlt := (t_lt1p e3 h4)
        refine ev_loc f_X12_doubt (nx := 15) rfl rfl rfl rfl ?_
        refine ev_ic f_X12_doubt (nx := 16) (v := 1) rfl (by decide) rfl ?_
        refine ev_inV2 f_X12_doubt (nx := 19) (lo2 := [(0, .ref 69), (1, .int 1)]) rfl rfl rfl rfl f_X12_is (hI.wf.s rfl) rfl rfl rfl rfl rfl ?_
        refine ev_loc f_X12_is (nx := 1) rfl rfl rfl rfl ?_
        refine ev_loc f_X12_is (nx := 2) rfl rfl rfl rfl ?_
        refine ev_putIT f_X12_is (nx := 5) rfl (hI.wf.s rfl) rfl rfl rfl (hI.put0 (hI.wf.s rfl) rfl rfl) (hX.upI rfl) (fun g15 e15 hI hX => ?_)
        refine ev_loc f_X12_is (nx := 6) rfl rfl rfl rfl ?_
        refine ev_f f_X12_is (t1 := 9) (t2 := 13) rfl rfl rfl (by decide) ?_
        refine ev_ic f_X12_is (nx := 14) (v := 0) rfl (by decide) rfl ?_
        refine ev_retK1 f_X12_is rfl rfl rfl ?_
        exact ev_ret f_X12_doubt rfl rfl rfl ⟨_, _, _, rfl, hI, hX, ⟨_, rfl, (by decide : (0:Int) ≤ (0:Int32).toInt), (Int.le_trans (by decide : (0:Int32).toInt ≤ (0:Int)) (by decide : (0:Int) ≤ 1)), (show (¬ (1 ≤ ar1.toInt ∧ 0 ≤ ar2.toInt ∧ ar2.toInt < (gi 70 0).toInt) → (g15 69 2).toInt = 1) ∧ ((1 ≤ ar1.toInt ∧ 0 ≤ ar2.toInt ∧ ar2.toInt < (gi 70 0).toInt) → ((0 : Int) ≠ 1 → (g15 69 2).toInt = 6) ∧ ((0 : Int) = 1 → (g15 69 2).toInt = 0)) from ⟨fun h => (by have ffs : (g15 69 2).toInt = 1 := (congrArg Int32.toInt (by rw [e15]; exact x_up2_at _ _ _ _ : g15 69 2 = 1)).trans (by decide); omega), fun h => ⟨fun h2 => (by have ffs : (g15 69 2).toInt = 1 := (congrArg Int32.toInt (by rw [e15]; exact x_up2_at _ _ _ _ : g15 69 2 = 1)).trans (by decide); omega), fun h2 => (by have ffs : (g15 69 2).toInt = 1 := (congrArg Int32.toInt (by rw [e15]; exact x_up2_at _ _ _ _ : g15 69 2 = 1)).trans (by decide); omega)⟩⟩)⟩⟩
      · have r16 : ar2.toInt < (gi 70 0).toInt := Int32.lt_iff_toInt_lt.mp (t_nle h13)
        have u17 : ar2.toInt ≤ 5 := t_ltu (t_nle h13) u2 rfl
        have l18 : 1 ≤ (gi 70 0).toInt := t_ltl (t_nle h13) l11 rfl
        refine ev_ic f_X12_isPort (nx := 15) (v := 1) rfl (by decide) rfl ?_
        refine ev_jmp f_X12_isPort (nx := 19) rfl rfl rfl ?_
        refine ev_retK1 f_X12_isPort rfl rfl rfl ?_
        refine ev_f f_X12_doubt (t1 := 14) (t2 := 20) rfl rfl rfl (by decide) ?_
        refine ev_loc f_X12_doubt (nx := 21) rfl rfl rfl rfl ?_
        refine ev_loc f_X12_doubt (nx := 22) rfl rfl rfl rfl ?_
        refine ev_qN f_X12_doubt (nx := 25) (r := []) rfl rfl rfl rfl rfl rfl rfl (c_m_findsReadings hI (ar1)) rfl hX rfl (fun gi19 gl19 gr19 hI hX hC19 q19 => ?_)
        have q19 : (gi19 69 29).toInt ≤ 474 := q19
        refine ev_loc f_X12_doubt (nx := 26) rfl rfl rfl rfl ?_
        refine ev_getI f_X12_doubt (nx := 29) rfl (hI.wf.s rfl) rfl rfl rfl ?_
        obtain ⟨l20, u20⟩ := hI.b (hI.wf.s (k := 69) rfl) (t_bdK rfl : t_bd 11 29 = some (0, 500))
        refine ev_if f_X12_doubt (t1 := 32) (t2 := 39) rfl rfl rfl (fun h21 => ?_) (fun h21 => ?_)
        · have u22 : (gi19 69 29).toInt ≤ 0 := t_equ h21 (by decide : (0:Int32).toInt ≤ (0:Int))
          refine ev_loc f_X12_doubt (nx := 33) rfl rfl rfl rfl ?_
          refine ev_bp f_X12_doubt (nx := 35) (v := 6) rfl (by decide) rfl ?_
          refine ev_inV2 f_X12_doubt (nx := 38) (lo2 := [(0, .ref 69), (1, .int 6)]) rfl rfl rfl rfl f_X12_is (hI.wf.s rfl) rfl rfl rfl rfl rfl ?_
          refine ev_loc f_X12_is (nx := 1) rfl rfl rfl rfl ?_
          refine ev_loc f_X12_is (nx := 2) rfl rfl rfl rfl ?_
          refine ev_putIT f_X12_is (nx := 5) rfl (hI.wf.s rfl) rfl rfl rfl (hI.put0 (hI.wf.s rfl) rfl rfl) (hX.upI rfl) (fun g23 e23 hI hX => ?_)
          refine ev_loc f_X12_is (nx := 6) rfl rfl rfl rfl ?_
          refine ev_f f_X12_is (t1 := 9) (t2 := 13) rfl rfl rfl (by decide) ?_
          refine ev_ic f_X12_is (nx := 14) (v := 0) rfl (by decide) rfl ?_
          refine ev_retK1 f_X12_is rfl rfl rfl ?_
          exact ev_ret f_X12_doubt rfl rfl rfl ⟨_, _, _, rfl, hI, hX, ⟨_, rfl, (by decide : (0:Int) ≤ (0:Int32).toInt), (Int.le_trans (by decide : (0:Int32).toInt ≤ (0:Int)) (by decide : (0:Int) ≤ 1)), (show (¬ (1 ≤ ar1.toInt ∧ 0 ≤ ar2.toInt ∧ ar2.toInt < (gi 70 0).toInt) → (g23 69 2).toInt = 1) ∧ ((1 ≤ ar1.toInt ∧ 0 ≤ ar2.toInt ∧ ar2.toInt < (gi 70 0).toInt) → ((0 : Int) ≠ 1 → (g23 69 2).toInt = 6) ∧ ((0 : Int) = 1 → (g23 69 2).toInt = 0)) from ⟨fun h => (by have ffs : (g23 69 2).toInt = 6 := (congrArg Int32.toInt (by rw [e23]; exact x_up2_at _ _ _ _ : g23 69 2 = 6)).trans (by decide); omega), fun h => ⟨fun h2 => (by have ffs : (g23 69 2).toInt = 6 := (congrArg Int32.toInt (by rw [e23]; exact x_up2_at _ _ _ _ : g23 69 2 = 6)).trans (by decide); omega), fun h2 => (by have ffs : (g23 69 2).toInt = 6 := (congrArg Int32.toInt (by rw [e23]; exact x_up2_at _ _ _ _ : g23 69 2 = 6)).trans (by decide); omega)⟩⟩)⟩⟩
        · have r24 : (gi19 69 29).toInt ≠ 0 := fun e => h21 (Int32.toInt_inj.mp (e.trans (by decide : (0:Int) = (0 : Int32).toInt)))
          have l25 : 1 ≤ (gi19 69 29).toInt := t_nel h21 l20 rfl rfl
          refine ev_ic f_X12_doubt (nx := 40) (v := 0) rfl (by decide) rfl ?_
          refine ev_loc f_X12_doubt (nx := 42) (lo' := [(4, .int 0), (0, .ref 69), (1, .long ar1), (3, .int ar2)]) rfl rfl rfl rfl ?_
          refine ev_ic f_X12_doubt (nx := 43) (v := 0) rfl (by decide) rfl ?_
          refine ev_loc f_X12_doubt (nx := 45) (lo' := [(5, .int 0), (4, .int 0), (0, .ref 69), (1, .long ar1), (3, .int ar2)]) rfl rfl rfl rfl ?_
          have L26 : ∀ (m26 : Nat) (gi26 : Nat → Nat → Int32) (gl26 : Nat → Nat → Int64) (gr26 : Nat → Nat → Value) (y26_5 : Int32) (y26_4 : Int32), t_I sh gi26 gr26 → t_X wl_g_doubt sh gi gl gr gi26 gl26 gr26 → 0 ≤ y26_5.toInt → y26_5.toInt ≤ 500 → 0 ≤ y26_4.toInt → y26_4.toInt ≤ 500 → gi26 69 2 = (gi 69 2) → gi26 69 29 = (gi19 69 29) → gi26 70 0 = (gi 70 0) → 0 ≤ y26_4.toInt → y26_4.toInt ≤ y26_5.toInt → (500 - y26_5.toInt).toNat = m26 → x_Ev X (d + 5) n_X12_doubt 45 [(5, .int y26_5), (4, .int y26_4), (0, .ref 69), (1, .long ar1), (3, .int ar2)] [] (sh, gi26, gl26, gr26) (t_PI wl_g_doubt sh gi gl gr 0 1 (Q_g_doubt gi gl gr ar1 ar2)) := by
            intro m26
            induction m26 using Nat.strongRecOn with
            | _ m26 ih26 =>
            intro gi26 gl26 gr26 y26_5 y26_4 hI hX l26_5 u26_5 l26_4 u26_4 c26_0 c26_1 c26_2 j26_0 j26_1 hm26
            refine ev_loc f_X12_doubt (nx := 47) rfl rfl rfl rfl ?_
            refine ev_loc f_X12_doubt (nx := 48) rfl rfl rfl rfl ?_
            refine ev_gvI f_X12_doubt (nx := 51) (w := (gi19 69 29)) rfl (hI.wf.s rfl) rfl rfl c26_1 rfl ?_
            refine ev_if f_X12_doubt (t1 := 92) (t2 := 54) rfl rfl rfl (fun h27 => ?_) (fun h27 => ?_)
            · have r28 : (gi19 69 29).toInt ≤ y26_5.toInt := Int32.le_iff_toInt_le.mp h27
              have l29 : 1 ≤ y26_5.toInt := t_lel h27 l25
              refine ev_loc f_X12_doubt (nx := 93) rfl rfl rfl rfl ?_
              refine ev_loc f_X12_doubt (nx := 95) rfl rfl rfl rfl ?_
              refine ev_anyLE f_X12_doubt (nx := 96) rfl rfl rfl rfl (fun z30 e30 => ?_)
              have i30 : z30.toInt = y26_4.toInt := by rw [e30]; exact Int32.toInt_toInt64 _
              refine ev_loc f_X12_doubt (nx := 97) rfl rfl rfl rfl ?_
              refine ev_gvI f_X12_doubt (nx := 100) (w := (gi19 69 29)) rfl (hI.wf.s rfl) rfl rfl c26_1 rfl ?_
              refine ev_anyLE f_X12_doubt (nx := 101) rfl rfl rfl rfl (fun z31 e31 => ?_)
              have i31 : z31.toInt = (gi19 69 29).toInt := by rw [e31]; exact Int32.toInt_toInt64 _
              refine ev_qI f_X12_doubt (nx := 104) (r := []) rfl rfl rfl rfl rfl rfl rfl (c_g_tellsBy hI (z30) (z31) (by omega) (by omega)) rfl hX rfl (fun w32 gi32 gl32 gr32 l32 u32 hI hX hC32 q32 => ?_)
              have q32 : (gi32 69 2).toInt = 0 := q32
              exact ev_retZ f_X12_doubt rfl (Int.le_trans (by decide : (0:Int) ≤ 1) l32) u32 ⟨_, _, _, rfl, hI, hX, ⟨_, rfl, (Int.le_trans (by decide : (0:Int) ≤ 1) l32), u32, (show (¬ (1 ≤ ar1.toInt ∧ 0 ≤ ar2.toInt ∧ ar2.toInt < (gi 70 0).toInt) → (gi32 69 2).toInt = 1) ∧ ((1 ≤ ar1.toInt ∧ 0 ≤ ar2.toInt ∧ ar2.toInt < (gi 70 0).toInt) → (w32.toInt ≠ 1 → (gi32 69 2).toInt = 6) ∧ (w32.toInt = 1 → (gi32 69 2).toInt = 0)) from ⟨fun h => (by omega), fun h => ⟨fun h2 => (by omega), fun h2 => (by omega)⟩⟩)⟩⟩
            · have r34 : y26_5.toInt < (gi19 69 29).toInt := Int32.lt_iff_toInt_lt.mp (t_nle h27)
              have u35 : y26_5.toInt ≤ 499 := t_ltu (t_nle h27) u20 rfl
              refine ev_loc f_X12_doubt (nx := 56) rfl rfl rfl rfl ?_
              refine ev_loc f_X12_doubt (nx := 57) rfl rfl rfl rfl ?_
              refine ev_getR f_X12_doubt (nx := 60) rfl (hI.wf.s rfl) rfl rfl (hI.wf.r rfl) rfl rfl ?_
              refine ev_loc f_X12_doubt (nx := 62) rfl rfl rfl rfl ?_
              refine ev_ialdT f_X12_doubt (nx := 63) rfl (hI.wf.s rfl) l26_5 (by decide) u35 (by decide) rfl (fun w36 e36 => ?_)
              refine ev_loc f_X12_doubt (nx := 64) rfl rfl rfl rfl ?_
              refine ev_if f_X12_doubt (t1 := 78) (t2 := 67) rfl rfl rfl (fun h37 => ?_) (fun h37 => ?_)
              · have r38 : w36.toInt = ar2.toInt := t_eqi h37
                have u39 : w36.toInt ≤ 5 := t_equ h37 u17
                have l40 : 0 ≤ w36.toInt := t_eql h37 l11
                refine ev_ic f_X12_doubt (nx := 79) (v := 1) rfl (by decide) rfl ?_
                refine ev_jmp f_X12_doubt (nx := 83) rfl rfl rfl ?_
                refine ev_addC f_X12_doubt (nx := 84) (c := 1) (l := 1) (u := 501) rfl (by decide) l26_4 u26_4 rfl rfl (by decide) (by decide) rfl (fun z41 e41 l41 u41 => ?_)
                refine ev_loc f_X12_doubt (nx := 86) (lo' := [(4, .int z41), (5, .int y26_5), (0, .ref 69), (1, .long ar1), (3, .int ar2)]) rfl rfl rfl rfl ?_
                refine ev_incR f_X12_doubt (nx := 89) (c := 1) (l := 1) (u := 500) rfl rfl (by decide) (by decide) l26_5 u35 rfl rfl (by decide) (by decide) rfl (fun z42 e42 l42 u42 => ?_)
                refine ev_jmp f_X12_doubt (nx := 45) rfl rfl rfl ?_
                refine ev_sub (lo := [(5, .int z42), (4, .int z41), (0, .ref 69), (1, .long ar1), (3, .int ar2)]) rfl (t_sc rfl (t_sc rfl (t_sc rfl (t_sc rfl (t_sc rfl t_sn))))) ?_
                exact ih26 _ (by omega) gi26 gl26 gr26 (z42) (z41) hI hX  (Int.le_trans (by decide : (0:Int) ≤ 1) l42) u42 (Int.le_trans (by decide : (0:Int) ≤ 1) l41) (by omega : z41.toInt ≤ (500:Int)) c26_0 c26_1 c26_2 (by omega) (by omega) rfl
              · have r43 : w36.toInt ≠ ar2.toInt := t_nei h37
                refine ev_loc f_X12_doubt (nx := 68) rfl rfl rfl rfl ?_
                refine ev_getR f_X12_doubt (nx := 71) rfl (hI.wf.s rfl) rfl rfl (hI.wf.r rfl) rfl rfl ?_
                refine ev_loc f_X12_doubt (nx := 73) rfl rfl rfl rfl ?_
                refine ev_ialdT f_X12_doubt (nx := 74) rfl (hI.wf.s rfl) l26_5 (by decide) u35 (by decide) rfl (fun w44 e44 => ?_)
                refine ev_loc f_X12_doubt (nx := 75) rfl rfl rfl rfl ?_
                refine ev_if f_X12_doubt (t1 := 78) (t2 := 82) rfl rfl rfl (fun h45 => ?_) (fun h45 => ?_)
                · have r46 : w44.toInt = ar2.toInt := t_eqi h45
                  have u47 : w44.toInt ≤ 5 := t_equ h45 u17
                  have l48 : 0 ≤ w44.toInt := t_eql h45 l11
                  refine ev_ic f_X12_doubt (nx := 79) (v := 1) rfl (by decide) rfl ?_
                  refine ev_jmp f_X12_doubt (nx := 83) rfl rfl rfl ?_
                  refine ev_addC f_X12_doubt (nx := 84) (c := 1) (l := 1) (u := 501) rfl (by decide) l26_4 u26_4 rfl rfl (by decide) (by decide) rfl (fun z49 e49 l49 u49 => ?_)
                  refine ev_loc f_X12_doubt (nx := 86) (lo' := [(4, .int z49), (5, .int y26_5), (0, .ref 69), (1, .long ar1), (3, .int ar2)]) rfl rfl rfl rfl ?_
                  refine ev_incR f_X12_doubt (nx := 89) (c := 1) (l := 1) (u := 500) rfl rfl (by decide) (by decide) l26_5 u35 rfl rfl (by decide) (by decide) rfl (fun z50 e50 l50 u50 => ?_)
                  refine ev_jmp f_X12_doubt (nx := 45) rfl rfl rfl ?_
                  refine ev_sub (lo := [(5, .int z50), (4, .int z49), (0, .ref 69), (1, .long ar1), (3, .int ar2)]) rfl (t_sc rfl (t_sc rfl (t_sc rfl (t_sc rfl (t_sc rfl t_sn))))) ?_
                  exact ih26 _ (by omega) gi26 gl26 gr26 (z50) (z49) hI hX  (Int.le_trans (by decide : (0:Int) ≤ 1) l50) u50 (Int.le_trans (by decide : (0:Int) ≤ 1) l49) (by omega : z49.toInt ≤ (500:Int)) c26_0 c26_1 c26_2 (by omega) (by omega) rfl
                · have r51 : w44.toInt ≠ ar2.toInt := t_nei h45
                  refine ev_ic f_X12_doubt (nx := 83) (v := 0) rfl (by decide) rfl ?_
                  refine ev_addC f_X12_doubt (nx := 84) (c := 0) (l := 0) (u := 500) rfl (by decide) l26_4 u26_4 rfl rfl (by decide) (by decide) rfl (fun z52 e52 l52 u52 => ?_)
                  refine ev_loc f_X12_doubt (nx := 86) (lo' := [(4, .int z52), (5, .int y26_5), (0, .ref 69), (1, .long ar1), (3, .int ar2)]) rfl rfl rfl rfl ?_
                  refine ev_incR f_X12_doubt (nx := 89) (c := 1) (l := 1) (u := 500) rfl rfl (by decide) (by decide) l26_5 u35 rfl rfl (by decide) (by decide) rfl (fun z53 e53 l53 u53 => ?_)
                  refine ev_jmp f_X12_doubt (nx := 45) rfl rfl rfl ?_
                  refine ev_sub (lo := [(5, .int z53), (4, .int z52), (0, .ref 69), (1, .long ar1), (3, .int ar2)]) rfl (t_sc rfl (t_sc rfl (t_sc rfl (t_sc rfl (t_sc rfl t_sn))))) ?_
                  exact ih26 _ (by omega) gi26 gl26 gr26 (z53) (z52) hI hX  (Int.le_trans (by decide : (0:Int) ≤ 1) l53) u53 l52 u52 c26_0 c26_1 c26_2 (by omega) (by omega) rfl
          refine ev_sub (lo := [(5, .int 0), (4, .int 0), (0, .ref 69), (1, .long ar1), (3, .int ar2)]) rfl (t_sc rfl (t_sc rfl (t_sc rfl (t_sc rfl (t_sc rfl t_sn))))) ?_
          exact L26 _ gi19 gl19 gr19 (0) (0) hI hX  (by decide : (0:Int) ≤ (0:Int32).toInt) (Int.le_trans (by decide : (0:Int32).toInt ≤ (0:Int)) (by decide : (0:Int) ≤ 500)) (by decide : (0:Int) ≤ (0:Int32).toInt) (Int.le_trans (by decide : (0:Int32).toInt ≤ (0:Int)) (by decide : (0:Int) ≤ 500)) ((hC19.1 69 2 rfl).1.trans rfl) rfl ((hC19.1 70 0 rfl).1.trans rfl) (by have kf54 : (0 : Int32).toInt = 0 := (by decide); omega) (by have kf55 : (0 : Int32).toInt = 0 := (by decide); omega) rfl
noncomputable def wl_g_codeAt : List (Nat × Nat) := [(69, 2)]
noncomputable def Q_g_codeAt (gi : Nat → Nat → Int32) (gl : Nat → Nat → Int64) (gr : Nat → Nat → Value) (ar1 : Int32) : Int64 → (Nat → Nat → Int32) → (Nat → Nat → Int64) → (Nat → Nat → Value) → Prop := fun (v : Int64) (gi2 : Nat → Nat → Int32) (gl2 : Nat → Nat → Int64) (gr2 : Nat → Nat → Value) => (¬ (0 ≤ ar1.toInt ∧ ar1.toInt < (gi 69 40).toInt) → (gi2 69 2).toInt = 6) ∧ ((0 ≤ ar1.toInt ∧ ar1.toInt < (gi 69 40).toInt) → (gi2 69 2).toInt = 0)
theorem c_g_codeAt {X : x_Ext} {d : Nat} {sh : List (Nat ⊕ (Nat × Nat))} {gi : Nat → Nat → Int32} {gl : Nat → Nat → Int64} {gr : Nat → Nat → Value} (hI : t_I sh gi gr) (ar1 : Int32) : x_Me X (d + 2) n_X12_codeAt [.ref 69, .int ar1] (sh, gi, gl, gr) (t_PL wl_g_codeAt sh gi gl gr (Q_g_codeAt gi gl gr ar1)) := by
  have hX : t_X wl_g_codeAt sh gi gl gr gi gl gr := t_X.rf
  refine me_i f_X12_codeAt (hI.wf.s rfl) rfl rfl rfl ?_
  obtain ⟨l2, u2⟩ := hI.b (hI.wf.s (k := 69) rfl) (t_bdK rfl : t_bd 11 40 = some (0, 4))
  refine ev_loc f_X12_codeAt (nx := 1) rfl rfl rfl rfl ?_
  refine ev_if f_X12_codeAt (t1 := 12) (t2 := 4) rfl rfl rfl (fun h3 => ?_) (fun h3 => ?_)
  · have u4 : ar1.toInt ≤ (-1) := t_ltu h3 (by decide : (0:Int32).toInt ≤ (0:Int)) rfl
    refine ev_loc f_X12_codeAt (nx := 13) rfl rfl rfl rfl ?_
    refine ev_bp f_X12_codeAt (nx := 15) (v := 6) rfl (by decide) rfl ?_
    refine ev_inV2 f_X12_codeAt (nx := 18) (lo2 := [(0, .ref 69), (1, .int 6)]) rfl rfl rfl rfl f_X12_refuse (hI.wf.s rfl) rfl rfl rfl rfl rfl ?_
    refine ev_loc f_X12_refuse (nx := 1) rfl rfl rfl rfl ?_
    refine ev_loc f_X12_refuse (nx := 2) rfl rfl rfl rfl ?_
    refine ev_putIT f_X12_refuse (nx := 5) rfl (hI.wf.s rfl) rfl rfl rfl (hI.put0 (hI.wf.s rfl) rfl rfl) (hX.upI rfl) (fun g5 e5 hI hX => ?_)
    refine ev_ic f_X12_refuse (nx := 6) (v := -1) rfl (by decide) rfl ?_
    refine ev_retK1 f_X12_refuse rfl rfl rfl ?_
    refine ev_aluvL f_X12_codeAt (nx := 19) (w := -1) rfl rfl rfl (by decide) rfl ?_
    refine ev_jmp f_X12_codeAt (nx := 32) rfl rfl rfl ?_
    exact ev_ret f_X12_codeAt rfl rfl rfl ⟨_, _, _, rfl, hI, hX, ⟨_, rfl, (show (¬ (0 ≤ ar1.toInt ∧ ar1.toInt < (gi 69 40).toInt) → (g5 69 2).toInt = 6) ∧ ((0 ≤ ar1.toInt ∧ ar1.toInt < (gi 69 40).toInt) → (g5 69 2).toInt = 0) from ⟨fun h => (by have ffs : (g5 69 2).toInt = 6 := (congrArg Int32.toInt (by rw [e5]; exact x_up2_at _ _ _ _ : g5 69 2 = 6)).trans (by decide); omega), fun h => (by have ffs : (g5 69 2).toInt = 6 := (congrArg Int32.toInt (by rw [e5]; exact x_up2_at _ _ _ _ : g5 69 2 = 6)).trans (by decide); omega)⟩)⟩⟩
  · have l6 : 0 ≤ ar1.toInt := t_lel (t_nlt h3) (by decide : (0:Int) ≤ (0:Int32).toInt)
    refine ev_loc f_X12_codeAt (nx := 5) rfl rfl rfl rfl ?_
    refine ev_loc f_X12_codeAt (nx := 6) rfl rfl rfl rfl ?_
    refine ev_gvI f_X12_codeAt (nx := 9) (w := (gi 69 40)) rfl (hI.wf.s rfl) rfl rfl rfl rfl ?_
    refine ev_if f_X12_codeAt (t1 := 22) (t2 := 12) rfl rfl rfl (fun h7 => ?_) (fun h7 => ?_)
    · have r8 : ar1.toInt < (gi 69 40).toInt := Int32.lt_iff_toInt_lt.mp h7
      have u9 : ar1.toInt ≤ 3 := t_ltu h7 u2 rfl
      have l10 : 1 ≤ (gi 69 40).toInt := t_ltl h7 l6 rfl
      refine ev_loc f_X12_codeAt (nx := 23) rfl rfl rfl rfl ?_
      refine ev_loc f_X12_codeAt (nx := 24) rfl rfl rfl rfl ?_
      refine ev_getR f_X12_codeAt (nx := 27) rfl (hI.wf.s rfl) rfl rfl (hI.wf.r rfl) rfl rfl ?_
      refine ev_loc f_X12_codeAt (nx := 28) rfl rfl rfl rfl ?_
      refine ev_laldT f_X12_codeAt (nx := 29) rfl (hI.wf.s rfl) l6 (by decide) u9 (by decide) rfl (fun w11 e11 => ?_)
      refine ev_inV2 f_X12_codeAt (nx := 32) (lo2 := [(0, .ref 69), (1, .long w11)]) rfl rfl rfl rfl f_X12_givesLong (hI.wf.s rfl) rfl rfl rfl rfl rfl ?_
      refine ev_loc f_X12_givesLong (nx := 1) rfl rfl rfl rfl ?_
      refine ev_ic f_X12_givesLong (nx := 2) (v := 0) rfl (by decide) rfl ?_
      refine ev_putIT f_X12_givesLong (nx := 5) rfl (hI.wf.s rfl) rfl rfl rfl (hI.put0 (hI.wf.s rfl) rfl rfl) (hX.upI rfl) (fun g12 e12 hI hX => ?_)
      refine ev_loc f_X12_givesLong (nx := 6) rfl rfl rfl rfl ?_
      refine ev_retK1 f_X12_givesLong rfl rfl rfl ?_
      exact ev_ret f_X12_codeAt rfl rfl rfl ⟨_, _, _, rfl, hI, hX, ⟨_, rfl, (show (¬ (0 ≤ ar1.toInt ∧ ar1.toInt < (gi 69 40).toInt) → (g12 69 2).toInt = 6) ∧ ((0 ≤ ar1.toInt ∧ ar1.toInt < (gi 69 40).toInt) → (g12 69 2).toInt = 0) from ⟨fun h => (by have ffs : (g12 69 2).toInt = 0 := (congrArg Int32.toInt (by rw [e12]; exact x_up2_at _ _ _ _ : g12 69 2 = 0)).trans (by decide); omega), fun h => (by have ffs : (g12 69 2).toInt = 0 := (congrArg Int32.toInt (by rw [e12]; exact x_up2_at _ _ _ _ : g12 69 2 = 0)).trans (by decide); omega)⟩)⟩⟩
    · have r13 : (gi 69 40).toInt ≤ ar1.toInt := Int32.le_iff_toInt_le.mp (t_nlt h7)
      refine ev_loc f_X12_codeAt (nx := 13) rfl rfl rfl rfl ?_
      refine ev_bp f_X12_codeAt (nx := 15) (v := 6) rfl (by decide) rfl ?_
      refine ev_inV2 f_X12_codeAt (nx := 18) (lo2 := [(0, .ref 69), (1, .int 6)]) rfl rfl rfl rfl f_X12_refuse (hI.wf.s rfl) rfl rfl rfl rfl rfl ?_
      refine ev_loc f_X12_refuse (nx := 1) rfl rfl rfl rfl ?_
      refine ev_loc f_X12_refuse (nx := 2) rfl rfl rfl rfl ?_
      refine ev_putIT f_X12_refuse (nx := 5) rfl (hI.wf.s rfl) rfl rfl rfl (hI.put0 (hI.wf.s rfl) rfl rfl) (hX.upI rfl) (fun g14 e14 hI hX => ?_)
      refine ev_ic f_X12_refuse (nx := 6) (v := -1) rfl (by decide) rfl ?_
      refine ev_retK1 f_X12_refuse rfl rfl rfl ?_
      refine ev_aluvL f_X12_codeAt (nx := 19) (w := -1) rfl rfl rfl (by decide) rfl ?_
      refine ev_jmp f_X12_codeAt (nx := 32) rfl rfl rfl ?_
      exact ev_ret f_X12_codeAt rfl rfl rfl ⟨_, _, _, rfl, hI, hX, ⟨_, rfl, (show (¬ (0 ≤ ar1.toInt ∧ ar1.toInt < (gi 69 40).toInt) → (g14 69 2).toInt = 6) ∧ ((0 ≤ ar1.toInt ∧ ar1.toInt < (gi 69 40).toInt) → (g14 69 2).toInt = 0) from ⟨fun h => (by have ffs : (g14 69 2).toInt = 6 := (congrArg Int32.toInt (by rw [e14]; exact x_up2_at _ _ _ _ : g14 69 2 = 6)).trans (by decide); omega), fun h => (by have ffs : (g14 69 2).toInt = 6 := (congrArg Int32.toInt (by rw [e14]; exact x_up2_at _ _ _ _ : g14 69 2 = 6)).trans (by decide); omega)⟩)⟩⟩
noncomputable def wl_g_nextShip : List (Nat × Nat) := [(69, 2), (69, 44), (69, 45), (89, 10005), (89, 610011), (90, 9999), (91, 9999)]
noncomputable def Q_g_nextShip (gi : Nat → Nat → Int32) (gl : Nat → Nat → Int64) (gr : Nat → Nat → Value) (ar1 : Int32) : Int32 → (Nat → Nat → Int32) → (Nat → Nat → Int64) → (Nat → Nat → Value) → Prop := fun (v : Int32) (gi2 : Nat → Nat → Int32) (gl2 : Nat → Nat → Int64) (gr2 : Nat → Nat → Value) => (v.toInt = -1 → (gi2 69 2).toInt = 6) ∧ (v.toInt ≠ -1 → (gi2 69 2).toInt = 0)
theorem c_g_nextShip {X : x_Ext} {d : Nat} {sh : List (Nat ⊕ (Nat × Nat))} {gi : Nat → Nat → Int32} {gl : Nat → Nat → Int64} {gr : Nat → Nat → Value} (hI : t_I sh gi gr) (ar1 : Int32) : x_Me X (d + 2) n_X12_nextShip [.ref 69, .int ar1] (sh, gi, gl, gr) (t_PI wl_g_nextShip sh gi gl gr (-1) 5 (Q_g_nextShip gi gl gr ar1)) := by
  have hX : t_X wl_g_nextShip sh gi gl gr gi gl gr := t_X.rf
  refine me_i f_X12_nextShip (hI.wf.s rfl) rfl rfl rfl ?_
  refine ev_loc f_X12_nextShip (nx := 1) rfl rfl rfl rfl ?_
  refine ev_c0 f_X12_nextShip (nx := 4) (r := []) rfl rfl rfl rfl rfl rfl rfl (c_m_tellsMinutes hI ) rfl hX rfl (fun gi2 gl2 gr2 hI hX hC2 => ?_)
  refine ev_loc f_X12_nextShip (nx := 5) rfl rfl rfl rfl ?_
  refine ev_ic f_X12_nextShip (nx := 6) (v := 0) rfl (by decide) rfl ?_
  refine ev_c0 f_X12_nextShip (nx := 9) (r := []) rfl rfl rfl rfl rfl rfl rfl (c_m_orders hI (0)) rfl hX rfl (fun gi3 gl3 gr3 hI hX hC3 => ?_)
  refine ev_loc f_X12_nextShip (nx := 10) rfl rfl rfl rfl ?_
  refine ev_if f_X12_nextShip (t1 := 21) (t2 := 13) rfl rfl rfl (fun h4 => ?_) (fun h4 => ?_)
  · have u5 : ar1.toInt ≤ (-1) := t_ltu h4 (by decide : (0:Int32).toInt ≤ (0:Int)) rfl
    refine ev_loc f_X12_nextShip (nx := 22) rfl rfl rfl rfl ?_
    refine ev_bp f_X12_nextShip (nx := 24) (v := 6) rfl (by decide) rfl ?_
    refine ev_inV2 f_X12_nextShip (nx := 27) (lo2 := [(0, .ref 69), (1, .int 6)]) rfl rfl rfl rfl f_X12_refuse (hI.wf.s rfl) rfl rfl rfl rfl rfl ?_
    refine ev_loc f_X12_refuse (nx := 1) rfl rfl rfl rfl ?_
    refine ev_loc f_X12_refuse (nx := 2) rfl rfl rfl rfl ?_
    refine ev_putIT f_X12_refuse (nx := 5) rfl (hI.wf.s rfl) rfl rfl rfl (hI.put0 (hI.wf.s rfl) rfl rfl) (hX.upI rfl) (fun g6 e6 hI hX => ?_)
    refine ev_ic f_X12_refuse (nx := 6) (v := -1) rfl (by decide) rfl ?_
    refine ev_retK1 f_X12_refuse rfl rfl rfl ?_
    refine ev_jmp f_X12_nextShip (nx := 40) rfl rfl rfl ?_
    exact ev_ret f_X12_nextShip rfl rfl rfl ⟨_, _, _, rfl, hI, hX, ⟨_, rfl, (by decide : ((-1):Int) ≤ ((-1):Int32).toInt), (Int.le_trans (by decide : ((-1):Int32).toInt ≤ ((-1):Int)) (by decide : ((-1):Int) ≤ 5)), (show (((-1) : Int) = -1 → (g6 69 2).toInt = 6) ∧ (((-1) : Int) ≠ -1 → (g6 69 2).toInt = 0) from ⟨fun h => (by have ffs : (g6 69 2).toInt = 6 := (congrArg Int32.toInt (by rw [e6]; exact x_up2_at _ _ _ _ : g6 69 2 = 6)).trans (by decide); omega), fun h => (by have ffs : (g6 69 2).toInt = 6 := (congrArg Int32.toInt (by rw [e6]; exact x_up2_at _ _ _ _ : g6 69 2 = 6)).trans (by decide); omega)⟩)⟩⟩
  · have l7 : 0 ≤ ar1.toInt := t_lel (t_nlt h4) (by decide : (0:Int) ≤ (0:Int32).toInt)
    refine ev_loc f_X12_nextShip (nx := 14) rfl rfl rfl rfl ?_
    refine ev_loc f_X12_nextShip (nx := 15) rfl rfl rfl rfl ?_
    refine ev_getI f_X12_nextShip (nx := 18) rfl (hI.wf.s rfl) rfl rfl rfl ?_
    obtain ⟨l8, u8⟩ := hI.b (hI.wf.s (k := 69) rfl) (t_bdK rfl : t_bd 11 44 = some (0, 6))
    refine ev_if f_X12_nextShip (t1 := 30) (t2 := 21) rfl rfl rfl (fun h9 => ?_) (fun h9 => ?_)
    · have r10 : ar1.toInt < (gi3 69 44).toInt := Int32.lt_iff_toInt_lt.mp h9
      have u11 : ar1.toInt ≤ 5 := t_ltu h9 u8 rfl
      have l12 : 1 ≤ (gi3 69 44).toInt := t_ltl h9 l7 rfl
      refine ev_loc f_X12_nextShip (nx := 31) rfl rfl rfl rfl ?_
      refine ev_loc f_X12_nextShip (nx := 32) rfl rfl rfl rfl ?_
      refine ev_getR f_X12_nextShip (nx := 35) rfl (hI.wf.s rfl) rfl rfl (hI.wf.r rfl) rfl rfl ?_
      refine ev_loc f_X12_nextShip (nx := 36) rfl rfl rfl rfl ?_
      refine ev_ialdT f_X12_nextShip (nx := 37) rfl (hI.wf.s rfl) l7 (by decide) u11 (by decide) rfl (fun w13 e13 => ?_)
      obtain ⟨l13, u13⟩ := hI.abi e13 (by decide +kernel : t_abr 90 0 5 0 5 = true) l7 (by decide) u11 (by decide)
      refine ev_inV2 f_X12_nextShip (nx := 40) (lo2 := [(0, .ref 69), (1, .int w13)]) rfl rfl rfl rfl f_X12_gives (hI.wf.s rfl) rfl rfl rfl rfl rfl ?_
      refine ev_loc f_X12_gives (nx := 1) rfl rfl rfl rfl ?_
      refine ev_ic f_X12_gives (nx := 2) (v := 0) rfl (by decide) rfl ?_
      refine ev_putIT f_X12_gives (nx := 5) rfl (hI.wf.s rfl) rfl rfl rfl (hI.put0 (hI.wf.s rfl) rfl rfl) (hX.upI rfl) (fun g14 e14 hI hX => ?_)
      refine ev_loc f_X12_gives (nx := 6) rfl rfl rfl rfl ?_
      refine ev_retK1 f_X12_gives rfl rfl rfl ?_
      exact ev_ret f_X12_nextShip rfl rfl rfl ⟨_, _, _, rfl, hI, hX, ⟨_, rfl, (Int.le_trans (by decide : ((-1):Int) ≤ 0) l13), u13, (show (w13.toInt = -1 → (g14 69 2).toInt = 6) ∧ (w13.toInt ≠ -1 → (g14 69 2).toInt = 0) from ⟨fun h => (by have ffs : (g14 69 2).toInt = 0 := (congrArg Int32.toInt (by rw [e14]; exact x_up2_at _ _ _ _ : g14 69 2 = 0)).trans (by decide); omega), fun h => (by have ffs : (g14 69 2).toInt = 0 := (congrArg Int32.toInt (by rw [e14]; exact x_up2_at _ _ _ _ : g14 69 2 = 0)).trans (by decide); omega)⟩)⟩⟩
    · have r15 : (gi3 69 44).toInt ≤ ar1.toInt := Int32.le_iff_toInt_le.mp (t_nlt h9)
      refine ev_loc f_X12_nextShip (nx := 22) rfl rfl rfl rfl ?_
      refine ev_bp f_X12_nextShip (nx := 24) (v := 6) rfl (by decide) rfl ?_
      refine ev_inV2 f_X12_nextShip (nx := 27) (lo2 := [(0, .ref 69), (1, .int 6)]) rfl rfl rfl rfl f_X12_refuse (hI.wf.s rfl) rfl rfl rfl rfl rfl ?_
      refine ev_loc f_X12_refuse (nx := 1) rfl rfl rfl rfl ?_
      refine ev_loc f_X12_refuse (nx := 2) rfl rfl rfl rfl ?_
      refine ev_putIT f_X12_refuse (nx := 5) rfl (hI.wf.s rfl) rfl rfl rfl (hI.put0 (hI.wf.s rfl) rfl rfl) (hX.upI rfl) (fun g16 e16 hI hX => ?_)
      refine ev_ic f_X12_refuse (nx := 6) (v := -1) rfl (by decide) rfl ?_
      refine ev_retK1 f_X12_refuse rfl rfl rfl ?_
      refine ev_jmp f_X12_nextShip (nx := 40) rfl rfl rfl ?_
      exact ev_ret f_X12_nextShip rfl rfl rfl ⟨_, _, _, rfl, hI, hX, ⟨_, rfl, (by decide : ((-1):Int) ≤ ((-1):Int32).toInt), (Int.le_trans (by decide : ((-1):Int32).toInt ≤ ((-1):Int)) (by decide : ((-1):Int) ≤ 5)), (show (((-1) : Int) = -1 → (g16 69 2).toInt = 6) ∧ (((-1) : Int) ≠ -1 → (g16 69 2).toInt = 0) from ⟨fun h => (by have ffs : (g16 69 2).toInt = 6 := (congrArg Int32.toInt (by rw [e16]; exact x_up2_at _ _ _ _ : g16 69 2 = 6)).trans (by decide); omega), fun h => (by have ffs : (g16 69 2).toInt = 6 := (congrArg Int32.toInt (by rw [e16]; exact x_up2_at _ _ _ _ : g16 69 2 = 6)).trans (by decide); omega)⟩)⟩⟩
noncomputable def wl_g_nextCart : List (Nat × Nat) := [(69, 2), (69, 44), (69, 45), (89, 10005), (89, 610011), (90, 9999), (91, 9999)]
noncomputable def Q_g_nextCart (gi : Nat → Nat → Int32) (gl : Nat → Nat → Int64) (gr : Nat → Nat → Value) (ar1 : Int32) : Int32 → (Nat → Nat → Int32) → (Nat → Nat → Int64) → (Nat → Nat → Value) → Prop := fun (v : Int32) (gi2 : Nat → Nat → Int32) (gl2 : Nat → Nat → Int64) (gr2 : Nat → Nat → Value) => (v.toInt = -1 → (gi2 69 2).toInt = 6) ∧ (v.toInt ≠ -1 → (gi2 69 2).toInt = 0)
theorem c_g_nextCart {X : x_Ext} {d : Nat} {sh : List (Nat ⊕ (Nat × Nat))} {gi : Nat → Nat → Int32} {gl : Nat → Nat → Int64} {gr : Nat → Nat → Value} (hI : t_I sh gi gr) (ar1 : Int32) : x_Me X (d + 2) n_X12_nextCart [.ref 69, .int ar1] (sh, gi, gl, gr) (t_PI wl_g_nextCart sh gi gl gr (-1) 5 (Q_g_nextCart gi gl gr ar1)) := by
  have hX : t_X wl_g_nextCart sh gi gl gr gi gl gr := t_X.rf
  refine me_i f_X12_nextCart (hI.wf.s rfl) rfl rfl rfl ?_
  refine ev_loc f_X12_nextCart (nx := 1) rfl rfl rfl rfl ?_
  refine ev_c0 f_X12_nextCart (nx := 4) (r := []) rfl rfl rfl rfl rfl rfl rfl (c_m_tellsMinutes hI ) rfl hX rfl (fun gi2 gl2 gr2 hI hX hC2 => ?_)
  refine ev_loc f_X12_nextCart (nx := 5) rfl rfl rfl rfl ?_
  refine ev_ic f_X12_nextCart (nx := 6) (v := 0) rfl (by decide) rfl ?_
  refine ev_c0 f_X12_nextCart (nx := 9) (r := []) rfl rfl rfl rfl rfl rfl rfl (c_m_orders hI (0)) rfl hX rfl (fun gi3 gl3 gr3 hI hX hC3 => ?_)
  refine ev_loc f_X12_nextCart (nx := 10) rfl rfl rfl rfl ?_
  refine ev_if f_X12_nextCart (t1 := 21) (t2 := 13) rfl rfl rfl (fun h4 => ?_) (fun h4 => ?_)
  · have u5 : ar1.toInt ≤ (-1) := t_ltu h4 (by decide : (0:Int32).toInt ≤ (0:Int)) rfl
    refine ev_loc f_X12_nextCart (nx := 22) rfl rfl rfl rfl ?_
    refine ev_bp f_X12_nextCart (nx := 24) (v := 6) rfl (by decide) rfl ?_
    refine ev_inV2 f_X12_nextCart (nx := 27) (lo2 := [(0, .ref 69), (1, .int 6)]) rfl rfl rfl rfl f_X12_refuse (hI.wf.s rfl) rfl rfl rfl rfl rfl ?_
    refine ev_loc f_X12_refuse (nx := 1) rfl rfl rfl rfl ?_
    refine ev_loc f_X12_refuse (nx := 2) rfl rfl rfl rfl ?_
    refine ev_putIT f_X12_refuse (nx := 5) rfl (hI.wf.s rfl) rfl rfl rfl (hI.put0 (hI.wf.s rfl) rfl rfl) (hX.upI rfl) (fun g6 e6 hI hX => ?_)
    refine ev_ic f_X12_refuse (nx := 6) (v := -1) rfl (by decide) rfl ?_
    refine ev_retK1 f_X12_refuse rfl rfl rfl ?_
    refine ev_jmp f_X12_nextCart (nx := 40) rfl rfl rfl ?_
    exact ev_ret f_X12_nextCart rfl rfl rfl ⟨_, _, _, rfl, hI, hX, ⟨_, rfl, (by decide : ((-1):Int) ≤ ((-1):Int32).toInt), (Int.le_trans (by decide : ((-1):Int32).toInt ≤ ((-1):Int)) (by decide : ((-1):Int) ≤ 5)), (show (((-1) : Int) = -1 → (g6 69 2).toInt = 6) ∧ (((-1) : Int) ≠ -1 → (g6 69 2).toInt = 0) from ⟨fun h => (by have ffs : (g6 69 2).toInt = 6 := (congrArg Int32.toInt (by rw [e6]; exact x_up2_at _ _ _ _ : g6 69 2 = 6)).trans (by decide); omega), fun h => (by have ffs : (g6 69 2).toInt = 6 := (congrArg Int32.toInt (by rw [e6]; exact x_up2_at _ _ _ _ : g6 69 2 = 6)).trans (by decide); omega)⟩)⟩⟩
  · have l7 : 0 ≤ ar1.toInt := t_lel (t_nlt h4) (by decide : (0:Int) ≤ (0:Int32).toInt)
    refine ev_loc f_X12_nextCart (nx := 14) rfl rfl rfl rfl ?_
    refine ev_loc f_X12_nextCart (nx := 15) rfl rfl rfl rfl ?_
    refine ev_getI f_X12_nextCart (nx := 18) rfl (hI.wf.s rfl) rfl rfl rfl ?_
    obtain ⟨l8, u8⟩ := hI.b (hI.wf.s (k := 69) rfl) (t_bdK rfl : t_bd 11 45 = some (0, 6))
    refine ev_if f_X12_nextCart (t1 := 30) (t2 := 21) rfl rfl rfl (fun h9 => ?_) (fun h9 => ?_)
    · have r10 : ar1.toInt < (gi3 69 45).toInt := Int32.lt_iff_toInt_lt.mp h9
      have u11 : ar1.toInt ≤ 5 := t_ltu h9 u8 rfl
      have l12 : 1 ≤ (gi3 69 45).toInt := t_ltl h9 l7 rfl
      refine ev_loc f_X12_nextCart (nx := 31) rfl rfl rfl rfl ?_
      refine ev_loc f_X12_nextCart (nx := 32) rfl rfl rfl rfl ?_
      refine ev_getR f_X12_nextCart (nx := 35) rfl (hI.wf.s rfl) rfl rfl (hI.wf.r rfl) rfl rfl ?_
      refine ev_loc f_X12_nextCart (nx := 36) rfl rfl rfl rfl ?_
      refine ev_ialdT f_X12_nextCart (nx := 37) rfl (hI.wf.s rfl) l7 (by decide) u11 (by decide) rfl (fun w13 e13 => ?_)
      obtain ⟨l13, u13⟩ := hI.abi e13 (by decide +kernel : t_abr 91 0 5 0 5 = true) l7 (by decide) u11 (by decide)
      refine ev_inV2 f_X12_nextCart (nx := 40) (lo2 := [(0, .ref 69), (1, .int w13)]) rfl rfl rfl rfl f_X12_gives (hI.wf.s rfl) rfl rfl rfl rfl rfl ?_
      refine ev_loc f_X12_gives (nx := 1) rfl rfl rfl rfl ?_
      refine ev_ic f_X12_gives (nx := 2) (v := 0) rfl (by decide) rfl ?_
      refine ev_putIT f_X12_gives (nx := 5) rfl (hI.wf.s rfl) rfl rfl rfl (hI.put0 (hI.wf.s rfl) rfl rfl) (hX.upI rfl) (fun g14 e14 hI hX => ?_)
      refine ev_loc f_X12_gives (nx := 6) rfl rfl rfl rfl ?_
      refine ev_retK1 f_X12_gives rfl rfl rfl ?_
      exact ev_ret f_X12_nextCart rfl rfl rfl ⟨_, _, _, rfl, hI, hX, ⟨_, rfl, (Int.le_trans (by decide : ((-1):Int) ≤ 0) l13), u13, (show (w13.toInt = -1 → (g14 69 2).toInt = 6) ∧ (w13.toInt ≠ -1 → (g14 69 2).toInt = 0) from ⟨fun h => (by have ffs : (g14 69 2).toInt = 0 := (congrArg Int32.toInt (by rw [e14]; exact x_up2_at _ _ _ _ : g14 69 2 = 0)).trans (by decide); omega), fun h => (by have ffs : (g14 69 2).toInt = 0 := (congrArg Int32.toInt (by rw [e14]; exact x_up2_at _ _ _ _ : g14 69 2 = 0)).trans (by decide); omega)⟩)⟩⟩
    · have r15 : (gi3 69 45).toInt ≤ ar1.toInt := Int32.le_iff_toInt_le.mp (t_nlt h9)
      refine ev_loc f_X12_nextCart (nx := 22) rfl rfl rfl rfl ?_
      refine ev_bp f_X12_nextCart (nx := 24) (v := 6) rfl (by decide) rfl ?_
      refine ev_inV2 f_X12_nextCart (nx := 27) (lo2 := [(0, .ref 69), (1, .int 6)]) rfl rfl rfl rfl f_X12_refuse (hI.wf.s rfl) rfl rfl rfl rfl rfl ?_
      refine ev_loc f_X12_refuse (nx := 1) rfl rfl rfl rfl ?_
      refine ev_loc f_X12_refuse (nx := 2) rfl rfl rfl rfl ?_
      refine ev_putIT f_X12_refuse (nx := 5) rfl (hI.wf.s rfl) rfl rfl rfl (hI.put0 (hI.wf.s rfl) rfl rfl) (hX.upI rfl) (fun g16 e16 hI hX => ?_)
      refine ev_ic f_X12_refuse (nx := 6) (v := -1) rfl (by decide) rfl ?_
      refine ev_retK1 f_X12_refuse rfl rfl rfl ?_
      refine ev_jmp f_X12_nextCart (nx := 40) rfl rfl rfl ?_
      exact ev_ret f_X12_nextCart rfl rfl rfl ⟨_, _, _, rfl, hI, hX, ⟨_, rfl, (by decide : ((-1):Int) ≤ ((-1):Int32).toInt), (Int.le_trans (by decide : ((-1):Int32).toInt ≤ ((-1):Int)) (by decide : ((-1):Int) ≤ 5)), (show (((-1) : Int) = -1 → (g16 69 2).toInt = 6) ∧ (((-1) : Int) ≠ -1 → (g16 69 2).toInt = 0) from ⟨fun h => (by have ffs : (g16 69 2).toInt = 6 := (congrArg Int32.toInt (by rw [e16]; exact x_up2_at _ _ _ _ : g16 69 2 = 6)).trans (by decide); omega), fun h => (by have ffs : (g16 69 2).toInt = 6 := (congrArg Int32.toInt (by rw [e16]; exact x_up2_at _ _ _ _ : g16 69 2 = 6)).trans (by decide); omega)⟩)⟩⟩
noncomputable def wl_g_told : List (Nat × Nat) := [(69, 2)]
noncomputable def Q_g_told (gi : Nat → Nat → Int32) (gl : Nat → Nat → Int64) (gr : Nat → Nat → Value) (ar1 : Int32) : Int32 → (Nat → Nat → Int32) → (Nat → Nat → Int64) → (Nat → Nat → Value) → Prop := fun (v : Int32) (gi2 : Nat → Nat → Int32) (gl2 : Nat → Nat → Int64) (gr2 : Nat → Nat → Value) => (¬ (0 ≤ ar1.toInt ∧ ar1.toInt ≤ 7) → (gi2 69 2).toInt = 1) ∧ ((0 ≤ ar1.toInt ∧ ar1.toInt ≤ 7) → (gi2 69 2).toInt = 0)
theorem c_g_told {X : x_Ext} {d : Nat} {sh : List (Nat ⊕ (Nat × Nat))} {gi : Nat → Nat → Int32} {gl : Nat → Nat → Int64} {gr : Nat → Nat → Value} (hI : t_I sh gi gr) (ar1 : Int32) : x_Me X (d + 2) n_X12_told [.ref 69, .int ar1] (sh, gi, gl, gr) (t_PI wl_g_told sh gi gl gr (-1) 200 (Q_g_told gi gl gr ar1)) := by
  have hX : t_X wl_g_told sh gi gl gr gi gl gr := t_X.rf
  refine me_i f_X12_told (hI.wf.s rfl) rfl rfl rfl ?_
  refine ev_loc f_X12_told (nx := 1) rfl rfl rfl rfl ?_
  refine ev_if f_X12_told (t1 := 10) (t2 := 4) rfl rfl rfl (fun h2 => ?_) (fun h2 => ?_)
  · have u3 : ar1.toInt ≤ (-1) := t_ltu h2 (by decide : (0:Int32).toInt ≤ (0:Int)) rfl
    refine ev_loc f_X12_told (nx := 11) rfl rfl rfl rfl ?_
    refine ev_ic f_X12_told (nx := 12) (v := 1) rfl (by decide) rfl ?_
    refine ev_inV2 f_X12_told (nx := 15) (lo2 := [(0, .ref 69), (1, .int 1)]) rfl rfl rfl rfl f_X12_refuse (hI.wf.s rfl) rfl rfl rfl rfl rfl ?_
    refine ev_loc f_X12_refuse (nx := 1) rfl rfl rfl rfl ?_
    refine ev_loc f_X12_refuse (nx := 2) rfl rfl rfl rfl ?_
    refine ev_putIT f_X12_refuse (nx := 5) rfl (hI.wf.s rfl) rfl rfl rfl (hI.put0 (hI.wf.s rfl) rfl rfl) (hX.upI rfl) (fun g4 e4 hI hX => ?_)
    refine ev_ic f_X12_refuse (nx := 6) (v := -1) rfl (by decide) rfl ?_
    refine ev_retK1 f_X12_refuse rfl rfl rfl ?_
    refine ev_jmp f_X12_told (nx := 28) rfl rfl rfl ?_
    exact ev_ret f_X12_told rfl rfl rfl ⟨_, _, _, rfl, hI, hX, ⟨_, rfl, (by decide : ((-1):Int) ≤ ((-1):Int32).toInt), (Int.le_trans (by decide : ((-1):Int32).toInt ≤ ((-1):Int)) (by decide : ((-1):Int) ≤ 200)), (show (¬ (0 ≤ ar1.toInt ∧ ar1.toInt ≤ 7) → (g4 69 2).toInt = 1) ∧ ((0 ≤ ar1.toInt ∧ ar1.toInt ≤ 7) → (g4 69 2).toInt = 0) from ⟨fun h => (by have ffs : (g4 69 2).toInt = 1 := (congrArg Int32.toInt (by rw [e4]; exact x_up2_at _ _ _ _ : g4 69 2 = 1)).trans (by decide); omega), fun h => (by have ffs : (g4 69 2).toInt = 1 := (congrArg Int32.toInt (by rw [e4]; exact x_up2_at _ _ _ _ : g4 69 2 = 1)).trans (by decide); omega)⟩)⟩⟩
  · have l5 : 0 ≤ ar1.toInt := t_lel (t_nlt h2) (by decide : (0:Int) ≤ (0:Int32).toInt)
    refine ev_loc f_X12_told (nx := 5) rfl rfl rfl rfl ?_
    refine ev_bp f_X12_told (nx := 7) (v := 7) rfl (by decide) rfl ?_
    refine ev_if f_X12_told (t1 := 18) (t2 := 10) rfl rfl rfl (fun h6 => ?_) (fun h6 => ?_)
    · have u7 : ar1.toInt ≤ 7 := t_leu h6 (by decide : (7:Int32).toInt ≤ (7:Int))
      refine ev_loc f_X12_told (nx := 19) rfl rfl rfl rfl ?_
      refine ev_loc f_X12_told (nx := 20) rfl rfl rfl rfl ?_
      refine ev_getR f_X12_told (nx := 23) rfl (hI.wf.s rfl) rfl rfl (hI.wf.r rfl) rfl rfl ?_
      refine ev_loc f_X12_told (nx := 24) rfl rfl rfl rfl ?_
      refine ev_ialdT f_X12_told (nx := 25) rfl (hI.wf.s rfl) l5 (by decide) u7 (by decide) rfl (fun w8 e8 => ?_)
      obtain ⟨l8, u8⟩ := hI.abi e8 (by decide +kernel : t_abr 70 0 7 0 200 = true) l5 (by decide) u7 (by decide)
      refine ev_inV2 f_X12_told (nx := 28) (lo2 := [(0, .ref 69), (1, .int w8)]) rfl rfl rfl rfl f_X12_gives (hI.wf.s rfl) rfl rfl rfl rfl rfl ?_
      refine ev_loc f_X12_gives (nx := 1) rfl rfl rfl rfl ?_
      refine ev_ic f_X12_gives (nx := 2) (v := 0) rfl (by decide) rfl ?_
      refine ev_putIT f_X12_gives (nx := 5) rfl (hI.wf.s rfl) rfl rfl rfl (hI.put0 (hI.wf.s rfl) rfl rfl) (hX.upI rfl) (fun g9 e9 hI hX => ?_)
      refine ev_loc f_X12_gives (nx := 6) rfl rfl rfl rfl ?_
      refine ev_retK1 f_X12_gives rfl rfl rfl ?_
      exact ev_ret f_X12_told rfl rfl rfl ⟨_, _, _, rfl, hI, hX, ⟨_, rfl, (Int.le_trans (by decide : ((-1):Int) ≤ 0) l8), u8, (show (¬ (0 ≤ ar1.toInt ∧ ar1.toInt ≤ 7) → (g9 69 2).toInt = 1) ∧ ((0 ≤ ar1.toInt ∧ ar1.toInt ≤ 7) → (g9 69 2).toInt = 0) from ⟨fun h => (by have ffs : (g9 69 2).toInt = 0 := (congrArg Int32.toInt (by rw [e9]; exact x_up2_at _ _ _ _ : g9 69 2 = 0)).trans (by decide); omega), fun h => (by have ffs : (g9 69 2).toInt = 0 := (congrArg Int32.toInt (by rw [e9]; exact x_up2_at _ _ _ _ : g9 69 2 = 0)).trans (by decide); omega)⟩)⟩⟩
    · have l10 : 8 ≤ ar1.toInt := t_ltl (t_nle h6) (by decide : (7:Int) ≤ (7:Int32).toInt) rfl
      refine ev_loc f_X12_told (nx := 11) rfl rfl rfl rfl ?_
      refine ev_ic f_X12_told (nx := 12) (v := 1) rfl (by decide) rfl ?_
      refine ev_inV2 f_X12_told (nx := 15) (lo2 := [(0, .ref 69), (1, .int 1)]) rfl rfl rfl rfl f_X12_refuse (hI.wf.s rfl) rfl rfl rfl rfl rfl ?_
      refine ev_loc f_X12_refuse (nx := 1) rfl rfl rfl rfl ?_
      refine ev_loc f_X12_refuse (nx := 2) rfl rfl rfl rfl ?_
      refine ev_putIT f_X12_refuse (nx := 5) rfl (hI.wf.s rfl) rfl rfl rfl (hI.put0 (hI.wf.s rfl) rfl rfl) (hX.upI rfl) (fun g11 e11 hI hX => ?_)
      refine ev_ic f_X12_refuse (nx := 6) (v := -1) rfl (by decide) rfl ?_
      refine ev_retK1 f_X12_refuse rfl rfl rfl ?_
      refine ev_jmp f_X12_told (nx := 28) rfl rfl rfl ?_
      exact ev_ret f_X12_told rfl rfl rfl ⟨_, _, _, rfl, hI, hX, ⟨_, rfl, (by decide : ((-1):Int) ≤ ((-1):Int32).toInt), (Int.le_trans (by decide : ((-1):Int32).toInt ≤ ((-1):Int)) (by decide : ((-1):Int) ≤ 200)), (show (¬ (0 ≤ ar1.toInt ∧ ar1.toInt ≤ 7) → (g11 69 2).toInt = 1) ∧ ((0 ≤ ar1.toInt ∧ ar1.toInt ≤ 7) → (g11 69 2).toInt = 0) from ⟨fun h => (by have ffs : (g11 69 2).toInt = 1 := (congrArg Int32.toInt (by rw [e11]; exact x_up2_at _ _ _ _ : g11 69 2 = 1)).trans (by decide); omega), fun h => (by have ffs : (g11 69 2).toInt = 1 := (congrArg Int32.toInt (by rw [e11]; exact x_up2_at _ _ _ _ : g11 69 2 = 1)).trans (by decide); omega)⟩)⟩⟩
noncomputable def wl_g_ship : List (Nat × Nat) := [(69, 2)]
noncomputable def Q_g_ship (gi : Nat → Nat → Int32) (gl : Nat → Nat → Int64) (gr : Nat → Nat → Value) (ar1 : Int32) (ar2 : Int32) : Int32 → (Nat → Nat → Int32) → (Nat → Nat → Int64) → (Nat → Nat → Value) → Prop := fun (v : Int32) (gi2 : Nat → Nat → Int32) (gl2 : Nat → Nat → Int64) (gr2 : Nat → Nat → Value) => (¬ (0 ≤ ar1.toInt ∧ ar1.toInt < (gi 70 1).toInt ∧ 0 ≤ ar2.toInt ∧ ar2.toInt ≤ 4) → (gi2 69 2).toInt = 1) ∧ ((0 ≤ ar1.toInt ∧ ar1.toInt < (gi 70 1).toInt ∧ 0 ≤ ar2.toInt ∧ ar2.toInt ≤ 4) → (gi2 69 2).toInt = 0)
theorem c_g_ship {X : x_Ext} {d : Nat} {sh : List (Nat ⊕ (Nat × Nat))} {gi : Nat → Nat → Int32} {gl : Nat → Nat → Int64} {gr : Nat → Nat → Value} (hI : t_I sh gi gr) (ar1 : Int32) (ar2 : Int32) : x_Me X (d + 2) n_X12_ship [.ref 69, .int ar1, .int ar2] (sh, gi, gl, gr) (t_PI wl_g_ship sh gi gl gr (-1) 120 (Q_g_ship gi gl gr ar1 ar2)) := by
  have hX : t_X wl_g_ship sh gi gl gr gi gl gr := t_X.rf
  refine me_i f_X12_ship (hI.wf.s rfl) rfl rfl rfl ?_
  obtain ⟨l2, u2⟩ := hI.ab (by decide +kernel : t_abr 70 1 1 0 6 = true) (Nat.le_refl _) (Nat.le_refl _)
  refine ev_loc f_X12_ship (nx := 1) rfl rfl rfl rfl ?_
  refine ev_loc f_X12_ship (nx := 2) rfl rfl rfl rfl ?_
  refine ev_inV2 f_X12_ship (nx := 5) (lo2 := [(0, .ref 69), (1, .int ar1)]) rfl rfl rfl rfl f_X12_isShip (hI.wf.s rfl) rfl rfl rfl rfl rfl ?_
  refine ev_loc f_X12_isShip (nx := 1) rfl rfl rfl rfl ?_
  refine ev_if f_X12_isShip (t1 := 18) (t2 := 4) rfl rfl rfl (fun h3 => ?_) (fun h3 => ?_)
  · have u4 : ar1.toInt ≤ (-1) := t_ltu h3 (by decide : (0:Int32).toInt ≤ (0:Int)) rfl
    refine ev_ic f_X12_isShip (nx := 19) (v := 0) rfl (by decide) rfl ?_
    refine ev_retK1 f_X12_isShip rfl rfl rfl ?_
    refine ev_t f_X12_ship (t1 := 37) (t2 := 8) rfl rfl rfl (by decide) ?_
    refine ev_loc f_X12_ship (nx := 38) rfl rfl rfl rfl ?_
    refine ev_ic f_X12_ship (nx := 39) (v := 1) rfl (by decide) rfl ?_
    refine ev_inV2 f_X12_ship (nx := 42) (lo2 := [(0, .ref 69), (1, .int 1)]) rfl rfl rfl rfl f_X12_refuse (hI.wf.s rfl) rfl rfl rfl rfl rfl ?_
    refine ev_loc f_X12_refuse (nx := 1) rfl rfl rfl rfl ?_
    refine ev_loc f_X12_refuse (nx := 2) rfl rfl rfl rfl ?_
    refine ev_putIT f_X12_refuse (nx := 5) rfl (hI.wf.s rfl) rfl rfl rfl (hI.put0 (hI.wf.s rfl) rfl rfl) (hX.upI rfl) (fun g5 e5 hI hX => ?_)
    refine ev_ic f_X12_refuse (nx := 6) (v := -1) rfl (by decide) rfl ?_
    refine ev_retK1 f_X12_refuse rfl rfl rfl ?_
    exact ev_ret f_X12_ship rfl rfl rfl ⟨_, _, _, rfl, hI, hX, ⟨_, rfl, (by decide : ((-1):Int) ≤ ((-1):Int32).toInt), (Int.le_trans (by decide : ((-1):Int32).toInt ≤ ((-1):Int)) (by decide : ((-1):Int) ≤ 120)), (show (¬ (0 ≤ ar1.toInt ∧ ar1.toInt < (gi 70 1).toInt ∧ 0 ≤ ar2.toInt ∧ ar2.toInt ≤ 4) → (g5 69 2).toInt = 1) ∧ ((0 ≤ ar1.toInt ∧ ar1.toInt < (gi 70 1).toInt ∧ 0 ≤ ar2.toInt ∧ ar2.toInt ≤ 4) → (g5 69 2).toInt = 0) from ⟨fun h => (by have ffs : (g5 69 2).toInt = 1 := (congrArg Int32.toInt (by rw [e5]; exact x_up2_at _ _ _ _ : g5 69 2 = 1)).trans (by decide); omega), fun h => (by have ffs : (g5 69 2).toInt = 1 := (congrArg Int32.toInt (by rw [e5]; exact x_up2_at _ _ _ _ : g5 69 2 = 1)).trans (by decide); omega)⟩)⟩⟩
  · have l6 : 0 ≤ ar1.toInt := t_lel (t_nlt h3) (by decide : (0:Int) ≤ (0:Int32).toInt)
    refine ev_loc f_X12_isShip (nx := 5) rfl rfl rfl rfl ?_
    refine ev_loc f_X12_isShip (nx := 6) rfl rfl rfl rfl ?_
    refine ev_getR f_X12_isShip (nx := 9) rfl (hI.wf.s rfl) rfl rfl (hI.wf.r rfl) rfl rfl ?_
    refine ev_ic f_X12_isShip (nx := 10) (v := 1) rfl (by decide) rfl ?_
    refine ev_ialdv f_X12_isShip (nx := 11) (w := (gi 70 1)) rfl (hI.wf.s rfl) (by decide) (rfl : (1 : Int32).toNatClampNeg = 1) (by decide) rfl rfl ?_
    refine ev_if f_X12_isShip (t1 := 18) (t2 := 14) rfl rfl rfl (fun h8 => ?_) (fun h8 => ?_)
    · have r9 : (gi 70 1).toInt ≤ ar1.toInt := Int32.le_iff_toInt_le.mp h8
      refine ev_ic f_X12_isShip (nx := 19) (v := 0) rfl (by decide) rfl ?_
      refine ev_retK1 f_X12_isShip rfl rfl rfl ?_
      refine ev_t f_X12_ship (t1 := 37) (t2 := 8) rfl rfl rfl (by decide) ?_
      refine ev_loc f_X12_ship (nx := 38) rfl rfl rfl rfl ?_
      refine ev_ic f_X12_ship (nx := 39) (v := 1) rfl (by decide) rfl ?_
      refine ev_inV2 f_X12_ship (nx := 42) (lo2 := [(0, .ref 69), (1, .int 1)]) rfl rfl rfl rfl f_X12_refuse (hI.wf.s rfl) rfl rfl rfl rfl rfl ?_
      refine ev_loc f_X12_refuse (nx := 1) rfl rfl rfl rfl ?_
      refine ev_loc f_X12_refuse (nx := 2) rfl rfl rfl rfl ?_
      refine ev_putIT f_X12_refuse (nx := 5) rfl (hI.wf.s rfl) rfl rfl rfl (hI.put0 (hI.wf.s rfl) rfl rfl) (hX.upI rfl) (fun g10 e10 hI hX => ?_)
      refine ev_ic f_X12_refuse (nx := 6) (v := -1) rfl (by decide) rfl ?_
      refine ev_retK1 f_X12_refuse rfl rfl rfl ?_
      exact ev_ret f_X12_ship rfl rfl rfl ⟨_, _, _, rfl, hI, hX, ⟨_, rfl, (by decide : ((-1):Int) ≤ ((-1):Int32).toInt), (Int.le_trans (by decide : ((-1):Int32).toInt ≤ ((-1):Int)) (by decide : ((-1):Int) ≤ 120)), (show (¬ (0 ≤ ar1.toInt ∧ ar1.toInt < (gi 70 1).toInt ∧ 0 ≤ ar2.toInt ∧ ar2.toInt ≤ 4) → (g10 69 2).toInt = 1) ∧ ((0 ≤ ar1.toInt ∧ ar1.toInt < (gi 70 1).toInt ∧ 0 ≤ ar2.toInt ∧ ar2.toInt ≤ 4) → (g10 69 2).toInt = 0) from ⟨fun h => (by have ffs : (g10 69 2).toInt = 1 := (congrArg Int32.toInt (by rw [e10]; exact x_up2_at _ _ _ _ : g10 69 2 = 1)).trans (by decide); omega), fun h => (by have ffs : (g10 69 2).toInt = 1 := (congrArg Int32.toInt (by rw [e10]; exact x_up2_at _ _ _ _ : g10 69 2 = 1)).trans (by decide); omega)⟩)⟩⟩
    · have r11 : ar1.toInt < (gi 70 1).toInt := Int32.lt_iff_toInt_lt.mp (t_nle h8)
      have u12 : ar1.toInt ≤ 5 := t_ltu (t_nle h8) u2 rfl
      have l13 : 1 ≤ (gi 70 1).toInt := t_ltl (t_nle h8) l6 rfl
      refine ev_ic f_X12_isShip (nx := 15) (v := 1) rfl (by decide) rfl ?_
      refine ev_jmp f_X12_isShip (nx := 19) rfl rfl rfl ?_
      refine ev_retK1 f_X12_isShip rfl rfl rfl ?_
      refine ev_f f_X12_ship (t1 := 37) (t2 := 8) rfl rfl rfl (by decide) ?_
      refine ev_loc f_X12_ship (nx := 9) rfl rfl rfl rfl ?_
      refine ev_if f_X12_ship (t1 := 37) (t2 := 12) rfl rfl rfl (fun h14 => ?_) (fun h14 => ?_)
      · have u15 : ar2.toInt ≤ (-1) := t_ltu h14 (by decide : (0:Int32).toInt ≤ (0:Int)) rfl
        refine ev_loc f_X12_ship (nx := 38) rfl rfl rfl rfl ?_
        refine ev_ic f_X12_ship (nx := 39) (v := 1) rfl (by decide) rfl ?_
        refine ev_inV2 f_X12_ship (nx := 42) (lo2 := [(0, .ref 69), (1, .int 1)]) rfl rfl rfl rfl f_X12_refuse (hI.wf.s rfl) rfl rfl rfl rfl rfl ?_
        refine ev_loc f_X12_refuse (nx := 1) rfl rfl rfl rfl ?_
        refine ev_loc f_X12_refuse (nx := 2) rfl rfl rfl rfl ?_
        refine ev_putIT f_X12_refuse (nx := 5) rfl (hI.wf.s rfl) rfl rfl rfl (hI.put0 (hI.wf.s rfl) rfl rfl) (hX.upI rfl) (fun g16 e16 hI hX => ?_)
        refine ev_ic f_X12_refuse (nx := 6) (v := -1) rfl (by decide) rfl ?_
        refine ev_retK1 f_X12_refuse rfl rfl rfl ?_
        exact ev_ret f_X12_ship rfl rfl rfl ⟨_, _, _, rfl, hI, hX, ⟨_, rfl, (by decide : ((-1):Int) ≤ ((-1):Int32).toInt), (Int.le_trans (by decide : ((-1):Int32).toInt ≤ ((-1):Int)) (by decide : ((-1):Int) ≤ 120)), (show (¬ (0 ≤ ar1.toInt ∧ ar1.toInt < (gi 70 1).toInt ∧ 0 ≤ ar2.toInt ∧ ar2.toInt ≤ 4) → (g16 69 2).toInt = 1) ∧ ((0 ≤ ar1.toInt ∧ ar1.toInt < (gi 70 1).toInt ∧ 0 ≤ ar2.toInt ∧ ar2.toInt ≤ 4) → (g16 69 2).toInt = 0) from ⟨fun h => (by have ffs : (g16 69 2).toInt = 1 := (congrArg Int32.toInt (by rw [e16]; exact x_up2_at _ _ _ _ : g16 69 2 = 1)).trans (by decide); omega), fun h => (by have ffs : (g16 69 2).toInt = 1 := (congrArg Int32.toInt (by rw [e16]; exact x_up2_at _ _ _ _ : g16 69 2 = 1)).trans (by decide); omega)⟩)⟩⟩
      · have l17 : 0 ≤ ar2.toInt := t_lel (t_nlt h14) (by decide : (0:Int) ≤ (0:Int32).toInt)
        refine ev_loc f_X12_ship (nx := 13) rfl rfl rfl rfl ?_
        refine ev_ic f_X12_ship (nx := 14) (v := 4) rfl (by decide) rfl ?_
        refine ev_if f_X12_ship (t1 := 37) (t2 := 17) rfl rfl rfl (fun h18 => ?_) (fun h18 => ?_)
        · have l19 : 5 ≤ ar2.toInt := t_ltl h18 (by decide : (4:Int) ≤ (4:Int32).toInt) rfl
          refine ev_loc f_X12_ship (nx := 38) rfl rfl rfl rfl ?_
          refine ev_ic f_X12_ship (nx := 39) (v := 1) rfl (by decide) rfl ?_
          refine ev_inV2 f_X12_ship (nx := 42) (lo2 := [(0, .ref 69), (1, .int 1)]) rfl rfl rfl rfl f_X12_refuse (hI.wf.s rfl) rfl rfl rfl rfl rfl ?_
          refine ev_loc f_X12_refuse (nx := 1) rfl rfl rfl rfl ?_
          refine ev_loc f_X12_refuse (nx := 2) rfl rfl rfl rfl ?_
          refine ev_putIT f_X12_refuse (nx := 5) rfl (hI.wf.s rfl) rfl rfl rfl (hI.put0 (hI.wf.s rfl) rfl rfl) (hX.upI rfl) (fun g20 e20 hI hX => ?_)
          refine ev_ic f_X12_refuse (nx := 6) (v := -1) rfl (by decide) rfl ?_
          refine ev_retK1 f_X12_refuse rfl rfl rfl ?_
          exact ev_ret f_X12_ship rfl rfl rfl ⟨_, _, _, rfl, hI, hX, ⟨_, rfl, (by decide : ((-1):Int) ≤ ((-1):Int32).toInt), (Int.le_trans (by decide : ((-1):Int32).toInt ≤ ((-1):Int)) (by decide : ((-1):Int) ≤ 120)), (show (¬ (0 ≤ ar1.toInt ∧ ar1.toInt < (gi 70 1).toInt ∧ 0 ≤ ar2.toInt ∧ ar2.toInt ≤ 4) → (g20 69 2).toInt = 1) ∧ ((0 ≤ ar1.toInt ∧ ar1.toInt < (gi 70 1).toInt ∧ 0 ≤ ar2.toInt ∧ ar2.toInt ≤ 4) → (g20 69 2).toInt = 0) from ⟨fun h => (by have ffs : (g20 69 2).toInt = 1 := (congrArg Int32.toInt (by rw [e20]; exact x_up2_at _ _ _ _ : g20 69 2 = 1)).trans (by decide); omega), fun h => (by have ffs : (g20 69 2).toInt = 1 := (congrArg Int32.toInt (by rw [e20]; exact x_up2_at _ _ _ _ : g20 69 2 = 1)).trans (by decide); omega)⟩)⟩⟩
        · have u21 : ar2.toInt ≤ 4 := t_leu (t_nlt h18) (by decide : (4:Int32).toInt ≤ (4:Int))
          refine ev_loc f_X12_ship (nx := 18) rfl rfl rfl rfl ?_
          refine ev_loc f_X12_ship (nx := 19) rfl rfl rfl rfl ?_
          refine ev_getR f_X12_ship (nx := 22) rfl (hI.wf.s rfl) rfl rfl (hI.wf.r rfl) rfl rfl ?_
          refine ev_bp f_X12_ship (nx := 24) (v := 52) rfl (by decide) rfl ?_
          refine ev_ic f_X12_ship (nx := 25) (v := 5) rfl (by decide) rfl ?_
          refine ev_loc f_X12_ship (nx := 26) rfl rfl rfl rfl ?_
          refine ev_mulL f_X12_ship (nx := 27) (c := 5) (l := 0) (u := 25) rfl (by decide) (by decide) l6 u12 rfl rfl (by decide) (by decide) rfl (fun z22 e22 l22 u22 => ?_)
          refine ev_addK f_X12_ship (nx := 28) (c := 52) (l := 52) (u := 77) rfl (by decide) l22 u22 rfl rfl (by decide) (by decide) rfl (fun z23 e23 l23 u23 => ?_)
          refine ev_loc f_X12_ship (nx := 29) rfl rfl rfl rfl ?_
          refine ev_addR f_X12_ship (nx := 30) (l := 52) (u := 81) rfl l23 u23 l17 u21 rfl rfl (by decide) (by decide) rfl (fun z24 e24 l24 u24 => ?_)
          refine ev_ialdT f_X12_ship (nx := 31) rfl (hI.wf.s rfl) l24 (by decide) u24 (by decide) rfl (fun w25 e25 => ?_)
          obtain ⟨l25, u25⟩ := hI.abi e25 (by decide +kernel : t_abr 70 52 81 (-1) 120 = true) l24 (by decide) u24 (by decide)
          refine ev_inV2 f_X12_ship (nx := 34) (lo2 := [(0, .ref 69), (1, .int w25)]) rfl rfl rfl rfl f_X12_gives (hI.wf.s rfl) rfl rfl rfl rfl rfl ?_
          refine ev_loc f_X12_gives (nx := 1) rfl rfl rfl rfl ?_
          refine ev_ic f_X12_gives (nx := 2) (v := 0) rfl (by decide) rfl ?_
          refine ev_putIT f_X12_gives (nx := 5) rfl (hI.wf.s rfl) rfl rfl rfl (hI.put0 (hI.wf.s rfl) rfl rfl) (hX.upI rfl) (fun g26 e26 hI hX => ?_)
          refine ev_loc f_X12_gives (nx := 6) rfl rfl rfl rfl ?_
          refine ev_retK1 f_X12_gives rfl rfl rfl ?_
          refine ev_jmp f_X12_ship (nx := 42) rfl rfl rfl ?_
          exact ev_ret f_X12_ship rfl rfl rfl ⟨_, _, _, rfl, hI, hX, ⟨_, rfl, l25, u25, (show (¬ (0 ≤ ar1.toInt ∧ ar1.toInt < (gi 70 1).toInt ∧ 0 ≤ ar2.toInt ∧ ar2.toInt ≤ 4) → (g26 69 2).toInt = 1) ∧ ((0 ≤ ar1.toInt ∧ ar1.toInt < (gi 70 1).toInt ∧ 0 ≤ ar2.toInt ∧ ar2.toInt ≤ 4) → (g26 69 2).toInt = 0) from ⟨fun h => (by have ffs : (g26 69 2).toInt = 0 := (congrArg Int32.toInt (by rw [e26]; exact x_up2_at _ _ _ _ : g26 69 2 = 0)).trans (by decide); omega), fun h => (by have ffs : (g26 69 2).toInt = 0 := (congrArg Int32.toInt (by rw [e26]; exact x_up2_at _ _ _ _ : g26 69 2 = 0)).trans (by decide); omega)⟩)⟩⟩
noncomputable def wl_g_cart : List (Nat × Nat) := [(69, 2)]
noncomputable def Q_g_cart (gi : Nat → Nat → Int32) (gl : Nat → Nat → Int64) (gr : Nat → Nat → Value) (ar1 : Int32) (ar2 : Int32) : Int32 → (Nat → Nat → Int32) → (Nat → Nat → Int64) → (Nat → Nat → Value) → Prop := fun (v : Int32) (gi2 : Nat → Nat → Int32) (gl2 : Nat → Nat → Int64) (gr2 : Nat → Nat → Value) => (¬ (0 ≤ ar1.toInt ∧ ar1.toInt < (gi 70 2).toInt ∧ 0 ≤ ar2.toInt ∧ ar2.toInt ≤ 2) → (gi2 69 2).toInt = 1) ∧ ((0 ≤ ar1.toInt ∧ ar1.toInt < (gi 70 2).toInt ∧ 0 ≤ ar2.toInt ∧ ar2.toInt ≤ 2) → (gi2 69 2).toInt = 0)
theorem c_g_cart {X : x_Ext} {d : Nat} {sh : List (Nat ⊕ (Nat × Nat))} {gi : Nat → Nat → Int32} {gl : Nat → Nat → Int64} {gr : Nat → Nat → Value} (hI : t_I sh gi gr) (ar1 : Int32) (ar2 : Int32) : x_Me X (d + 2) n_X12_cart [.ref 69, .int ar1, .int ar2] (sh, gi, gl, gr) (t_PI wl_g_cart sh gi gl gr (-1) 120 (Q_g_cart gi gl gr ar1 ar2)) := by
  have hX : t_X wl_g_cart sh gi gl gr gi gl gr := t_X.rf
  refine me_i f_X12_cart (hI.wf.s rfl) rfl rfl rfl ?_
  obtain ⟨l2, u2⟩ := hI.ab (by decide +kernel : t_abr 70 2 2 0 6 = true) (Nat.le_refl _) (Nat.le_refl _)
  refine ev_loc f_X12_cart (nx := 1) rfl rfl rfl rfl ?_
  refine ev_loc f_X12_cart (nx := 2) rfl rfl rfl rfl ?_
  refine ev_inV2 f_X12_cart (nx := 5) (lo2 := [(0, .ref 69), (1, .int ar1)]) rfl rfl rfl rfl f_X12_isCart (hI.wf.s rfl) rfl rfl rfl rfl rfl ?_
  refine ev_loc f_X12_isCart (nx := 1) rfl rfl rfl rfl ?_
  refine ev_if f_X12_isCart (t1 := 18) (t2 := 4) rfl rfl rfl (fun h3 => ?_) (fun h3 => ?_)
  · have u4 : ar1.toInt ≤ (-1) := t_ltu h3 (by decide : (0:Int32).toInt ≤ (0:Int)) rfl
    refine ev_ic f_X12_isCart (nx := 19) (v := 0) rfl (by decide) rfl ?_
    refine ev_retK1 f_X12_isCart rfl rfl rfl ?_
    refine ev_t f_X12_cart (t1 := 37) (t2 := 8) rfl rfl rfl (by decide) ?_
    refine ev_loc f_X12_cart (nx := 38) rfl rfl rfl rfl ?_
    refine ev_ic f_X12_cart (nx := 39) (v := 1) rfl (by decide) rfl ?_
    refine ev_inV2 f_X12_cart (nx := 42) (lo2 := [(0, .ref 69), (1, .int 1)]) rfl rfl rfl rfl f_X12_refuse (hI.wf.s rfl) rfl rfl rfl rfl rfl ?_
    refine ev_loc f_X12_refuse (nx := 1) rfl rfl rfl rfl ?_
    refine ev_loc f_X12_refuse (nx := 2) rfl rfl rfl rfl ?_
    refine ev_putIT f_X12_refuse (nx := 5) rfl (hI.wf.s rfl) rfl rfl rfl (hI.put0 (hI.wf.s rfl) rfl rfl) (hX.upI rfl) (fun g5 e5 hI hX => ?_)
    refine ev_ic f_X12_refuse (nx := 6) (v := -1) rfl (by decide) rfl ?_
    refine ev_retK1 f_X12_refuse rfl rfl rfl ?_
    exact ev_ret f_X12_cart rfl rfl rfl ⟨_, _, _, rfl, hI, hX, ⟨_, rfl, (by decide : ((-1):Int) ≤ ((-1):Int32).toInt), (Int.le_trans (by decide : ((-1):Int32).toInt ≤ ((-1):Int)) (by decide : ((-1):Int) ≤ 120)), (show (¬ (0 ≤ ar1.toInt ∧ ar1.toInt < (gi 70 2).toInt ∧ 0 ≤ ar2.toInt ∧ ar2.toInt ≤ 2) → (g5 69 2).toInt = 1) ∧ ((0 ≤ ar1.toInt ∧ ar1.toInt < (gi 70 2).toInt ∧ 0 ≤ ar2.toInt ∧ ar2.toInt ≤ 2) → (g5 69 2).toInt = 0) from ⟨fun h => (by have ffs : (g5 69 2).toInt = 1 := (congrArg Int32.toInt (by rw [e5]; exact x_up2_at _ _ _ _ : g5 69 2 = 1)).trans (by decide); omega), fun h => (by have ffs : (g5 69 2).toInt = 1 := (congrArg Int32.toInt (by rw [e5]; exact x_up2_at _ _ _ _ : g5 69 2 = 1)).trans (by decide); omega)⟩)⟩⟩
  · have l6 : 0 ≤ ar1.toInt := t_lel (t_nlt h3) (by decide : (0:Int) ≤ (0:Int32).toInt)
    refine ev_loc f_X12_isCart (nx := 5) rfl rfl rfl rfl ?_
    refine ev_loc f_X12_isCart (nx := 6) rfl rfl rfl rfl ?_
    refine ev_getR f_X12_isCart (nx := 9) rfl (hI.wf.s rfl) rfl rfl (hI.wf.r rfl) rfl rfl ?_
    refine ev_ic f_X12_isCart (nx := 10) (v := 2) rfl (by decide) rfl ?_
    refine ev_ialdv f_X12_isCart (nx := 11) (w := (gi 70 2)) rfl (hI.wf.s rfl) (by decide) (rfl : (2 : Int32).toNatClampNeg = 2) (by decide) rfl rfl ?_
    refine ev_if f_X12_isCart (t1 := 18) (t2 := 14) rfl rfl rfl (fun h8 => ?_) (fun h8 => ?_)
    · have r9 : (gi 70 2).toInt ≤ ar1.toInt := Int32.le_iff_toInt_le.mp h8
      refine ev_ic f_X12_isCart (nx := 19) (v := 0) rfl (by decide) rfl ?_
      refine ev_retK1 f_X12_isCart rfl rfl rfl ?_
      refine ev_t f_X12_cart (t1 := 37) (t2 := 8) rfl rfl rfl (by decide) ?_
      refine ev_loc f_X12_cart (nx := 38) rfl rfl rfl rfl ?_
      refine ev_ic f_X12_cart (nx := 39) (v := 1) rfl (by decide) rfl ?_
      refine ev_inV2 f_X12_cart (nx := 42) (lo2 := [(0, .ref 69), (1, .int 1)]) rfl rfl rfl rfl f_X12_refuse (hI.wf.s rfl) rfl rfl rfl rfl rfl ?_
      refine ev_loc f_X12_refuse (nx := 1) rfl rfl rfl rfl ?_
      refine ev_loc f_X12_refuse (nx := 2) rfl rfl rfl rfl ?_
      refine ev_putIT f_X12_refuse (nx := 5) rfl (hI.wf.s rfl) rfl rfl rfl (hI.put0 (hI.wf.s rfl) rfl rfl) (hX.upI rfl) (fun g10 e10 hI hX => ?_)
      refine ev_ic f_X12_refuse (nx := 6) (v := -1) rfl (by decide) rfl ?_
      refine ev_retK1 f_X12_refuse rfl rfl rfl ?_
      exact ev_ret f_X12_cart rfl rfl rfl ⟨_, _, _, rfl, hI, hX, ⟨_, rfl, (by decide : ((-1):Int) ≤ ((-1):Int32).toInt), (Int.le_trans (by decide : ((-1):Int32).toInt ≤ ((-1):Int)) (by decide : ((-1):Int) ≤ 120)), (show (¬ (0 ≤ ar1.toInt ∧ ar1.toInt < (gi 70 2).toInt ∧ 0 ≤ ar2.toInt ∧ ar2.toInt ≤ 2) → (g10 69 2).toInt = 1) ∧ ((0 ≤ ar1.toInt ∧ ar1.toInt < (gi 70 2).toInt ∧ 0 ≤ ar2.toInt ∧ ar2.toInt ≤ 2) → (g10 69 2).toInt = 0) from ⟨fun h => (by have ffs : (g10 69 2).toInt = 1 := (congrArg Int32.toInt (by rw [e10]; exact x_up2_at _ _ _ _ : g10 69 2 = 1)).trans (by decide); omega), fun h => (by have ffs : (g10 69 2).toInt = 1 := (congrArg Int32.toInt (by rw [e10]; exact x_up2_at _ _ _ _ : g10 69 2 = 1)).trans (by decide); omega)⟩)⟩⟩
    · have r11 : ar1.toInt < (gi 70 2).toInt := Int32.lt_iff_toInt_lt.mp (t_nle h8)
      have u12 : ar1.toInt ≤ 5 := t_ltu (t_nle h8) u2 rfl
      have l13 : 1 ≤ (gi 70 2).toInt := t_ltl (t_nle h8) l6 rfl
      refine ev_ic f_X12_isCart (nx := 15) (v := 1) rfl (by decide) rfl ?_
      refine ev_jmp f_X12_isCart (nx := 19) rfl rfl rfl ?_
      refine ev_retK1 f_X12_isCart rfl rfl rfl ?_
      refine ev_f f_X12_cart (t1 := 37) (t2 := 8) rfl rfl rfl (by decide) ?_
      refine ev_loc f_X12_cart (nx := 9) rfl rfl rfl rfl ?_
      refine ev_if f_X12_cart (t1 := 37) (t2 := 12) rfl rfl rfl (fun h14 => ?_) (fun h14 => ?_)
      · have u15 : ar2.toInt ≤ (-1) := t_ltu h14 (by decide : (0:Int32).toInt ≤ (0:Int)) rfl
        refine ev_loc f_X12_cart (nx := 38) rfl rfl rfl rfl ?_
        refine ev_ic f_X12_cart (nx := 39) (v := 1) rfl (by decide) rfl ?_
        refine ev_inV2 f_X12_cart (nx := 42) (lo2 := [(0, .ref 69), (1, .int 1)]) rfl rfl rfl rfl f_X12_refuse (hI.wf.s rfl) rfl rfl rfl rfl rfl ?_
        refine ev_loc f_X12_refuse (nx := 1) rfl rfl rfl rfl ?_
        refine ev_loc f_X12_refuse (nx := 2) rfl rfl rfl rfl ?_
        refine ev_putIT f_X12_refuse (nx := 5) rfl (hI.wf.s rfl) rfl rfl rfl (hI.put0 (hI.wf.s rfl) rfl rfl) (hX.upI rfl) (fun g16 e16 hI hX => ?_)
        refine ev_ic f_X12_refuse (nx := 6) (v := -1) rfl (by decide) rfl ?_
        refine ev_retK1 f_X12_refuse rfl rfl rfl ?_
        exact ev_ret f_X12_cart rfl rfl rfl ⟨_, _, _, rfl, hI, hX, ⟨_, rfl, (by decide : ((-1):Int) ≤ ((-1):Int32).toInt), (Int.le_trans (by decide : ((-1):Int32).toInt ≤ ((-1):Int)) (by decide : ((-1):Int) ≤ 120)), (show (¬ (0 ≤ ar1.toInt ∧ ar1.toInt < (gi 70 2).toInt ∧ 0 ≤ ar2.toInt ∧ ar2.toInt ≤ 2) → (g16 69 2).toInt = 1) ∧ ((0 ≤ ar1.toInt ∧ ar1.toInt < (gi 70 2).toInt ∧ 0 ≤ ar2.toInt ∧ ar2.toInt ≤ 2) → (g16 69 2).toInt = 0) from ⟨fun h => (by have ffs : (g16 69 2).toInt = 1 := (congrArg Int32.toInt (by rw [e16]; exact x_up2_at _ _ _ _ : g16 69 2 = 1)).trans (by decide); omega), fun h => (by have ffs : (g16 69 2).toInt = 1 := (congrArg Int32.toInt (by rw [e16]; exact x_up2_at _ _ _ _ : g16 69 2 = 1)).trans (by decide); omega)⟩)⟩⟩
      · have l17 : 0 ≤ ar2.toInt := t_lel (t_nlt h14) (by decide : (0:Int) ≤ (0:Int32).toInt)
        refine ev_loc f_X12_cart (nx := 13) rfl rfl rfl rfl ?_
        refine ev_ic f_X12_cart (nx := 14) (v := 2) rfl (by decide) rfl ?_
        refine ev_if f_X12_cart (t1 := 37) (t2 := 17) rfl rfl rfl (fun h18 => ?_) (fun h18 => ?_)
        · have l19 : 3 ≤ ar2.toInt := t_ltl h18 (by decide : (2:Int) ≤ (2:Int32).toInt) rfl
          refine ev_loc f_X12_cart (nx := 38) rfl rfl rfl rfl ?_
          refine ev_ic f_X12_cart (nx := 39) (v := 1) rfl (by decide) rfl ?_
          refine ev_inV2 f_X12_cart (nx := 42) (lo2 := [(0, .ref 69), (1, .int 1)]) rfl rfl rfl rfl f_X12_refuse (hI.wf.s rfl) rfl rfl rfl rfl rfl ?_
          refine ev_loc f_X12_refuse (nx := 1) rfl rfl rfl rfl ?_
          refine ev_loc f_X12_refuse (nx := 2) rfl rfl rfl rfl ?_
          refine ev_putIT f_X12_refuse (nx := 5) rfl (hI.wf.s rfl) rfl rfl rfl (hI.put0 (hI.wf.s rfl) rfl rfl) (hX.upI rfl) (fun g20 e20 hI hX => ?_)
          refine ev_ic f_X12_refuse (nx := 6) (v := -1) rfl (by decide) rfl ?_
          refine ev_retK1 f_X12_refuse rfl rfl rfl ?_
          exact ev_ret f_X12_cart rfl rfl rfl ⟨_, _, _, rfl, hI, hX, ⟨_, rfl, (by decide : ((-1):Int) ≤ ((-1):Int32).toInt), (Int.le_trans (by decide : ((-1):Int32).toInt ≤ ((-1):Int)) (by decide : ((-1):Int) ≤ 120)), (show (¬ (0 ≤ ar1.toInt ∧ ar1.toInt < (gi 70 2).toInt ∧ 0 ≤ ar2.toInt ∧ ar2.toInt ≤ 2) → (g20 69 2).toInt = 1) ∧ ((0 ≤ ar1.toInt ∧ ar1.toInt < (gi 70 2).toInt ∧ 0 ≤ ar2.toInt ∧ ar2.toInt ≤ 2) → (g20 69 2).toInt = 0) from ⟨fun h => (by have ffs : (g20 69 2).toInt = 1 := (congrArg Int32.toInt (by rw [e20]; exact x_up2_at _ _ _ _ : g20 69 2 = 1)).trans (by decide); omega), fun h => (by have ffs : (g20 69 2).toInt = 1 := (congrArg Int32.toInt (by rw [e20]; exact x_up2_at _ _ _ _ : g20 69 2 = 1)).trans (by decide); omega)⟩)⟩⟩
        · have u21 : ar2.toInt ≤ 2 := t_leu (t_nlt h18) (by decide : (2:Int32).toInt ≤ (2:Int))
          refine ev_loc f_X12_cart (nx := 18) rfl rfl rfl rfl ?_
          refine ev_loc f_X12_cart (nx := 19) rfl rfl rfl rfl ?_
          refine ev_getR f_X12_cart (nx := 22) rfl (hI.wf.s rfl) rfl rfl (hI.wf.r rfl) rfl rfl ?_
          refine ev_bp f_X12_cart (nx := 24) (v := 82) rfl (by decide) rfl ?_
          refine ev_ic f_X12_cart (nx := 25) (v := 3) rfl (by decide) rfl ?_
          refine ev_loc f_X12_cart (nx := 26) rfl rfl rfl rfl ?_
          refine ev_mulL f_X12_cart (nx := 27) (c := 3) (l := 0) (u := 15) rfl (by decide) (by decide) l6 u12 rfl rfl (by decide) (by decide) rfl (fun z22 e22 l22 u22 => ?_)
          refine ev_addK f_X12_cart (nx := 28) (c := 82) (l := 82) (u := 97) rfl (by decide) l22 u22 rfl rfl (by decide) (by decide) rfl (fun z23 e23 l23 u23 => ?_)
          refine ev_loc f_X12_cart (nx := 29) rfl rfl rfl rfl ?_
          refine ev_addR f_X12_cart (nx := 30) (l := 82) (u := 99) rfl l23 u23 l17 u21 rfl rfl (by decide) (by decide) rfl (fun z24 e24 l24 u24 => ?_)
          refine ev_ialdT f_X12_cart (nx := 31) rfl (hI.wf.s rfl) l24 (by decide) u24 (by decide) rfl (fun w25 e25 => ?_)
          obtain ⟨l25, u25⟩ := hI.abi e25 (by decide +kernel : t_abr 70 82 99 0 120 = true) l24 (by decide) u24 (by decide)
          refine ev_inV2 f_X12_cart (nx := 34) (lo2 := [(0, .ref 69), (1, .int w25)]) rfl rfl rfl rfl f_X12_gives (hI.wf.s rfl) rfl rfl rfl rfl rfl ?_
          refine ev_loc f_X12_gives (nx := 1) rfl rfl rfl rfl ?_
          refine ev_ic f_X12_gives (nx := 2) (v := 0) rfl (by decide) rfl ?_
          refine ev_putIT f_X12_gives (nx := 5) rfl (hI.wf.s rfl) rfl rfl rfl (hI.put0 (hI.wf.s rfl) rfl rfl) (hX.upI rfl) (fun g26 e26 hI hX => ?_)
          refine ev_loc f_X12_gives (nx := 6) rfl rfl rfl rfl ?_
          refine ev_retK1 f_X12_gives rfl rfl rfl ?_
          refine ev_jmp f_X12_cart (nx := 42) rfl rfl rfl ?_
          exact ev_ret f_X12_cart rfl rfl rfl ⟨_, _, _, rfl, hI, hX, ⟨_, rfl, (Int.le_trans (by decide : ((-1):Int) ≤ 0) l25), u25, (show (¬ (0 ≤ ar1.toInt ∧ ar1.toInt < (gi 70 2).toInt ∧ 0 ≤ ar2.toInt ∧ ar2.toInt ≤ 2) → (g26 69 2).toInt = 1) ∧ ((0 ≤ ar1.toInt ∧ ar1.toInt < (gi 70 2).toInt ∧ 0 ≤ ar2.toInt ∧ ar2.toInt ≤ 2) → (g26 69 2).toInt = 0) from ⟨fun h => (by have ffs : (g26 69 2).toInt = 0 := (congrArg Int32.toInt (by rw [e26]; exact x_up2_at _ _ _ _ : g26 69 2 = 0)).trans (by decide); omega), fun h => (by have ffs : (g26 69 2).toInt = 0 := (congrArg Int32.toInt (by rw [e26]; exact x_up2_at _ _ _ _ : g26 69 2 = 0)).trans (by decide); omega)⟩)⟩⟩
noncomputable def wl_g_kept : List (Nat × Nat) := [(69, 2)]
noncomputable def Q_g_kept (gi : Nat → Nat → Int32) (gl : Nat → Nat → Int64) (gr : Nat → Nat → Value) (ar1 : Int32) : Int32 → (Nat → Nat → Int32) → (Nat → Nat → Int64) → (Nat → Nat → Value) → Prop := fun (v : Int32) (gi2 : Nat → Nat → Int32) (gl2 : Nat → Nat → Int64) (gr2 : Nat → Nat → Value) => (¬ (0 ≤ ar1.toInt ∧ ar1.toInt ≤ 4) → (gi2 69 2).toInt = 1) ∧ ((0 ≤ ar1.toInt ∧ ar1.toInt ≤ 4) → ((gi 69 74).toInt = 0 → (gi2 69 2).toInt = 6) ∧ ((gi 69 74).toInt ≠ 0 → (gi2 69 2).toInt = 0))
theorem c_g_kept {X : x_Ext} {d : Nat} {sh : List (Nat ⊕ (Nat × Nat))} {gi : Nat → Nat → Int32} {gl : Nat → Nat → Int64} {gr : Nat → Nat → Value} (hI : t_I sh gi gr) (ar1 : Int32) : x_Me X (d + 2) n_X12_kept [.ref 69, .int ar1] (sh, gi, gl, gr) (t_PI wl_g_kept sh gi gl gr (-2147483648) 2147483647 (Q_g_kept gi gl gr ar1)) := by
  have hX : t_X wl_g_kept sh gi gl gr gi gl gr := t_X.rf
  refine me_i f_X12_kept (hI.wf.s rfl) rfl rfl rfl ?_
  refine ev_loc f_X12_kept (nx := 1) rfl rfl rfl rfl ?_
  refine ev_if f_X12_kept (t1 := 9) (t2 := 4) rfl rfl rfl (fun h3 => ?_) (fun h3 => ?_)
  · have u4 : ar1.toInt ≤ (-1) := t_ltu h3 (by decide : (0:Int32).toInt ≤ (0:Int)) rfl
    refine ev_loc f_X12_kept (nx := 10) rfl rfl rfl rfl ?_
    refine ev_ic f_X12_kept (nx := 11) (v := 1) rfl (by decide) rfl ?_
    refine ev_inV2 f_X12_kept (nx := 14) (lo2 := [(0, .ref 69), (1, .int 1)]) rfl rfl rfl rfl f_X12_refuse (hI.wf.s rfl) rfl rfl rfl rfl rfl ?_
    refine ev_loc f_X12_refuse (nx := 1) rfl rfl rfl rfl ?_
    refine ev_loc f_X12_refuse (nx := 2) rfl rfl rfl rfl ?_
    refine ev_putIT f_X12_refuse (nx := 5) rfl (hI.wf.s rfl) rfl rfl rfl (hI.put0 (hI.wf.s rfl) rfl rfl) (hX.upI rfl) (fun g5 e5 hI hX => ?_)
    refine ev_ic f_X12_refuse (nx := 6) (v := -1) rfl (by decide) rfl ?_
    refine ev_retK1 f_X12_refuse rfl rfl rfl ?_
    refine ev_jmp f_X12_kept (nx := 43) rfl rfl rfl ?_
    exact ev_ret f_X12_kept rfl rfl rfl ⟨_, _, _, rfl, hI, hX, ⟨_, rfl, (Int.le_trans (by decide : ((-2147483648):Int) ≤ (-1)) (by decide : ((-1):Int) ≤ ((-1):Int32).toInt)), (Int.le_trans (by decide : ((-1):Int32).toInt ≤ ((-1):Int)) (by decide : ((-1):Int) ≤ 2147483647)), (show (¬ (0 ≤ ar1.toInt ∧ ar1.toInt ≤ 4) → (g5 69 2).toInt = 1) ∧ ((0 ≤ ar1.toInt ∧ ar1.toInt ≤ 4) → ((gi 69 74).toInt = 0 → (g5 69 2).toInt = 6) ∧ ((gi 69 74).toInt ≠ 0 → (g5 69 2).toInt = 0)) from ⟨fun h => (by have ffs : (g5 69 2).toInt = 1 := (congrArg Int32.toInt (by rw [e5]; exact x_up2_at _ _ _ _ : g5 69 2 = 1)).trans (by decide); omega), fun h => ⟨fun h2 => (by have ffs : (g5 69 2).toInt = 1 := (congrArg Int32.toInt (by rw [e5]; exact x_up2_at _ _ _ _ : g5 69 2 = 1)).trans (by decide); omega), fun h2 => (by have ffs : (g5 69 2).toInt = 1 := (congrArg Int32.toInt (by rw [e5]; exact x_up2_at _ _ _ _ : g5 69 2 = 1)).trans (by decide); omega)⟩⟩)⟩⟩
  · have l6 : 0 ≤ ar1.toInt := t_lel (t_nlt h3) (by decide : (0:Int) ≤ (0:Int32).toInt)
    refine ev_loc f_X12_kept (nx := 5) rfl rfl rfl rfl ?_
    refine ev_ic f_X12_kept (nx := 6) (v := 4) rfl (by decide) rfl ?_
    refine ev_if f_X12_kept (t1 := 17) (t2 := 9) rfl rfl rfl (fun h7 => ?_) (fun h7 => ?_)
    · have u8 : ar1.toInt ≤ 4 := t_leu h7 (by decide : (4:Int32).toInt ≤ (4:Int))
      refine ev_loc f_X12_kept (nx := 18) rfl rfl rfl rfl ?_
      refine ev_gvI f_X12_kept (nx := 21) (w := (gi 69 74)) rfl (hI.wf.s rfl) rfl rfl rfl rfl ?_
      refine ev_if f_X12_kept (t1 := 37) (t2 := 24) rfl rfl rfl (fun h9 => ?_) (fun h9 => ?_)
      · have u10 : (gi 69 74).toInt ≤ 0 := t_equ h9 (by decide : (0:Int32).toInt ≤ (0:Int))
        have l11 : 0 ≤ (gi 69 74).toInt := t_eql h9 (by decide : (0:Int) ≤ (0:Int32).toInt)
        refine ev_loc f_X12_kept (nx := 38) rfl rfl rfl rfl ?_
        refine ev_bp f_X12_kept (nx := 40) (v := 6) rfl (by decide) rfl ?_
        refine ev_inV2 f_X12_kept (nx := 43) (lo2 := [(0, .ref 69), (1, .int 6)]) rfl rfl rfl rfl f_X12_refuse (hI.wf.s rfl) rfl rfl rfl rfl rfl ?_
        refine ev_loc f_X12_refuse (nx := 1) rfl rfl rfl rfl ?_
        refine ev_loc f_X12_refuse (nx := 2) rfl rfl rfl rfl ?_
        refine ev_putIT f_X12_refuse (nx := 5) rfl (hI.wf.s rfl) rfl rfl rfl (hI.put0 (hI.wf.s rfl) rfl rfl) (hX.upI rfl) (fun g12 e12 hI hX => ?_)
        refine ev_ic f_X12_refuse (nx := 6) (v := -1) rfl (by decide) rfl ?_
        refine ev_retK1 f_X12_refuse rfl rfl rfl ?_
        exact ev_ret f_X12_kept rfl rfl rfl ⟨_, _, _, rfl, hI, hX, ⟨_, rfl, (Int.le_trans (by decide : ((-2147483648):Int) ≤ (-1)) (by decide : ((-1):Int) ≤ ((-1):Int32).toInt)), (Int.le_trans (by decide : ((-1):Int32).toInt ≤ ((-1):Int)) (by decide : ((-1):Int) ≤ 2147483647)), (show (¬ (0 ≤ ar1.toInt ∧ ar1.toInt ≤ 4) → (g12 69 2).toInt = 1) ∧ ((0 ≤ ar1.toInt ∧ ar1.toInt ≤ 4) → ((gi 69 74).toInt = 0 → (g12 69 2).toInt = 6) ∧ ((gi 69 74).toInt ≠ 0 → (g12 69 2).toInt = 0)) from ⟨fun h => (by have ffs : (g12 69 2).toInt = 6 := (congrArg Int32.toInt (by rw [e12]; exact x_up2_at _ _ _ _ : g12 69 2 = 6)).trans (by decide); omega), fun h => ⟨fun h2 => (by have ffs : (g12 69 2).toInt = 6 := (congrArg Int32.toInt (by rw [e12]; exact x_up2_at _ _ _ _ : g12 69 2 = 6)).trans (by decide); omega), fun h2 => (by have ffs : (g12 69 2).toInt = 6 := (congrArg Int32.toInt (by rw [e12]; exact x_up2_at _ _ _ _ : g12 69 2 = 6)).trans (by decide); omega)⟩⟩)⟩⟩
      · have r13 : (gi 69 74).toInt ≠ 0 := fun e => h9 (Int32.toInt_inj.mp (e.trans (by decide : (0:Int) = (0 : Int32).toInt)))
        refine ev_loc f_X12_kept (nx := 25) rfl rfl rfl rfl ?_
        refine ev_loc f_X12_kept (nx := 26) rfl rfl rfl rfl ?_
        refine ev_getR f_X12_kept (nx := 29) rfl (hI.wf.s rfl) rfl rfl (hI.wf.r rfl) rfl rfl ?_
        refine ev_loc f_X12_kept (nx := 30) rfl rfl rfl rfl ?_
        refine ev_ialdT f_X12_kept (nx := 31) rfl (hI.wf.s rfl) l6 (by decide) u8 (by decide) rfl (fun w14 e14 => ?_)
        refine ev_inV2 f_X12_kept (nx := 34) (lo2 := [(0, .ref 69), (1, .int w14)]) rfl rfl rfl rfl f_X12_gives (hI.wf.s rfl) rfl rfl rfl rfl rfl ?_
        refine ev_loc f_X12_gives (nx := 1) rfl rfl rfl rfl ?_
        refine ev_ic f_X12_gives (nx := 2) (v := 0) rfl (by decide) rfl ?_
        refine ev_putIT f_X12_gives (nx := 5) rfl (hI.wf.s rfl) rfl rfl rfl (hI.put0 (hI.wf.s rfl) rfl rfl) (hX.upI rfl) (fun g15 e15 hI hX => ?_)
        refine ev_loc f_X12_gives (nx := 6) rfl rfl rfl rfl ?_
        refine ev_retK1 f_X12_gives rfl rfl rfl ?_
        refine ev_jmp f_X12_kept (nx := 43) rfl rfl rfl ?_
        exact ev_ret f_X12_kept rfl rfl rfl ⟨_, _, _, rfl, hI, hX, ⟨_, rfl, (t_lo w14), (t_hi w14), (show (¬ (0 ≤ ar1.toInt ∧ ar1.toInt ≤ 4) → (g15 69 2).toInt = 1) ∧ ((0 ≤ ar1.toInt ∧ ar1.toInt ≤ 4) → ((gi 69 74).toInt = 0 → (g15 69 2).toInt = 6) ∧ ((gi 69 74).toInt ≠ 0 → (g15 69 2).toInt = 0)) from ⟨fun h => (by have ffs : (g15 69 2).toInt = 0 := (congrArg Int32.toInt (by rw [e15]; exact x_up2_at _ _ _ _ : g15 69 2 = 0)).trans (by decide); omega), fun h => ⟨fun h2 => (by have ffs : (g15 69 2).toInt = 0 := (congrArg Int32.toInt (by rw [e15]; exact x_up2_at _ _ _ _ : g15 69 2 = 0)).trans (by decide); omega), fun h2 => (by have ffs : (g15 69 2).toInt = 0 := (congrArg Int32.toInt (by rw [e15]; exact x_up2_at _ _ _ _ : g15 69 2 = 0)).trans (by decide); omega)⟩⟩)⟩⟩
    · have l16 : 5 ≤ ar1.toInt := t_ltl (t_nle h7) (by decide : (4:Int) ≤ (4:Int32).toInt) rfl
      refine ev_loc f_X12_kept (nx := 10) rfl rfl rfl rfl ?_
      refine ev_ic f_X12_kept (nx := 11) (v := 1) rfl (by decide) rfl ?_
      refine ev_inV2 f_X12_kept (nx := 14) (lo2 := [(0, .ref 69), (1, .int 1)]) rfl rfl rfl rfl f_X12_refuse (hI.wf.s rfl) rfl rfl rfl rfl rfl ?_
      refine ev_loc f_X12_refuse (nx := 1) rfl rfl rfl rfl ?_
      refine ev_loc f_X12_refuse (nx := 2) rfl rfl rfl rfl ?_
      refine ev_putIT f_X12_refuse (nx := 5) rfl (hI.wf.s rfl) rfl rfl rfl (hI.put0 (hI.wf.s rfl) rfl rfl) (hX.upI rfl) (fun g17 e17 hI hX => ?_)
      refine ev_ic f_X12_refuse (nx := 6) (v := -1) rfl (by decide) rfl ?_
      refine ev_retK1 f_X12_refuse rfl rfl rfl ?_
      refine ev_jmp f_X12_kept (nx := 43) rfl rfl rfl ?_
      exact ev_ret f_X12_kept rfl rfl rfl ⟨_, _, _, rfl, hI, hX, ⟨_, rfl, (Int.le_trans (by decide : ((-2147483648):Int) ≤ (-1)) (by decide : ((-1):Int) ≤ ((-1):Int32).toInt)), (Int.le_trans (by decide : ((-1):Int32).toInt ≤ ((-1):Int)) (by decide : ((-1):Int) ≤ 2147483647)), (show (¬ (0 ≤ ar1.toInt ∧ ar1.toInt ≤ 4) → (g17 69 2).toInt = 1) ∧ ((0 ≤ ar1.toInt ∧ ar1.toInt ≤ 4) → ((gi 69 74).toInt = 0 → (g17 69 2).toInt = 6) ∧ ((gi 69 74).toInt ≠ 0 → (g17 69 2).toInt = 0)) from ⟨fun h => (by have ffs : (g17 69 2).toInt = 1 := (congrArg Int32.toInt (by rw [e17]; exact x_up2_at _ _ _ _ : g17 69 2 = 1)).trans (by decide); omega), fun h => ⟨fun h2 => (by have ffs : (g17 69 2).toInt = 1 := (congrArg Int32.toInt (by rw [e17]; exact x_up2_at _ _ _ _ : g17 69 2 = 1)).trans (by decide); omega), fun h2 => (by have ffs : (g17 69 2).toInt = 1 := (congrArg Int32.toInt (by rw [e17]; exact x_up2_at _ _ _ _ : g17 69 2 = 1)).trans (by decide); omega)⟩⟩)⟩⟩
noncomputable def wl_g_keep : List (Nat × Nat) := [(69, 2), (69, 44), (69, 45), (69, 58), (69, 59), (69, 60), (69, 61), (69, 62), (69, 63), (69, 64), (69, 65), (69, 66), (69, 67), (69, 68), (69, 69), (69, 70), (69, 74), (89, 10005), (89, 610011), (90, 9999), (91, 9999), (99, 9999), (100, 9999), (101, 9999)]
noncomputable def Q_g_keep (gi : Nat → Nat → Int32) (gl : Nat → Nat → Int64) (gr : Nat → Nat → Value) (ar1 : Int32) : Int32 → (Nat → Nat → Int32) → (Nat → Nat → Int64) → (Nat → Nat → Value) → Prop := fun (v : Int32) (gi2 : Nat → Nat → Int32) (gl2 : Nat → Nat → Int64) (gr2 : Nat → Nat → Value) => (¬ (-1 ≤ ar1.toInt ∧ ar1.toInt ≤ 9999) → (gi2 69 2).toInt = 1 ∧ (gi2 69 74).toInt = (gi 69 74).toInt) ∧ ((-1 ≤ ar1.toInt ∧ ar1.toInt ≤ 9999) → (¬ (gi 70 8).toInt ≠ 0 → (gi2 69 2).toInt = 6 ∧ (gi2 69 74).toInt = (gi 69 74).toInt) ∧ ((gi 70 8).toInt ≠ 0 → (gi2 69 2).toInt = 0 ∧ (gi2 69 74).toInt = 1))
theorem c_g_keep {X : x_Ext} {d : Nat} {sh : List (Nat ⊕ (Nat × Nat))} {gi : Nat → Nat → Int32} {gl : Nat → Nat → Int64} {gr : Nat → Nat → Value} (hI : t_I sh gi gr) (ar1 : Int32) (e_p0 : t_rpn (gi 70) 0) : x_Me X (d + 7) n_X12_keep [.ref 69, .int ar1] (sh, gi, gl, gr) (t_PI wl_g_keep sh gi gl gr (-2147483648) 2147483647 (Q_g_keep gi gl gr ar1)) := by
  have hX : t_X wl_g_keep sh gi gl gr gi gl gr := t_X.rf
  refine me_i f_X12_keep (hI.wf.s rfl) rfl rfl rfl ?_
  obtain ⟨l3, u3⟩ := hI.ab (by decide +kernel : t_abr 70 8 8 0 1 = true) (Nat.le_refl _) (Nat.le_refl _)
  refine ev_loc f_X12_keep (nx := 1) rfl rfl rfl rfl ?_
  refine ev_ic f_X12_keep (nx := 2) (v := -1) rfl (by decide) rfl ?_
  refine ev_if f_X12_keep (t1 := 23) (t2 := 5) rfl rfl rfl (fun h4 => ?_) (fun h4 => ?_)
  · have u5 : ar1.toInt ≤ (-1) := t_equ h4 (by decide : ((-1):Int32).toInt ≤ ((-1):Int))
    have l6 : (-1) ≤ ar1.toInt := t_eql h4 (by decide : ((-1):Int) ≤ ((-1):Int32).toInt)
    refine ev_loc f_X12_keep (nx := 24) rfl rfl rfl rfl ?_
    refine ev_getR f_X12_keep (nx := 27) rfl (hI.wf.s rfl) rfl rfl (hI.wf.r rfl) rfl rfl ?_
    refine ev_bp f_X12_keep (nx := 29) (v := 8) rfl (by decide) rfl ?_
    refine ev_ialdv f_X12_keep (nx := 30) (w := (gi 70 8)) rfl (hI.wf.s rfl) (by decide) (rfl : (8 : Int32).toNatClampNeg = 8) (by decide) rfl rfl ?_
    refine ev_if f_X12_keep (t1 := 33) (t2 := 40) rfl rfl rfl (fun h8 => ?_) (fun h8 => ?_)
    · have u9 : (gi 70 8).toInt ≤ 0 := t_equ h8 (by decide : (0:Int32).toInt ≤ (0:Int))
      refine ev_loc f_X12_keep (nx := 34) rfl rfl rfl rfl ?_
      refine ev_bp f_X12_keep (nx := 36) (v := 6) rfl (by decide) rfl ?_
      refine ev_inV2 f_X12_keep (nx := 39) (lo2 := [(0, .ref 69), (1, .int 6)]) rfl rfl rfl rfl f_X12_refuse (hI.wf.s rfl) rfl rfl rfl rfl rfl ?_
      refine ev_loc f_X12_refuse (nx := 1) rfl rfl rfl rfl ?_
      refine ev_loc f_X12_refuse (nx := 2) rfl rfl rfl rfl ?_
      refine ev_putIT f_X12_refuse (nx := 5) rfl (hI.wf.s rfl) rfl rfl rfl (hI.put0 (hI.wf.s rfl) rfl rfl) (hX.upI rfl) (fun g10 e10 hI hX => ?_)
      refine ev_ic f_X12_refuse (nx := 6) (v := -1) rfl (by decide) rfl ?_
      refine ev_retK1 f_X12_refuse rfl rfl rfl ?_
      exact ev_ret f_X12_keep rfl rfl rfl ⟨_, _, _, rfl, hI, hX, ⟨_, rfl, (Int.le_trans (by decide : ((-2147483648):Int) ≤ (-1)) (by decide : ((-1):Int) ≤ ((-1):Int32).toInt)), (Int.le_trans (by decide : ((-1):Int32).toInt ≤ ((-1):Int)) (by decide : ((-1):Int) ≤ 2147483647)), (show (¬ (-1 ≤ ar1.toInt ∧ ar1.toInt ≤ 9999) → (g10 69 2).toInt = 1 ∧ (g10 69 74).toInt = (gi 69 74).toInt) ∧ ((-1 ≤ ar1.toInt ∧ ar1.toInt ≤ 9999) → (¬ (gi 70 8).toInt ≠ 0 → (g10 69 2).toInt = 6 ∧ (g10 69 74).toInt = (gi 69 74).toInt) ∧ ((gi 70 8).toInt ≠ 0 → (g10 69 2).toInt = 0 ∧ (g10 69 74).toInt = 1)) from ⟨fun h => (by have ffs : (g10 69 2).toInt = 6 := (congrArg Int32.toInt (by rw [e10]; exact x_up2_at _ _ _ _ : g10 69 2 = 6)).trans (by decide); have ff7 : (g10 69 74).toInt = (gi 69 74).toInt := congrArg Int32.toInt ((by rw [e10]; exact x_up2_off (Or.inr (by decide)) : g10 69 74 = gi 69 74).trans rfl); omega), fun h => ⟨fun h2 => (by have ffs : (g10 69 2).toInt = 6 := (congrArg Int32.toInt (by rw [e10]; exact x_up2_at _ _ _ _ : g10 69 2 = 6)).trans (by decide); have ff7 : (g10 69 74).toInt = (gi 69 74).toInt := congrArg Int32.toInt ((by rw [e10]; exact x_up2_off (Or.inr (by decide)) : g10 69 74 = gi 69 74).trans rfl); omega), fun h2 => (by have ffs : (g10 69 2).toInt = 6 := (congrArg Int32.toInt (by rw [e10]; exact x_up2_at _ _ _ _ : g10 69 2 = 6)).trans (by decide); have ff7 : (g10 69 74).toInt = (gi 69 74).toInt := congrArg Int32.toInt ((by rw [e10]; exact x_up2_off (Or.inr (by decide)) : g10 69 74 = gi 69 74).trans rfl); omega)⟩⟩)⟩⟩
    · have r11 : (gi 70 8).toInt ≠ 0 := fun e => h8 (Int32.toInt_inj.mp (e.trans (by decide : (0:Int) = (0 : Int32).toInt)))
      have l12 : 1 ≤ (gi 70 8).toInt := t_nel h8 l3 rfl rfl
      refine ev_loc f_X12_keep (nx := 41) rfl rfl rfl rfl ?_
      refine ev_loc f_X12_keep (nx := 42) rfl rfl rfl rfl ?_
      refine ev_c0 f_X12_keep (nx := 45) (r := []) rfl rfl rfl rfl rfl rfl rfl (c_m_keeps hI (ar1) e_p0) rfl hX rfl (fun gi13 gl13 gr13 hI hX hC13 => ?_)
      refine ev_loc f_X12_keep (nx := 46) rfl rfl rfl rfl ?_
      refine ev_getR f_X12_keep (nx := 49) rfl (hI.wf.s rfl) rfl rfl (hI.wf.r rfl) rfl rfl ?_
      refine ev_ic f_X12_keep (nx := 50) (v := 0) rfl (by decide) rfl ?_
      refine ev_loc f_X12_keep (nx := 51) rfl rfl rfl rfl ?_
      refine ev_getI f_X12_keep (nx := 54) rfl (hI.wf.s rfl) rfl rfl rfl ?_
      refine ev_iastT f_X12_keep (nx := 55) rfl (hI.wf.s rfl) (by decide : (0:Int) ≤ (0:Int32).toInt) (by decide) (by decide : (0:Int32).toInt ≤ (0:Int)) (by decide) rfl (hI.astG (hI.wf.s rfl) (fun lo hi e => absurd e (t_nob (by decide +kernel) _)) (fun k hk e => by have := hk.2.1; omega)) (hX.upI (t_inA_ok rfl)) (fun g14 e14 hI hX => ?_)
      refine ev_loc f_X12_keep (nx := 56) rfl rfl rfl rfl ?_
      refine ev_getR f_X12_keep (nx := 59) rfl (hI.wf.s rfl) rfl rfl (hI.wf.r rfl) rfl rfl ?_
      refine ev_ic f_X12_keep (nx := 60) (v := 1) rfl (by decide) rfl ?_
      refine ev_loc f_X12_keep (nx := 61) rfl rfl rfl rfl ?_
      refine ev_getI f_X12_keep (nx := 64) rfl (hI.wf.s rfl) rfl rfl rfl ?_
      refine ev_iastT f_X12_keep (nx := 65) rfl (hI.wf.s rfl) (by decide : (1:Int) ≤ (1:Int32).toInt) (by decide) (by decide : (1:Int32).toInt ≤ (1:Int)) (by decide) rfl (hI.astG (hI.wf.s rfl) (fun lo hi e => absurd e (t_nob (by decide +kernel) _)) (fun k hk e => by have := hk.2.1; omega)) (hX.upI (t_inA_ok rfl)) (fun g15 e15 hI hX => ?_)
      refine ev_loc f_X12_keep (nx := 66) rfl rfl rfl rfl ?_
      refine ev_getR f_X12_keep (nx := 69) rfl (hI.wf.s rfl) rfl rfl (hI.wf.r rfl) rfl rfl ?_
      refine ev_ic f_X12_keep (nx := 70) (v := 2) rfl (by decide) rfl ?_
      refine ev_loc f_X12_keep (nx := 71) rfl rfl rfl rfl ?_
      refine ev_getI f_X12_keep (nx := 74) rfl (hI.wf.s rfl) rfl rfl rfl ?_
      refine ev_iastT f_X12_keep (nx := 75) rfl (hI.wf.s rfl) (by decide : (2:Int) ≤ (2:Int32).toInt) (by decide) (by decide : (2:Int32).toInt ≤ (2:Int)) (by decide) rfl (hI.astG (hI.wf.s rfl) (fun lo hi e => absurd e (t_nob (by decide +kernel) _)) (fun k hk e => by have := hk.2.1; omega)) (hX.upI (t_inA_ok rfl)) (fun g16 e16 hI hX => ?_)
      refine ev_loc f_X12_keep (nx := 76) rfl rfl rfl rfl ?_
      refine ev_getR f_X12_keep (nx := 79) rfl (hI.wf.s rfl) rfl rfl (hI.wf.r rfl) rfl rfl ?_
      refine ev_ic f_X12_keep (nx := 80) (v := 3) rfl (by decide) rfl ?_
      refine ev_loc f_X12_keep (nx := 81) rfl rfl rfl rfl ?_
      refine ev_cI f_X12_keep (nx := 84) (r := [.int 3, .ref 101]) rfl rfl rfl rfl rfl rfl rfl (c_m_leftOver hI ) rfl hX rfl (fun w17 gi17 gl17 gr17 l17 u17 hI hX hC17 => ?_)
      refine ev_iastT f_X12_keep (nx := 85) rfl (hI.wf.s rfl) (by decide : (3:Int) ≤ (3:Int32).toInt) (by decide) (by decide : (3:Int32).toInt ≤ (3:Int)) (by decide) rfl (hI.astG (hI.wf.s rfl) (fun lo hi e => absurd e (t_nob (by decide +kernel) _)) (fun k hk e => by have := hk.2.1; omega)) (hX.upI (t_inA_ok rfl)) (fun g18 e18 hI hX => ?_)
      refine ev_loc f_X12_keep (nx := 86) rfl rfl rfl rfl ?_
      refine ev_getR f_X12_keep (nx := 89) rfl (hI.wf.s rfl) rfl rfl (hI.wf.r rfl) rfl rfl ?_
      refine ev_ic f_X12_keep (nx := 90) (v := 4) rfl (by decide) rfl ?_
      refine ev_loc f_X12_keep (nx := 91) rfl rfl rfl rfl ?_
      refine ev_getI f_X12_keep (nx := 94) rfl (hI.wf.s rfl) rfl rfl rfl ?_
      refine ev_iastT f_X12_keep (nx := 95) rfl (hI.wf.s rfl) (by decide : (4:Int) ≤ (4:Int32).toInt) (by decide) (by decide : (4:Int32).toInt ≤ (4:Int)) (by decide) rfl (hI.astG (hI.wf.s rfl) (fun lo hi e => absurd e (t_nob (by decide +kernel) _)) (fun k hk e => by have := hk.2.1; omega)) (hX.upI (t_inA_ok rfl)) (fun g19 e19 hI hX => ?_)
      refine ev_loc f_X12_keep (nx := 96) rfl rfl rfl rfl ?_
      refine ev_ic f_X12_keep (nx := 97) (v := 1) rfl (by decide) rfl ?_
      refine ev_putZT f_X12_keep (nx := 100) rfl (hI.wf.s rfl) rfl rfl (Int.le_trans (by decide : (0:Int) ≤ 1) (by decide : (1:Int) ≤ (1:Int32).toInt)) (by decide : (1:Int32).toInt ≤ (1:Int)) rfl (hI.put0 (hI.wf.s rfl) rfl rfl) (hX.upI rfl) (fun g20 e20 hI hX => ?_)
      refine ev_loc f_X12_keep (nx := 101) rfl rfl rfl rfl ?_
      refine ev_loc f_X12_keep (nx := 102) rfl rfl rfl rfl ?_
      refine ev_getI f_X12_keep (nx := 105) rfl (hI.wf.s rfl) rfl rfl rfl ?_
      refine ev_inV2 f_X12_keep (nx := 108) (lo2 := [(0, .ref 69), (1, .int (g20 69 66))]) rfl rfl rfl rfl f_X12_gives (hI.wf.s rfl) rfl rfl rfl rfl rfl ?_
      refine ev_loc f_X12_gives (nx := 1) rfl rfl rfl rfl ?_
      refine ev_ic f_X12_gives (nx := 2) (v := 0) rfl (by decide) rfl ?_
      refine ev_putIT f_X12_gives (nx := 5) rfl (hI.wf.s rfl) rfl rfl rfl (hI.put0 (hI.wf.s rfl) rfl rfl) (hX.upI rfl) (fun g21 e21 hI hX => ?_)
      refine ev_loc f_X12_gives (nx := 6) rfl rfl rfl rfl ?_
      refine ev_retK1 f_X12_gives rfl rfl rfl ?_
      exact ev_ret f_X12_keep rfl rfl rfl ⟨_, _, _, rfl, hI, hX, ⟨_, rfl, (t_lo (g20 69 66)), (t_hi (g20 69 66)), (show (¬ (-1 ≤ ar1.toInt ∧ ar1.toInt ≤ 9999) → (g21 69 2).toInt = 1 ∧ (g21 69 74).toInt = (gi 69 74).toInt) ∧ ((-1 ≤ ar1.toInt ∧ ar1.toInt ≤ 9999) → (¬ (gi 70 8).toInt ≠ 0 → (g21 69 2).toInt = 6 ∧ (g21 69 74).toInt = (gi 69 74).toInt) ∧ ((gi 70 8).toInt ≠ 0 → (g21 69 2).toInt = 0 ∧ (g21 69 74).toInt = 1)) from ⟨fun h => (by have ffs : (g21 69 2).toInt = 0 := (congrArg Int32.toInt (by rw [e21]; exact x_up2_at _ _ _ _ : g21 69 2 = 0)).trans (by decide); have ff7 : (g21 69 74).toInt = 1 := (congrArg Int32.toInt ((by rw [e21]; exact x_up2_off (Or.inr (by decide)) : g21 69 74 = g20 69 74).trans (by rw [e20]; exact x_up2_at _ _ _ _ : g20 69 74 = 1))).trans (by decide); omega), fun h => ⟨fun h2 => (by have ffs : (g21 69 2).toInt = 0 := (congrArg Int32.toInt (by rw [e21]; exact x_up2_at _ _ _ _ : g21 69 2 = 0)).trans (by decide); have ff7 : (g21 69 74).toInt = 1 := (congrArg Int32.toInt ((by rw [e21]; exact x_up2_off (Or.inr (by decide)) : g21 69 74 = g20 69 74).trans (by rw [e20]; exact x_up2_at _ _ _ _ : g20 69 74 = 1))).trans (by decide); omega), fun h2 => (by have ffs : (g21 69 2).toInt = 0 := (congrArg Int32.toInt (by rw [e21]; exact x_up2_at _ _ _ _ : g21 69 2 = 0)).trans (by decide); have ff7 : (g21 69 74).toInt = 1 := (congrArg Int32.toInt ((by rw [e21]; exact x_up2_off (Or.inr (by decide)) : g21 69 74 = g20 69 74).trans (by rw [e20]; exact x_up2_at _ _ _ _ : g20 69 74 = 1))).trans (by decide); omega)⟩⟩)⟩⟩
  · have r22 : ar1.toInt ≠ (-1) := fun e => h4 (Int32.toInt_inj.mp (e.trans (by decide : ((-1):Int) = ((-1) : Int32).toInt)))
    refine ev_loc f_X12_keep (nx := 6) rfl rfl rfl rfl ?_
    refine ev_anyLE f_X12_keep (nx := 7) rfl rfl rfl rfl (fun z23 e23 => ?_)
    have i23 : z23.toInt = ar1.toInt := by rw [e23]; exact Int32.toInt_toInt64 _
    refine ev_lc f_X12_keep (nx := 8) (v := 0) rfl (by decide) rfl ?_
    refine ev_ldL f_X12_keep (nx := 11) (v := 9999) rfl (by decide) rfl ?_
    refine ev_inS3 f_X12_keep (nx := 14) (lo2 := [(0, .long z23), (2, .long 0), (4, .long 9999)]) rfl rfl rfl rfl f_X12_isFrom rfl rfl rfl rfl ?_
    refine ev_loc f_X12_isFrom (nx := 1) rfl rfl rfl rfl ?_
    refine ev_loc f_X12_isFrom (nx := 2) rfl rfl rfl rfl ?_
    refine ev_anyIE f_X12_isFrom (nx := 3) rfl rfl rfl rfl (fun z24 e24 => ?_)
    refine ev_if f_X12_isFrom (t1 := 17) (t2 := 6) rfl rfl rfl (fun h25 => ?_) (fun h25 => ?_)
    · have u26 : ar1.toInt ≤ ((-1):Int) := Int.le_sub_one_of_lt ((lgc_lt (by decide : (0 : Int64).toInt = 0)).mp (by have hh := h25; rw [e24, e23] at hh; exact hh))
      have u27 : z24.toInt ≤ (-1) := t_ltu h25 (by decide : (0:Int32).toInt ≤ (0:Int)) rfl
      refine ev_ic f_X12_isFrom (nx := 18) (v := 0) rfl (by decide) rfl ?_
      refine ev_retK1 f_X12_isFrom rfl rfl rfl ?_
      refine ev_t f_X12_keep (t1 := 17) (t2 := 23) rfl rfl rfl (by decide) ?_
      refine ev_loc f_X12_keep (nx := 18) rfl rfl rfl rfl ?_
      refine ev_ic f_X12_keep (nx := 19) (v := 1) rfl (by decide) rfl ?_
      refine ev_inV2 f_X12_keep (nx := 22) (lo2 := [(0, .ref 69), (1, .int 1)]) rfl rfl rfl rfl f_X12_refuse (hI.wf.s rfl) rfl rfl rfl rfl rfl ?_
      refine ev_loc f_X12_refuse (nx := 1) rfl rfl rfl rfl ?_
      refine ev_loc f_X12_refuse (nx := 2) rfl rfl rfl rfl ?_
      refine ev_putIT f_X12_refuse (nx := 5) rfl (hI.wf.s rfl) rfl rfl rfl (hI.put0 (hI.wf.s rfl) rfl rfl) (hX.upI rfl) (fun g28 e28 hI hX => ?_)
      refine ev_ic f_X12_refuse (nx := 6) (v := -1) rfl (by decide) rfl ?_
      refine ev_retK1 f_X12_refuse rfl rfl rfl ?_
      exact ev_ret f_X12_keep rfl rfl rfl ⟨_, _, _, rfl, hI, hX, ⟨_, rfl, (Int.le_trans (by decide : ((-2147483648):Int) ≤ (-1)) (by decide : ((-1):Int) ≤ ((-1):Int32).toInt)), (Int.le_trans (by decide : ((-1):Int32).toInt ≤ ((-1):Int)) (by decide : ((-1):Int) ≤ 2147483647)), (show (¬ (-1 ≤ ar1.toInt ∧ ar1.toInt ≤ 9999) → (g28 69 2).toInt = 1 ∧ (g28 69 74).toInt = (gi 69 74).toInt) ∧ ((-1 ≤ ar1.toInt ∧ ar1.toInt ≤ 9999) → (¬ (gi 70 8).toInt ≠ 0 → (g28 69 2).toInt = 6 ∧ (g28 69 74).toInt = (gi 69 74).toInt) ∧ ((gi 70 8).toInt ≠ 0 → (g28 69 2).toInt = 0 ∧ (g28 69 74).toInt = 1)) from ⟨fun h => (by have ffs : (g28 69 2).toInt = 1 := (congrArg Int32.toInt (by rw [e28]; exact x_up2_at _ _ _ _ : g28 69 2 = 1)).trans (by decide); have ff7 : (g28 69 74).toInt = (gi 69 74).toInt := congrArg Int32.toInt ((by rw [e28]; exact x_up2_off (Or.inr (by decide)) : g28 69 74 = gi 69 74).trans rfl); omega), fun h => ⟨fun h2 => (by have ffs : (g28 69 2).toInt = 1 := (congrArg Int32.toInt (by rw [e28]; exact x_up2_at _ _ _ _ : g28 69 2 = 1)).trans (by decide); have ff7 : (g28 69 74).toInt = (gi 69 74).toInt := congrArg Int32.toInt ((by rw [e28]; exact x_up2_off (Or.inr (by decide)) : g28 69 74 = gi 69 74).trans rfl); omega), fun h2 => (by have ffs : (g28 69 2).toInt = 1 := (congrArg Int32.toInt (by rw [e28]; exact x_up2_at _ _ _ _ : g28 69 2 = 1)).trans (by decide); have ff7 : (g28 69 74).toInt = (gi 69 74).toInt := congrArg Int32.toInt ((by rw [e28]; exact x_up2_off (Or.inr (by decide)) : g28 69 74 = gi 69 74).trans rfl); omega)⟩⟩)⟩⟩
    · have l29 : (0:Int) ≤ ar1.toInt := (lgc_ge (by decide : (0 : Int64).toInt = 0)).mp (by have hh := (t_nlt h25); rw [e24, e23] at hh; exact hh)
      have l30 : 0 ≤ z24.toInt := t_lel (t_nlt h25) (by decide : (0:Int) ≤ (0:Int32).toInt)
      refine ev_loc f_X12_isFrom (nx := 7) rfl rfl rfl rfl ?_
      refine ev_loc f_X12_isFrom (nx := 9) rfl rfl rfl rfl ?_
      refine ev_anyIE f_X12_isFrom (nx := 10) rfl rfl rfl rfl (fun z31 e31 => ?_)
      refine ev_if f_X12_isFrom (t1 := 17) (t2 := 13) rfl rfl rfl (fun h32 => ?_) (fun h32 => ?_)
      · have l33 : (10000:Int) ≤ ar1.toInt := Int.add_one_le_of_lt ((lgc_gt (by decide : (9999 : Int64).toInt = 9999)).mp (by have hh := h32; rw [e31, e23] at hh; exact hh))
        have l34 : 1 ≤ z31.toInt := t_ltl h32 (by decide : (0:Int) ≤ (0:Int32).toInt) rfl
        refine ev_ic f_X12_isFrom (nx := 18) (v := 0) rfl (by decide) rfl ?_
        refine ev_retK1 f_X12_isFrom rfl rfl rfl ?_
        refine ev_t f_X12_keep (t1 := 17) (t2 := 23) rfl rfl rfl (by decide) ?_
        refine ev_loc f_X12_keep (nx := 18) rfl rfl rfl rfl ?_
        refine ev_ic f_X12_keep (nx := 19) (v := 1) rfl (by decide) rfl ?_
        refine ev_inV2 f_X12_keep (nx := 22) (lo2 := [(0, .ref 69), (1, .int 1)]) rfl rfl rfl rfl f_X12_refuse (hI.wf.s rfl) rfl rfl rfl rfl rfl ?_
        refine ev_loc f_X12_refuse (nx := 1) rfl rfl rfl rfl ?_
        refine ev_loc f_X12_refuse (nx := 2) rfl rfl rfl rfl ?_
        refine ev_putIT f_X12_refuse (nx := 5) rfl (hI.wf.s rfl) rfl rfl rfl (hI.put0 (hI.wf.s rfl) rfl rfl) (hX.upI rfl) (fun g35 e35 hI hX => ?_)
        refine ev_ic f_X12_refuse (nx := 6) (v := -1) rfl (by decide) rfl ?_
        refine ev_retK1 f_X12_refuse rfl rfl rfl ?_
        exact ev_ret f_X12_keep rfl rfl rfl ⟨_, _, _, rfl, hI, hX, ⟨_, rfl, (Int.le_trans (by decide : ((-2147483648):Int) ≤ (-1)) (by decide : ((-1):Int) ≤ ((-1):Int32).toInt)), (Int.le_trans (by decide : ((-1):Int32).toInt ≤ ((-1):Int)) (by decide : ((-1):Int) ≤ 2147483647)), (show (¬ (-1 ≤ ar1.toInt ∧ ar1.toInt ≤ 9999) → (g35 69 2).toInt = 1 ∧ (g35 69 74).toInt = (gi 69 74).toInt) ∧ ((-1 ≤ ar1.toInt ∧ ar1.toInt ≤ 9999) → (¬ (gi 70 8).toInt ≠ 0 → (g35 69 2).toInt = 6 ∧ (g35 69 74).toInt = (gi 69 74).toInt) ∧ ((gi 70 8).toInt ≠ 0 → (g35 69 2).toInt = 0 ∧ (g35 69 74).toInt = 1)) from ⟨fun h => (by have ffs : (g35 69 2).toInt = 1 := (congrArg Int32.toInt (by rw [e35]; exact x_up2_at _ _ _ _ : g35 69 2 = 1)).trans (by decide); have ff7 : (g35 69 74).toInt = (gi 69 74).toInt := congrArg Int32.toInt ((by rw [e35]; exact x_up2_off (Or.inr (by decide)) : g35 69 74 = gi 69 74).trans rfl); omega), fun h => ⟨fun h2 => (by have ffs : (g35 69 2).toInt = 1 := (congrArg Int32.toInt (by rw [e35]; exact x_up2_at _ _ _ _ : g35 69 2 = 1)).trans (by decide); have ff7 : (g35 69 74).toInt = (gi 69 74).toInt := congrArg Int32.toInt ((by rw [e35]; exact x_up2_off (Or.inr (by decide)) : g35 69 74 = gi 69 74).trans rfl); omega), fun h2 => (by have ffs : (g35 69 2).toInt = 1 := (congrArg Int32.toInt (by rw [e35]; exact x_up2_at _ _ _ _ : g35 69 2 = 1)).trans (by decide); have ff7 : (g35 69 74).toInt = (gi 69 74).toInt := congrArg Int32.toInt ((by rw [e35]; exact x_up2_off (Or.inr (by decide)) : g35 69 74 = gi 69 74).trans rfl); omega)⟩⟩)⟩⟩
      · have u36 : ar1.toInt ≤ (9999:Int) := (lgc_le (by decide : (9999 : Int64).toInt = 9999)).mp (by have hh := (t_nlt h32); rw [e31, e23] at hh; exact hh)
        have u37 : z31.toInt ≤ 0 := t_leu (t_nlt h32) (by decide : (0:Int32).toInt ≤ (0:Int))
        refine ev_ic f_X12_isFrom (nx := 14) (v := 1) rfl (by decide) rfl ?_
        refine ev_jmp f_X12_isFrom (nx := 18) rfl rfl rfl ?_
        refine ev_retK1 f_X12_isFrom rfl rfl rfl ?_
        refine ev_f f_X12_keep (t1 := 17) (t2 := 23) rfl rfl rfl (by decide) ?_
        refine ev_loc f_X12_keep (nx := 24) rfl rfl rfl rfl ?_
        refine ev_getR f_X12_keep (nx := 27) rfl (hI.wf.s rfl) rfl rfl (hI.wf.r rfl) rfl rfl ?_
        refine ev_bp f_X12_keep (nx := 29) (v := 8) rfl (by decide) rfl ?_
        refine ev_ialdv f_X12_keep (nx := 30) (w := (gi 70 8)) rfl (hI.wf.s rfl) (by decide) (rfl : (8 : Int32).toNatClampNeg = 8) (by decide) rfl rfl ?_
        refine ev_if f_X12_keep (t1 := 33) (t2 := 40) rfl rfl rfl (fun h39 => ?_) (fun h39 => ?_)
        · have u40 : (gi 70 8).toInt ≤ 0 := t_equ h39 (by decide : (0:Int32).toInt ≤ (0:Int))
          refine ev_loc f_X12_keep (nx := 34) rfl rfl rfl rfl ?_
          refine ev_bp f_X12_keep (nx := 36) (v := 6) rfl (by decide) rfl ?_
          refine ev_inV2 f_X12_keep (nx := 39) (lo2 := [(0, .ref 69), (1, .int 6)]) rfl rfl rfl rfl f_X12_refuse (hI.wf.s rfl) rfl rfl rfl rfl rfl ?_
          refine ev_loc f_X12_refuse (nx := 1) rfl rfl rfl rfl ?_
          refine ev_loc f_X12_refuse (nx := 2) rfl rfl rfl rfl ?_
          refine ev_putIT f_X12_refuse (nx := 5) rfl (hI.wf.s rfl) rfl rfl rfl (hI.put0 (hI.wf.s rfl) rfl rfl) (hX.upI rfl) (fun g41 e41 hI hX => ?_)
          refine ev_ic f_X12_refuse (nx := 6) (v := -1) rfl (by decide) rfl ?_
          refine ev_retK1 f_X12_refuse rfl rfl rfl ?_
          exact ev_ret f_X12_keep rfl rfl rfl ⟨_, _, _, rfl, hI, hX, ⟨_, rfl, (Int.le_trans (by decide : ((-2147483648):Int) ≤ (-1)) (by decide : ((-1):Int) ≤ ((-1):Int32).toInt)), (Int.le_trans (by decide : ((-1):Int32).toInt ≤ ((-1):Int)) (by decide : ((-1):Int) ≤ 2147483647)), (show (¬ (-1 ≤ ar1.toInt ∧ ar1.toInt ≤ 9999) → (g41 69 2).toInt = 1 ∧ (g41 69 74).toInt = (gi 69 74).toInt) ∧ ((-1 ≤ ar1.toInt ∧ ar1.toInt ≤ 9999) → (¬ (gi 70 8).toInt ≠ 0 → (g41 69 2).toInt = 6 ∧ (g41 69 74).toInt = (gi 69 74).toInt) ∧ ((gi 70 8).toInt ≠ 0 → (g41 69 2).toInt = 0 ∧ (g41 69 74).toInt = 1)) from ⟨fun h => (by have ffs : (g41 69 2).toInt = 6 := (congrArg Int32.toInt (by rw [e41]; exact x_up2_at _ _ _ _ : g41 69 2 = 6)).trans (by decide); have ff7 : (g41 69 74).toInt = (gi 69 74).toInt := congrArg Int32.toInt ((by rw [e41]; exact x_up2_off (Or.inr (by decide)) : g41 69 74 = gi 69 74).trans rfl); omega), fun h => ⟨fun h2 => (by have ffs : (g41 69 2).toInt = 6 := (congrArg Int32.toInt (by rw [e41]; exact x_up2_at _ _ _ _ : g41 69 2 = 6)).trans (by decide); have ff7 : (g41 69 74).toInt = (gi 69 74).toInt := congrArg Int32.toInt ((by rw [e41]; exact x_up2_off (Or.inr (by decide)) : g41 69 74 = gi 69 74).trans rfl); omega), fun h2 => (by have ffs : (g41 69 2).toInt = 6 := (congrArg Int32.toInt (by rw [e41]; exact x_up2_at _ _ _ _ : g41 69 2 = 6)).trans (by decide); have ff7 : (g41 69 74).toInt = (gi 69 74).toInt := congrArg Int32.toInt ((by rw [e41]; exact x_up2_off (Or.inr (by decide)) : g41 69 74 = gi 69 74).trans rfl); omega)⟩⟩)⟩⟩
        · have r42 : (gi 70 8).toInt ≠ 0 := fun e => h39 (Int32.toInt_inj.mp (e.trans (by decide : (0:Int) = (0 : Int32).toInt)))
          have l43 : 1 ≤ (gi 70 8).toInt := t_nel h39 l3 rfl rfl
          refine ev_loc f_X12_keep (nx := 41) rfl rfl rfl rfl ?_
          refine ev_loc f_X12_keep (nx := 42) rfl rfl rfl rfl ?_
          refine ev_c0 f_X12_keep (nx := 45) (r := []) rfl rfl rfl rfl rfl rfl rfl (c_m_keeps hI (ar1) e_p0) rfl hX rfl (fun gi44 gl44 gr44 hI hX hC44 => ?_)
          refine ev_loc f_X12_keep (nx := 46) rfl rfl rfl rfl ?_
          refine ev_getR f_X12_keep (nx := 49) rfl (hI.wf.s rfl) rfl rfl (hI.wf.r rfl) rfl rfl ?_
          refine ev_ic f_X12_keep (nx := 50) (v := 0) rfl (by decide) rfl ?_
          refine ev_loc f_X12_keep (nx := 51) rfl rfl rfl rfl ?_
          refine ev_getI f_X12_keep (nx := 54) rfl (hI.wf.s rfl) rfl rfl rfl ?_
          refine ev_iastT f_X12_keep (nx := 55) rfl (hI.wf.s rfl) (by decide : (0:Int) ≤ (0:Int32).toInt) (by decide) (by decide : (0:Int32).toInt ≤ (0:Int)) (by decide) rfl (hI.astG (hI.wf.s rfl) (fun lo hi e => absurd e (t_nob (by decide +kernel) _)) (fun k hk e => by have := hk.2.1; omega)) (hX.upI (t_inA_ok rfl)) (fun g45 e45 hI hX => ?_)
          refine ev_loc f_X12_keep (nx := 56) rfl rfl rfl rfl ?_
          refine ev_getR f_X12_keep (nx := 59) rfl (hI.wf.s rfl) rfl rfl (hI.wf.r rfl) rfl rfl ?_
          refine ev_ic f_X12_keep (nx := 60) (v := 1) rfl (by decide) rfl ?_
          refine ev_loc f_X12_keep (nx := 61) rfl rfl rfl rfl ?_
          refine ev_getI f_X12_keep (nx := 64) rfl (hI.wf.s rfl) rfl rfl rfl ?_
          refine ev_iastT f_X12_keep (nx := 65) rfl (hI.wf.s rfl) (by decide : (1:Int) ≤ (1:Int32).toInt) (by decide) (by decide : (1:Int32).toInt ≤ (1:Int)) (by decide) rfl (hI.astG (hI.wf.s rfl) (fun lo hi e => absurd e (t_nob (by decide +kernel) _)) (fun k hk e => by have := hk.2.1; omega)) (hX.upI (t_inA_ok rfl)) (fun g46 e46 hI hX => ?_)
          refine ev_loc f_X12_keep (nx := 66) rfl rfl rfl rfl ?_
          refine ev_getR f_X12_keep (nx := 69) rfl (hI.wf.s rfl) rfl rfl (hI.wf.r rfl) rfl rfl ?_
          refine ev_ic f_X12_keep (nx := 70) (v := 2) rfl (by decide) rfl ?_
          refine ev_loc f_X12_keep (nx := 71) rfl rfl rfl rfl ?_
          refine ev_getI f_X12_keep (nx := 74) rfl (hI.wf.s rfl) rfl rfl rfl ?_
          refine ev_iastT f_X12_keep (nx := 75) rfl (hI.wf.s rfl) (by decide : (2:Int) ≤ (2:Int32).toInt) (by decide) (by decide : (2:Int32).toInt ≤ (2:Int)) (by decide) rfl (hI.astG (hI.wf.s rfl) (fun lo hi e => absurd e (t_nob (by decide +kernel) _)) (fun k hk e => by have := hk.2.1; omega)) (hX.upI (t_inA_ok rfl)) (fun g47 e47 hI hX => ?_)
          refine ev_loc f_X12_keep (nx := 76) rfl rfl rfl rfl ?_
          refine ev_getR f_X12_keep (nx := 79) rfl (hI.wf.s rfl) rfl rfl (hI.wf.r rfl) rfl rfl ?_
          refine ev_ic f_X12_keep (nx := 80) (v := 3) rfl (by decide) rfl ?_
          refine ev_loc f_X12_keep (nx := 81) rfl rfl rfl rfl ?_
          refine ev_cI f_X12_keep (nx := 84) (r := [.int 3, .ref 101]) rfl rfl rfl rfl rfl rfl rfl (c_m_leftOver hI ) rfl hX rfl (fun w48 gi48 gl48 gr48 l48 u48 hI hX hC48 => ?_)
          refine ev_iastT f_X12_keep (nx := 85) rfl (hI.wf.s rfl) (by decide : (3:Int) ≤ (3:Int32).toInt) (by decide) (by decide : (3:Int32).toInt ≤ (3:Int)) (by decide) rfl (hI.astG (hI.wf.s rfl) (fun lo hi e => absurd e (t_nob (by decide +kernel) _)) (fun k hk e => by have := hk.2.1; omega)) (hX.upI (t_inA_ok rfl)) (fun g49 e49 hI hX => ?_)
          refine ev_loc f_X12_keep (nx := 86) rfl rfl rfl rfl ?_
          refine ev_getR f_X12_keep (nx := 89) rfl (hI.wf.s rfl) rfl rfl (hI.wf.r rfl) rfl rfl ?_
          refine ev_ic f_X12_keep (nx := 90) (v := 4) rfl (by decide) rfl ?_
          refine ev_loc f_X12_keep (nx := 91) rfl rfl rfl rfl ?_
          refine ev_getI f_X12_keep (nx := 94) rfl (hI.wf.s rfl) rfl rfl rfl ?_
          refine ev_iastT f_X12_keep (nx := 95) rfl (hI.wf.s rfl) (by decide : (4:Int) ≤ (4:Int32).toInt) (by decide) (by decide : (4:Int32).toInt ≤ (4:Int)) (by decide) rfl (hI.astG (hI.wf.s rfl) (fun lo hi e => absurd e (t_nob (by decide +kernel) _)) (fun k hk e => by have := hk.2.1; omega)) (hX.upI (t_inA_ok rfl)) (fun g50 e50 hI hX => ?_)
          refine ev_loc f_X12_keep (nx := 96) rfl rfl rfl rfl ?_
          refine ev_ic f_X12_keep (nx := 97) (v := 1) rfl (by decide) rfl ?_
          refine ev_putZT f_X12_keep (nx := 100) rfl (hI.wf.s rfl) rfl rfl (Int.le_trans (by decide : (0:Int) ≤ 1) (by decide : (1:Int) ≤ (1:Int32).toInt)) (by decide : (1:Int32).toInt ≤ (1:Int)) rfl (hI.put0 (hI.wf.s rfl) rfl rfl) (hX.upI rfl) (fun g51 e51 hI hX => ?_)
          refine ev_loc f_X12_keep (nx := 101) rfl rfl rfl rfl ?_
          refine ev_loc f_X12_keep (nx := 102) rfl rfl rfl rfl ?_
          refine ev_getI f_X12_keep (nx := 105) rfl (hI.wf.s rfl) rfl rfl rfl ?_
          refine ev_inV2 f_X12_keep (nx := 108) (lo2 := [(0, .ref 69), (1, .int (g51 69 66))]) rfl rfl rfl rfl f_X12_gives (hI.wf.s rfl) rfl rfl rfl rfl rfl ?_
          refine ev_loc f_X12_gives (nx := 1) rfl rfl rfl rfl ?_
          refine ev_ic f_X12_gives (nx := 2) (v := 0) rfl (by decide) rfl ?_
          refine ev_putIT f_X12_gives (nx := 5) rfl (hI.wf.s rfl) rfl rfl rfl (hI.put0 (hI.wf.s rfl) rfl rfl) (hX.upI rfl) (fun g52 e52 hI hX => ?_)
          refine ev_loc f_X12_gives (nx := 6) rfl rfl rfl rfl ?_
          refine ev_retK1 f_X12_gives rfl rfl rfl ?_
          exact ev_ret f_X12_keep rfl rfl rfl ⟨_, _, _, rfl, hI, hX, ⟨_, rfl, (t_lo (g51 69 66)), (t_hi (g51 69 66)), (show (¬ (-1 ≤ ar1.toInt ∧ ar1.toInt ≤ 9999) → (g52 69 2).toInt = 1 ∧ (g52 69 74).toInt = (gi 69 74).toInt) ∧ ((-1 ≤ ar1.toInt ∧ ar1.toInt ≤ 9999) → (¬ (gi 70 8).toInt ≠ 0 → (g52 69 2).toInt = 6 ∧ (g52 69 74).toInt = (gi 69 74).toInt) ∧ ((gi 70 8).toInt ≠ 0 → (g52 69 2).toInt = 0 ∧ (g52 69 74).toInt = 1)) from ⟨fun h => (by have ffs : (g52 69 2).toInt = 0 := (congrArg Int32.toInt (by rw [e52]; exact x_up2_at _ _ _ _ : g52 69 2 = 0)).trans (by decide); have ff7 : (g52 69 74).toInt = 1 := (congrArg Int32.toInt ((by rw [e52]; exact x_up2_off (Or.inr (by decide)) : g52 69 74 = g51 69 74).trans (by rw [e51]; exact x_up2_at _ _ _ _ : g51 69 74 = 1))).trans (by decide); omega), fun h => ⟨fun h2 => (by have ffs : (g52 69 2).toInt = 0 := (congrArg Int32.toInt (by rw [e52]; exact x_up2_at _ _ _ _ : g52 69 2 = 0)).trans (by decide); have ff7 : (g52 69 74).toInt = 1 := (congrArg Int32.toInt ((by rw [e52]; exact x_up2_off (Or.inr (by decide)) : g52 69 74 = g51 69 74).trans (by rw [e51]; exact x_up2_at _ _ _ _ : g51 69 74 = 1))).trans (by decide); omega), fun h2 => (by have ffs : (g52 69 2).toInt = 0 := (congrArg Int32.toInt (by rw [e52]; exact x_up2_at _ _ _ _ : g52 69 2 = 0)).trans (by decide); have ff7 : (g52 69 74).toInt = 1 := (congrArg Int32.toInt ((by rw [e52]; exact x_up2_off (Or.inr (by decide)) : g52 69 74 = g51 69 74).trans (by rw [e51]; exact x_up2_at _ _ _ _ : g51 69 74 = 1))).trans (by decide); omega)⟩⟩)⟩⟩
