/-! ===== printed by riv.py: STATUS, the other side ===== -/
noncomputable def wl_g_odds : List (Nat × Nat) := [(69, 2), (69, 3), (69, 4), (69, 44), (69, 45), (69, 58), (69, 59), (69, 60), (69, 61), (69, 62), (69, 63), (69, 64), (69, 65), (69, 66), (69, 67), (69, 68), (69, 69), (69, 70), (89, 10005), (89, 610011), (90, 9999), (91, 9999), (99, 9999), (100, 9999)]
noncomputable def Q_g_odds (gi : Nat → Nat → Int32) (gl : Nat → Nat → Int64) (gr : Nat → Nat → Value) (ar1 : Int32) (ar2 : Int32) : Int32 → (Nat → Nat → Int32) → (Nat → Nat → Int64) → (Nat → Nat → Value) → Prop := fun (v : Int32) (gi2 : Nat → Nat → Int32) (gl2 : Nat → Nat → Int64) (gr2 : Nat → Nat → Value) => (¬ (0 ≤ ar1.toInt ∧ ar1.toInt ≤ 9999 ∧ 1 ≤ ar2.toInt ∧ ar2.toInt ≤ 20 ∧ ar1.toInt + ar2.toInt ≤ 10000) → (gi2 69 2).toInt = 1) ∧ ((0 ≤ ar1.toInt ∧ ar1.toInt ≤ 9999 ∧ 1 ≤ ar2.toInt ∧ ar2.toInt ≤ 20 ∧ ar1.toInt + ar2.toInt ≤ 10000) → (¬ (gi 70 8).toInt ≠ 0 → (gi2 69 2).toInt = 6) ∧ ((gi 70 8).toInt ≠ 0 → (gi2 69 2).toInt = 0))
theorem c_g_odds {X : x_Ext} {d : Nat} {sh : List (Nat ⊕ (Nat × Nat))} {gi : Nat → Nat → Int32} {gl : Nat → Nat → Int64} {gr : Nat → Nat → Value} (hI : t_I sh gi gr) (ar1 : Int32) (ar2 : Int32) (e_p0 : t_rpn (gi 70) 0) : x_Me X (d + 7) n_X12_odds [.ref 69, .int ar1, .int ar2] (sh, gi, gl, gr) (t_PI wl_g_odds sh gi gl gr 0 1 (Q_g_odds gi gl gr ar1 ar2)) := by
  have hX : t_X wl_g_odds sh gi gl gr gi gl gr := t_X.rf
  refine me_i f_X12_odds (hI.wf.s rfl) rfl rfl rfl ?_
  obtain ⟨l2, u2⟩ := hI.ab (by decide +kernel : t_abr 70 8 8 0 1 = true) (Nat.le_refl _) (Nat.le_refl _)
  refine ev_loc f_X12_odds (nx := 1) rfl rfl rfl rfl ?_
  refine ev_loc f_X12_odds (nx := 2) rfl rfl rfl rfl ?_
  refine ev_loc f_X12_odds (nx := 3) rfl rfl rfl rfl ?_
  refine ev_inV3 f_X12_odds (nx := 6) (lo2 := [(0, .ref 69), (1, .int ar1), (2, .int ar2)]) rfl rfl rfl rfl f_X12_areSeeds (hI.wf.s rfl) rfl rfl rfl rfl rfl ?_
  refine ev_loc f_X12_areSeeds (nx := 1) rfl rfl rfl rfl ?_
  refine ev_anyLE f_X12_areSeeds (nx := 2) rfl rfl rfl rfl (fun z3 e3 => ?_)
  have i3 : z3.toInt = ar1.toInt := by rw [e3]; exact Int32.toInt_toInt64 _
  refine ev_lc f_X12_areSeeds (nx := 3) (v := 0) rfl (by decide) rfl ?_
  refine ev_ldL f_X12_areSeeds (nx := 6) (v := 9999) rfl (by decide) rfl ?_
  refine ev_inS3 f_X12_areSeeds (nx := 9) (lo2 := [(0, .long z3), (2, .long 0), (4, .long 9999)]) rfl rfl rfl rfl f_X12_isFrom rfl rfl rfl rfl ?_
  refine ev_loc f_X12_isFrom (nx := 1) rfl rfl rfl rfl ?_
  refine ev_loc f_X12_isFrom (nx := 2) rfl rfl rfl rfl ?_
  refine ev_anyIE f_X12_isFrom (nx := 3) rfl rfl rfl rfl (fun z4 e4 => ?_)
  refine ev_if f_X12_isFrom (t1 := 17) (t2 := 6) rfl rfl rfl (fun h5 => ?_) (fun h5 => ?_)
  · have u6 : ar1.toInt ≤ ((-1):Int) := Int.le_sub_one_of_lt ((lgc_lt (by decide : (0 : Int64).toInt = 0)).mp (by have hh := h5; rw [e4, e3] at hh; exact hh))
    have u7 : z4.toInt ≤ (-1) := t_ltu h5 (by decide : (0:Int32).toInt ≤ (0:Int)) rfl
    refine ev_ic f_X12_isFrom (nx := 18) (v := 0) rfl (by decide) rfl ?_
    refine ev_retK1 f_X12_isFrom rfl rfl rfl ?_
    refine ev_t f_X12_areSeeds (t1 := 39) (t2 := 12) rfl rfl rfl (by decide) ?_
    refine ev_ic f_X12_areSeeds (nx := 40) (v := 0) rfl (by decide) rfl ?_
    refine ev_retK1 f_X12_areSeeds rfl rfl rfl ?_
    refine ev_t f_X12_odds (t1 := 9) (t2 := 15) rfl rfl rfl (by decide) ?_
    refine ev_loc f_X12_odds (nx := 10) rfl rfl rfl rfl ?_
    refine ev_ic f_X12_odds (nx := 11) (v := 1) rfl (by decide) rfl ?_
    refine ev_inV2 f_X12_odds (nx := 14) (lo2 := [(0, .ref 69), (1, .int 1)]) rfl rfl rfl rfl f_X12_is (hI.wf.s rfl) rfl rfl rfl rfl rfl ?_
    refine ev_loc f_X12_is (nx := 1) rfl rfl rfl rfl ?_
    refine ev_loc f_X12_is (nx := 2) rfl rfl rfl rfl ?_
    refine ev_putIT f_X12_is (nx := 5) rfl (hI.wf.s rfl) rfl rfl rfl (hI.put0 (hI.wf.s rfl) rfl rfl) (hX.upI rfl) (fun g8 e8 hI hX => ?_)
    refine ev_loc f_X12_is (nx := 6) rfl rfl rfl rfl ?_
    refine ev_f f_X12_is (t1 := 9) (t2 := 13) rfl rfl rfl (by decide) ?_
    refine ev_ic f_X12_is (nx := 14) (v := 0) rfl (by decide) rfl ?_
    refine ev_retK1 f_X12_is rfl rfl rfl ?_
    exact ev_ret f_X12_odds rfl rfl rfl ⟨_, _, _, rfl, hI, hX, ⟨_, rfl, (by decide : (0:Int) ≤ (0:Int32).toInt), (Int.le_trans (by decide : (0:Int32).toInt ≤ (0:Int)) (by decide : (0:Int) ≤ 1)), (show (¬ (0 ≤ ar1.toInt ∧ ar1.toInt ≤ 9999 ∧ 1 ≤ ar2.toInt ∧ ar2.toInt ≤ 20 ∧ ar1.toInt + ar2.toInt ≤ 10000) → (g8 69 2).toInt = 1) ∧ ((0 ≤ ar1.toInt ∧ ar1.toInt ≤ 9999 ∧ 1 ≤ ar2.toInt ∧ ar2.toInt ≤ 20 ∧ ar1.toInt + ar2.toInt ≤ 10000) → (¬ (gi 70 8).toInt ≠ 0 → (g8 69 2).toInt = 6) ∧ ((gi 70 8).toInt ≠ 0 → (g8 69 2).toInt = 0)) from ⟨fun h => (by have ffs : (g8 69 2).toInt = 1 := (congrArg Int32.toInt (by rw [e8]; exact x_up2_at _ _ _ _ : g8 69 2 = 1)).trans (by decide); omega), fun h => ⟨fun h2 => (by have ffs : (g8 69 2).toInt = 1 := (congrArg Int32.toInt (by rw [e8]; exact x_up2_at _ _ _ _ : g8 69 2 = 1)).trans (by decide); omega), fun h2 => (by have ffs : (g8 69 2).toInt = 1 := (congrArg Int32.toInt (by rw [e8]; exact x_up2_at _ _ _ _ : g8 69 2 = 1)).trans (by decide); omega)⟩⟩)⟩⟩
  · have l9 : (0:Int) ≤ ar1.toInt := (lgc_ge (by decide : (0 : Int64).toInt = 0)).mp (by have hh := (t_nlt h5); rw [e4, e3] at hh; exact hh)
    have l10 : 0 ≤ z4.toInt := t_lel (t_nlt h5) (by decide : (0:Int) ≤ (0:Int32).toInt)
    refine ev_loc f_X12_isFrom (nx := 7) rfl rfl rfl rfl ?_
    refine ev_loc f_X12_isFrom (nx := 9) rfl rfl rfl rfl ?_
    refine ev_anyIE f_X12_isFrom (nx := 10) rfl rfl rfl rfl (fun z11 e11 => ?_)
    refine ev_if f_X12_isFrom (t1 := 17) (t2 := 13) rfl rfl rfl (fun h12 => ?_) (fun h12 => ?_)
    · have l13 : (10000:Int) ≤ ar1.toInt := Int.add_one_le_of_lt ((lgc_gt (by decide : (9999 : Int64).toInt = 9999)).mp (by have hh := h12; rw [e11, e3] at hh; exact hh))
      have l14 : 1 ≤ z11.toInt := t_ltl h12 (by decide : (0:Int) ≤ (0:Int32).toInt) rfl
      refine ev_ic f_X12_isFrom (nx := 18) (v := 0) rfl (by decide) rfl ?_
      refine ev_retK1 f_X12_isFrom rfl rfl rfl ?_
      refine ev_t f_X12_areSeeds (t1 := 39) (t2 := 12) rfl rfl rfl (by decide) ?_
      refine ev_ic f_X12_areSeeds (nx := 40) (v := 0) rfl (by decide) rfl ?_
      refine ev_retK1 f_X12_areSeeds rfl rfl rfl ?_
      refine ev_t f_X12_odds (t1 := 9) (t2 := 15) rfl rfl rfl (by decide) ?_
      refine ev_loc f_X12_odds (nx := 10) rfl rfl rfl rfl ?_
      refine ev_ic f_X12_odds (nx := 11) (v := 1) rfl (by decide) rfl ?_
      refine ev_inV2 f_X12_odds (nx := 14) (lo2 := [(0, .ref 69), (1, .int 1)]) rfl rfl rfl rfl f_X12_is (hI.wf.s rfl) rfl rfl rfl rfl rfl ?_
      refine ev_loc f_X12_is (nx := 1) rfl rfl rfl rfl ?_
      refine ev_loc f_X12_is (nx := 2) rfl rfl rfl rfl ?_
      refine ev_putIT f_X12_is (nx := 5) rfl (hI.wf.s rfl) rfl rfl rfl (hI.put0 (hI.wf.s rfl) rfl rfl) (hX.upI rfl) (fun g15 e15 hI hX => ?_)
      refine ev_loc f_X12_is (nx := 6) rfl rfl rfl rfl ?_
      refine ev_f f_X12_is (t1 := 9) (t2 := 13) rfl rfl rfl (by decide) ?_
      refine ev_ic f_X12_is (nx := 14) (v := 0) rfl (by decide) rfl ?_
      refine ev_retK1 f_X12_is rfl rfl rfl ?_
      exact ev_ret f_X12_odds rfl rfl rfl ⟨_, _, _, rfl, hI, hX, ⟨_, rfl, (by decide : (0:Int) ≤ (0:Int32).toInt), (Int.le_trans (by decide : (0:Int32).toInt ≤ (0:Int)) (by decide : (0:Int) ≤ 1)), (show (¬ (0 ≤ ar1.toInt ∧ ar1.toInt ≤ 9999 ∧ 1 ≤ ar2.toInt ∧ ar2.toInt ≤ 20 ∧ ar1.toInt + ar2.toInt ≤ 10000) → (g15 69 2).toInt = 1) ∧ ((0 ≤ ar1.toInt ∧ ar1.toInt ≤ 9999 ∧ 1 ≤ ar2.toInt ∧ ar2.toInt ≤ 20 ∧ ar1.toInt + ar2.toInt ≤ 10000) → (¬ (gi 70 8).toInt ≠ 0 → (g15 69 2).toInt = 6) ∧ ((gi 70 8).toInt ≠ 0 → (g15 69 2).toInt = 0)) from ⟨fun h => (by have ffs : (g15 69 2).toInt = 1 := (congrArg Int32.toInt (by rw [e15]; exact x_up2_at _ _ _ _ : g15 69 2 = 1)).trans (by decide); omega), fun h => ⟨fun h2 => (by have ffs : (g15 69 2).toInt = 1 := (congrArg Int32.toInt (by rw [e15]; exact x_up2_at _ _ _ _ : g15 69 2 = 1)).trans (by decide); omega), fun h2 => (by have ffs : (g15 69 2).toInt = 1 := (congrArg Int32.toInt (by rw [e15]; exact x_up2_at _ _ _ _ : g15 69 2 = 1)).trans (by decide); omega)⟩⟩)⟩⟩
    · have u16 : ar1.toInt ≤ (9999:Int) := (lgc_le (by decide : (9999 : Int64).toInt = 9999)).mp (by have hh := (t_nlt h12); rw [e11, e3] at hh; exact hh)
      have u17 : z11.toInt ≤ 0 := t_leu (t_nlt h12) (by decide : (0:Int32).toInt ≤ (0:Int))
      refine ev_ic f_X12_isFrom (nx := 14) (v := 1) rfl (by decide) rfl ?_
      refine ev_jmp f_X12_isFrom (nx := 18) rfl rfl rfl ?_
      refine ev_retK1 f_X12_isFrom rfl rfl rfl ?_
      refine ev_f f_X12_areSeeds (t1 := 39) (t2 := 12) rfl rfl rfl (by decide) ?_
      refine ev_loc f_X12_areSeeds (nx := 13) rfl rfl rfl rfl ?_
      refine ev_anyLE f_X12_areSeeds (nx := 14) rfl rfl rfl rfl (fun z18 e18 => ?_)
      have i18 : z18.toInt = ar2.toInt := by rw [e18]; exact Int32.toInt_toInt64 _
      refine ev_lc f_X12_areSeeds (nx := 15) (v := 1) rfl (by decide) rfl ?_
      refine ev_ldL f_X12_areSeeds (nx := 18) (v := 20) rfl (by decide) rfl ?_
      refine ev_inS3 f_X12_areSeeds (nx := 21) (lo2 := [(0, .long z18), (2, .long 1), (4, .long 20)]) rfl rfl rfl rfl f_X12_isFrom rfl rfl rfl rfl ?_
      refine ev_loc f_X12_isFrom (nx := 1) rfl rfl rfl rfl ?_
      refine ev_loc f_X12_isFrom (nx := 2) rfl rfl rfl rfl ?_
      refine ev_anyIE f_X12_isFrom (nx := 3) rfl rfl rfl rfl (fun z19 e19 => ?_)
      refine ev_if f_X12_isFrom (t1 := 17) (t2 := 6) rfl rfl rfl (fun h20 => ?_) (fun h20 => ?_)
      · have u21 : ar2.toInt ≤ (0:Int) := Int.le_sub_one_of_lt ((lgc_lt (by decide : (1 : Int64).toInt = 1)).mp (by have hh := h20; rw [e19, e18] at hh; exact hh))
        have u22 : z19.toInt ≤ (-1) := t_ltu h20 (by decide : (0:Int32).toInt ≤ (0:Int)) rfl
        refine ev_ic f_X12_isFrom (nx := 18) (v := 0) rfl (by decide) rfl ?_
        refine ev_retK1 f_X12_isFrom rfl rfl rfl ?_
        refine ev_t f_X12_areSeeds (t1 := 39) (t2 := 24) rfl rfl rfl (by decide) ?_
        refine ev_ic f_X12_areSeeds (nx := 40) (v := 0) rfl (by decide) rfl ?_
        refine ev_retK1 f_X12_areSeeds rfl rfl rfl ?_
        refine ev_t f_X12_odds (t1 := 9) (t2 := 15) rfl rfl rfl (by decide) ?_
        refine ev_loc f_X12_odds (nx := 10) rfl rfl rfl rfl ?_
        refine ev_ic f_X12_odds (nx := 11) (v := 1) rfl (by decide) rfl ?_
        refine ev_inV2 f_X12_odds (nx := 14) (lo2 := [(0, .ref 69), (1, .int 1)]) rfl rfl rfl rfl f_X12_is (hI.wf.s rfl) rfl rfl rfl rfl rfl ?_
        refine ev_loc f_X12_is (nx := 1) rfl rfl rfl rfl ?_
        refine ev_loc f_X12_is (nx := 2) rfl rfl rfl rfl ?_
        refine ev_putIT f_X12_is (nx := 5) rfl (hI.wf.s rfl) rfl rfl rfl (hI.put0 (hI.wf.s rfl) rfl rfl) (hX.upI rfl) (fun g23 e23 hI hX => ?_)
        refine ev_loc f_X12_is (nx := 6) rfl rfl rfl rfl ?_
        refine ev_f f_X12_is (t1 := 9) (t2 := 13) rfl rfl rfl (by decide) ?_
        refine ev_ic f_X12_is (nx := 14) (v := 0) rfl (by decide) rfl ?_
        refine ev_retK1 f_X12_is rfl rfl rfl ?_
        exact ev_ret f_X12_odds rfl rfl rfl ⟨_, _, _, rfl, hI, hX, ⟨_, rfl, (by decide : (0:Int) ≤ (0:Int32).toInt), (Int.le_trans (by decide : (0:Int32).toInt ≤ (0:Int)) (by decide : (0:Int) ≤ 1)), (show (¬ (0 ≤ ar1.toInt ∧ ar1.toInt ≤ 9999 ∧ 1 ≤ ar2.toInt ∧ ar2.toInt ≤ 20 ∧ ar1.toInt + ar2.toInt ≤ 10000) → (g23 69 2).toInt = 1) ∧ ((0 ≤ ar1.toInt ∧ ar1.toInt ≤ 9999 ∧ 1 ≤ ar2.toInt ∧ ar2.toInt ≤ 20 ∧ ar1.toInt + ar2.toInt ≤ 10000) → (¬ (gi 70 8).toInt ≠ 0 → (g23 69 2).toInt = 6) ∧ ((gi 70 8).toInt ≠ 0 → (g23 69 2).toInt = 0)) from ⟨fun h => (by have ffs : (g23 69 2).toInt = 1 := (congrArg Int32.toInt (by rw [e23]; exact x_up2_at _ _ _ _ : g23 69 2 = 1)).trans (by decide); omega), fun h => ⟨fun h2 => (by have ffs : (g23 69 2).toInt = 1 := (congrArg Int32.toInt (by rw [e23]; exact x_up2_at _ _ _ _ : g23 69 2 = 1)).trans (by decide); omega), fun h2 => (by have ffs : (g23 69 2).toInt = 1 := (congrArg Int32.toInt (by rw [e23]; exact x_up2_at _ _ _ _ : g23 69 2 = 1)).trans (by decide); omega)⟩⟩)⟩⟩
      · have l24 : (1:Int) ≤ ar2.toInt := (lgc_ge (by decide : (1 : Int64).toInt = 1)).mp (by have hh := (t_nlt h20); rw [e19, e18] at hh; exact hh)
        have l25 : 0 ≤ z19.toInt := t_lel (t_nlt h20) (by decide : (0:Int) ≤ (0:Int32).toInt)
        refine ev_loc f_X12_isFrom (nx := 7) rfl rfl rfl rfl ?_
        refine ev_loc f_X12_isFrom (nx := 9) rfl rfl rfl rfl ?_
        refine ev_anyIE f_X12_isFrom (nx := 10) rfl rfl rfl rfl (fun z26 e26 => ?_)
        refine ev_if f_X12_isFrom (t1 := 17) (t2 := 13) rfl rfl rfl (fun h27 => ?_) (fun h27 => ?_)
        · have l28 : (21:Int) ≤ ar2.toInt := Int.add_one_le_of_lt ((lgc_gt (by decide : (20 : Int64).toInt = 20)).mp (by have hh := h27; rw [e26, e18] at hh; exact hh))
          have l29 : 1 ≤ z26.toInt := t_ltl h27 (by decide : (0:Int) ≤ (0:Int32).toInt) rfl
          refine ev_ic f_X12_isFrom (nx := 18) (v := 0) rfl (by decide) rfl ?_
          refine ev_retK1 f_X12_isFrom rfl rfl rfl ?_
          refine ev_t f_X12_areSeeds (t1 := 39) (t2 := 24) rfl rfl rfl (by decide) ?_
          refine ev_ic f_X12_areSeeds (nx := 40) (v := 0) rfl (by decide) rfl ?_
          refine ev_retK1 f_X12_areSeeds rfl rfl rfl ?_
          refine ev_t f_X12_odds (t1 := 9) (t2 := 15) rfl rfl rfl (by decide) ?_
          refine ev_loc f_X12_odds (nx := 10) rfl rfl rfl rfl ?_
          refine ev_ic f_X12_odds (nx := 11) (v := 1) rfl (by decide) rfl ?_
          refine ev_inV2 f_X12_odds (nx := 14) (lo2 := [(0, .ref 69), (1, .int 1)]) rfl rfl rfl rfl f_X12_is (hI.wf.s rfl) rfl rfl rfl rfl rfl ?_
          refine ev_loc f_X12_is (nx := 1) rfl rfl rfl rfl ?_
          refine ev_loc f_X12_is (nx := 2) rfl rfl rfl rfl ?_
          refine ev_putIT f_X12_is (nx := 5) rfl (hI.wf.s rfl) rfl rfl rfl (hI.put0 (hI.wf.s rfl) rfl rfl) (hX.upI rfl) (fun g30 e30 hI hX => ?_)
          refine ev_loc f_X12_is (nx := 6) rfl rfl rfl rfl ?_
          refine ev_f f_X12_is (t1 := 9) (t2 := 13) rfl rfl rfl (by decide) ?_
          refine ev_ic f_X12_is (nx := 14) (v := 0) rfl (by decide) rfl ?_
          refine ev_retK1 f_X12_is rfl rfl rfl ?_
          exact ev_ret f_X12_odds rfl rfl rfl ⟨_, _, _, rfl, hI, hX, ⟨_, rfl, (by decide : (0:Int) ≤ (0:Int32).toInt), (Int.le_trans (by decide : (0:Int32).toInt ≤ (0:Int)) (by decide : (0:Int) ≤ 1)), (show (¬ (0 ≤ ar1.toInt ∧ ar1.toInt ≤ 9999 ∧ 1 ≤ ar2.toInt ∧ ar2.toInt ≤ 20 ∧ ar1.toInt + ar2.toInt ≤ 10000) → (g30 69 2).toInt = 1) ∧ ((0 ≤ ar1.toInt ∧ ar1.toInt ≤ 9999 ∧ 1 ≤ ar2.toInt ∧ ar2.toInt ≤ 20 ∧ ar1.toInt + ar2.toInt ≤ 10000) → (¬ (gi 70 8).toInt ≠ 0 → (g30 69 2).toInt = 6) ∧ ((gi 70 8).toInt ≠ 0 → (g30 69 2).toInt = 0)) from ⟨fun h => (by have ffs : (g30 69 2).toInt = 1 := (congrArg Int32.toInt (by rw [e30]; exact x_up2_at _ _ _ _ : g30 69 2 = 1)).trans (by decide); omega), fun h => ⟨fun h2 => (by have ffs : (g30 69 2).toInt = 1 := (congrArg Int32.toInt (by rw [e30]; exact x_up2_at _ _ _ _ : g30 69 2 = 1)).trans (by decide); omega), fun h2 => (by have ffs : (g30 69 2).toInt = 1 := (congrArg Int32.toInt (by rw [e30]; exact x_up2_at _ _ _ _ : g30 69 2 = 1)).trans (by decide); omega)⟩⟩)⟩⟩
        · have u31 : ar2.toInt ≤ (20:Int) := (lgc_le (by decide : (20 : Int64).toInt = 20)).mp (by have hh := (t_nlt h27); rw [e26, e18] at hh; exact hh)
          have u32 : z26.toInt ≤ 0 := t_leu (t_nlt h27) (by decide : (0:Int32).toInt ≤ (0:Int))
          refine ev_ic f_X12_isFrom (nx := 14) (v := 1) rfl (by decide) rfl ?_
          refine ev_jmp f_X12_isFrom (nx := 18) rfl rfl rfl ?_
          refine ev_retK1 f_X12_isFrom rfl rfl rfl ?_
          refine ev_f f_X12_areSeeds (t1 := 39) (t2 := 24) rfl rfl rfl (by decide) ?_
          refine ev_loc f_X12_areSeeds (nx := 25) rfl rfl rfl rfl ?_
          refine ev_loc f_X12_areSeeds (nx := 26) rfl rfl rfl rfl ?_
          refine ev_addR f_X12_areSeeds (nx := 27) (l := 1) (u := 10019) rfl l9 u16 l24 u31 rfl rfl (by decide) (by decide) rfl (fun z33 e33 l33 u33 => ?_)
          refine ev_ic f_X12_areSeeds (nx := 28) (v := 1) rfl (by decide) rfl ?_
          refine ev_subC f_X12_areSeeds (nx := 29) (c := 1) (l := 0) (u := 10018) rfl (by decide) l33 u33 rfl rfl (by decide) (by decide) rfl (fun z34 e34 l34 u34 => ?_)
          refine ev_sp f_X12_areSeeds (nx := 32) (v := 9999) rfl (by decide) rfl ?_
          refine ev_if f_X12_areSeeds (t1 := 39) (t2 := 35) rfl rfl rfl (fun h35 => ?_) (fun h35 => ?_)
          · have l36 : 10000 ≤ z34.toInt := t_ltl h35 (by decide : (9999:Int) ≤ (9999:Int32).toInt) rfl
            refine ev_ic f_X12_areSeeds (nx := 40) (v := 0) rfl (by decide) rfl ?_
            refine ev_retK1 f_X12_areSeeds rfl rfl rfl ?_
            refine ev_t f_X12_odds (t1 := 9) (t2 := 15) rfl rfl rfl (by decide) ?_
            refine ev_loc f_X12_odds (nx := 10) rfl rfl rfl rfl ?_
            refine ev_ic f_X12_odds (nx := 11) (v := 1) rfl (by decide) rfl ?_
            refine ev_inV2 f_X12_odds (nx := 14) (lo2 := [(0, .ref 69), (1, .int 1)]) rfl rfl rfl rfl f_X12_is (hI.wf.s rfl) rfl rfl rfl rfl rfl ?_
            refine ev_loc f_X12_is (nx := 1) rfl rfl rfl rfl ?_
            refine ev_loc f_X12_is (nx := 2) rfl rfl rfl rfl ?_
            refine ev_putIT f_X12_is (nx := 5) rfl (hI.wf.s rfl) rfl rfl rfl (hI.put0 (hI.wf.s rfl) rfl rfl) (hX.upI rfl) (fun g37 e37 hI hX => ?_)
            refine ev_loc f_X12_is (nx := 6) rfl rfl rfl rfl ?_
            refine ev_f f_X12_is (t1 := 9) (t2 := 13) rfl rfl rfl (by decide) ?_
            refine ev_ic f_X12_is (nx := 14) (v := 0) rfl (by decide) rfl ?_
            refine ev_retK1 f_X12_is rfl rfl rfl ?_
            exact ev_ret f_X12_odds rfl rfl rfl ⟨_, _, _, rfl, hI, hX, ⟨_, rfl, (by decide : (0:Int) ≤ (0:Int32).toInt), (Int.le_trans (by decide : (0:Int32).toInt ≤ (0:Int)) (by decide : (0:Int) ≤ 1)), (show (¬ (0 ≤ ar1.toInt ∧ ar1.toInt ≤ 9999 ∧ 1 ≤ ar2.toInt ∧ ar2.toInt ≤ 20 ∧ ar1.toInt + ar2.toInt ≤ 10000) → (g37 69 2).toInt = 1) ∧ ((0 ≤ ar1.toInt ∧ ar1.toInt ≤ 9999 ∧ 1 ≤ ar2.toInt ∧ ar2.toInt ≤ 20 ∧ ar1.toInt + ar2.toInt ≤ 10000) → (¬ (gi 70 8).toInt ≠ 0 → (g37 69 2).toInt = 6) ∧ ((gi 70 8).toInt ≠ 0 → (g37 69 2).toInt = 0)) from ⟨fun h => (by have ffs : (g37 69 2).toInt = 1 := (congrArg Int32.toInt (by rw [e37]; exact x_up2_at _ _ _ _ : g37 69 2 = 1)).trans (by decide); omega), fun h => ⟨fun h2 => (by have ffs : (g37 69 2).toInt = 1 := (congrArg Int32.toInt (by rw [e37]; exact x_up2_at _ _ _ _ : g37 69 2 = 1)).trans (by decide); omega), fun h2 => (by have ffs : (g37 69 2).toInt = 1 := (congrArg Int32.toInt (by rw [e37]; exact x_up2_at _ _ _ _ : g37 69 2 = 1)).trans (by decide); omega)⟩⟩)⟩⟩
          · have u38 : z34.toInt ≤ 9999 := t_leu (t_nlt h35) (by decide : (9999:Int32).toInt ≤ (9999:Int))
            refine ev_ic f_X12_areSeeds (nx := 36) (v := 1) rfl (by decide) rfl ?_
            refine ev_jmp f_X12_areSeeds (nx := 40) rfl rfl rfl ?_
            refine ev_retK1 f_X12_areSeeds rfl rfl rfl ?_
            refine ev_f f_X12_odds (t1 := 9) (t2 := 15) rfl rfl rfl (by decide) ?_
            refine ev_loc f_X12_odds (nx := 16) rfl rfl rfl rfl ?_
            refine ev_getR f_X12_odds (nx := 19) rfl (hI.wf.s rfl) rfl rfl (hI.wf.r rfl) rfl rfl ?_
            refine ev_bp f_X12_odds (nx := 21) (v := 8) rfl (by decide) rfl ?_
            refine ev_ialdv f_X12_odds (nx := 22) (w := (gi 70 8)) rfl (hI.wf.s rfl) (by decide) (rfl : (8 : Int32).toNatClampNeg = 8) (by decide) rfl rfl ?_
            refine ev_if f_X12_odds (t1 := 25) (t2 := 32) rfl rfl rfl (fun h40 => ?_) (fun h40 => ?_)
            · have u41 : (gi 70 8).toInt ≤ 0 := t_equ h40 (by decide : (0:Int32).toInt ≤ (0:Int))
              refine ev_loc f_X12_odds (nx := 26) rfl rfl rfl rfl ?_
              refine ev_bp f_X12_odds (nx := 28) (v := 6) rfl (by decide) rfl ?_
              refine ev_inV2 f_X12_odds (nx := 31) (lo2 := [(0, .ref 69), (1, .int 6)]) rfl rfl rfl rfl f_X12_is (hI.wf.s rfl) rfl rfl rfl rfl rfl ?_
              refine ev_loc f_X12_is (nx := 1) rfl rfl rfl rfl ?_
              refine ev_loc f_X12_is (nx := 2) rfl rfl rfl rfl ?_
              refine ev_putIT f_X12_is (nx := 5) rfl (hI.wf.s rfl) rfl rfl rfl (hI.put0 (hI.wf.s rfl) rfl rfl) (hX.upI rfl) (fun g42 e42 hI hX => ?_)
              refine ev_loc f_X12_is (nx := 6) rfl rfl rfl rfl ?_
              refine ev_f f_X12_is (t1 := 9) (t2 := 13) rfl rfl rfl (by decide) ?_
              refine ev_ic f_X12_is (nx := 14) (v := 0) rfl (by decide) rfl ?_
              refine ev_retK1 f_X12_is rfl rfl rfl ?_
              exact ev_ret f_X12_odds rfl rfl rfl ⟨_, _, _, rfl, hI, hX, ⟨_, rfl, (by decide : (0:Int) ≤ (0:Int32).toInt), (Int.le_trans (by decide : (0:Int32).toInt ≤ (0:Int)) (by decide : (0:Int) ≤ 1)), (show (¬ (0 ≤ ar1.toInt ∧ ar1.toInt ≤ 9999 ∧ 1 ≤ ar2.toInt ∧ ar2.toInt ≤ 20 ∧ ar1.toInt + ar2.toInt ≤ 10000) → (g42 69 2).toInt = 1) ∧ ((0 ≤ ar1.toInt ∧ ar1.toInt ≤ 9999 ∧ 1 ≤ ar2.toInt ∧ ar2.toInt ≤ 20 ∧ ar1.toInt + ar2.toInt ≤ 10000) → (¬ (gi 70 8).toInt ≠ 0 → (g42 69 2).toInt = 6) ∧ ((gi 70 8).toInt ≠ 0 → (g42 69 2).toInt = 0)) from ⟨fun h => (by have ffs : (g42 69 2).toInt = 6 := (congrArg Int32.toInt (by rw [e42]; exact x_up2_at _ _ _ _ : g42 69 2 = 6)).trans (by decide); omega), fun h => ⟨fun h2 => (by have ffs : (g42 69 2).toInt = 6 := (congrArg Int32.toInt (by rw [e42]; exact x_up2_at _ _ _ _ : g42 69 2 = 6)).trans (by decide); omega), fun h2 => (by have ffs : (g42 69 2).toInt = 6 := (congrArg Int32.toInt (by rw [e42]; exact x_up2_at _ _ _ _ : g42 69 2 = 6)).trans (by decide); omega)⟩⟩)⟩⟩
            · have r43 : (gi 70 8).toInt ≠ 0 := fun e => h40 (Int32.toInt_inj.mp (e.trans (by decide : (0:Int) = (0 : Int32).toInt)))
              have l44 : 1 ≤ (gi 70 8).toInt := t_nel h40 l2 rfl rfl
              refine ev_ic f_X12_odds (nx := 33) (v := 0) rfl (by decide) rfl ?_
              refine ev_loc f_X12_odds (nx := 34) (lo' := [(3, .int 0), (0, .ref 69), (1, .int ar1), (2, .int ar2)]) rfl rfl rfl rfl ?_
              refine ev_ic f_X12_odds (nx := 35) (v := 0) rfl (by decide) rfl ?_
              refine ev_loc f_X12_odds (nx := 37) (lo' := [(4, .int 0), (3, .int 0), (0, .ref 69), (1, .int ar1), (2, .int ar2)]) rfl rfl rfl rfl ?_
              have L45 : ∀ (m45 : Nat) (gi45 : Nat → Nat → Int32) (gl45 : Nat → Nat → Int64) (gr45 : Nat → Nat → Value) (y45_4 : Int32) (y45_3 : Int32), t_I sh gi45 gr45 → t_X wl_g_odds sh gi gl gr gi45 gl45 gr45 → 0 ≤ y45_4.toInt → y45_4.toInt ≤ 20 → 0 ≤ y45_3.toInt → y45_3.toInt ≤ 20 → gi45 69 2 = (gi 69 2) → gi45 70 8 = (gi 70 8) → t_rpn (gi45 70) 0 → 0 ≤ y45_3.toInt → y45_3.toInt ≤ y45_4.toInt → (20 - y45_4.toInt).toNat = m45 → x_Ev X (d + 7) n_X12_odds 37 [(4, .int y45_4), (3, .int y45_3), (0, .ref 69), (1, .int ar1), (2, .int ar2)] [] (sh, gi45, gl45, gr45) (t_PI wl_g_odds sh gi gl gr 0 1 (Q_g_odds gi gl gr ar1 ar2)) := by
                intro m45
                induction m45 using Nat.strongRecOn with
                | _ m45 ih45 =>
                intro gi45 gl45 gr45 y45_4 y45_3 hI hX l45_4 u45_4 l45_3 u45_3 c45_0 c45_1 j45_0 j45_1 j45_2 hm45
                refine ev_loc f_X12_odds (nx := 39) rfl rfl rfl rfl ?_
                refine ev_loc f_X12_odds (nx := 40) rfl rfl rfl rfl ?_
                refine ev_if f_X12_odds (t1 := 79) (t2 := 43) rfl rfl rfl (fun h46 => ?_) (fun h46 => ?_)
                · have r47 : ar2.toInt ≤ y45_4.toInt := Int32.le_iff_toInt_le.mp h46
                  have l48 : 1 ≤ y45_4.toInt := t_lel h46 l24
                  refine ev_loc f_X12_odds (nx := 80) rfl rfl rfl rfl ?_
                  refine ev_loc f_X12_odds (nx := 81) rfl rfl rfl rfl ?_
                  refine ev_anyLE f_X12_odds (nx := 82) rfl rfl rfl rfl (fun z49 e49 => ?_)
                  have i49 : z49.toInt = y45_3.toInt := by rw [e49]; exact Int32.toInt_toInt64 _
                  refine ev_loc f_X12_odds (nx := 83) rfl rfl rfl rfl ?_
                  refine ev_anyLE f_X12_odds (nx := 84) rfl rfl rfl rfl (fun z50 e50 => ?_)
                  have i50 : z50.toInt = ar2.toInt := by rw [e50]; exact Int32.toInt_toInt64 _
                  refine ev_qI f_X12_odds (nx := 87) (r := []) rfl rfl rfl rfl rfl rfl rfl (c_g_tellsBy hI (z49) (z50) (by omega) (by omega)) rfl hX rfl (fun w51 gi51 gl51 gr51 l51 u51 hI hX hC51 q51 => ?_)
                  have q51 : (gi51 69 2).toInt = 0 := q51
                  exact ev_retZ f_X12_odds rfl (Int.le_trans (by decide : (0:Int) ≤ 1) l51) u51 ⟨_, _, _, rfl, hI, hX, ⟨_, rfl, (Int.le_trans (by decide : (0:Int) ≤ 1) l51), u51, (show (¬ (0 ≤ ar1.toInt ∧ ar1.toInt ≤ 9999 ∧ 1 ≤ ar2.toInt ∧ ar2.toInt ≤ 20 ∧ ar1.toInt + ar2.toInt ≤ 10000) → (gi51 69 2).toInt = 1) ∧ ((0 ≤ ar1.toInt ∧ ar1.toInt ≤ 9999 ∧ 1 ≤ ar2.toInt ∧ ar2.toInt ≤ 20 ∧ ar1.toInt + ar2.toInt ≤ 10000) → (¬ (gi 70 8).toInt ≠ 0 → (gi51 69 2).toInt = 6) ∧ ((gi 70 8).toInt ≠ 0 → (gi51 69 2).toInt = 0)) from ⟨fun h => (by omega), fun h => ⟨fun h2 => (by omega), fun h2 => (by omega)⟩⟩)⟩⟩
                · have r53 : y45_4.toInt < ar2.toInt := Int32.lt_iff_toInt_lt.mp (t_nle h46)
                  have u54 : y45_4.toInt ≤ 19 := t_ltu (t_nle h46) u31 rfl
                  refine ev_loc f_X12_odds (nx := 44) rfl rfl rfl rfl ?_
                  refine ev_loc f_X12_odds (nx := 45) rfl rfl rfl rfl ?_
                  refine ev_loc f_X12_odds (nx := 47) rfl rfl rfl rfl ?_
                  refine ev_addR f_X12_odds (nx := 48) (l := 0) (u := 10018) rfl l9 u16 l45_4 u54 rfl rfl (by decide) (by decide) rfl (fun z55 e55 l55 u55 => ?_)
                  refine ev_c0 f_X12_odds (nx := 51) (r := []) rfl rfl rfl rfl rfl rfl rfl (c_m_keeps hI (z55) j45_0) rfl hX rfl (fun gi56 gl56 gr56 hI hX hC56 => ?_)
                  refine ev_loc f_X12_odds (nx := 52) rfl rfl rfl rfl ?_
                  refine ev_loc f_X12_odds (nx := 53) rfl rfl rfl rfl ?_
                  refine ev_getI f_X12_odds (nx := 56) rfl (hI.wf.s rfl) rfl rfl rfl ?_
                  refine ev_if f_X12_odds (t1 := 59) (t2 := 70) rfl rfl rfl (fun h57 => ?_) (fun h57 => ?_)
                  · have u58 : (gi56 69 67).toInt ≤ 0 := t_equ h57 (by decide : (0:Int32).toInt ≤ (0:Int))
                    have l59 : 0 ≤ (gi56 69 67).toInt := t_eql h57 (by decide : (0:Int) ≤ (0:Int32).toInt)
                    refine ev_loc f_X12_odds (nx := 60) rfl rfl rfl rfl ?_
                    refine ev_cI f_X12_odds (nx := 63) (r := [.int y45_3]) rfl rfl rfl rfl rfl rfl rfl (c_m_leftOver hI ) rfl hX rfl (fun w60 gi60 gl60 gr60 l60 u60 hI hX hC60 => ?_)
                    refine ev_if f_X12_odds (t1 := 66) (t2 := 70) rfl rfl rfl (fun h61 => ?_) (fun h61 => ?_)
                    · have u62 : w60.toInt ≤ 0 := t_equ h61 (by decide : (0:Int32).toInt ≤ (0:Int))
                      have l63 : 0 ≤ w60.toInt := t_eql h61 (by decide : (0:Int) ≤ (0:Int32).toInt)
                      refine ev_ic f_X12_odds (nx := 67) (v := 1) rfl (by decide) rfl ?_
                      refine ev_jmp f_X12_odds (nx := 71) rfl rfl rfl ?_
                      refine ev_addC f_X12_odds (nx := 72) (c := 1) (l := 1) (u := 21) rfl (by decide) l45_3 u45_3 rfl rfl (by decide) (by decide) rfl (fun z64 e64 l64 u64 => ?_)
                      refine ev_loc f_X12_odds (nx := 73) (lo' := [(3, .int z64), (4, .int y45_4), (0, .ref 69), (1, .int ar1), (2, .int ar2)]) rfl rfl rfl rfl ?_
                      refine ev_incR f_X12_odds (nx := 76) (c := 1) (l := 1) (u := 20) rfl rfl (by decide) (by decide) l45_4 u54 rfl rfl (by decide) (by decide) rfl (fun z65 e65 l65 u65 => ?_)
                      refine ev_jmp f_X12_odds (nx := 37) rfl rfl rfl ?_
                      refine ev_sub (lo := [(4, .int z65), (3, .int z64), (0, .ref 69), (1, .int ar1), (2, .int ar2)]) rfl (t_sc rfl (t_sc rfl (t_sc rfl (t_sc rfl (t_sc rfl t_sn))))) ?_
                      exact ih45 _ (by omega) gi60 gl60 gr60 (z65) (z64) hI hX  (Int.le_trans (by decide : (0:Int) ≤ 1) l65) u65 (Int.le_trans (by decide : (0:Int) ≤ 1) l64) (by omega : z64.toInt ≤ (20:Int)) ((hC60.1 69 2 rfl).1.trans ((hC56.1 69 2 rfl).1.trans c45_0)) ((hC60.1 70 8 rfl).1.trans ((hC56.1 70 8 rfl).1.trans c45_1)) (by have hq := ((funext (fun j => (hC60.1 70 j rfl).1) : gi60 70 = gi56 70).trans ((funext (fun j => (hC56.1 70 j rfl).1) : gi56 70 = gi45 70))); rw [hq]; exact j45_0) (by omega) (by omega) rfl
                    · have r66 : w60.toInt ≠ 0 := fun e => h61 (Int32.toInt_inj.mp (e.trans (by decide : (0:Int) = (0 : Int32).toInt)))
                      refine ev_ic f_X12_odds (nx := 71) (v := 0) rfl (by decide) rfl ?_
                      refine ev_addC f_X12_odds (nx := 72) (c := 0) (l := 0) (u := 20) rfl (by decide) l45_3 u45_3 rfl rfl (by decide) (by decide) rfl (fun z67 e67 l67 u67 => ?_)
                      refine ev_loc f_X12_odds (nx := 73) (lo' := [(3, .int z67), (4, .int y45_4), (0, .ref 69), (1, .int ar1), (2, .int ar2)]) rfl rfl rfl rfl ?_
                      refine ev_incR f_X12_odds (nx := 76) (c := 1) (l := 1) (u := 20) rfl rfl (by decide) (by decide) l45_4 u54 rfl rfl (by decide) (by decide) rfl (fun z68 e68 l68 u68 => ?_)
                      refine ev_jmp f_X12_odds (nx := 37) rfl rfl rfl ?_
                      refine ev_sub (lo := [(4, .int z68), (3, .int z67), (0, .ref 69), (1, .int ar1), (2, .int ar2)]) rfl (t_sc rfl (t_sc rfl (t_sc rfl (t_sc rfl (t_sc rfl t_sn))))) ?_
                      exact ih45 _ (by omega) gi60 gl60 gr60 (z68) (z67) hI hX  (Int.le_trans (by decide : (0:Int) ≤ 1) l68) u68 l67 u67 ((hC60.1 69 2 rfl).1.trans ((hC56.1 69 2 rfl).1.trans c45_0)) ((hC60.1 70 8 rfl).1.trans ((hC56.1 70 8 rfl).1.trans c45_1)) (by have hq := ((funext (fun j => (hC60.1 70 j rfl).1) : gi60 70 = gi56 70).trans ((funext (fun j => (hC56.1 70 j rfl).1) : gi56 70 = gi45 70))); rw [hq]; exact j45_0) (by omega) (by omega) rfl
                  · have r69 : (gi56 69 67).toInt ≠ 0 := fun e => h57 (Int32.toInt_inj.mp (e.trans (by decide : (0:Int) = (0 : Int32).toInt)))
                    refine ev_ic f_X12_odds (nx := 71) (v := 0) rfl (by decide) rfl ?_
                    refine ev_addC f_X12_odds (nx := 72) (c := 0) (l := 0) (u := 20) rfl (by decide) l45_3 u45_3 rfl rfl (by decide) (by decide) rfl (fun z70 e70 l70 u70 => ?_)
                    refine ev_loc f_X12_odds (nx := 73) (lo' := [(3, .int z70), (4, .int y45_4), (0, .ref 69), (1, .int ar1), (2, .int ar2)]) rfl rfl rfl rfl ?_
                    refine ev_incR f_X12_odds (nx := 76) (c := 1) (l := 1) (u := 20) rfl rfl (by decide) (by decide) l45_4 u54 rfl rfl (by decide) (by decide) rfl (fun z71 e71 l71 u71 => ?_)
                    refine ev_jmp f_X12_odds (nx := 37) rfl rfl rfl ?_
                    refine ev_sub (lo := [(4, .int z71), (3, .int z70), (0, .ref 69), (1, .int ar1), (2, .int ar2)]) rfl (t_sc rfl (t_sc rfl (t_sc rfl (t_sc rfl (t_sc rfl t_sn))))) ?_
                    exact ih45 _ (by omega) gi56 gl56 gr56 (z71) (z70) hI hX  (Int.le_trans (by decide : (0:Int) ≤ 1) l71) u71 l70 u70 ((hC56.1 69 2 rfl).1.trans c45_0) ((hC56.1 70 8 rfl).1.trans c45_1) (by have hq := ((funext (fun j => (hC56.1 70 j rfl).1) : gi56 70 = gi45 70)); rw [hq]; exact j45_0) (by omega) (by omega) rfl
              refine ev_sub (lo := [(4, .int 0), (3, .int 0), (0, .ref 69), (1, .int ar1), (2, .int ar2)]) rfl (t_sc rfl (t_sc rfl (t_sc rfl (t_sc rfl (t_sc rfl t_sn))))) ?_
              exact L45 _ gi gl gr (0) (0) hI hX  (by decide : (0:Int) ≤ (0:Int32).toInt) (Int.le_trans (by decide : (0:Int32).toInt ≤ (0:Int)) (by decide : (0:Int) ≤ 20)) (by decide : (0:Int) ≤ (0:Int32).toInt) (Int.le_trans (by decide : (0:Int32).toInt ≤ (0:Int)) (by decide : (0:Int) ≤ 20)) rfl rfl e_p0 (by have kf72 : (0 : Int32).toInt = 0 := (by decide); omega) (by have kf73 : (0 : Int32).toInt = 0 := (by decide); omega) rfl
noncomputable def wl_g_waits : List (Nat × Nat) := [(69, 2), (69, 44), (69, 45), (69, 58), (69, 59), (69, 60), (69, 61), (69, 62), (69, 63), (69, 64), (69, 65), (69, 66), (69, 67), (69, 68), (69, 69), (69, 70), (89, 10005), (89, 610011), (90, 9999), (91, 9999), (99, 9999), (100, 9999)]
noncomputable def Q_g_waits (gi : Nat → Nat → Int32) (gl : Nat → Nat → Int64) (gr : Nat → Nat → Value) (ar1 : Int32) (ar2 : Int32) : Int32 → (Nat → Nat → Int32) → (Nat → Nat → Int64) → (Nat → Nat → Value) → Prop := fun (v : Int32) (gi2 : Nat → Nat → Int32) (gl2 : Nat → Nat → Int64) (gr2 : Nat → Nat → Value) => (¬ (0 ≤ ar1.toInt ∧ ar1.toInt ≤ 9999 ∧ 1 ≤ ar2.toInt ∧ ar2.toInt ≤ 20 ∧ ar1.toInt + ar2.toInt ≤ 10000) → (gi2 69 2).toInt = 1) ∧ ((0 ≤ ar1.toInt ∧ ar1.toInt ≤ 9999 ∧ 1 ≤ ar2.toInt ∧ ar2.toInt ≤ 20 ∧ ar1.toInt + ar2.toInt ≤ 10000) → (¬ (gi 70 8).toInt ≠ 0 → (gi2 69 2).toInt = 6) ∧ ((gi 70 8).toInt ≠ 0 → (gi2 69 2).toInt = 0))
theorem c_g_waits {X : x_Ext} {d : Nat} {sh : List (Nat ⊕ (Nat × Nat))} {gi : Nat → Nat → Int32} {gl : Nat → Nat → Int64} {gr : Nat → Nat → Value} (hI : t_I sh gi gr) (ar1 : Int32) (ar2 : Int32) (e_p0 : t_rpn (gi 70) 0) : x_Me X (d + 7) n_X12_waits [.ref 69, .int ar1, .int ar2] (sh, gi, gl, gr) (t_PI wl_g_waits sh gi gl gr (-2147483648) 2147483647 (Q_g_waits gi gl gr ar1 ar2)) := by
  have hX : t_X wl_g_waits sh gi gl gr gi gl gr := t_X.rf
  refine me_i f_X12_waits (hI.wf.s rfl) rfl rfl rfl ?_
  obtain ⟨l2, u2⟩ := hI.ab (by decide +kernel : t_abr 70 8 8 0 1 = true) (Nat.le_refl _) (Nat.le_refl _)
  refine ev_loc f_X12_waits (nx := 1) rfl rfl rfl rfl ?_
  refine ev_loc f_X12_waits (nx := 2) rfl rfl rfl rfl ?_
  refine ev_loc f_X12_waits (nx := 3) rfl rfl rfl rfl ?_
  refine ev_inV3 f_X12_waits (nx := 6) (lo2 := [(0, .ref 69), (1, .int ar1), (2, .int ar2)]) rfl rfl rfl rfl f_X12_areSeeds (hI.wf.s rfl) rfl rfl rfl rfl rfl ?_
  refine ev_loc f_X12_areSeeds (nx := 1) rfl rfl rfl rfl ?_
  refine ev_anyLE f_X12_areSeeds (nx := 2) rfl rfl rfl rfl (fun z3 e3 => ?_)
  have i3 : z3.toInt = ar1.toInt := by rw [e3]; exact Int32.toInt_toInt64 _
  refine ev_lc f_X12_areSeeds (nx := 3) (v := 0) rfl (by decide) rfl ?_
  refine ev_ldL f_X12_areSeeds (nx := 6) (v := 9999) rfl (by decide) rfl ?_
  refine ev_inS3 f_X12_areSeeds (nx := 9) (lo2 := [(0, .long z3), (2, .long 0), (4, .long 9999)]) rfl rfl rfl rfl f_X12_isFrom rfl rfl rfl rfl ?_
  refine ev_loc f_X12_isFrom (nx := 1) rfl rfl rfl rfl ?_
  refine ev_loc f_X12_isFrom (nx := 2) rfl rfl rfl rfl ?_
  refine ev_anyIE f_X12_isFrom (nx := 3) rfl rfl rfl rfl (fun z4 e4 => ?_)
  refine ev_if f_X12_isFrom (t1 := 17) (t2 := 6) rfl rfl rfl (fun h5 => ?_) (fun h5 => ?_)
  · have u6 : ar1.toInt ≤ ((-1):Int) := Int.le_sub_one_of_lt ((lgc_lt (by decide : (0 : Int64).toInt = 0)).mp (by have hh := h5; rw [e4, e3] at hh; exact hh))
    have u7 : z4.toInt ≤ (-1) := t_ltu h5 (by decide : (0:Int32).toInt ≤ (0:Int)) rfl
    refine ev_ic f_X12_isFrom (nx := 18) (v := 0) rfl (by decide) rfl ?_
    refine ev_retK1 f_X12_isFrom rfl rfl rfl ?_
    refine ev_t f_X12_areSeeds (t1 := 39) (t2 := 12) rfl rfl rfl (by decide) ?_
    refine ev_ic f_X12_areSeeds (nx := 40) (v := 0) rfl (by decide) rfl ?_
    refine ev_retK1 f_X12_areSeeds rfl rfl rfl ?_
    refine ev_t f_X12_waits (t1 := 9) (t2 := 15) rfl rfl rfl (by decide) ?_
    refine ev_loc f_X12_waits (nx := 10) rfl rfl rfl rfl ?_
    refine ev_ic f_X12_waits (nx := 11) (v := 1) rfl (by decide) rfl ?_
    refine ev_inV2 f_X12_waits (nx := 14) (lo2 := [(0, .ref 69), (1, .int 1)]) rfl rfl rfl rfl f_X12_refuse (hI.wf.s rfl) rfl rfl rfl rfl rfl ?_
    refine ev_loc f_X12_refuse (nx := 1) rfl rfl rfl rfl ?_
    refine ev_loc f_X12_refuse (nx := 2) rfl rfl rfl rfl ?_
    refine ev_putIT f_X12_refuse (nx := 5) rfl (hI.wf.s rfl) rfl rfl rfl (hI.put0 (hI.wf.s rfl) rfl rfl) (hX.upI rfl) (fun g8 e8 hI hX => ?_)
    refine ev_ic f_X12_refuse (nx := 6) (v := -1) rfl (by decide) rfl ?_
    refine ev_retK1 f_X12_refuse rfl rfl rfl ?_
    exact ev_ret f_X12_waits rfl rfl rfl ⟨_, _, _, rfl, hI, hX, ⟨_, rfl, (Int.le_trans (by decide : ((-2147483648):Int) ≤ (-1)) (by decide : ((-1):Int) ≤ ((-1):Int32).toInt)), (Int.le_trans (by decide : ((-1):Int32).toInt ≤ ((-1):Int)) (by decide : ((-1):Int) ≤ 2147483647)), (show (¬ (0 ≤ ar1.toInt ∧ ar1.toInt ≤ 9999 ∧ 1 ≤ ar2.toInt ∧ ar2.toInt ≤ 20 ∧ ar1.toInt + ar2.toInt ≤ 10000) → (g8 69 2).toInt = 1) ∧ ((0 ≤ ar1.toInt ∧ ar1.toInt ≤ 9999 ∧ 1 ≤ ar2.toInt ∧ ar2.toInt ≤ 20 ∧ ar1.toInt + ar2.toInt ≤ 10000) → (¬ (gi 70 8).toInt ≠ 0 → (g8 69 2).toInt = 6) ∧ ((gi 70 8).toInt ≠ 0 → (g8 69 2).toInt = 0)) from ⟨fun h => (by have ffs : (g8 69 2).toInt = 1 := (congrArg Int32.toInt (by rw [e8]; exact x_up2_at _ _ _ _ : g8 69 2 = 1)).trans (by decide); omega), fun h => ⟨fun h2 => (by have ffs : (g8 69 2).toInt = 1 := (congrArg Int32.toInt (by rw [e8]; exact x_up2_at _ _ _ _ : g8 69 2 = 1)).trans (by decide); omega), fun h2 => (by have ffs : (g8 69 2).toInt = 1 := (congrArg Int32.toInt (by rw [e8]; exact x_up2_at _ _ _ _ : g8 69 2 = 1)).trans (by decide); omega)⟩⟩)⟩⟩
  · have l9 : (0:Int) ≤ ar1.toInt := (lgc_ge (by decide : (0 : Int64).toInt = 0)).mp (by have hh := (t_nlt h5); rw [e4, e3] at hh; exact hh)
    have l10 : 0 ≤ z4.toInt := t_lel (t_nlt h5) (by decide : (0:Int) ≤ (0:Int32).toInt)
    refine ev_loc f_X12_isFrom (nx := 7) rfl rfl rfl rfl ?_
    refine ev_loc f_X12_isFrom (nx := 9) rfl rfl rfl rfl ?_
    refine ev_anyIE f_X12_isFrom (nx := 10) rfl rfl rfl rfl (fun z11 e11 => ?_)
    refine ev_if f_X12_isFrom (t1 := 17) (t2 := 13) rfl rfl rfl (fun h12 => ?_) (fun h12 => ?_)
    · have l13 : (10000:Int) ≤ ar1.toInt := Int.add_one_le_of_lt ((lgc_gt (by decide : (9999 : Int64).toInt = 9999)).mp (by have hh := h12; rw [e11, e3] at hh; exact hh))
      have l14 : 1 ≤ z11.toInt := t_ltl h12 (by decide : (0:Int) ≤ (0:Int32).toInt) rfl
      refine ev_ic f_X12_isFrom (nx := 18) (v := 0) rfl (by decide) rfl ?_
      refine ev_retK1 f_X12_isFrom rfl rfl rfl ?_
      refine ev_t f_X12_areSeeds (t1 := 39) (t2 := 12) rfl rfl rfl (by decide) ?_
      refine ev_ic f_X12_areSeeds (nx := 40) (v := 0) rfl (by decide) rfl ?_
      refine ev_retK1 f_X12_areSeeds rfl rfl rfl ?_
      refine ev_t f_X12_waits (t1 := 9) (t2 := 15) rfl rfl rfl (by decide) ?_
      refine ev_loc f_X12_waits (nx := 10) rfl rfl rfl rfl ?_
      refine ev_ic f_X12_waits (nx := 11) (v := 1) rfl (by decide) rfl ?_
      refine ev_inV2 f_X12_waits (nx := 14) (lo2 := [(0, .ref 69), (1, .int 1)]) rfl rfl rfl rfl f_X12_refuse (hI.wf.s rfl) rfl rfl rfl rfl rfl ?_
      refine ev_loc f_X12_refuse (nx := 1) rfl rfl rfl rfl ?_
      refine ev_loc f_X12_refuse (nx := 2) rfl rfl rfl rfl ?_
      refine ev_putIT f_X12_refuse (nx := 5) rfl (hI.wf.s rfl) rfl rfl rfl (hI.put0 (hI.wf.s rfl) rfl rfl) (hX.upI rfl) (fun g15 e15 hI hX => ?_)
      refine ev_ic f_X12_refuse (nx := 6) (v := -1) rfl (by decide) rfl ?_
      refine ev_retK1 f_X12_refuse rfl rfl rfl ?_
      exact ev_ret f_X12_waits rfl rfl rfl ⟨_, _, _, rfl, hI, hX, ⟨_, rfl, (Int.le_trans (by decide : ((-2147483648):Int) ≤ (-1)) (by decide : ((-1):Int) ≤ ((-1):Int32).toInt)), (Int.le_trans (by decide : ((-1):Int32).toInt ≤ ((-1):Int)) (by decide : ((-1):Int) ≤ 2147483647)), (show (¬ (0 ≤ ar1.toInt ∧ ar1.toInt ≤ 9999 ∧ 1 ≤ ar2.toInt ∧ ar2.toInt ≤ 20 ∧ ar1.toInt + ar2.toInt ≤ 10000) → (g15 69 2).toInt = 1) ∧ ((0 ≤ ar1.toInt ∧ ar1.toInt ≤ 9999 ∧ 1 ≤ ar2.toInt ∧ ar2.toInt ≤ 20 ∧ ar1.toInt + ar2.toInt ≤ 10000) → (¬ (gi 70 8).toInt ≠ 0 → (g15 69 2).toInt = 6) ∧ ((gi 70 8).toInt ≠ 0 → (g15 69 2).toInt = 0)) from ⟨fun h => (by have ffs : (g15 69 2).toInt = 1 := (congrArg Int32.toInt (by rw [e15]; exact x_up2_at _ _ _ _ : g15 69 2 = 1)).trans (by decide); omega), fun h => ⟨fun h2 => (by have ffs : (g15 69 2).toInt = 1 := (congrArg Int32.toInt (by rw [e15]; exact x_up2_at _ _ _ _ : g15 69 2 = 1)).trans (by decide); omega), fun h2 => (by have ffs : (g15 69 2).toInt = 1 := (congrArg Int32.toInt (by rw [e15]; exact x_up2_at _ _ _ _ : g15 69 2 = 1)).trans (by decide); omega)⟩⟩)⟩⟩
    · have u16 : ar1.toInt ≤ (9999:Int) := (lgc_le (by decide : (9999 : Int64).toInt = 9999)).mp (by have hh := (t_nlt h12); rw [e11, e3] at hh; exact hh)
      have u17 : z11.toInt ≤ 0 := t_leu (t_nlt h12) (by decide : (0:Int32).toInt ≤ (0:Int))
      refine ev_ic f_X12_isFrom (nx := 14) (v := 1) rfl (by decide) rfl ?_
      refine ev_jmp f_X12_isFrom (nx := 18) rfl rfl rfl ?_
      refine ev_retK1 f_X12_isFrom rfl rfl rfl ?_
      refine ev_f f_X12_areSeeds (t1 := 39) (t2 := 12) rfl rfl rfl (by decide) ?_
      refine ev_loc f_X12_areSeeds (nx := 13) rfl rfl rfl rfl ?_
      refine ev_anyLE f_X12_areSeeds (nx := 14) rfl rfl rfl rfl (fun z18 e18 => ?_)
      have i18 : z18.toInt = ar2.toInt := by rw [e18]; exact Int32.toInt_toInt64 _
      refine ev_lc f_X12_areSeeds (nx := 15) (v := 1) rfl (by decide) rfl ?_
      refine ev_ldL f_X12_areSeeds (nx := 18) (v := 20) rfl (by decide) rfl ?_
      refine ev_inS3 f_X12_areSeeds (nx := 21) (lo2 := [(0, .long z18), (2, .long 1), (4, .long 20)]) rfl rfl rfl rfl f_X12_isFrom rfl rfl rfl rfl ?_
      refine ev_loc f_X12_isFrom (nx := 1) rfl rfl rfl rfl ?_
      refine ev_loc f_X12_isFrom (nx := 2) rfl rfl rfl rfl ?_
      refine ev_anyIE f_X12_isFrom (nx := 3) rfl rfl rfl rfl (fun z19 e19 => ?_)
      refine ev_if f_X12_isFrom (t1 := 17) (t2 := 6) rfl rfl rfl (fun h20 => ?_) (fun h20 => ?_)
      · have u21 : ar2.toInt ≤ (0:Int) := Int.le_sub_one_of_lt ((lgc_lt (by decide : (1 : Int64).toInt = 1)).mp (by have hh := h20; rw [e19, e18] at hh; exact hh))
        have u22 : z19.toInt ≤ (-1) := t_ltu h20 (by decide : (0:Int32).toInt ≤ (0:Int)) rfl
        refine ev_ic f_X12_isFrom (nx := 18) (v := 0) rfl (by decide) rfl ?_
        refine ev_retK1 f_X12_isFrom rfl rfl rfl ?_
        refine ev_t f_X12_areSeeds (t1 := 39) (t2 := 24) rfl rfl rfl (by decide) ?_
        refine ev_ic f_X12_areSeeds (nx := 40) (v := 0) rfl (by decide) rfl ?_
        refine ev_retK1 f_X12_areSeeds rfl rfl rfl ?_
        refine ev_t f_X12_waits (t1 := 9) (t2 := 15) rfl rfl rfl (by decide) ?_
        refine ev_loc f_X12_waits (nx := 10) rfl rfl rfl rfl ?_
        refine ev_ic f_X12_waits (nx := 11) (v := 1) rfl (by decide) rfl ?_
        refine ev_inV2 f_X12_waits (nx := 14) (lo2 := [(0, .ref 69), (1, .int 1)]) rfl rfl rfl rfl f_X12_refuse (hI.wf.s rfl) rfl rfl rfl rfl rfl ?_
        refine ev_loc f_X12_refuse (nx := 1) rfl rfl rfl rfl ?_
        refine ev_loc f_X12_refuse (nx := 2) rfl rfl rfl rfl ?_
        refine ev_putIT f_X12_refuse (nx := 5) rfl (hI.wf.s rfl) rfl rfl rfl (hI.put0 (hI.wf.s rfl) rfl rfl) (hX.upI rfl) (fun g23 e23 hI hX => ?_)
        refine ev_ic f_X12_refuse (nx := 6) (v := -1) rfl (by decide) rfl ?_
        refine ev_retK1 f_X12_refuse rfl rfl rfl ?_
        exact ev_ret f_X12_waits rfl rfl rfl ⟨_, _, _, rfl, hI, hX, ⟨_, rfl, (Int.le_trans (by decide : ((-2147483648):Int) ≤ (-1)) (by decide : ((-1):Int) ≤ ((-1):Int32).toInt)), (Int.le_trans (by decide : ((-1):Int32).toInt ≤ ((-1):Int)) (by decide : ((-1):Int) ≤ 2147483647)), (show (¬ (0 ≤ ar1.toInt ∧ ar1.toInt ≤ 9999 ∧ 1 ≤ ar2.toInt ∧ ar2.toInt ≤ 20 ∧ ar1.toInt + ar2.toInt ≤ 10000) → (g23 69 2).toInt = 1) ∧ ((0 ≤ ar1.toInt ∧ ar1.toInt ≤ 9999 ∧ 1 ≤ ar2.toInt ∧ ar2.toInt ≤ 20 ∧ ar1.toInt + ar2.toInt ≤ 10000) → (¬ (gi 70 8).toInt ≠ 0 → (g23 69 2).toInt = 6) ∧ ((gi 70 8).toInt ≠ 0 → (g23 69 2).toInt = 0)) from ⟨fun h => (by have ffs : (g23 69 2).toInt = 1 := (congrArg Int32.toInt (by rw [e23]; exact x_up2_at _ _ _ _ : g23 69 2 = 1)).trans (by decide); omega), fun h => ⟨fun h2 => (by have ffs : (g23 69 2).toInt = 1 := (congrArg Int32.toInt (by rw [e23]; exact x_up2_at _ _ _ _ : g23 69 2 = 1)).trans (by decide); omega), fun h2 => (by have ffs : (g23 69 2).toInt = 1 := (congrArg Int32.toInt (by rw [e23]; exact x_up2_at _ _ _ _ : g23 69 2 = 1)).trans (by decide); omega)⟩⟩)⟩⟩
      · have l24 : (1:Int) ≤ ar2.toInt := (lgc_ge (by decide : (1 : Int64).toInt = 1)).mp (by have hh := (t_nlt h20); rw [e19, e18] at hh; exact hh)
        have l25 : 0 ≤ z19.toInt := t_lel (t_nlt h20) (by decide : (0:Int) ≤ (0:Int32).toInt)
        refine ev_loc f_X12_isFrom (nx := 7) rfl rfl rfl rfl ?_
        refine ev_loc f_X12_isFrom (nx := 9) rfl rfl rfl rfl ?_
        refine ev_anyIE f_X12_isFrom (nx := 10) rfl rfl rfl rfl (fun z26 e26 => ?_)
        refine ev_if f_X12_isFrom (t1 := 17) (t2 := 13) rfl rfl rfl (fun h27 => ?_) (fun h27 => ?_)
        · have l28 : (21:Int) ≤ ar2.toInt := Int.add_one_le_of_lt ((lgc_gt (by decide : (20 : Int64).toInt = 20)).mp (by have hh := h27; rw [e26, e18] at hh; exact hh))
          have l29 : 1 ≤ z26.toInt := t_ltl h27 (by decide : (0:Int) ≤ (0:Int32).toInt) rfl
          refine ev_ic f_X12_isFrom (nx := 18) (v := 0) rfl (by decide) rfl ?_
          refine ev_retK1 f_X12_isFrom rfl rfl rfl ?_
          refine ev_t f_X12_areSeeds (t1 := 39) (t2 := 24) rfl rfl rfl (by decide) ?_
          refine ev_ic f_X12_areSeeds (nx := 40) (v := 0) rfl (by decide) rfl ?_
          refine ev_retK1 f_X12_areSeeds rfl rfl rfl ?_
          refine ev_t f_X12_waits (t1 := 9) (t2 := 15) rfl rfl rfl (by decide) ?_
          refine ev_loc f_X12_waits (nx := 10) rfl rfl rfl rfl ?_
          refine ev_ic f_X12_waits (nx := 11) (v := 1) rfl (by decide) rfl ?_
          refine ev_inV2 f_X12_waits (nx := 14) (lo2 := [(0, .ref 69), (1, .int 1)]) rfl rfl rfl rfl f_X12_refuse (hI.wf.s rfl) rfl rfl rfl rfl rfl ?_
          refine ev_loc f_X12_refuse (nx := 1) rfl rfl rfl rfl ?_
          refine ev_loc f_X12_refuse (nx := 2) rfl rfl rfl rfl ?_
          refine ev_putIT f_X12_refuse (nx := 5) rfl (hI.wf.s rfl) rfl rfl rfl (hI.put0 (hI.wf.s rfl) rfl rfl) (hX.upI rfl) (fun g30 e30 hI hX => ?_)
          refine ev_ic f_X12_refuse (nx := 6) (v := -1) rfl (by decide) rfl ?_
          refine ev_retK1 f_X12_refuse rfl rfl rfl ?_
          exact ev_ret f_X12_waits rfl rfl rfl ⟨_, _, _, rfl, hI, hX, ⟨_, rfl, (Int.le_trans (by decide : ((-2147483648):Int) ≤ (-1)) (by decide : ((-1):Int) ≤ ((-1):Int32).toInt)), (Int.le_trans (by decide : ((-1):Int32).toInt ≤ ((-1):Int)) (by decide : ((-1):Int) ≤ 2147483647)), (show (¬ (0 ≤ ar1.toInt ∧ ar1.toInt ≤ 9999 ∧ 1 ≤ ar2.toInt ∧ ar2.toInt ≤ 20 ∧ ar1.toInt + ar2.toInt ≤ 10000) → (g30 69 2).toInt = 1) ∧ ((0 ≤ ar1.toInt ∧ ar1.toInt ≤ 9999 ∧ 1 ≤ ar2.toInt ∧ ar2.toInt ≤ 20 ∧ ar1.toInt + ar2.toInt ≤ 10000) → (¬ (gi 70 8).toInt ≠ 0 → (g30 69 2).toInt = 6) ∧ ((gi 70 8).toInt ≠ 0 → (g30 69 2).toInt = 0)) from ⟨fun h => (by have ffs : (g30 69 2).toInt = 1 := (congrArg Int32.toInt (by rw [e30]; exact x_up2_at _ _ _ _ : g30 69 2 = 1)).trans (by decide); omega), fun h => ⟨fun h2 => (by have ffs : (g30 69 2).toInt = 1 := (congrArg Int32.toInt (by rw [e30]; exact x_up2_at _ _ _ _ : g30 69 2 = 1)).trans (by decide); omega), fun h2 => (by have ffs : (g30 69 2).toInt = 1 := (congrArg Int32.toInt (by rw [e30]; exact x_up2_at _ _ _ _ : g30 69 2 = 1)).trans (by decide); omega)⟩⟩)⟩⟩
        · have u31 : ar2.toInt ≤ (20:Int) := (lgc_le (by decide : (20 : Int64).toInt = 20)).mp (by have hh := (t_nlt h27); rw [e26, e18] at hh; exact hh)
          have u32 : z26.toInt ≤ 0 := t_leu (t_nlt h27) (by decide : (0:Int32).toInt ≤ (0:Int))
          refine ev_ic f_X12_isFrom (nx := 14) (v := 1) rfl (by decide) rfl ?_
          refine ev_jmp f_X12_isFrom (nx := 18) rfl rfl rfl ?_
          refine ev_retK1 f_X12_isFrom rfl rfl rfl ?_
          refine ev_f f_X12_areSeeds (t1 := 39) (t2 := 24) rfl rfl rfl (by decide) ?_
          refine ev_loc f_X12_areSeeds (nx := 25) rfl rfl rfl rfl ?_
          refine ev_loc f_X12_areSeeds (nx := 26) rfl rfl rfl rfl ?_
          refine ev_addR f_X12_areSeeds (nx := 27) (l := 1) (u := 10019) rfl l9 u16 l24 u31 rfl rfl (by decide) (by decide) rfl (fun z33 e33 l33 u33 => ?_)
          refine ev_ic f_X12_areSeeds (nx := 28) (v := 1) rfl (by decide) rfl ?_
          refine ev_subC f_X12_areSeeds (nx := 29) (c := 1) (l := 0) (u := 10018) rfl (by decide) l33 u33 rfl rfl (by decide) (by decide) rfl (fun z34 e34 l34 u34 => ?_)
          refine ev_sp f_X12_areSeeds (nx := 32) (v := 9999) rfl (by decide) rfl ?_
          refine ev_if f_X12_areSeeds (t1 := 39) (t2 := 35) rfl rfl rfl (fun h35 => ?_) (fun h35 => ?_)
          · have l36 : 10000 ≤ z34.toInt := t_ltl h35 (by decide : (9999:Int) ≤ (9999:Int32).toInt) rfl
            refine ev_ic f_X12_areSeeds (nx := 40) (v := 0) rfl (by decide) rfl ?_
            refine ev_retK1 f_X12_areSeeds rfl rfl rfl ?_
            refine ev_t f_X12_waits (t1 := 9) (t2 := 15) rfl rfl rfl (by decide) ?_
            refine ev_loc f_X12_waits (nx := 10) rfl rfl rfl rfl ?_
            refine ev_ic f_X12_waits (nx := 11) (v := 1) rfl (by decide) rfl ?_
            refine ev_inV2 f_X12_waits (nx := 14) (lo2 := [(0, .ref 69), (1, .int 1)]) rfl rfl rfl rfl f_X12_refuse (hI.wf.s rfl) rfl rfl rfl rfl rfl ?_
            refine ev_loc f_X12_refuse (nx := 1) rfl rfl rfl rfl ?_
            refine ev_loc f_X12_refuse (nx := 2) rfl rfl rfl rfl ?_
            refine ev_putIT f_X12_refuse (nx := 5) rfl (hI.wf.s rfl) rfl rfl rfl (hI.put0 (hI.wf.s rfl) rfl rfl) (hX.upI rfl) (fun g37 e37 hI hX => ?_)
            refine ev_ic f_X12_refuse (nx := 6) (v := -1) rfl (by decide) rfl ?_
            refine ev_retK1 f_X12_refuse rfl rfl rfl ?_
            exact ev_ret f_X12_waits rfl rfl rfl ⟨_, _, _, rfl, hI, hX, ⟨_, rfl, (Int.le_trans (by decide : ((-2147483648):Int) ≤ (-1)) (by decide : ((-1):Int) ≤ ((-1):Int32).toInt)), (Int.le_trans (by decide : ((-1):Int32).toInt ≤ ((-1):Int)) (by decide : ((-1):Int) ≤ 2147483647)), (show (¬ (0 ≤ ar1.toInt ∧ ar1.toInt ≤ 9999 ∧ 1 ≤ ar2.toInt ∧ ar2.toInt ≤ 20 ∧ ar1.toInt + ar2.toInt ≤ 10000) → (g37 69 2).toInt = 1) ∧ ((0 ≤ ar1.toInt ∧ ar1.toInt ≤ 9999 ∧ 1 ≤ ar2.toInt ∧ ar2.toInt ≤ 20 ∧ ar1.toInt + ar2.toInt ≤ 10000) → (¬ (gi 70 8).toInt ≠ 0 → (g37 69 2).toInt = 6) ∧ ((gi 70 8).toInt ≠ 0 → (g37 69 2).toInt = 0)) from ⟨fun h => (by have ffs : (g37 69 2).toInt = 1 := (congrArg Int32.toInt (by rw [e37]; exact x_up2_at _ _ _ _ : g37 69 2 = 1)).trans (by decide); omega), fun h => ⟨fun h2 => (by have ffs : (g37 69 2).toInt = 1 := (congrArg Int32.toInt (by rw [e37]; exact x_up2_at _ _ _ _ : g37 69 2 = 1)).trans (by decide); omega), fun h2 => (by have ffs : (g37 69 2).toInt = 1 := (congrArg Int32.toInt (by rw [e37]; exact x_up2_at _ _ _ _ : g37 69 2 = 1)).trans (by decide); omega)⟩⟩)⟩⟩
          · have u38 : z34.toInt ≤ 9999 := t_leu (t_nlt h35) (by decide : (9999:Int32).toInt ≤ (9999:Int))
            refine ev_ic f_X12_areSeeds (nx := 36) (v := 1) rfl (by decide) rfl ?_
            refine ev_jmp f_X12_areSeeds (nx := 40) rfl rfl rfl ?_
            refine ev_retK1 f_X12_areSeeds rfl rfl rfl ?_
            refine ev_f f_X12_waits (t1 := 9) (t2 := 15) rfl rfl rfl (by decide) ?_
            refine ev_loc f_X12_waits (nx := 16) rfl rfl rfl rfl ?_
            refine ev_getR f_X12_waits (nx := 19) rfl (hI.wf.s rfl) rfl rfl (hI.wf.r rfl) rfl rfl ?_
            refine ev_bp f_X12_waits (nx := 21) (v := 8) rfl (by decide) rfl ?_
            refine ev_ialdv f_X12_waits (nx := 22) (w := (gi 70 8)) rfl (hI.wf.s rfl) (by decide) (rfl : (8 : Int32).toNatClampNeg = 8) (by decide) rfl rfl ?_
            refine ev_if f_X12_waits (t1 := 25) (t2 := 32) rfl rfl rfl (fun h40 => ?_) (fun h40 => ?_)
            · have u41 : (gi 70 8).toInt ≤ 0 := t_equ h40 (by decide : (0:Int32).toInt ≤ (0:Int))
              refine ev_loc f_X12_waits (nx := 26) rfl rfl rfl rfl ?_
              refine ev_bp f_X12_waits (nx := 28) (v := 6) rfl (by decide) rfl ?_
              refine ev_inV2 f_X12_waits (nx := 31) (lo2 := [(0, .ref 69), (1, .int 6)]) rfl rfl rfl rfl f_X12_refuse (hI.wf.s rfl) rfl rfl rfl rfl rfl ?_
              refine ev_loc f_X12_refuse (nx := 1) rfl rfl rfl rfl ?_
              refine ev_loc f_X12_refuse (nx := 2) rfl rfl rfl rfl ?_
              refine ev_putIT f_X12_refuse (nx := 5) rfl (hI.wf.s rfl) rfl rfl rfl (hI.put0 (hI.wf.s rfl) rfl rfl) (hX.upI rfl) (fun g42 e42 hI hX => ?_)
              refine ev_ic f_X12_refuse (nx := 6) (v := -1) rfl (by decide) rfl ?_
              refine ev_retK1 f_X12_refuse rfl rfl rfl ?_
              exact ev_ret f_X12_waits rfl rfl rfl ⟨_, _, _, rfl, hI, hX, ⟨_, rfl, (Int.le_trans (by decide : ((-2147483648):Int) ≤ (-1)) (by decide : ((-1):Int) ≤ ((-1):Int32).toInt)), (Int.le_trans (by decide : ((-1):Int32).toInt ≤ ((-1):Int)) (by decide : ((-1):Int) ≤ 2147483647)), (show (¬ (0 ≤ ar1.toInt ∧ ar1.toInt ≤ 9999 ∧ 1 ≤ ar2.toInt ∧ ar2.toInt ≤ 20 ∧ ar1.toInt + ar2.toInt ≤ 10000) → (g42 69 2).toInt = 1) ∧ ((0 ≤ ar1.toInt ∧ ar1.toInt ≤ 9999 ∧ 1 ≤ ar2.toInt ∧ ar2.toInt ≤ 20 ∧ ar1.toInt + ar2.toInt ≤ 10000) → (¬ (gi 70 8).toInt ≠ 0 → (g42 69 2).toInt = 6) ∧ ((gi 70 8).toInt ≠ 0 → (g42 69 2).toInt = 0)) from ⟨fun h => (by have ffs : (g42 69 2).toInt = 6 := (congrArg Int32.toInt (by rw [e42]; exact x_up2_at _ _ _ _ : g42 69 2 = 6)).trans (by decide); omega), fun h => ⟨fun h2 => (by have ffs : (g42 69 2).toInt = 6 := (congrArg Int32.toInt (by rw [e42]; exact x_up2_at _ _ _ _ : g42 69 2 = 6)).trans (by decide); omega), fun h2 => (by have ffs : (g42 69 2).toInt = 6 := (congrArg Int32.toInt (by rw [e42]; exact x_up2_at _ _ _ _ : g42 69 2 = 6)).trans (by decide); omega)⟩⟩)⟩⟩
            · have r43 : (gi 70 8).toInt ≠ 0 := fun e => h40 (Int32.toInt_inj.mp (e.trans (by decide : (0:Int) = (0 : Int32).toInt)))
              have l44 : 1 ≤ (gi 70 8).toInt := t_nel h40 l2 rfl rfl
              refine ev_ic f_X12_waits (nx := 33) (v := 0) rfl (by decide) rfl ?_
              refine ev_loc f_X12_waits (nx := 34) (lo' := [(3, .int 0), (0, .ref 69), (1, .int ar1), (2, .int ar2)]) rfl rfl rfl rfl ?_
              refine ev_ic f_X12_waits (nx := 35) (v := 0) rfl (by decide) rfl ?_
              refine ev_loc f_X12_waits (nx := 37) (lo' := [(4, .int 0), (3, .int 0), (0, .ref 69), (1, .int ar1), (2, .int ar2)]) rfl rfl rfl rfl ?_
              have L45 : ∀ (m45 : Nat) (gi45 : Nat → Nat → Int32) (gl45 : Nat → Nat → Int64) (gr45 : Nat → Nat → Value) (y45_4 : Int32) (y45_3 : Int32), t_I sh gi45 gr45 → t_X wl_g_waits sh gi gl gr gi45 gl45 gr45 → 0 ≤ y45_4.toInt → y45_4.toInt ≤ 20 → gi45 69 2 = (gi 69 2) → gi45 70 8 = (gi 70 8) → t_rpn (gi45 70) 0 → (20 - y45_4.toInt).toNat = m45 → x_Ev X (d + 7) n_X12_waits 37 [(4, .int y45_4), (3, .int y45_3), (0, .ref 69), (1, .int ar1), (2, .int ar2)] [] (sh, gi45, gl45, gr45) (t_PI wl_g_waits sh gi gl gr (-2147483648) 2147483647 (Q_g_waits gi gl gr ar1 ar2)) := by
                intro m45
                induction m45 using Nat.strongRecOn with
                | _ m45 ih45 =>
                intro gi45 gl45 gr45 y45_4 y45_3 hI hX l45_4 u45_4 c45_0 c45_1 j45_0 hm45
                refine ev_loc f_X12_waits (nx := 39) rfl rfl rfl rfl ?_
                refine ev_loc f_X12_waits (nx := 40) rfl rfl rfl rfl ?_
                refine ev_if f_X12_waits (t1 := 64) (t2 := 43) rfl rfl rfl (fun h46 => ?_) (fun h46 => ?_)
                · have r47 : ar2.toInt ≤ y45_4.toInt := Int32.le_iff_toInt_le.mp h46
                  have l48 : 1 ≤ y45_4.toInt := t_lel h46 l24
                  refine ev_loc f_X12_waits (nx := 65) rfl rfl rfl rfl ?_
                  refine ev_loc f_X12_waits (nx := 66) rfl rfl rfl rfl ?_
                  refine ev_inV2 f_X12_waits (nx := 69) (lo2 := [(0, .ref 69), (1, .int y45_3)]) rfl rfl rfl rfl f_X12_gives (hI.wf.s rfl) rfl rfl rfl rfl rfl ?_
                  refine ev_loc f_X12_gives (nx := 1) rfl rfl rfl rfl ?_
                  refine ev_ic f_X12_gives (nx := 2) (v := 0) rfl (by decide) rfl ?_
                  refine ev_putIT f_X12_gives (nx := 5) rfl (hI.wf.s rfl) rfl rfl rfl (hI.put0 (hI.wf.s rfl) rfl rfl) (hX.upI rfl) (fun g49 e49 hI hX => ?_)
                  refine ev_loc f_X12_gives (nx := 6) rfl rfl rfl rfl ?_
                  refine ev_retK1 f_X12_gives rfl rfl rfl ?_
                  exact ev_ret f_X12_waits rfl rfl rfl ⟨_, _, _, rfl, hI, hX, ⟨_, rfl, (t_lo y45_3), (t_hi y45_3), (show (¬ (0 ≤ ar1.toInt ∧ ar1.toInt ≤ 9999 ∧ 1 ≤ ar2.toInt ∧ ar2.toInt ≤ 20 ∧ ar1.toInt + ar2.toInt ≤ 10000) → (g49 69 2).toInt = 1) ∧ ((0 ≤ ar1.toInt ∧ ar1.toInt ≤ 9999 ∧ 1 ≤ ar2.toInt ∧ ar2.toInt ≤ 20 ∧ ar1.toInt + ar2.toInt ≤ 10000) → (¬ (gi 70 8).toInt ≠ 0 → (g49 69 2).toInt = 6) ∧ ((gi 70 8).toInt ≠ 0 → (g49 69 2).toInt = 0)) from ⟨fun h => (by have ffs : (g49 69 2).toInt = 0 := (congrArg Int32.toInt (by rw [e49]; exact x_up2_at _ _ _ _ : g49 69 2 = 0)).trans (by decide); omega), fun h => ⟨fun h2 => (by have ffs : (g49 69 2).toInt = 0 := (congrArg Int32.toInt (by rw [e49]; exact x_up2_at _ _ _ _ : g49 69 2 = 0)).trans (by decide); omega), fun h2 => (by have ffs : (g49 69 2).toInt = 0 := (congrArg Int32.toInt (by rw [e49]; exact x_up2_at _ _ _ _ : g49 69 2 = 0)).trans (by decide); omega)⟩⟩)⟩⟩
                · have r50 : y45_4.toInt < ar2.toInt := Int32.lt_iff_toInt_lt.mp (t_nle h46)
                  have u51 : y45_4.toInt ≤ 19 := t_ltu (t_nle h46) u31 rfl
                  refine ev_loc f_X12_waits (nx := 44) rfl rfl rfl rfl ?_
                  refine ev_loc f_X12_waits (nx := 45) rfl rfl rfl rfl ?_
                  refine ev_loc f_X12_waits (nx := 47) rfl rfl rfl rfl ?_
                  refine ev_addR f_X12_waits (nx := 48) (l := 0) (u := 10018) rfl l9 u16 l45_4 u51 rfl rfl (by decide) (by decide) rfl (fun z52 e52 l52 u52 => ?_)
                  refine ev_c0 f_X12_waits (nx := 51) (r := []) rfl rfl rfl rfl rfl rfl rfl (c_m_keeps hI (z52) j45_0) rfl hX rfl (fun gi53 gl53 gr53 hI hX hC53 => ?_)
                  refine ev_loc f_X12_waits (nx := 52) rfl rfl rfl rfl ?_
                  refine ev_loc f_X12_waits (nx := 53) rfl rfl rfl rfl ?_
                  refine ev_getI f_X12_waits (nx := 56) rfl (hI.wf.s rfl) rfl rfl rfl ?_
                  refine ev_anyIE f_X12_waits (nx := 57) rfl rfl rfl rfl (fun z54 e54 => ?_)
                  refine ev_loc f_X12_waits (nx := 58) (lo' := [(3, .int z54), (4, .int y45_4), (0, .ref 69), (1, .int ar1), (2, .int ar2)]) rfl rfl rfl rfl ?_
                  refine ev_incR f_X12_waits (nx := 61) (c := 1) (l := 1) (u := 20) rfl rfl (by decide) (by decide) l45_4 u51 rfl rfl (by decide) (by decide) rfl (fun z55 e55 l55 u55 => ?_)
                  refine ev_jmp f_X12_waits (nx := 37) rfl rfl rfl ?_
                  refine ev_sub (lo := [(4, .int z55), (3, .int z54), (0, .ref 69), (1, .int ar1), (2, .int ar2)]) rfl (t_sc rfl (t_sc rfl (t_sc rfl (t_sc rfl (t_sc rfl t_sn))))) ?_
                  exact ih45 _ (by omega) gi53 gl53 gr53 (z55) (z54) hI hX  (Int.le_trans (by decide : (0:Int) ≤ 1) l55) u55 ((hC53.1 69 2 rfl).1.trans c45_0) ((hC53.1 70 8 rfl).1.trans c45_1) (by have hq := ((funext (fun j => (hC53.1 70 j rfl).1) : gi53 70 = gi45 70)); rw [hq]; exact j45_0) rfl
              refine ev_sub (lo := [(4, .int 0), (3, .int 0), (0, .ref 69), (1, .int ar1), (2, .int ar2)]) rfl (t_sc rfl (t_sc rfl (t_sc rfl (t_sc rfl (t_sc rfl t_sn))))) ?_
              exact L45 _ gi gl gr (0) (0) hI hX  (by decide : (0:Int) ≤ (0:Int32).toInt) (Int.le_trans (by decide : (0:Int32).toInt ≤ (0:Int)) (by decide : (0:Int) ≤ 20)) rfl rfl e_p0 rfl
noncomputable def wl_g_rules : List (Nat × Nat) := [(69, 2), (69, 10), (69, 11), (69, 12), (69, 13), (69, 14), (69, 15), (69, 16), (69, 17), (69, 18), (69, 19), (69, 22), (69, 23), (69, 24), (69, 25), (70, 310003), (70, 810008), (70, 10010349), (70, 140311403), (70, 150011536), (70, 150111537), (70, 150211538), (70, 154011750), (76, 9999), (77, 9999)]
noncomputable def Q_g_rules (gi : Nat → Nat → Int32) (gl : Nat → Nat → Int64) (gr : Nat → Nat → Value) (J0 : Nat) (ar1 : Int32) : Int32 → (Nat → Nat → Int32) → (Nat → Nat → Int64) → (Nat → Nat → Value) → Prop := fun (v : Int32) (gi2 : Nat → Nat → Int32) (gl2 : Nat → Nat → Int64) (gr2 : Nat → Nat → Value) => (¬ (0 ≤ ar1.toInt ∧ ar1.toInt ≤ (gi 69 10).toInt ∧ ar1.toInt ≤ 300) → (gi2 69 2).toInt = 1) ∧ ((0 ≤ ar1.toInt ∧ ar1.toInt ≤ (gi 69 10).toInt ∧ ar1.toInt ≤ 300) → (v.toInt = -1 → (gi2 69 2).toInt = 9) ∧ (v.toInt ≠ -1 → (gi2 69 2).toInt = 0))
set_option maxHeartbeats 40000000 in
theorem c_g_rules {X : x_Ext} {d : Nat} {sh : List (Nat ⊕ (Nat × Nat))} {gi : Nat → Nat → Int32} {gl : Nat → Nat → Int64} {gr : Nat → Nat → Value} (hI : t_I sh gi gr) (J0 : Nat) (b_J0l : 0 ≤ J0) (b_J0u : J0 < 350) (ar1 : Int32) : x_Me X (d + 9) n_X12_rules [.ref 69, .int ar1] (sh, gi, gl, gr) (t_PI wl_g_rules sh gi gl gr (-1) 12 (Q_g_rules gi gl gr J0 ar1)) := by
  have hX : t_X wl_g_rules sh gi gl gr gi gl gr := t_X.rf
  refine me_i f_X12_rules (hI.wf.s rfl) rfl rfl rfl ?_
  obtain ⟨l2, u2⟩ := hI.b (hI.wf.s (k := 69) rfl) (t_bdK rfl : t_bd 11 10 = some (0, 900))
  obtain ⟨l3, u3⟩ := hI.b (hI.wf.s (k := 69) rfl) (t_bdK rfl : t_bd 11 12 = some (0, 4))
  obtain ⟨l4, u4⟩ := hI.b (hI.wf.s (k := 69) rfl) (t_bdK rfl : t_bd 11 14 = some (0, 900))
  obtain ⟨l6, u6⟩ := hI.b (hI.wf.s (k := 69) rfl) (t_bdK rfl : t_bd 11 24 = some (0, 24))
  obtain ⟨l7, u7⟩ := hI.b (hI.wf.s (k := 69) rfl) (t_bdK rfl : t_bd 11 25 = some (0, 210))
  obtain ⟨l8, u8⟩ := hI.ab (by decide +kernel : t_abr 70 4 4 0 20 = true) (Nat.le_refl _) (Nat.le_refl _)
  obtain ⟨l9, u9⟩ := hI.ab (by decide +kernel : t_abr 70 1403 1403 0 12 = true) (Nat.le_refl _) (Nat.le_refl _)
  refine ev_loc f_X12_rules (nx := 1) rfl rfl rfl rfl ?_
  refine ev_loc f_X12_rules (nx := 2) rfl rfl rfl rfl ?_
  refine ev_sp f_X12_rules (nx := 5) (v := 300) rfl (by decide) rfl ?_
  refine ev_qI f_X12_rules (nx := 8) (r := []) rfl rfl rfl rfl rfl rfl rfl (c_m_begins hI (ar1) (300)) rfl hX rfl (fun w10 gi10 gl10 gr10 l10 u10 hI hX hC10 q10 => ?_)
  have q10 : (w10.toInt = 1 → (0 ≤ ar1.toInt ∧ ar1.toInt ≤ (gi 69 10).toInt ∧ ar1.toInt ≤ 300) ∧ (gi10 69 10).toInt = 0) ∧ (w10.toInt = 0 → ¬ (0 ≤ ar1.toInt ∧ ar1.toInt ≤ (gi 69 10).toInt ∧ ar1.toInt ≤ 300) ∧ (gi10 69 10).toInt = (gi 69 10).toInt) := q10
  obtain ⟨l11, u11⟩ := hI.b (hI.wf.s (k := 69) rfl) (t_bdK rfl : t_bd 11 10 = some (0, 900))
  obtain ⟨l12, u12⟩ := hI.b (hI.wf.s (k := 69) rfl) (t_bdK rfl : t_bd 11 12 = some (0, 4))
  obtain ⟨l13, u13⟩ := hI.b (hI.wf.s (k := 69) rfl) (t_bdK rfl : t_bd 11 14 = some (0, 900))
  refine ev_if f_X12_rules (t1 := 11) (t2 := 17) rfl rfl rfl (fun h15 => ?_) (fun h15 => ?_)
  · have u16 : w10.toInt ≤ 0 := t_equ h15 (by decide : (0:Int32).toInt ≤ (0:Int))
    refine ev_loc f_X12_rules (nx := 12) rfl rfl rfl rfl ?_
    refine ev_ic f_X12_rules (nx := 13) (v := 1) rfl (by decide) rfl ?_
    refine ev_inV2 f_X12_rules (nx := 16) (lo2 := [(0, .ref 69), (1, .int 1)]) rfl rfl rfl rfl f_X12_refuse (hI.wf.s rfl) rfl rfl rfl rfl rfl ?_
    refine ev_loc f_X12_refuse (nx := 1) rfl rfl rfl rfl ?_
    refine ev_loc f_X12_refuse (nx := 2) rfl rfl rfl rfl ?_
    refine ev_putIT f_X12_refuse (nx := 5) rfl (hI.wf.s rfl) rfl rfl rfl (hI.put0 (hI.wf.s rfl) rfl rfl) (hX.upI rfl) (fun g17 e17 hI hX => ?_)
    refine ev_ic f_X12_refuse (nx := 6) (v := -1) rfl (by decide) rfl ?_
    refine ev_retK1 f_X12_refuse rfl rfl rfl ?_
    exact ev_ret f_X12_rules rfl rfl rfl ⟨_, _, _, rfl, hI, hX, ⟨_, rfl, (by decide : ((-1):Int) ≤ ((-1):Int32).toInt), (Int.le_trans (by decide : ((-1):Int32).toInt ≤ ((-1):Int)) (by decide : ((-1):Int) ≤ 12)), (show (¬ (0 ≤ ar1.toInt ∧ ar1.toInt ≤ (gi 69 10).toInt ∧ ar1.toInt ≤ 300) → (g17 69 2).toInt = 1) ∧ ((0 ≤ ar1.toInt ∧ ar1.toInt ≤ (gi 69 10).toInt ∧ ar1.toInt ≤ 300) → (((-1) : Int) = -1 → (g17 69 2).toInt = 9) ∧ (((-1) : Int) ≠ -1 → (g17 69 2).toInt = 0)) from ⟨fun h => (by have ffs : (g17 69 2).toInt = 1 := (congrArg Int32.toInt (by rw [e17]; exact x_up2_at _ _ _ _ : g17 69 2 = 1)).trans (by decide); omega), fun h => ⟨fun h2 => (by have ffs : (g17 69 2).toInt = 1 := (congrArg Int32.toInt (by rw [e17]; exact x_up2_at _ _ _ _ : g17 69 2 = 1)).trans (by decide); omega), fun h2 => (by have ffs : (g17 69 2).toInt = 1 := (congrArg Int32.toInt (by rw [e17]; exact x_up2_at _ _ _ _ : g17 69 2 = 1)).trans (by decide); omega)⟩⟩)⟩⟩
  · have r18 : w10.toInt ≠ 0 := fun e => h15 (Int32.toInt_inj.mp (e.trans (by decide : (0:Int) = (0 : Int32).toInt)))
    have l19 : 1 ≤ w10.toInt := t_nel h15 l10 rfl rfl
    refine ev_loc f_X12_rules (nx := 18) rfl rfl rfl rfl ?_
    refine ev_getR f_X12_rules (nx := 21) rfl (hI.wf.s rfl) rfl rfl (hI.wf.r rfl) rfl rfl ?_
    refine ev_sp f_X12_rules (nx := 24) (v := 1403) rfl (by decide) rfl ?_
    refine ev_ic f_X12_rules (nx := 25) (v := 0) rfl (by decide) rfl ?_
    refine ev_iastT f_X12_rules (nx := 26) rfl (hI.wf.s rfl) (by decide : (1403:Int) ≤ (1403:Int32).toInt) (by decide) (by decide : (1403:Int32).toInt ≤ (1403:Int)) (by decide) rfl (hI.astL (hI.wf.s rfl) (by decide +kernel : t_abw 70 1403 1403 0 0 = true) (t_cl1 (by decide : (1403:Int) ≤ (1403:Int32).toInt) (by decide)) (t_cl2 (by decide : (1403:Int) ≤ (1403:Int32).toInt) (by decide : (1403:Int32).toInt ≤ (1403:Int)) (by decide) (by decide)) (by decide : (0:Int) ≤ (0:Int32).toInt) (by decide : (0:Int32).toInt ≤ (0:Int)) rfl) (hX.upI (t_inR (p := 1403) (m := 1403) rfl (by decide : (1403:Int) ≤ (1403:Int32).toInt) (by decide) (by decide : (1403:Int32).toInt ≤ (1403:Int)) (by decide) (by decide))) (fun g20 e20 hI hX => ?_)
    refine ev_loc f_X12_rules (nx := 27) rfl rfl rfl rfl ?_
    refine ev_ic f_X12_rules (nx := 28) (v := 0) rfl (by decide) rfl ?_
    refine ev_putIT f_X12_rules (nx := 31) rfl (hI.wf.s rfl) rfl rfl rfl (hI.putB (hI.wf.s rfl) rfl rfl (by decide : (0:Int) ≤ (0:Int32).toInt) (by decide) (by decide : (0:Int32).toInt ≤ (0:Int)) (by decide)) (hX.upI rfl) (fun g21 e21 hI hX => ?_)
    refine ev_loc f_X12_rules (nx := 32) rfl rfl rfl rfl ?_
    refine ev_ic f_X12_rules (nx := 33) (v := 0) rfl (by decide) rfl ?_
    refine ev_putIT f_X12_rules (nx := 36) rfl (hI.wf.s rfl) rfl rfl rfl (hI.putB (hI.wf.s rfl) rfl rfl (by decide : (0:Int) ≤ (0:Int32).toInt) (by decide) (by decide : (0:Int32).toInt ≤ (0:Int)) (by decide)) (hX.upI rfl) (fun g22 e22 hI hX => ?_)
    refine ev_ic f_X12_rules (nx := 37) (v := 1) rfl (by decide) rfl ?_
    refine ev_loc f_X12_rules (nx := 38) (lo' := [(2, .int 1), (0, .ref 69), (1, .int ar1)]) rfl rfl rfl rfl ?_
    have L23 : ∀ (m23 : Nat) (gi23 : Nat → Nat → Int32) (gl23 : Nat → Nat → Int64) (gr23 : Nat → Nat → Value) (y23_2 : Int32), t_I sh gi23 gr23 → t_X wl_g_rules sh gi gl gr gi23 gl23 gr23 → 0 ≤ y23_2.toInt → y23_2.toInt ≤ 1 → gi23 69 10 = (gi10 69 10) → gi23 69 2 = (gi 69 2) → gi23 70 J0 = (gi 70 J0) → gi23 70 4 = (gi 70 4) → (y23_2.toInt = 1 → (t_R4 (gi23 70) (gi23 69 25).toInt ∧ (gi23 69 25).toInt ≤ 8 * (gi23 69 24).toInt)) → (y23_2.toInt = 0 → (gi23 69 18).toInt ≠ 0) → (4 * (900 - (gi23 69 14).toInt) + 2 * min (gi23 69 12).toInt 1 + y23_2.toInt).toNat = m23 → x_Ev X (d + 9) n_X12_rules 38 [(2, .int y23_2), (0, .ref 69), (1, .int ar1)] [] (sh, gi23, gl23, gr23) (t_PI wl_g_rules sh gi gl gr (-1) 12 (Q_g_rules gi gl gr J0 ar1)) := by
      intro m23
      induction m23 using Nat.strongRecOn with
      | _ m23 ih23 =>
      intro gi23 gl23 gr23 y23_2 hI hX l23_2 u23_2 c23_0 c23_1 c23_2 c23_3 j23_0 j23_1 hm23
      have cf23_0 : (gi23 69 10).toInt = (gi10 69 10).toInt := congrArg Int32.toInt c23_0
      have cf23_1 : (gi23 69 2).toInt = (gi 69 2).toInt := congrArg Int32.toInt c23_1
      have cf23_3 : (gi23 70 4).toInt = (gi 70 4).toInt := congrArg Int32.toInt c23_3
      obtain ⟨l24, u24⟩ := hI.b (hI.wf.s (k := 69) rfl) (t_bdK rfl : t_bd 11 12 = some (0, 4))
      obtain ⟨l25, u25⟩ := hI.b (hI.wf.s (k := 69) rfl) (t_bdK rfl : t_bd 11 14 = some (0, 900))
      obtain ⟨l27, u27⟩ := hI.b (hI.wf.s (k := 69) rfl) (t_bdK rfl : t_bd 11 24 = some (0, 24))
      obtain ⟨l28, u28⟩ := hI.b (hI.wf.s (k := 69) rfl) (t_bdK rfl : t_bd 11 25 = some (0, 210))
      obtain ⟨l29, u29⟩ := hI.ab (by decide +kernel : t_abr 70 1403 1403 0 12 = true) (Nat.le_refl _) (Nat.le_refl _)
      refine ev_loc f_X12_rules (nx := 39) rfl rfl rfl rfl ?_
      refine ev_if f_X12_rules (t1 := 57) (t2 := 42) rfl rfl rfl (fun h30 => ?_) (fun h30 => ?_)
      · have u31 : y23_2.toInt ≤ 0 := t_equ h30 (by decide : (0:Int32).toInt ≤ (0:Int))
        refine ev_loc f_X12_rules (nx := 58) rfl rfl rfl rfl ?_
        refine ev_gvI f_X12_rules (nx := 61) (w := (gi23 69 18)) rfl (hI.wf.s rfl) rfl rfl rfl rfl ?_
        refine ev_if f_X12_rules (t1 := 64) (t2 := 118) rfl rfl rfl (fun h32 => ?_) (fun h32 => ?_)
        · have u33 : (gi23 69 18).toInt ≤ 0 := t_equ h32 (by decide : (0:Int32).toInt ≤ (0:Int))
          have l34 : 0 ≤ (gi23 69 18).toInt := t_eql h32 (by decide : (0:Int) ≤ (0:Int32).toInt)
          refine ev_loc f_X12_rules (nx := 65) rfl rfl rfl rfl ?_
          refine ev_getR f_X12_rules (nx := 68) rfl (hI.wf.s rfl) rfl rfl (hI.wf.r rfl) rfl rfl ?_
          refine ev_ic f_X12_rules (nx := 69) (v := 3) rfl (by decide) rfl ?_
          refine ev_loc f_X12_rules (nx := 70) rfl rfl rfl rfl ?_
          refine ev_getR f_X12_rules (nx := 73) rfl (hI.wf.s rfl) rfl rfl (hI.wf.r rfl) rfl rfl ?_
          refine ev_sp f_X12_rules (nx := 76) (v := 1403) rfl (by decide) rfl ?_
          refine ev_ialdv f_X12_rules (nx := 77) (w := (gi23 70 1403)) rfl (hI.wf.s rfl) (by decide) (rfl : (1403 : Int32).toNatClampNeg = 1403) (by decide) rfl rfl ?_
          refine ev_iastT f_X12_rules (nx := 78) rfl (hI.wf.s rfl) (by decide : (3:Int) ≤ (3:Int32).toInt) (by decide) (by decide : (3:Int32).toInt ≤ (3:Int)) (by decide) rfl (hI.astL (hI.wf.s rfl) (by decide +kernel : t_abw 70 3 3 0 12 = true) (t_cl1 (by decide : (3:Int) ≤ (3:Int32).toInt) (by decide)) (t_cl2 (by decide : (3:Int) ≤ (3:Int32).toInt) (by decide : (3:Int32).toInt ≤ (3:Int)) (by decide) (by decide)) l29 u29 rfl) (hX.upI (t_inR (p := 3) (m := 3) rfl (by decide : (3:Int) ≤ (3:Int32).toInt) (by decide) (by decide : (3:Int32).toInt ≤ (3:Int)) (by decide) (by decide))) (fun g36 e36 hI hX => ?_)
          refine ev_loc f_X12_rules (nx := 79) rfl rfl rfl rfl ?_
          refine ev_getR f_X12_rules (nx := 82) rfl (hI.wf.s rfl) rfl rfl (hI.wf.r rfl) rfl rfl ?_
          refine ev_bp f_X12_rules (nx := 84) (v := 8) rfl (by decide) rfl ?_
          refine ev_ic f_X12_rules (nx := 85) (v := 1) rfl (by decide) rfl ?_
          refine ev_iastT f_X12_rules (nx := 86) rfl (hI.wf.s rfl) (by decide : (8:Int) ≤ (8:Int32).toInt) (by decide) (by decide : (8:Int32).toInt ≤ (8:Int)) (by decide) rfl (hI.astL (hI.wf.s rfl) (by decide +kernel : t_abw 70 8 8 1 1 = true) (t_cl1 (by decide : (8:Int) ≤ (8:Int32).toInt) (by decide)) (t_cl2 (by decide : (8:Int) ≤ (8:Int32).toInt) (by decide : (8:Int32).toInt ≤ (8:Int)) (by decide) (by decide)) (by decide : (1:Int) ≤ (1:Int32).toInt) (by decide : (1:Int32).toInt ≤ (1:Int)) rfl) (hX.upI (t_inR (p := 8) (m := 8) rfl (by decide : (8:Int) ≤ (8:Int32).toInt) (by decide) (by decide : (8:Int32).toInt ≤ (8:Int)) (by decide) (by decide))) (fun g37 e37 hI hX => ?_)
          refine ev_bp f_X12_rules (nx := 88) (v := 100) rfl (by decide) rfl ?_
          refine ev_loc f_X12_rules (nx := 89) (lo' := [(3, .int 100), (2, .int y23_2), (0, .ref 69), (1, .int ar1)]) rfl rfl rfl rfl ?_
          have L38 : ∀ (m38 : Nat) (gi38 : Nat → Nat → Int32) (gl38 : Nat → Nat → Int64) (gr38 : Nat → Nat → Value) (y38_3 : Int32), t_I sh gi38 gr38 → t_X wl_g_rules sh gi gl gr gi38 gl38 gr38 → 100 ≤ y38_3.toInt → y38_3.toInt ≤ 350 → gi38 69 10 = (gi10 69 10) → gi38 69 12 = (gi23 69 12) → gi38 69 14 = (gi23 69 14) → gi38 69 18 = (gi23 69 18) → gi38 69 2 = (gi 69 2) → gi38 69 24 = (gi23 69 24) → gi38 69 25 = (gi23 69 25) → gi38 70 1403 = (gi23 70 1403) → gi38 70 3 = (gi23 70 1403) → gi38 70 4 = (gi 70 4) → gi38 70 8 = 1 → (∀ j : Nat, 100 ≤ j → (j : Int) < y38_3.toInt → gi38 70 j = gi38 70 (1400 + j)) → t_R4 (gi38 70) (gi38 69 25).toInt → gi38 70 3 = gi38 70 1403 → (350 - y38_3.toInt).toNat = m38 → x_Ev X (d + 9) n_X12_rules 89 [(3, .int y38_3), (2, .int y23_2), (0, .ref 69), (1, .int ar1)] [] (sh, gi38, gl38, gr38) (t_PI wl_g_rules sh gi gl gr (-1) 12 (Q_g_rules gi gl gr J0 ar1)) := by
            intro m38
            induction m38 using Nat.strongRecOn with
            | _ m38 ih38 =>
            intro gi38 gl38 gr38 y38_3 hI hX l38_3 u38_3 c38_0 c38_1 c38_2 c38_3 c38_4 c38_5 c38_6 c38_7 c38_8 c38_9 c38_10 j38_0 j38_1 j38_2 hm38
            have cf38_0 : (gi38 69 10).toInt = (gi10 69 10).toInt := congrArg Int32.toInt c38_0
            have cf38_1 : (gi38 69 12).toInt = (gi23 69 12).toInt := congrArg Int32.toInt c38_1
            have cf38_2 : (gi38 69 14).toInt = (gi23 69 14).toInt := congrArg Int32.toInt c38_2
            have cf38_3 : (gi38 69 18).toInt = (gi23 69 18).toInt := congrArg Int32.toInt c38_3
            have cf38_4 : (gi38 69 2).toInt = (gi 69 2).toInt := congrArg Int32.toInt c38_4
            have cf38_5 : (gi38 69 24).toInt = (gi23 69 24).toInt := congrArg Int32.toInt c38_5
            have cf38_6 : (gi38 69 25).toInt = (gi23 69 25).toInt := congrArg Int32.toInt c38_6
            have cf38_7 : (gi38 70 1403).toInt = (gi23 70 1403).toInt := congrArg Int32.toInt c38_7
            have cf38_9 : (gi38 70 4).toInt = (gi 70 4).toInt := congrArg Int32.toInt c38_9
            refine ev_loc f_X12_rules (nx := 90) rfl rfl rfl rfl ?_
            refine ev_sp f_X12_rules (nx := 93) (v := 350) rfl (by decide) rfl ?_
            refine ev_if f_X12_rules (t1 := 118) (t2 := 96) rfl rfl rfl (fun h39 => ?_) (fun h39 => ?_)
            · have l40 : 350 ≤ y38_3.toInt := t_lel h39 (by decide : (350:Int) ≤ (350:Int32).toInt)
              refine ev_loc f_X12_rules (nx := 119) rfl rfl rfl rfl ?_
              refine ev_loc f_X12_rules (nx := 120) rfl rfl rfl rfl ?_
              refine ev_getR f_X12_rules (nx := 123) rfl (hI.wf.s rfl) rfl rfl (hI.wf.r rfl) rfl rfl ?_
              refine ev_ic f_X12_rules (nx := 124) (v := 3) rfl (by decide) rfl ?_
              refine ev_ialdv f_X12_rules (nx := 125) (w := (gi23 70 1403)) rfl (hI.wf.s rfl) (by decide) (rfl : (3 : Int32).toNatClampNeg = 3) (by decide) c38_8 rfl ?_
              refine ev_inV2 f_X12_rules (nx := 128) (lo2 := [(0, .ref 69), (1, .int (gi23 70 1403))]) rfl rfl rfl rfl f_X12_taken (hI.wf.s rfl) rfl rfl rfl rfl rfl ?_
              refine ev_loc f_X12_taken (nx := 1) rfl rfl rfl rfl ?_
              refine ev_loc f_X12_taken (nx := 2) rfl rfl rfl rfl ?_
              refine ev_gvI f_X12_taken (nx := 5) (w := (gi23 69 18)) rfl (hI.wf.s rfl) rfl rfl c38_3 rfl ?_
              refine ev_putIT f_X12_taken (nx := 8) rfl (hI.wf.s rfl) rfl rfl rfl (hI.put0 (hI.wf.s rfl) rfl rfl) (hX.upI rfl) (fun g42 e42 hI hX => ?_)
              refine ev_loc f_X12_taken (nx := 9) rfl rfl rfl rfl ?_
              refine ev_gvI f_X12_taken (nx := 12) (w := (gi23 69 18)) rfl (hI.wf.s rfl) rfl rfl ((by rw [e42]; exact x_up2_off (Or.inr (by decide)) : g42 69 18 = gi38 69 18).trans c38_3) rfl ?_
              refine ev_t f_X12_taken (t1 := 24) (t2 := 15) rfl rfl rfl (t_leT u33 (by decide : (0:Int) ≤ (0:Int32).toInt) (by decide)) ?_
              refine ev_loc f_X12_taken (nx := 25) rfl rfl rfl rfl ?_
              refine ev_loc f_X12_taken (nx := 26) rfl rfl rfl rfl ?_
              refine ev_inV2 f_X12_taken (nx := 29) (lo2 := [(0, .ref 69), (1, .int (gi23 70 1403))]) rfl rfl rfl rfl f_X12_gives (hI.wf.s rfl) rfl rfl rfl rfl rfl ?_
              refine ev_loc f_X12_gives (nx := 1) rfl rfl rfl rfl ?_
              refine ev_ic f_X12_gives (nx := 2) (v := 0) rfl (by decide) rfl ?_
              refine ev_putIT f_X12_gives (nx := 5) rfl (hI.wf.s rfl) rfl rfl rfl (hI.put0 (hI.wf.s rfl) rfl rfl) (hX.upI rfl) (fun g43 e43 hI hX => ?_)
              refine ev_loc f_X12_gives (nx := 6) rfl rfl rfl rfl ?_
              refine ev_retK1 f_X12_gives rfl rfl rfl ?_
              refine ev_retK1 f_X12_taken rfl rfl rfl ?_
              exact ev_ret f_X12_rules rfl rfl rfl ⟨_, _, _, rfl, hI, hX, ⟨_, rfl, (Int.le_trans (by decide : ((-1):Int) ≤ 0) l29), u29, (show (¬ (0 ≤ ar1.toInt ∧ ar1.toInt ≤ (gi 69 10).toInt ∧ ar1.toInt ≤ 300) → (g43 69 2).toInt = 1) ∧ ((0 ≤ ar1.toInt ∧ ar1.toInt ≤ (gi 69 10).toInt ∧ ar1.toInt ≤ 300) → ((gi23 70 1403).toInt = -1 → (g43 69 2).toInt = 9) ∧ ((gi23 70 1403).toInt ≠ -1 → (g43 69 2).toInt = 0)) from ⟨fun h => (by have ffs : (g43 69 2).toInt = 0 := (congrArg Int32.toInt (by rw [e43]; exact x_up2_at _ _ _ _ : g43 69 2 = 0)).trans (by decide); omega), fun h => ⟨fun h2 => (by have ffs : (g43 69 2).toInt = 0 := (congrArg Int32.toInt (by rw [e43]; exact x_up2_at _ _ _ _ : g43 69 2 = 0)).trans (by decide); omega), fun h2 => (by have ffs : (g43 69 2).toInt = 0 := (congrArg Int32.toInt (by rw [e43]; exact x_up2_at _ _ _ _ : g43 69 2 = 0)).trans (by decide); omega)⟩⟩)⟩⟩
            · have u44 : y38_3.toInt ≤ 349 := t_ltu (t_nle h39) (by decide : (350:Int32).toInt ≤ (350:Int)) rfl
              refine ev_loc f_X12_rules (nx := 97) rfl rfl rfl rfl ?_
              refine ev_getR f_X12_rules (nx := 100) rfl (hI.wf.s rfl) rfl rfl (hI.wf.r rfl) rfl rfl ?_
              refine ev_loc f_X12_rules (nx := 101) rfl rfl rfl rfl ?_
              refine ev_loc f_X12_rules (nx := 102) rfl rfl rfl rfl ?_
              refine ev_getR f_X12_rules (nx := 105) rfl (hI.wf.s rfl) rfl rfl (hI.wf.r rfl) rfl rfl ?_
              refine ev_sp f_X12_rules (nx := 108) (v := 1400) rfl (by decide) rfl ?_
              refine ev_loc f_X12_rules (nx := 109) rfl rfl rfl rfl ?_
              refine ev_addK f_X12_rules (nx := 110) (c := 1400) (l := 1500) (u := 1749) rfl (by decide) l38_3 u44 rfl rfl (by decide) (by decide) rfl (fun z45 e45 l45 u45 => ?_)
              refine ev_ialdT f_X12_rules (nx := 111) rfl (hI.wf.s rfl) l45 (by decide) u45 (by decide) rfl (fun w46 e46 => ?_)
              refine ev_iastT f_X12_rules (nx := 112) rfl (hI.wf.s rfl) l38_3 (by decide) u44 (by decide) rfl (hI.astS (a := 4) (b := 0) (k := y38_3.toInt.toNat) e46 (by omega) (by omega) (by omega) (by omega) (by omega)) (hX.upI (t_inR (p := 100) (m := 349) rfl l38_3 (by decide) u44 (by decide) (by decide))) (fun g47 e47 hI hX => ?_)
              refine ev_incR f_X12_rules (nx := 115) (c := 1) (l := 101) (u := 350) rfl rfl (by decide) (by decide) l38_3 u44 rfl rfl (by decide) (by decide) rfl (fun z48 e48 l48 u48 => ?_)
              refine ev_jmp f_X12_rules (nx := 89) rfl rfl rfl ?_
              refine ev_sub (lo := [(3, .int z48), (2, .int y23_2), (0, .ref 69), (1, .int ar1)]) rfl (t_sc rfl (t_sc rfl (t_sc rfl (t_sc rfl t_sn)))) ?_
              exact ih38 _ (by omega) g47 gl38 gr38 (z48) hI hX  (Int.le_trans (by decide : (100:Int) ≤ 101) l48) u48 ((by rw [e47]; exact x_up2_off (Or.inl (by decide)) : g47 69 10 = gi38 69 10).trans c38_0) ((by rw [e47]; exact x_up2_off (Or.inl (by decide)) : g47 69 12 = gi38 69 12).trans c38_1) ((by rw [e47]; exact x_up2_off (Or.inl (by decide)) : g47 69 14 = gi38 69 14).trans c38_2) ((by rw [e47]; exact x_up2_off (Or.inl (by decide)) : g47 69 18 = gi38 69 18).trans c38_3) ((by rw [e47]; exact x_up2_off (Or.inl (by decide)) : g47 69 2 = gi38 69 2).trans c38_4) ((by rw [e47]; exact x_up2_off (Or.inl (by decide)) : g47 69 24 = gi38 69 24).trans c38_5) ((by rw [e47]; exact x_up2_off (Or.inl (by decide)) : g47 69 25 = gi38 69 25).trans c38_6) ((by rw [e47]; exact x_up2_off (Or.inr (t_neCu l38_3 u44 (by decide) (by decide))) : g47 70 1403 = gi38 70 1403).trans c38_7) ((by rw [e47]; exact x_up2_off (Or.inr (t_neCl l38_3 (by decide))) : g47 70 3 = gi38 70 3).trans c38_8) ((by rw [e47]; exact x_up2_off (Or.inr (t_neCl l38_3 (by decide))) : g47 70 4 = gi38 70 4).trans c38_9) ((by rw [e47]; exact x_up2_off (Or.inr (t_neCl l38_3 (by decide))) : g47 70 8 = gi38 70 8).trans c38_10) (t_cp100 j38_0 e46 e47 (by have := t_clamp (i := y38_3) (by omega); omega) (by have := t_clamp (i := z45) (by omega); omega) (by omega) (by omega) (by omega)) (by have hr := t_R4_ext (g' := g47 70) j38_1 (fun j hj => (by rw [e47]; exact x_up2_off (Or.inr (by have hc := t_clamp (i := y38_3) (by omega); omega)) : g47 70 (j) = gi38 70 (j))); have ff49 : (g47 69 25).toInt = (gi23 69 25).toInt := congrArg Int32.toInt ((by rw [e47]; exact x_up2_off (Or.inl (by decide)) : g47 69 25 = gi38 69 25).trans c38_6); have e25 : (g47 69 25).toInt = (gi38 69 25).toInt := (by omega); rw [e25]; exact hr) ((((by rw [e47]; exact x_up2_off (Or.inr (t_neCl l38_3 (by decide))) : g47 70 3 = gi38 70 3).trans c38_8) : g47 70 3 = (gi23 70 1403)).trans (((by rw [e47]; exact x_up2_off (Or.inr (t_neCu l38_3 u44 (by decide) (by decide))) : g47 70 1403 = gi38 70 1403).trans c38_7) : g47 70 1403 = (gi23 70 1403)).symm) rfl
          refine ev_sub (lo := [(3, .int 100), (2, .int y23_2), (0, .ref 69), (1, .int ar1)]) rfl (t_sc rfl (t_sc rfl (t_sc rfl (t_sc rfl t_sn)))) ?_
          exact L38 _ g37 gl23 gr23 (100) hI hX  (by decide : (100:Int) ≤ (100:Int32).toInt) (Int.le_trans (by decide : (100:Int32).toInt ≤ (100:Int)) (by decide : (100:Int) ≤ 350)) ((by rw [e37]; exact x_up2_off (Or.inl (by decide)) : g37 69 10 = g36 69 10).trans ((by rw [e36]; exact x_up2_off (Or.inl (by decide)) : g36 69 10 = gi23 69 10).trans c23_0)) ((by rw [e37]; exact x_up2_off (Or.inl (by decide)) : g37 69 12 = g36 69 12).trans ((by rw [e36]; exact x_up2_off (Or.inl (by decide)) : g36 69 12 = gi23 69 12).trans rfl)) ((by rw [e37]; exact x_up2_off (Or.inl (by decide)) : g37 69 14 = g36 69 14).trans ((by rw [e36]; exact x_up2_off (Or.inl (by decide)) : g36 69 14 = gi23 69 14).trans rfl)) ((by rw [e37]; exact x_up2_off (Or.inl (by decide)) : g37 69 18 = g36 69 18).trans ((by rw [e36]; exact x_up2_off (Or.inl (by decide)) : g36 69 18 = gi23 69 18).trans rfl)) ((by rw [e37]; exact x_up2_off (Or.inl (by decide)) : g37 69 2 = g36 69 2).trans ((by rw [e36]; exact x_up2_off (Or.inl (by decide)) : g36 69 2 = gi23 69 2).trans c23_1)) ((by rw [e37]; exact x_up2_off (Or.inl (by decide)) : g37 69 24 = g36 69 24).trans ((by rw [e36]; exact x_up2_off (Or.inl (by decide)) : g36 69 24 = gi23 69 24).trans rfl)) ((by rw [e37]; exact x_up2_off (Or.inl (by decide)) : g37 69 25 = g36 69 25).trans ((by rw [e36]; exact x_up2_off (Or.inl (by decide)) : g36 69 25 = gi23 69 25).trans rfl)) ((by rw [e37]; exact x_up2_off (Or.inr (by decide)) : g37 70 1403 = g36 70 1403).trans ((by rw [e36]; exact x_up2_off (Or.inr (by decide)) : g36 70 1403 = gi23 70 1403).trans rfl)) ((by rw [e37]; exact x_up2_off (Or.inr (by decide)) : g37 70 3 = g36 70 3).trans (by rw [e36]; exact x_up2_at _ _ _ _ : g36 70 3 = (gi23 70 1403))) ((by rw [e37]; exact x_up2_off (Or.inr (by decide)) : g37 70 4 = g36 70 4).trans ((by rw [e36]; exact x_up2_off (Or.inr (by decide)) : g36 70 4 = gi23 70 4).trans c23_3)) (by rw [e37]; exact x_up2_at _ _ _ _ : g37 70 8 = 1) (fun j h1 h2 => absurd h2 (by have : (100 : Int32).toInt = 100 := rfl; omega)) (by have hr := t_R4_ext (g' := g37 70) (j23_0 (by omega)).1 (fun j hj => ((by rw [e37]; exact x_up2_off (Or.inr (by have hc : (8 : Int32).toNatClampNeg = 8 := rfl; omega)) : g37 70 (j) = g36 70 (j)).trans ((by rw [e36]; exact x_up2_off (Or.inr (by have hc : (3 : Int32).toNatClampNeg = 3 := rfl; omega)) : g36 70 (j) = gi23 70 (j))))); have ff50 : (g37 69 25).toInt = (gi23 69 25).toInt := congrArg Int32.toInt ((by rw [e37]; exact x_up2_off (Or.inl (by decide)) : g37 69 25 = g36 69 25).trans ((by rw [e36]; exact x_up2_off (Or.inl (by decide)) : g36 69 25 = gi23 69 25).trans rfl)); have e25 : (g37 69 25).toInt = (gi23 69 25).toInt := (by omega); rw [e25]; exact hr) ((((by rw [e37]; exact x_up2_off (Or.inr (by decide)) : g37 70 3 = g36 70 3).trans (by rw [e36]; exact x_up2_at _ _ _ _ : g36 70 3 = (gi23 70 1403))) : g37 70 3 = (gi23 70 1403)).trans (((by rw [e37]; exact x_up2_off (Or.inr (by decide)) : g37 70 1403 = g36 70 1403).trans ((by rw [e36]; exact x_up2_off (Or.inr (by decide)) : g36 70 1403 = gi23 70 1403).trans rfl)) : g37 70 1403 = (gi23 70 1403)).symm) rfl
        · have r51 : (gi23 69 18).toInt ≠ 0 := fun e => h32 (Int32.toInt_inj.mp (e.trans (by decide : (0:Int) = (0 : Int32).toInt)))
          refine ev_loc f_X12_rules (nx := 119) rfl rfl rfl rfl ?_
          refine ev_loc f_X12_rules (nx := 120) rfl rfl rfl rfl ?_
          refine ev_getR f_X12_rules (nx := 123) rfl (hI.wf.s rfl) rfl rfl (hI.wf.r rfl) rfl rfl ?_
          refine ev_ic f_X12_rules (nx := 124) (v := 3) rfl (by decide) rfl ?_
          obtain ⟨l52, u52⟩ := hI.ab (by decide +kernel : t_abr 70 3 3 0 12 = true) (Nat.le_refl _) (Nat.le_refl _)
          refine ev_ialdv f_X12_rules (nx := 125) (w := (gi23 70 3)) rfl (hI.wf.s rfl) (by decide) (rfl : (3 : Int32).toNatClampNeg = 3) (by decide) rfl rfl ?_
          refine ev_inV2 f_X12_rules (nx := 128) (lo2 := [(0, .ref 69), (1, .int (gi23 70 3))]) rfl rfl rfl rfl f_X12_taken (hI.wf.s rfl) rfl rfl rfl rfl rfl ?_
          refine ev_loc f_X12_taken (nx := 1) rfl rfl rfl rfl ?_
          refine ev_loc f_X12_taken (nx := 2) rfl rfl rfl rfl ?_
          refine ev_gvI f_X12_taken (nx := 5) (w := (gi23 69 18)) rfl (hI.wf.s rfl) rfl rfl rfl rfl ?_
          refine ev_putIT f_X12_taken (nx := 8) rfl (hI.wf.s rfl) rfl rfl rfl (hI.put0 (hI.wf.s rfl) rfl rfl) (hX.upI rfl) (fun g53 e53 hI hX => ?_)
          refine ev_loc f_X12_taken (nx := 9) rfl rfl rfl rfl ?_
          refine ev_gvI f_X12_taken (nx := 12) (w := (gi23 69 18)) rfl (hI.wf.s rfl) rfl rfl ((by rw [e53]; exact x_up2_off (Or.inr (by decide)) : g53 69 18 = gi23 69 18).trans rfl) rfl ?_
          refine ev_if f_X12_taken (t1 := 24) (t2 := 15) rfl rfl rfl (fun h54 => ?_) (fun h54 => ?_)
          · have u55 : (gi23 69 18).toInt ≤ 0 := t_leu h54 (by decide : (0:Int32).toInt ≤ (0:Int))
            refine ev_loc f_X12_taken (nx := 25) rfl rfl rfl rfl ?_
            refine ev_loc f_X12_taken (nx := 26) rfl rfl rfl rfl ?_
            refine ev_inV2 f_X12_taken (nx := 29) (lo2 := [(0, .ref 69), (1, .int (gi23 70 3))]) rfl rfl rfl rfl f_X12_gives (hI.wf.s rfl) rfl rfl rfl rfl rfl ?_
            refine ev_loc f_X12_gives (nx := 1) rfl rfl rfl rfl ?_
            refine ev_ic f_X12_gives (nx := 2) (v := 0) rfl (by decide) rfl ?_
            refine ev_putIT f_X12_gives (nx := 5) rfl (hI.wf.s rfl) rfl rfl rfl (hI.put0 (hI.wf.s rfl) rfl rfl) (hX.upI rfl) (fun g56 e56 hI hX => ?_)
            refine ev_loc f_X12_gives (nx := 6) rfl rfl rfl rfl ?_
            refine ev_retK1 f_X12_gives rfl rfl rfl ?_
            refine ev_retK1 f_X12_taken rfl rfl rfl ?_
            exact ev_ret f_X12_rules rfl rfl rfl ⟨_, _, _, rfl, hI, hX, ⟨_, rfl, (Int.le_trans (by decide : ((-1):Int) ≤ 0) l52), u52, (show (¬ (0 ≤ ar1.toInt ∧ ar1.toInt ≤ (gi 69 10).toInt ∧ ar1.toInt ≤ 300) → (g56 69 2).toInt = 1) ∧ ((0 ≤ ar1.toInt ∧ ar1.toInt ≤ (gi 69 10).toInt ∧ ar1.toInt ≤ 300) → ((gi23 70 3).toInt = -1 → (g56 69 2).toInt = 9) ∧ ((gi23 70 3).toInt ≠ -1 → (g56 69 2).toInt = 0)) from ⟨fun h => (by have ffs : (g56 69 2).toInt = 0 := (congrArg Int32.toInt (by rw [e56]; exact x_up2_at _ _ _ _ : g56 69 2 = 0)).trans (by decide); omega), fun h => ⟨fun h2 => (by have ffs : (g56 69 2).toInt = 0 := (congrArg Int32.toInt (by rw [e56]; exact x_up2_at _ _ _ _ : g56 69 2 = 0)).trans (by decide); omega), fun h2 => (by have ffs : (g56 69 2).toInt = 0 := (congrArg Int32.toInt (by rw [e56]; exact x_up2_at _ _ _ _ : g56 69 2 = 0)).trans (by decide); omega)⟩⟩)⟩⟩
          · have l57 : 1 ≤ (gi23 69 18).toInt := t_ltl (t_nle h54) (by decide : (0:Int) ≤ (0:Int32).toInt) rfl
            refine ev_loc f_X12_taken (nx := 16) rfl rfl rfl rfl ?_
            refine ev_bp f_X12_taken (nx := 18) (v := 9) rfl (by decide) rfl ?_
            refine ev_inV2 f_X12_taken (nx := 21) (lo2 := [(0, .ref 69), (1, .int 9)]) rfl rfl rfl rfl f_X12_refuse (hI.wf.s rfl) rfl rfl rfl rfl rfl ?_
            refine ev_loc f_X12_refuse (nx := 1) rfl rfl rfl rfl ?_
            refine ev_loc f_X12_refuse (nx := 2) rfl rfl rfl rfl ?_
            refine ev_putIT f_X12_refuse (nx := 5) rfl (hI.wf.s rfl) rfl rfl rfl (hI.put0 (hI.wf.s rfl) rfl rfl) (hX.upI rfl) (fun g58 e58 hI hX => ?_)
            refine ev_ic f_X12_refuse (nx := 6) (v := -1) rfl (by decide) rfl ?_
            refine ev_retK1 f_X12_refuse rfl rfl rfl ?_
            refine ev_jmp f_X12_taken (nx := 29) rfl rfl rfl ?_
            refine ev_retK1 f_X12_taken rfl rfl rfl ?_
            exact ev_ret f_X12_rules rfl rfl rfl ⟨_, _, _, rfl, hI, hX, ⟨_, rfl, (by decide : ((-1):Int) ≤ ((-1):Int32).toInt), (Int.le_trans (by decide : ((-1):Int32).toInt ≤ ((-1):Int)) (by decide : ((-1):Int) ≤ 12)), (show (¬ (0 ≤ ar1.toInt ∧ ar1.toInt ≤ (gi 69 10).toInt ∧ ar1.toInt ≤ 300) → (g58 69 2).toInt = 1) ∧ ((0 ≤ ar1.toInt ∧ ar1.toInt ≤ (gi 69 10).toInt ∧ ar1.toInt ≤ 300) → (((-1) : Int) = -1 → (g58 69 2).toInt = 9) ∧ (((-1) : Int) ≠ -1 → (g58 69 2).toInt = 0)) from ⟨fun h => (by have ffs : (g58 69 2).toInt = 9 := (congrArg Int32.toInt (by rw [e58]; exact x_up2_at _ _ _ _ : g58 69 2 = 9)).trans (by decide); omega), fun h => ⟨fun h2 => (by have ffs : (g58 69 2).toInt = 9 := (congrArg Int32.toInt (by rw [e58]; exact x_up2_at _ _ _ _ : g58 69 2 = 9)).trans (by decide); omega), fun h2 => (by have ffs : (g58 69 2).toInt = 9 := (congrArg Int32.toInt (by rw [e58]; exact x_up2_at _ _ _ _ : g58 69 2 = 9)).trans (by decide); omega)⟩⟩)⟩⟩
      · have r59 : y23_2.toInt ≠ 0 := fun e => h30 (Int32.toInt_inj.mp (e.trans (by decide : (0:Int) = (0 : Int32).toInt)))
        have l60 : 1 ≤ y23_2.toInt := t_nel h30 l23_2 rfl rfl
        refine ev_loc f_X12_rules (nx := 43) rfl rfl rfl rfl ?_
        refine ev_gvI f_X12_rules (nx := 46) (w := (gi23 69 12)) rfl (hI.wf.s rfl) rfl rfl rfl rfl ?_
        refine ev_if f_X12_rules (t1 := 57) (t2 := 49) rfl rfl rfl (fun h61 => ?_) (fun h61 => ?_)
        · have u62 : (gi23 69 12).toInt ≤ 0 := t_equ h61 (by decide : (0:Int32).toInt ≤ (0:Int))
          refine ev_loc f_X12_rules (nx := 58) rfl rfl rfl rfl ?_
          refine ev_gvI f_X12_rules (nx := 61) (w := (gi23 69 18)) rfl (hI.wf.s rfl) rfl rfl rfl rfl ?_
          refine ev_if f_X12_rules (t1 := 64) (t2 := 118) rfl rfl rfl (fun h63 => ?_) (fun h63 => ?_)
          · have u64 : (gi23 69 18).toInt ≤ 0 := t_equ h63 (by decide : (0:Int32).toInt ≤ (0:Int))
            have l65 : 0 ≤ (gi23 69 18).toInt := t_eql h63 (by decide : (0:Int) ≤ (0:Int32).toInt)
            refine ev_loc f_X12_rules (nx := 65) rfl rfl rfl rfl ?_
            refine ev_getR f_X12_rules (nx := 68) rfl (hI.wf.s rfl) rfl rfl (hI.wf.r rfl) rfl rfl ?_
            refine ev_ic f_X12_rules (nx := 69) (v := 3) rfl (by decide) rfl ?_
            refine ev_loc f_X12_rules (nx := 70) rfl rfl rfl rfl ?_
            refine ev_getR f_X12_rules (nx := 73) rfl (hI.wf.s rfl) rfl rfl (hI.wf.r rfl) rfl rfl ?_
            refine ev_sp f_X12_rules (nx := 76) (v := 1403) rfl (by decide) rfl ?_
            refine ev_ialdv f_X12_rules (nx := 77) (w := (gi23 70 1403)) rfl (hI.wf.s rfl) (by decide) (rfl : (1403 : Int32).toNatClampNeg = 1403) (by decide) rfl rfl ?_
            refine ev_iastT f_X12_rules (nx := 78) rfl (hI.wf.s rfl) (by decide : (3:Int) ≤ (3:Int32).toInt) (by decide) (by decide : (3:Int32).toInt ≤ (3:Int)) (by decide) rfl (hI.astL (hI.wf.s rfl) (by decide +kernel : t_abw 70 3 3 0 12 = true) (t_cl1 (by decide : (3:Int) ≤ (3:Int32).toInt) (by decide)) (t_cl2 (by decide : (3:Int) ≤ (3:Int32).toInt) (by decide : (3:Int32).toInt ≤ (3:Int)) (by decide) (by decide)) l29 u29 rfl) (hX.upI (t_inR (p := 3) (m := 3) rfl (by decide : (3:Int) ≤ (3:Int32).toInt) (by decide) (by decide : (3:Int32).toInt ≤ (3:Int)) (by decide) (by decide))) (fun g67 e67 hI hX => ?_)
            refine ev_loc f_X12_rules (nx := 79) rfl rfl rfl rfl ?_
            refine ev_getR f_X12_rules (nx := 82) rfl (hI.wf.s rfl) rfl rfl (hI.wf.r rfl) rfl rfl ?_
            refine ev_bp f_X12_rules (nx := 84) (v := 8) rfl (by decide) rfl ?_
            refine ev_ic f_X12_rules (nx := 85) (v := 1) rfl (by decide) rfl ?_
            refine ev_iastT f_X12_rules (nx := 86) rfl (hI.wf.s rfl) (by decide : (8:Int) ≤ (8:Int32).toInt) (by decide) (by decide : (8:Int32).toInt ≤ (8:Int)) (by decide) rfl (hI.astL (hI.wf.s rfl) (by decide +kernel : t_abw 70 8 8 1 1 = true) (t_cl1 (by decide : (8:Int) ≤ (8:Int32).toInt) (by decide)) (t_cl2 (by decide : (8:Int) ≤ (8:Int32).toInt) (by decide : (8:Int32).toInt ≤ (8:Int)) (by decide) (by decide)) (by decide : (1:Int) ≤ (1:Int32).toInt) (by decide : (1:Int32).toInt ≤ (1:Int)) rfl) (hX.upI (t_inR (p := 8) (m := 8) rfl (by decide : (8:Int) ≤ (8:Int32).toInt) (by decide) (by decide : (8:Int32).toInt ≤ (8:Int)) (by decide) (by decide))) (fun g68 e68 hI hX => ?_)
            refine ev_bp f_X12_rules (nx := 88) (v := 100) rfl (by decide) rfl ?_
            refine ev_loc f_X12_rules (nx := 89) (lo' := [(3, .int 100), (2, .int y23_2), (0, .ref 69), (1, .int ar1)]) rfl rfl rfl rfl ?_
            have L69 : ∀ (m69 : Nat) (gi69 : Nat → Nat → Int32) (gl69 : Nat → Nat → Int64) (gr69 : Nat → Nat → Value) (y69_3 : Int32), t_I sh gi69 gr69 → t_X wl_g_rules sh gi gl gr gi69 gl69 gr69 → 100 ≤ y69_3.toInt → y69_3.toInt ≤ 350 → gi69 69 10 = (gi10 69 10) → gi69 69 12 = (gi23 69 12) → gi69 69 14 = (gi23 69 14) → gi69 69 18 = (gi23 69 18) → gi69 69 2 = (gi 69 2) → gi69 69 24 = (gi23 69 24) → gi69 69 25 = (gi23 69 25) → gi69 70 1403 = (gi23 70 1403) → gi69 70 3 = (gi23 70 1403) → gi69 70 4 = (gi 70 4) → gi69 70 8 = 1 → (∀ j : Nat, 100 ≤ j → (j : Int) < y69_3.toInt → gi69 70 j = gi69 70 (1400 + j)) → t_R4 (gi69 70) (gi69 69 25).toInt → gi69 70 3 = gi69 70 1403 → (350 - y69_3.toInt).toNat = m69 → x_Ev X (d + 9) n_X12_rules 89 [(3, .int y69_3), (2, .int y23_2), (0, .ref 69), (1, .int ar1)] [] (sh, gi69, gl69, gr69) (t_PI wl_g_rules sh gi gl gr (-1) 12 (Q_g_rules gi gl gr J0 ar1)) := by
              intro m69
              induction m69 using Nat.strongRecOn with
              | _ m69 ih69 =>
              intro gi69 gl69 gr69 y69_3 hI hX l69_3 u69_3 c69_0 c69_1 c69_2 c69_3 c69_4 c69_5 c69_6 c69_7 c69_8 c69_9 c69_10 j69_0 j69_1 j69_2 hm69
              have cf69_0 : (gi69 69 10).toInt = (gi10 69 10).toInt := congrArg Int32.toInt c69_0
              have cf69_1 : (gi69 69 12).toInt = (gi23 69 12).toInt := congrArg Int32.toInt c69_1
              have cf69_2 : (gi69 69 14).toInt = (gi23 69 14).toInt := congrArg Int32.toInt c69_2
              have cf69_3 : (gi69 69 18).toInt = (gi23 69 18).toInt := congrArg Int32.toInt c69_3
              have cf69_4 : (gi69 69 2).toInt = (gi 69 2).toInt := congrArg Int32.toInt c69_4
              have cf69_5 : (gi69 69 24).toInt = (gi23 69 24).toInt := congrArg Int32.toInt c69_5
              have cf69_6 : (gi69 69 25).toInt = (gi23 69 25).toInt := congrArg Int32.toInt c69_6
              have cf69_7 : (gi69 70 1403).toInt = (gi23 70 1403).toInt := congrArg Int32.toInt c69_7
              have cf69_9 : (gi69 70 4).toInt = (gi 70 4).toInt := congrArg Int32.toInt c69_9
              refine ev_loc f_X12_rules (nx := 90) rfl rfl rfl rfl ?_
              refine ev_sp f_X12_rules (nx := 93) (v := 350) rfl (by decide) rfl ?_
              refine ev_if f_X12_rules (t1 := 118) (t2 := 96) rfl rfl rfl (fun h70 => ?_) (fun h70 => ?_)
              · have l71 : 350 ≤ y69_3.toInt := t_lel h70 (by decide : (350:Int) ≤ (350:Int32).toInt)
                refine ev_loc f_X12_rules (nx := 119) rfl rfl rfl rfl ?_
                refine ev_loc f_X12_rules (nx := 120) rfl rfl rfl rfl ?_
                refine ev_getR f_X12_rules (nx := 123) rfl (hI.wf.s rfl) rfl rfl (hI.wf.r rfl) rfl rfl ?_
                refine ev_ic f_X12_rules (nx := 124) (v := 3) rfl (by decide) rfl ?_
                refine ev_ialdv f_X12_rules (nx := 125) (w := (gi23 70 1403)) rfl (hI.wf.s rfl) (by decide) (rfl : (3 : Int32).toNatClampNeg = 3) (by decide) c69_8 rfl ?_
                refine ev_inV2 f_X12_rules (nx := 128) (lo2 := [(0, .ref 69), (1, .int (gi23 70 1403))]) rfl rfl rfl rfl f_X12_taken (hI.wf.s rfl) rfl rfl rfl rfl rfl ?_
                refine ev_loc f_X12_taken (nx := 1) rfl rfl rfl rfl ?_
                refine ev_loc f_X12_taken (nx := 2) rfl rfl rfl rfl ?_
                refine ev_gvI f_X12_taken (nx := 5) (w := (gi23 69 18)) rfl (hI.wf.s rfl) rfl rfl c69_3 rfl ?_
                refine ev_putIT f_X12_taken (nx := 8) rfl (hI.wf.s rfl) rfl rfl rfl (hI.put0 (hI.wf.s rfl) rfl rfl) (hX.upI rfl) (fun g73 e73 hI hX => ?_)
                refine ev_loc f_X12_taken (nx := 9) rfl rfl rfl rfl ?_
                refine ev_gvI f_X12_taken (nx := 12) (w := (gi23 69 18)) rfl (hI.wf.s rfl) rfl rfl ((by rw [e73]; exact x_up2_off (Or.inr (by decide)) : g73 69 18 = gi69 69 18).trans c69_3) rfl ?_
                refine ev_t f_X12_taken (t1 := 24) (t2 := 15) rfl rfl rfl (t_leT u64 (by decide : (0:Int) ≤ (0:Int32).toInt) (by decide)) ?_
                refine ev_loc f_X12_taken (nx := 25) rfl rfl rfl rfl ?_
                refine ev_loc f_X12_taken (nx := 26) rfl rfl rfl rfl ?_
                refine ev_inV2 f_X12_taken (nx := 29) (lo2 := [(0, .ref 69), (1, .int (gi23 70 1403))]) rfl rfl rfl rfl f_X12_gives (hI.wf.s rfl) rfl rfl rfl rfl rfl ?_
                refine ev_loc f_X12_gives (nx := 1) rfl rfl rfl rfl ?_
                refine ev_ic f_X12_gives (nx := 2) (v := 0) rfl (by decide) rfl ?_
                refine ev_putIT f_X12_gives (nx := 5) rfl (hI.wf.s rfl) rfl rfl rfl (hI.put0 (hI.wf.s rfl) rfl rfl) (hX.upI rfl) (fun g74 e74 hI hX => ?_)
                refine ev_loc f_X12_gives (nx := 6) rfl rfl rfl rfl ?_
                refine ev_retK1 f_X12_gives rfl rfl rfl ?_
                refine ev_retK1 f_X12_taken rfl rfl rfl ?_
                exact ev_ret f_X12_rules rfl rfl rfl ⟨_, _, _, rfl, hI, hX, ⟨_, rfl, (Int.le_trans (by decide : ((-1):Int) ≤ 0) l29), u29, (show (¬ (0 ≤ ar1.toInt ∧ ar1.toInt ≤ (gi 69 10).toInt ∧ ar1.toInt ≤ 300) → (g74 69 2).toInt = 1) ∧ ((0 ≤ ar1.toInt ∧ ar1.toInt ≤ (gi 69 10).toInt ∧ ar1.toInt ≤ 300) → ((gi23 70 1403).toInt = -1 → (g74 69 2).toInt = 9) ∧ ((gi23 70 1403).toInt ≠ -1 → (g74 69 2).toInt = 0)) from ⟨fun h => (by have ffs : (g74 69 2).toInt = 0 := (congrArg Int32.toInt (by rw [e74]; exact x_up2_at _ _ _ _ : g74 69 2 = 0)).trans (by decide); omega), fun h => ⟨fun h2 => (by have ffs : (g74 69 2).toInt = 0 := (congrArg Int32.toInt (by rw [e74]; exact x_up2_at _ _ _ _ : g74 69 2 = 0)).trans (by decide); omega), fun h2 => (by have ffs : (g74 69 2).toInt = 0 := (congrArg Int32.toInt (by rw [e74]; exact x_up2_at _ _ _ _ : g74 69 2 = 0)).trans (by decide); omega)⟩⟩)⟩⟩
              · have u75 : y69_3.toInt ≤ 349 := t_ltu (t_nle h70) (by decide : (350:Int32).toInt ≤ (350:Int)) rfl
                refine ev_loc f_X12_rules (nx := 97) rfl rfl rfl rfl ?_
                refine ev_getR f_X12_rules (nx := 100) rfl (hI.wf.s rfl) rfl rfl (hI.wf.r rfl) rfl rfl ?_
                refine ev_loc f_X12_rules (nx := 101) rfl rfl rfl rfl ?_
                refine ev_loc f_X12_rules (nx := 102) rfl rfl rfl rfl ?_
                refine ev_getR f_X12_rules (nx := 105) rfl (hI.wf.s rfl) rfl rfl (hI.wf.r rfl) rfl rfl ?_
                refine ev_sp f_X12_rules (nx := 108) (v := 1400) rfl (by decide) rfl ?_
                refine ev_loc f_X12_rules (nx := 109) rfl rfl rfl rfl ?_
                refine ev_addK f_X12_rules (nx := 110) (c := 1400) (l := 1500) (u := 1749) rfl (by decide) l69_3 u75 rfl rfl (by decide) (by decide) rfl (fun z76 e76 l76 u76 => ?_)
                refine ev_ialdT f_X12_rules (nx := 111) rfl (hI.wf.s rfl) l76 (by decide) u76 (by decide) rfl (fun w77 e77 => ?_)
                refine ev_iastT f_X12_rules (nx := 112) rfl (hI.wf.s rfl) l69_3 (by decide) u75 (by decide) rfl (hI.astS (a := 4) (b := 0) (k := y69_3.toInt.toNat) e77 (by omega) (by omega) (by omega) (by omega) (by omega)) (hX.upI (t_inR (p := 100) (m := 349) rfl l69_3 (by decide) u75 (by decide) (by decide))) (fun g78 e78 hI hX => ?_)
                refine ev_incR f_X12_rules (nx := 115) (c := 1) (l := 101) (u := 350) rfl rfl (by decide) (by decide) l69_3 u75 rfl rfl (by decide) (by decide) rfl (fun z79 e79 l79 u79 => ?_)
                refine ev_jmp f_X12_rules (nx := 89) rfl rfl rfl ?_
                refine ev_sub (lo := [(3, .int z79), (2, .int y23_2), (0, .ref 69), (1, .int ar1)]) rfl (t_sc rfl (t_sc rfl (t_sc rfl (t_sc rfl t_sn)))) ?_
                exact ih69 _ (by omega) g78 gl69 gr69 (z79) hI hX  (Int.le_trans (by decide : (100:Int) ≤ 101) l79) u79 ((by rw [e78]; exact x_up2_off (Or.inl (by decide)) : g78 69 10 = gi69 69 10).trans c69_0) ((by rw [e78]; exact x_up2_off (Or.inl (by decide)) : g78 69 12 = gi69 69 12).trans c69_1) ((by rw [e78]; exact x_up2_off (Or.inl (by decide)) : g78 69 14 = gi69 69 14).trans c69_2) ((by rw [e78]; exact x_up2_off (Or.inl (by decide)) : g78 69 18 = gi69 69 18).trans c69_3) ((by rw [e78]; exact x_up2_off (Or.inl (by decide)) : g78 69 2 = gi69 69 2).trans c69_4) ((by rw [e78]; exact x_up2_off (Or.inl (by decide)) : g78 69 24 = gi69 69 24).trans c69_5) ((by rw [e78]; exact x_up2_off (Or.inl (by decide)) : g78 69 25 = gi69 69 25).trans c69_6) ((by rw [e78]; exact x_up2_off (Or.inr (t_neCu l69_3 u75 (by decide) (by decide))) : g78 70 1403 = gi69 70 1403).trans c69_7) ((by rw [e78]; exact x_up2_off (Or.inr (t_neCl l69_3 (by decide))) : g78 70 3 = gi69 70 3).trans c69_8) ((by rw [e78]; exact x_up2_off (Or.inr (t_neCl l69_3 (by decide))) : g78 70 4 = gi69 70 4).trans c69_9) ((by rw [e78]; exact x_up2_off (Or.inr (t_neCl l69_3 (by decide))) : g78 70 8 = gi69 70 8).trans c69_10) (t_cp100 j69_0 e77 e78 (by have := t_clamp (i := y69_3) (by omega); omega) (by have := t_clamp (i := z76) (by omega); omega) (by omega) (by omega) (by omega)) (by have hr := t_R4_ext (g' := g78 70) j69_1 (fun j hj => (by rw [e78]; exact x_up2_off (Or.inr (by have hc := t_clamp (i := y69_3) (by omega); omega)) : g78 70 (j) = gi69 70 (j))); have ff80 : (g78 69 25).toInt = (gi23 69 25).toInt := congrArg Int32.toInt ((by rw [e78]; exact x_up2_off (Or.inl (by decide)) : g78 69 25 = gi69 69 25).trans c69_6); have e25 : (g78 69 25).toInt = (gi69 69 25).toInt := (by omega); rw [e25]; exact hr) ((((by rw [e78]; exact x_up2_off (Or.inr (t_neCl l69_3 (by decide))) : g78 70 3 = gi69 70 3).trans c69_8) : g78 70 3 = (gi23 70 1403)).trans (((by rw [e78]; exact x_up2_off (Or.inr (t_neCu l69_3 u75 (by decide) (by decide))) : g78 70 1403 = gi69 70 1403).trans c69_7) : g78 70 1403 = (gi23 70 1403)).symm) rfl
            refine ev_sub (lo := [(3, .int 100), (2, .int y23_2), (0, .ref 69), (1, .int ar1)]) rfl (t_sc rfl (t_sc rfl (t_sc rfl (t_sc rfl t_sn)))) ?_
            exact L69 _ g68 gl23 gr23 (100) hI hX  (by decide : (100:Int) ≤ (100:Int32).toInt) (Int.le_trans (by decide : (100:Int32).toInt ≤ (100:Int)) (by decide : (100:Int) ≤ 350)) ((by rw [e68]; exact x_up2_off (Or.inl (by decide)) : g68 69 10 = g67 69 10).trans ((by rw [e67]; exact x_up2_off (Or.inl (by decide)) : g67 69 10 = gi23 69 10).trans c23_0)) ((by rw [e68]; exact x_up2_off (Or.inl (by decide)) : g68 69 12 = g67 69 12).trans ((by rw [e67]; exact x_up2_off (Or.inl (by decide)) : g67 69 12 = gi23 69 12).trans rfl)) ((by rw [e68]; exact x_up2_off (Or.inl (by decide)) : g68 69 14 = g67 69 14).trans ((by rw [e67]; exact x_up2_off (Or.inl (by decide)) : g67 69 14 = gi23 69 14).trans rfl)) ((by rw [e68]; exact x_up2_off (Or.inl (by decide)) : g68 69 18 = g67 69 18).trans ((by rw [e67]; exact x_up2_off (Or.inl (by decide)) : g67 69 18 = gi23 69 18).trans rfl)) ((by rw [e68]; exact x_up2_off (Or.inl (by decide)) : g68 69 2 = g67 69 2).trans ((by rw [e67]; exact x_up2_off (Or.inl (by decide)) : g67 69 2 = gi23 69 2).trans c23_1)) ((by rw [e68]; exact x_up2_off (Or.inl (by decide)) : g68 69 24 = g67 69 24).trans ((by rw [e67]; exact x_up2_off (Or.inl (by decide)) : g67 69 24 = gi23 69 24).trans rfl)) ((by rw [e68]; exact x_up2_off (Or.inl (by decide)) : g68 69 25 = g67 69 25).trans ((by rw [e67]; exact x_up2_off (Or.inl (by decide)) : g67 69 25 = gi23 69 25).trans rfl)) ((by rw [e68]; exact x_up2_off (Or.inr (by decide)) : g68 70 1403 = g67 70 1403).trans ((by rw [e67]; exact x_up2_off (Or.inr (by decide)) : g67 70 1403 = gi23 70 1403).trans rfl)) ((by rw [e68]; exact x_up2_off (Or.inr (by decide)) : g68 70 3 = g67 70 3).trans (by rw [e67]; exact x_up2_at _ _ _ _ : g67 70 3 = (gi23 70 1403))) ((by rw [e68]; exact x_up2_off (Or.inr (by decide)) : g68 70 4 = g67 70 4).trans ((by rw [e67]; exact x_up2_off (Or.inr (by decide)) : g67 70 4 = gi23 70 4).trans c23_3)) (by rw [e68]; exact x_up2_at _ _ _ _ : g68 70 8 = 1) (fun j h1 h2 => absurd h2 (by have : (100 : Int32).toInt = 100 := rfl; omega)) (by have hr := t_R4_ext (g' := g68 70) (j23_0 (by omega)).1 (fun j hj => ((by rw [e68]; exact x_up2_off (Or.inr (by have hc : (8 : Int32).toNatClampNeg = 8 := rfl; omega)) : g68 70 (j) = g67 70 (j)).trans ((by rw [e67]; exact x_up2_off (Or.inr (by have hc : (3 : Int32).toNatClampNeg = 3 := rfl; omega)) : g67 70 (j) = gi23 70 (j))))); have ff81 : (g68 69 25).toInt = (gi23 69 25).toInt := congrArg Int32.toInt ((by rw [e68]; exact x_up2_off (Or.inl (by decide)) : g68 69 25 = g67 69 25).trans ((by rw [e67]; exact x_up2_off (Or.inl (by decide)) : g67 69 25 = gi23 69 25).trans rfl)); have e25 : (g68 69 25).toInt = (gi23 69 25).toInt := (by omega); rw [e25]; exact hr) ((((by rw [e68]; exact x_up2_off (Or.inr (by decide)) : g68 70 3 = g67 70 3).trans (by rw [e67]; exact x_up2_at _ _ _ _ : g67 70 3 = (gi23 70 1403))) : g68 70 3 = (gi23 70 1403)).trans (((by rw [e68]; exact x_up2_off (Or.inr (by decide)) : g68 70 1403 = g67 70 1403).trans ((by rw [e67]; exact x_up2_off (Or.inr (by decide)) : g67 70 1403 = gi23 70 1403).trans rfl)) : g68 70 1403 = (gi23 70 1403)).symm) rfl
          · have r82 : (gi23 69 18).toInt ≠ 0 := fun e => h63 (Int32.toInt_inj.mp (e.trans (by decide : (0:Int) = (0 : Int32).toInt)))
            refine ev_loc f_X12_rules (nx := 119) rfl rfl rfl rfl ?_
            refine ev_loc f_X12_rules (nx := 120) rfl rfl rfl rfl ?_
            refine ev_getR f_X12_rules (nx := 123) rfl (hI.wf.s rfl) rfl rfl (hI.wf.r rfl) rfl rfl ?_
            refine ev_ic f_X12_rules (nx := 124) (v := 3) rfl (by decide) rfl ?_
            obtain ⟨l83, u83⟩ := hI.ab (by decide +kernel : t_abr 70 3 3 0 12 = true) (Nat.le_refl _) (Nat.le_refl _)
            refine ev_ialdv f_X12_rules (nx := 125) (w := (gi23 70 3)) rfl (hI.wf.s rfl) (by decide) (rfl : (3 : Int32).toNatClampNeg = 3) (by decide) rfl rfl ?_
            refine ev_inV2 f_X12_rules (nx := 128) (lo2 := [(0, .ref 69), (1, .int (gi23 70 3))]) rfl rfl rfl rfl f_X12_taken (hI.wf.s rfl) rfl rfl rfl rfl rfl ?_
            refine ev_loc f_X12_taken (nx := 1) rfl rfl rfl rfl ?_
            refine ev_loc f_X12_taken (nx := 2) rfl rfl rfl rfl ?_
            refine ev_gvI f_X12_taken (nx := 5) (w := (gi23 69 18)) rfl (hI.wf.s rfl) rfl rfl rfl rfl ?_
            refine ev_putIT f_X12_taken (nx := 8) rfl (hI.wf.s rfl) rfl rfl rfl (hI.put0 (hI.wf.s rfl) rfl rfl) (hX.upI rfl) (fun g84 e84 hI hX => ?_)
            refine ev_loc f_X12_taken (nx := 9) rfl rfl rfl rfl ?_
            refine ev_gvI f_X12_taken (nx := 12) (w := (gi23 69 18)) rfl (hI.wf.s rfl) rfl rfl ((by rw [e84]; exact x_up2_off (Or.inr (by decide)) : g84 69 18 = gi23 69 18).trans rfl) rfl ?_
            refine ev_if f_X12_taken (t1 := 24) (t2 := 15) rfl rfl rfl (fun h85 => ?_) (fun h85 => ?_)
            · have u86 : (gi23 69 18).toInt ≤ 0 := t_leu h85 (by decide : (0:Int32).toInt ≤ (0:Int))
              refine ev_loc f_X12_taken (nx := 25) rfl rfl rfl rfl ?_
              refine ev_loc f_X12_taken (nx := 26) rfl rfl rfl rfl ?_
              refine ev_inV2 f_X12_taken (nx := 29) (lo2 := [(0, .ref 69), (1, .int (gi23 70 3))]) rfl rfl rfl rfl f_X12_gives (hI.wf.s rfl) rfl rfl rfl rfl rfl ?_
              refine ev_loc f_X12_gives (nx := 1) rfl rfl rfl rfl ?_
              refine ev_ic f_X12_gives (nx := 2) (v := 0) rfl (by decide) rfl ?_
              refine ev_putIT f_X12_gives (nx := 5) rfl (hI.wf.s rfl) rfl rfl rfl (hI.put0 (hI.wf.s rfl) rfl rfl) (hX.upI rfl) (fun g87 e87 hI hX => ?_)
              refine ev_loc f_X12_gives (nx := 6) rfl rfl rfl rfl ?_
              refine ev_retK1 f_X12_gives rfl rfl rfl ?_
              refine ev_retK1 f_X12_taken rfl rfl rfl ?_
              exact ev_ret f_X12_rules rfl rfl rfl ⟨_, _, _, rfl, hI, hX, ⟨_, rfl, (Int.le_trans (by decide : ((-1):Int) ≤ 0) l83), u83, (show (¬ (0 ≤ ar1.toInt ∧ ar1.toInt ≤ (gi 69 10).toInt ∧ ar1.toInt ≤ 300) → (g87 69 2).toInt = 1) ∧ ((0 ≤ ar1.toInt ∧ ar1.toInt ≤ (gi 69 10).toInt ∧ ar1.toInt ≤ 300) → ((gi23 70 3).toInt = -1 → (g87 69 2).toInt = 9) ∧ ((gi23 70 3).toInt ≠ -1 → (g87 69 2).toInt = 0)) from ⟨fun h => (by have ffs : (g87 69 2).toInt = 0 := (congrArg Int32.toInt (by rw [e87]; exact x_up2_at _ _ _ _ : g87 69 2 = 0)).trans (by decide); omega), fun h => ⟨fun h2 => (by have ffs : (g87 69 2).toInt = 0 := (congrArg Int32.toInt (by rw [e87]; exact x_up2_at _ _ _ _ : g87 69 2 = 0)).trans (by decide); omega), fun h2 => (by have ffs : (g87 69 2).toInt = 0 := (congrArg Int32.toInt (by rw [e87]; exact x_up2_at _ _ _ _ : g87 69 2 = 0)).trans (by decide); omega)⟩⟩)⟩⟩
            · have l88 : 1 ≤ (gi23 69 18).toInt := t_ltl (t_nle h85) (by decide : (0:Int) ≤ (0:Int32).toInt) rfl
              refine ev_loc f_X12_taken (nx := 16) rfl rfl rfl rfl ?_
              refine ev_bp f_X12_taken (nx := 18) (v := 9) rfl (by decide) rfl ?_
              refine ev_inV2 f_X12_taken (nx := 21) (lo2 := [(0, .ref 69), (1, .int 9)]) rfl rfl rfl rfl f_X12_refuse (hI.wf.s rfl) rfl rfl rfl rfl rfl ?_
              refine ev_loc f_X12_refuse (nx := 1) rfl rfl rfl rfl ?_
              refine ev_loc f_X12_refuse (nx := 2) rfl rfl rfl rfl ?_
              refine ev_putIT f_X12_refuse (nx := 5) rfl (hI.wf.s rfl) rfl rfl rfl (hI.put0 (hI.wf.s rfl) rfl rfl) (hX.upI rfl) (fun g89 e89 hI hX => ?_)
              refine ev_ic f_X12_refuse (nx := 6) (v := -1) rfl (by decide) rfl ?_
              refine ev_retK1 f_X12_refuse rfl rfl rfl ?_
              refine ev_jmp f_X12_taken (nx := 29) rfl rfl rfl ?_
              refine ev_retK1 f_X12_taken rfl rfl rfl ?_
              exact ev_ret f_X12_rules rfl rfl rfl ⟨_, _, _, rfl, hI, hX, ⟨_, rfl, (by decide : ((-1):Int) ≤ ((-1):Int32).toInt), (Int.le_trans (by decide : ((-1):Int32).toInt ≤ ((-1):Int)) (by decide : ((-1):Int) ≤ 12)), (show (¬ (0 ≤ ar1.toInt ∧ ar1.toInt ≤ (gi 69 10).toInt ∧ ar1.toInt ≤ 300) → (g89 69 2).toInt = 1) ∧ ((0 ≤ ar1.toInt ∧ ar1.toInt ≤ (gi 69 10).toInt ∧ ar1.toInt ≤ 300) → (((-1) : Int) = -1 → (g89 69 2).toInt = 9) ∧ (((-1) : Int) ≠ -1 → (g89 69 2).toInt = 0)) from ⟨fun h => (by have ffs : (g89 69 2).toInt = 9 := (congrArg Int32.toInt (by rw [e89]; exact x_up2_at _ _ _ _ : g89 69 2 = 9)).trans (by decide); omega), fun h => ⟨fun h2 => (by have ffs : (g89 69 2).toInt = 9 := (congrArg Int32.toInt (by rw [e89]; exact x_up2_at _ _ _ _ : g89 69 2 = 9)).trans (by decide); omega), fun h2 => (by have ffs : (g89 69 2).toInt = 9 := (congrArg Int32.toInt (by rw [e89]; exact x_up2_at _ _ _ _ : g89 69 2 = 9)).trans (by decide); omega)⟩⟩)⟩⟩
        · have r90 : (gi23 69 12).toInt ≠ 0 := fun e => h61 (Int32.toInt_inj.mp (e.trans (by decide : (0:Int) = (0 : Int32).toInt)))
          have l91 : 1 ≤ (gi23 69 12).toInt := t_nel h61 l24 rfl rfl
          refine ev_loc f_X12_rules (nx := 50) rfl rfl rfl rfl ?_
          refine ev_qI f_X12_rules (nx := 53) (r := []) rfl rfl rfl rfl rfl rfl rfl (c_m_aRule hI  (j23_0 (by omega)).1 (j23_0 (by omega)).2) rfl hX rfl (fun w92 gi92 gl92 gr92 l92 u92 hI hX hC92 q92 => ?_)
          have q92 : (gi23 69 14).toInt ≤ (gi92 69 14).toInt ∧ (w92.toInt = 1 → (gi92 69 12).toInt ≠ 0 → (gi23 69 14).toInt < (gi92 69 14).toInt) ∧ (w92.toInt = 0 → (gi92 69 18).toInt ≠ 0) ∧ (w92.toInt = 1 → (t_R4 (gi92 70) (gi92 69 25).toInt ∧ (gi92 69 25).toInt ≤ 8 * (gi92 69 24).toInt)) := q92
          obtain ⟨l93, u93⟩ := hI.b (hI.wf.s (k := 69) rfl) (t_bdK rfl : t_bd 11 12 = some (0, 4))
          obtain ⟨l94, u94⟩ := hI.b (hI.wf.s (k := 69) rfl) (t_bdK rfl : t_bd 11 14 = some (0, 900))
          obtain ⟨l96, u96⟩ := hI.b (hI.wf.s (k := 69) rfl) (t_bdK rfl : t_bd 11 24 = some (0, 24))
          obtain ⟨l97, u97⟩ := hI.b (hI.wf.s (k := 69) rfl) (t_bdK rfl : t_bd 11 25 = some (0, 210))
          obtain ⟨l98, u98⟩ := hI.ab (by decide +kernel : t_abr 70 1403 1403 0 12 = true) (Nat.le_refl _) (Nat.le_refl _)
          refine ev_loc f_X12_rules (nx := 54) (lo' := [(2, .int w92), (0, .ref 69), (1, .int ar1)]) rfl rfl rfl rfl ?_
          refine ev_jmp f_X12_rules (nx := 38) rfl rfl rfl ?_
          refine ev_sub (lo := [(2, .int w92), (0, .ref 69), (1, .int ar1)]) rfl (t_sc rfl (t_sc rfl (t_sc rfl t_sn))) ?_
          exact ih23 _ (by omega) gi92 gl92 gr92 (w92) hI hX  l92 u92 ((hC92.1 69 10 rfl).1.trans c23_0) ((hC92.1 69 2 rfl).1.trans c23_1) ((hC92.1 70 J0 (t_nG (lo := 0) (hi := 350) rfl (by omega) (by omega))).1.trans c23_2) ((hC92.1 70 4 rfl).1.trans c23_3) (fun h => (q92.2.2.2 (by omega))) (fun h => (q92.2.2.1 (by omega))) rfl
    refine ev_sub (lo := [(2, .int 1), (0, .ref 69), (1, .int ar1)]) rfl (t_sc rfl (t_sc rfl (t_sc rfl t_sn))) ?_
    exact L23 _ g22 gl10 gr10 (1) hI hX  (Int.le_trans (by decide : (0:Int) ≤ 1) (by decide : (1:Int) ≤ (1:Int32).toInt)) (by decide : (1:Int32).toInt ≤ (1:Int)) ((by rw [e22]; exact x_up2_off (Or.inr (by decide)) : g22 69 10 = g21 69 10).trans ((by rw [e21]; exact x_up2_off (Or.inr (by decide)) : g21 69 10 = g20 69 10).trans ((by rw [e20]; exact x_up2_off (Or.inl (by decide)) : g20 69 10 = gi10 69 10).trans rfl))) ((by rw [e22]; exact x_up2_off (Or.inr (by decide)) : g22 69 2 = g21 69 2).trans ((by rw [e21]; exact x_up2_off (Or.inr (by decide)) : g21 69 2 = g20 69 2).trans ((by rw [e20]; exact x_up2_off (Or.inl (by decide)) : g20 69 2 = gi10 69 2).trans ((hC10.1 69 2 rfl).1.trans rfl)))) ((by rw [e22]; exact x_up2_off (Or.inl (by decide)) : g22 70 J0 = g21 70 J0).trans ((by rw [e21]; exact x_up2_off (Or.inl (by decide)) : g21 70 J0 = g20 70 J0).trans ((by rw [e20]; exact x_up2_off (Or.inr (by have : (1403 : Int32).toNatClampNeg = 1403 := rfl; omega)) : g20 70 J0 = gi10 70 J0).trans ((hC10.1 70 J0 (t_nG (lo := 0) (hi := 350) rfl (by omega) (by omega))).1.trans rfl)))) ((by rw [e22]; exact x_up2_off (Or.inr (by decide)) : g22 70 4 = g21 70 4).trans ((by rw [e21]; exact x_up2_off (Or.inr (by decide)) : g21 70 4 = g20 70 4).trans ((by rw [e20]; exact x_up2_off (Or.inr (by decide)) : g20 70 4 = gi10 70 4).trans ((hC10.1 70 4 rfl).1.trans rfl)))) (fun _ => ⟨t_R4_0 (by have ff99 : (g22 70 1403).toInt = 0 := (congrArg Int32.toInt ((by rw [e22]; exact x_up2_off (Or.inr (by decide)) : g22 70 1403 = g21 70 1403).trans ((by rw [e21]; exact x_up2_off (Or.inr (by decide)) : g21 70 1403 = g20 70 1403).trans (by rw [e20]; exact x_up2_at _ _ _ _ : g20 70 1403 = 0)))).trans (by decide); omega), (by have hb4 := hI.b (hI.wf.s (k := 69) rfl) (t_bdK rfl : t_bd 11 24 = some (0, 24)); have ff100 : (g22 69 24).toInt = 0 := (congrArg Int32.toInt ((by rw [e22]; exact x_up2_off (Or.inr (by decide)) : g22 69 24 = g21 69 24).trans (by rw [e21]; exact x_up2_at _ _ _ _ : g21 69 24 = 0))).trans (by decide); have ff101 : (g22 69 25).toInt = 0 := (congrArg Int32.toInt (by rw [e22]; exact x_up2_at _ _ _ _ : g22 69 25 = 0)).trans (by decide); omega)⟩) (fun h => absurd h (by decide)) rfl
noncomputable def wl_g_mark : List (Nat × Nat) := [(69, 2), (69, 75), (70, 11399), (71, 10071)]
noncomputable def Q_g_mark (gi : Nat → Nat → Int32) (gl : Nat → Nat → Int64) (gr : Nat → Nat → Value) : Int32 → (Nat → Nat → Int32) → (Nat → Nat → Int64) → (Nat → Nat → Value) → Prop := fun (v : Int32) (gi2 : Nat → Nat → Int32) (gl2 : Nat → Nat → Int64) (gr2 : Nat → Nat → Value) => (v.toInt = -1 → (gi2 69 2).toInt = 4) ∧ (v.toInt ≠ -1 → (gi2 69 2).toInt = 0)
theorem c_g_mark {X : x_Ext} {d : Nat} {sh : List (Nat ⊕ (Nat × Nat))} {gi : Nat → Nat → Int32} {gl : Nat → Nat → Int64} {gr : Nat → Nat → Value} (hI : t_I sh gi gr) : x_Me X (d + 2) n_X12_mark [.ref 69] (sh, gi, gl, gr) (t_PI wl_g_mark sh gi gl gr (-1) 3 (Q_g_mark gi gl gr)) := by
  have hX : t_X wl_g_mark sh gi gl gr gi gl gr := t_X.rf
  refine me_i f_X12_mark (hI.wf.s rfl) rfl rfl rfl ?_
  obtain ⟨l2, u2⟩ := hI.b (hI.wf.s (k := 69) rfl) (t_bdK rfl : t_bd 11 75 = some (0, 3))
  refine ev_loc f_X12_mark (nx := 1) rfl rfl rfl rfl ?_
  refine ev_gvI f_X12_mark (nx := 4) (w := (gi 69 75)) rfl (hI.wf.s rfl) rfl rfl rfl rfl ?_
  refine ev_ic f_X12_mark (nx := 5) (v := 3) rfl (by decide) rfl ?_
  refine ev_if f_X12_mark (t1 := 8) (t2 := 14) rfl rfl rfl (fun h3 => ?_) (fun h3 => ?_)
  · have l4 : 3 ≤ (gi 69 75).toInt := t_eql h3 (by decide : (3:Int) ≤ (3:Int32).toInt)
    refine ev_loc f_X12_mark (nx := 9) rfl rfl rfl rfl ?_
    refine ev_ic f_X12_mark (nx := 10) (v := 4) rfl (by decide) rfl ?_
    refine ev_inV2 f_X12_mark (nx := 13) (lo2 := [(0, .ref 69), (1, .int 4)]) rfl rfl rfl rfl f_X12_refuse (hI.wf.s rfl) rfl rfl rfl rfl rfl ?_
    refine ev_loc f_X12_refuse (nx := 1) rfl rfl rfl rfl ?_
    refine ev_loc f_X12_refuse (nx := 2) rfl rfl rfl rfl ?_
    refine ev_putIT f_X12_refuse (nx := 5) rfl (hI.wf.s rfl) rfl rfl rfl (hI.put0 (hI.wf.s rfl) rfl rfl) (hX.upI rfl) (fun g5 e5 hI hX => ?_)
    refine ev_ic f_X12_refuse (nx := 6) (v := -1) rfl (by decide) rfl ?_
    refine ev_retK1 f_X12_refuse rfl rfl rfl ?_
    exact ev_ret f_X12_mark rfl rfl rfl ⟨_, _, _, rfl, hI, hX, ⟨_, rfl, (by decide : ((-1):Int) ≤ ((-1):Int32).toInt), (Int.le_trans (by decide : ((-1):Int32).toInt ≤ ((-1):Int)) (by decide : ((-1):Int) ≤ 3)), (show (((-1) : Int) = -1 → (g5 69 2).toInt = 4) ∧ (((-1) : Int) ≠ -1 → (g5 69 2).toInt = 0) from ⟨fun h => (by have ffs : (g5 69 2).toInt = 4 := (congrArg Int32.toInt (by rw [e5]; exact x_up2_at _ _ _ _ : g5 69 2 = 4)).trans (by decide); omega), fun h => (by have ffs : (g5 69 2).toInt = 4 := (congrArg Int32.toInt (by rw [e5]; exact x_up2_at _ _ _ _ : g5 69 2 = 4)).trans (by decide); omega)⟩)⟩⟩
  · have r6 : (gi 69 75).toInt ≠ 3 := fun e => h3 (Int32.toInt_inj.mp (e.trans (by decide : (3:Int) = (3 : Int32).toInt)))
    have u7 : (gi 69 75).toInt ≤ 2 := t_neu h3 u2 rfl rfl
    refine ev_loc f_X12_mark (nx := 15) rfl rfl rfl rfl ?_
    refine ev_alu f_X12_mark (nx := 16) rfl rfl rfl rfl ?_
    refine ev_gvI f_X12_mark (nx := 19) (w := (gi 69 75)) rfl (hI.wf.s rfl) rfl rfl rfl rfl ?_
    refine ev_ic f_X12_mark (nx := 20) (v := 1) rfl (by decide) rfl ?_
    refine ev_addC f_X12_mark (nx := 21) (c := 1) (l := 1) (u := 3) rfl (by decide) l2 u7 rfl rfl (by decide) (by decide) rfl (fun z8 e8 l8 u8 => ?_)
    refine ev_putIT f_X12_mark (nx := 24) rfl (hI.wf.s rfl) rfl rfl rfl (hI.putB (hI.wf.s rfl) rfl rfl l8 (by decide) u8 (by decide)) (hX.upI rfl) (fun g9 e9 hI hX => ?_)
    refine ev_loc f_X12_mark (nx := 25) rfl rfl rfl rfl ?_
    refine ev_ic f_X12_mark (nx := 26) (v := 0) rfl (by decide) rfl ?_
    refine ev_loc f_X12_mark (nx := 27) rfl rfl rfl rfl ?_
    refine ev_gvI f_X12_mark (nx := 30) (w := z8) rfl (hI.wf.s rfl) rfl rfl (by rw [e9]; exact x_up2_at _ _ _ _ : g9 69 75 = z8) rfl ?_
    refine ev_qN f_X12_mark (nx := 33) (r := []) rfl rfl rfl rfl rfl rfl rfl (c_m_copies hI (0) (by decide : (0:Int) ≤ (0:Int32).toInt) (Int.le_trans (by decide : (0:Int32).toInt ≤ (0:Int)) (by decide : (0:Int) ≤ 3)) (z8) (Int.le_trans (by decide : (0:Int) ≤ 1) l8) u8 (by have kf11 : (0 : Int32).toInt = 0 := (by decide); omega)) rfl hX rfl (fun gi10 gl10 gr10 hI hX hC10 q10 => ?_)
    have q10 : (∀ j, gi10 70 j = t_cpy (g9 70) 0 z8.toInt.toNat 350 j) := q10
    refine ev_loc f_X12_mark (nx := 34) rfl rfl rfl rfl ?_
    refine ev_loc f_X12_mark (nx := 35) rfl rfl rfl rfl ?_
    refine ev_gvI f_X12_mark (nx := 38) (w := z8) rfl (hI.wf.s rfl) rfl rfl ((hC10.1 69 75 rfl).1.trans (by rw [e9]; exact x_up2_at _ _ _ _ : g9 69 75 = z8)) rfl ?_
    refine ev_inV2 f_X12_mark (nx := 41) (lo2 := [(0, .ref 69), (1, .int z8)]) rfl rfl rfl rfl f_X12_gives (hI.wf.s rfl) rfl rfl rfl rfl rfl ?_
    refine ev_loc f_X12_gives (nx := 1) rfl rfl rfl rfl ?_
    refine ev_ic f_X12_gives (nx := 2) (v := 0) rfl (by decide) rfl ?_
    refine ev_putIT f_X12_gives (nx := 5) rfl (hI.wf.s rfl) rfl rfl rfl (hI.put0 (hI.wf.s rfl) rfl rfl) (hX.upI rfl) (fun g12 e12 hI hX => ?_)
    refine ev_loc f_X12_gives (nx := 6) rfl rfl rfl rfl ?_
    refine ev_retK1 f_X12_gives rfl rfl rfl ?_
    exact ev_ret f_X12_mark rfl rfl rfl ⟨_, _, _, rfl, hI, hX, ⟨_, rfl, (Int.le_trans (by decide : ((-1):Int) ≤ 1) l8), u8, (show (z8.toInt = -1 → (g12 69 2).toInt = 4) ∧ (z8.toInt ≠ -1 → (g12 69 2).toInt = 0) from ⟨fun h => (by have ffs : (g12 69 2).toInt = 0 := (congrArg Int32.toInt (by rw [e12]; exact x_up2_at _ _ _ _ : g12 69 2 = 0)).trans (by decide); omega), fun h => (by have ffs : (g12 69 2).toInt = 0 := (congrArg Int32.toInt (by rw [e12]; exact x_up2_at _ _ _ _ : g12 69 2 = 0)).trans (by decide); omega)⟩)⟩⟩
noncomputable def wl_g_back : List (Nat × Nat) := [(69, 2), (69, 75), (70, 11399), (71, 10071)]
noncomputable def Q_g_back (gi : Nat → Nat → Int32) (gl : Nat → Nat → Int64) (gr : Nat → Nat → Value) : Int32 → (Nat → Nat → Int32) → (Nat → Nat → Int64) → (Nat → Nat → Value) → Prop := fun (v : Int32) (gi2 : Nat → Nat → Int32) (gl2 : Nat → Nat → Int64) (gr2 : Nat → Nat → Value) => (v.toInt = -1 → (gi2 69 2).toInt = 6) ∧ (v.toInt ≠ -1 → (gi2 69 2).toInt = 0)
theorem c_g_back {X : x_Ext} {d : Nat} {sh : List (Nat ⊕ (Nat × Nat))} {gi : Nat → Nat → Int32} {gl : Nat → Nat → Int64} {gr : Nat → Nat → Value} (hI : t_I sh gi gr) : x_Me X (d + 2) n_X12_back [.ref 69] (sh, gi, gl, gr) (t_PI wl_g_back sh gi gl gr (-1) 2 (Q_g_back gi gl gr)) := by
  have hX : t_X wl_g_back sh gi gl gr gi gl gr := t_X.rf
  refine me_i f_X12_back (hI.wf.s rfl) rfl rfl rfl ?_
  obtain ⟨l2, u2⟩ := hI.b (hI.wf.s (k := 69) rfl) (t_bdK rfl : t_bd 11 75 = some (0, 3))
  refine ev_loc f_X12_back (nx := 1) rfl rfl rfl rfl ?_
  refine ev_gvI f_X12_back (nx := 4) (w := (gi 69 75)) rfl (hI.wf.s rfl) rfl rfl rfl rfl ?_
  refine ev_if f_X12_back (t1 := 7) (t2 := 14) rfl rfl rfl (fun h3 => ?_) (fun h3 => ?_)
  · have u4 : (gi 69 75).toInt ≤ 0 := t_equ h3 (by decide : (0:Int32).toInt ≤ (0:Int))
    refine ev_loc f_X12_back (nx := 8) rfl rfl rfl rfl ?_
    refine ev_bp f_X12_back (nx := 10) (v := 6) rfl (by decide) rfl ?_
    refine ev_inV2 f_X12_back (nx := 13) (lo2 := [(0, .ref 69), (1, .int 6)]) rfl rfl rfl rfl f_X12_refuse (hI.wf.s rfl) rfl rfl rfl rfl rfl ?_
    refine ev_loc f_X12_refuse (nx := 1) rfl rfl rfl rfl ?_
    refine ev_loc f_X12_refuse (nx := 2) rfl rfl rfl rfl ?_
    refine ev_putIT f_X12_refuse (nx := 5) rfl (hI.wf.s rfl) rfl rfl rfl (hI.put0 (hI.wf.s rfl) rfl rfl) (hX.upI rfl) (fun g5 e5 hI hX => ?_)
    refine ev_ic f_X12_refuse (nx := 6) (v := -1) rfl (by decide) rfl ?_
    refine ev_retK1 f_X12_refuse rfl rfl rfl ?_
    exact ev_ret f_X12_back rfl rfl rfl ⟨_, _, _, rfl, hI, hX, ⟨_, rfl, (by decide : ((-1):Int) ≤ ((-1):Int32).toInt), (Int.le_trans (by decide : ((-1):Int32).toInt ≤ ((-1):Int)) (by decide : ((-1):Int) ≤ 2)), (show (((-1) : Int) = -1 → (g5 69 2).toInt = 6) ∧ (((-1) : Int) ≠ -1 → (g5 69 2).toInt = 0) from ⟨fun h => (by have ffs : (g5 69 2).toInt = 6 := (congrArg Int32.toInt (by rw [e5]; exact x_up2_at _ _ _ _ : g5 69 2 = 6)).trans (by decide); omega), fun h => (by have ffs : (g5 69 2).toInt = 6 := (congrArg Int32.toInt (by rw [e5]; exact x_up2_at _ _ _ _ : g5 69 2 = 6)).trans (by decide); omega)⟩)⟩⟩
  · have r6 : (gi 69 75).toInt ≠ 0 := fun e => h3 (Int32.toInt_inj.mp (e.trans (by decide : (0:Int) = (0 : Int32).toInt)))
    have l7 : 1 ≤ (gi 69 75).toInt := t_nel h3 l2 rfl rfl
    refine ev_loc f_X12_back (nx := 15) rfl rfl rfl rfl ?_
    refine ev_loc f_X12_back (nx := 16) rfl rfl rfl rfl ?_
    refine ev_gvI f_X12_back (nx := 19) (w := (gi 69 75)) rfl (hI.wf.s rfl) rfl rfl rfl rfl ?_
    refine ev_ic f_X12_back (nx := 20) (v := 0) rfl (by decide) rfl ?_
    refine ev_qN f_X12_back (nx := 23) (r := []) rfl rfl rfl rfl rfl rfl rfl (c_m_copies hI ((gi 69 75)) (Int.le_trans (by decide : (0:Int) ≤ 1) l7) u2 (0) (by decide : (0:Int) ≤ (0:Int32).toInt) (Int.le_trans (by decide : (0:Int32).toInt ≤ (0:Int)) (by decide : (0:Int) ≤ 3)) (by have kf9 : (0 : Int32).toInt = 0 := (by decide); omega)) rfl hX rfl (fun gi8 gl8 gr8 hI hX hC8 q8 => ?_)
    have q8 : (∀ j, gi8 70 j = t_cpy (gi 70) (gi 69 75).toInt.toNat 0 350 j) := q8
    refine ev_loc f_X12_back (nx := 24) rfl rfl rfl rfl ?_
    refine ev_alu f_X12_back (nx := 25) rfl rfl rfl rfl ?_
    refine ev_gvI f_X12_back (nx := 28) (w := (gi 69 75)) rfl (hI.wf.s rfl) rfl rfl ((hC8.1 69 75 rfl).1.trans rfl) rfl ?_
    refine ev_ic f_X12_back (nx := 29) (v := 1) rfl (by decide) rfl ?_
    refine ev_subC f_X12_back (nx := 30) (c := 1) (l := 0) (u := 2) rfl (by decide) l7 u2 rfl rfl (by decide) (by decide) rfl (fun z10 e10 l10 u10 => ?_)
    refine ev_putIT f_X12_back (nx := 33) rfl (hI.wf.s rfl) rfl rfl rfl (hI.putB (hI.wf.s rfl) rfl rfl l10 (by decide) u10 (by decide)) (hX.upI rfl) (fun g11 e11 hI hX => ?_)
    refine ev_loc f_X12_back (nx := 34) rfl rfl rfl rfl ?_
    refine ev_loc f_X12_back (nx := 35) rfl rfl rfl rfl ?_
    refine ev_gvI f_X12_back (nx := 38) (w := z10) rfl (hI.wf.s rfl) rfl rfl (by rw [e11]; exact x_up2_at _ _ _ _ : g11 69 75 = z10) rfl ?_
    refine ev_inV2 f_X12_back (nx := 41) (lo2 := [(0, .ref 69), (1, .int z10)]) rfl rfl rfl rfl f_X12_gives (hI.wf.s rfl) rfl rfl rfl rfl rfl ?_
    refine ev_loc f_X12_gives (nx := 1) rfl rfl rfl rfl ?_
    refine ev_ic f_X12_gives (nx := 2) (v := 0) rfl (by decide) rfl ?_
    refine ev_putIT f_X12_gives (nx := 5) rfl (hI.wf.s rfl) rfl rfl rfl (hI.put0 (hI.wf.s rfl) rfl rfl) (hX.upI rfl) (fun g12 e12 hI hX => ?_)
    refine ev_loc f_X12_gives (nx := 6) rfl rfl rfl rfl ?_
    refine ev_retK1 f_X12_gives rfl rfl rfl ?_
    exact ev_ret f_X12_back rfl rfl rfl ⟨_, _, _, rfl, hI, hX, ⟨_, rfl, (Int.le_trans (by decide : ((-1):Int) ≤ 0) l10), u10, (show (z10.toInt = -1 → (g12 69 2).toInt = 6) ∧ (z10.toInt ≠ -1 → (g12 69 2).toInt = 0) from ⟨fun h => (by have ffs : (g12 69 2).toInt = 0 := (congrArg Int32.toInt (by rw [e12]; exact x_up2_at _ _ _ _ : g12 69 2 = 0)).trans (by decide); omega), fun h => (by have ffs : (g12 69 2).toInt = 0 := (congrArg Int32.toInt (by rw [e12]; exact x_up2_at _ _ _ _ : g12 69 2 = 0)).trans (by decide); omega)⟩)⟩⟩
noncomputable def wl_g_least : List (Nat × Nat) := [(69, 2), (69, 44), (69, 45), (69, 48), (89, 10005), (89, 610011), (90, 9999), (91, 9999), (92, 9999)]
noncomputable def Q_g_least (gi : Nat → Nat → Int32) (gl : Nat → Nat → Int64) (gr : Nat → Nat → Value) : Int32 → (Nat → Nat → Int32) → (Nat → Nat → Int64) → (Nat → Nat → Value) → Prop := fun (v : Int32) (gi2 : Nat → Nat → Int32) (gl2 : Nat → Nat → Int64) (gr2 : Nat → Nat → Value) => (v.toInt = -1 → (gi2 69 2).toInt = 6) ∧ (v.toInt ≠ -1 → (gi2 69 2).toInt = 0)
theorem c_g_least {X : x_Ext} {d : Nat} {sh : List (Nat ⊕ (Nat × Nat))} {gi : Nat → Nat → Int32} {gl : Nat → Nat → Int64} {gr : Nat → Nat → Value} (hI : t_I sh gi gr) (e_p0 : 1 ≤ (gi 70 4).toInt) : x_Me X (d + 6) n_X12_least [.ref 69] (sh, gi, gl, gr) (t_PI wl_g_least sh gi gl gr (-2147483648) 999999999 (Q_g_least gi gl gr)) := by
  have hX : t_X wl_g_least sh gi gl gr gi gl gr := t_X.rf
  refine me_i f_X12_least (hI.wf.s rfl) rfl rfl rfl ?_
  obtain ⟨l2, u2⟩ := hI.ab (by decide +kernel : t_abr 70 4 4 0 20 = true) (Nat.le_refl _) (Nat.le_refl _)
  refine ev_loc f_X12_least (nx := 1) rfl rfl rfl rfl ?_
  refine ev_loc f_X12_least (nx := 2) rfl rfl rfl rfl ?_
  refine ev_ic f_X12_least (nx := 3) (v := 0) rfl (by decide) rfl ?_
  refine ev_loc f_X12_least (nx := 4) rfl rfl rfl rfl ?_
  refine ev_getR f_X12_least (nx := 7) rfl (hI.wf.s rfl) rfl rfl (hI.wf.r rfl) rfl rfl ?_
  refine ev_ic f_X12_least (nx := 8) (v := 4) rfl (by decide) rfl ?_
  refine ev_ialdv f_X12_least (nx := 9) (w := (gi 70 4)) rfl (hI.wf.s rfl) (by decide) (rfl : (4 : Int32).toNatClampNeg = 4) (by decide) rfl rfl ?_
  refine ev_qI f_X12_least (nx := 12) (r := [.ref 69]) rfl rfl rfl rfl rfl rfl rfl (c_m_leastBy hI (0) ((gi 70 4)) l2 u2 (by omega)) rfl hX rfl (fun w4 gi4 gl4 gr4 l4 u4 hI hX hC4 q4 => ?_)
  have q4 : Q_m_leastBy gi gl gr (0 : Int32) (gi 70 4) w4 gi4 gl4 gr4 := q4
  refine ev_inV2 f_X12_least (nx := 15) (lo2 := [(0, .ref 69), (1, .int w4)]) rfl rfl rfl rfl f_X12_orNone (hI.wf.s rfl) rfl rfl rfl rfl rfl ?_
  refine ev_loc f_X12_orNone (nx := 1) rfl rfl rfl rfl ?_
  refine ev_ic f_X12_orNone (nx := 2) (v := -1) rfl (by decide) rfl ?_
  refine ev_if f_X12_orNone (t1 := 5) (t2 := 14) rfl rfl rfl (fun h5 => ?_) (fun h5 => ?_)
  · have u6 : w4.toInt ≤ (-1) := t_equ h5 (by decide : ((-1):Int32).toInt ≤ ((-1):Int))
    have l7 : (-1) ≤ w4.toInt := t_eql h5 (by decide : ((-1):Int) ≤ ((-1):Int32).toInt)
    refine ev_loc f_X12_orNone (nx := 6) rfl rfl rfl rfl ?_
    refine ev_bp f_X12_orNone (nx := 8) (v := 6) rfl (by decide) rfl ?_
    refine ev_inV2 f_X12_orNone (nx := 11) (lo2 := [(0, .ref 69), (1, .int 6)]) rfl rfl rfl rfl f_X12_refuse (hI.wf.s rfl) rfl rfl rfl rfl rfl ?_
    refine ev_loc f_X12_refuse (nx := 1) rfl rfl rfl rfl ?_
    refine ev_loc f_X12_refuse (nx := 2) rfl rfl rfl rfl ?_
    refine ev_putIT f_X12_refuse (nx := 5) rfl (hI.wf.s rfl) rfl rfl rfl (hI.put0 (hI.wf.s rfl) rfl rfl) (hX.upI rfl) (fun g8 e8 hI hX => ?_)
    refine ev_ic f_X12_refuse (nx := 6) (v := -1) rfl (by decide) rfl ?_
    refine ev_retK1 f_X12_refuse rfl rfl rfl ?_
    refine ev_jmp f_X12_orNone (nx := 19) rfl rfl rfl ?_
    refine ev_retK1 f_X12_orNone rfl rfl rfl ?_
    exact ev_ret f_X12_least rfl rfl rfl ⟨_, _, _, rfl, hI, hX, ⟨_, rfl, (Int.le_trans (by decide : ((-2147483648):Int) ≤ (-1)) (by decide : ((-1):Int) ≤ ((-1):Int32).toInt)), (Int.le_trans (by decide : ((-1):Int32).toInt ≤ ((-1):Int)) (by decide : ((-1):Int) ≤ 999999999)), (show (((-1) : Int) = -1 → (g8 69 2).toInt = 6) ∧ (((-1) : Int) ≠ -1 → (g8 69 2).toInt = 0) from ⟨fun h => (by have ffs : (g8 69 2).toInt = 6 := (congrArg Int32.toInt (by rw [e8]; exact x_up2_at _ _ _ _ : g8 69 2 = 6)).trans (by decide); omega), fun h => (by have ffs : (g8 69 2).toInt = 6 := (congrArg Int32.toInt (by rw [e8]; exact x_up2_at _ _ _ _ : g8 69 2 = 6)).trans (by decide); omega)⟩)⟩⟩
  · have r9 : w4.toInt ≠ (-1) := fun e => h5 (Int32.toInt_inj.mp (e.trans (by decide : ((-1):Int) = ((-1) : Int32).toInt)))
    refine ev_loc f_X12_orNone (nx := 15) rfl rfl rfl rfl ?_
    refine ev_loc f_X12_orNone (nx := 16) rfl rfl rfl rfl ?_
    refine ev_inV2 f_X12_orNone (nx := 19) (lo2 := [(0, .ref 69), (1, .int w4)]) rfl rfl rfl rfl f_X12_gives (hI.wf.s rfl) rfl rfl rfl rfl rfl ?_
    refine ev_loc f_X12_gives (nx := 1) rfl rfl rfl rfl ?_
    refine ev_ic f_X12_gives (nx := 2) (v := 0) rfl (by decide) rfl ?_
    refine ev_putIT f_X12_gives (nx := 5) rfl (hI.wf.s rfl) rfl rfl rfl (hI.put0 (hI.wf.s rfl) rfl rfl) (hX.upI rfl) (fun g10 e10 hI hX => ?_)
    refine ev_loc f_X12_gives (nx := 6) rfl rfl rfl rfl ?_
    refine ev_retK1 f_X12_gives rfl rfl rfl ?_
    refine ev_retK1 f_X12_orNone rfl rfl rfl ?_
    exact ev_ret f_X12_least rfl rfl rfl ⟨_, _, _, rfl, hI, hX, ⟨_, rfl, l4, u4, (show (w4.toInt = -1 → (g10 69 2).toInt = 6) ∧ (w4.toInt ≠ -1 → (g10 69 2).toInt = 0) from ⟨fun h => (by have ffs : (g10 69 2).toInt = 0 := (congrArg Int32.toInt (by rw [e10]; exact x_up2_at _ _ _ _ : g10 69 2 = 0)).trans (by decide); omega), fun h => (by have ffs : (g10 69 2).toInt = 0 := (congrArg Int32.toInt (by rw [e10]; exact x_up2_at _ _ _ _ : g10 69 2 = 0)).trans (by decide); omega)⟩)⟩⟩
/-! ===== printed by riv.py: STATUS, the other side ===== -/
noncomputable def wl_g_quicker : List (Nat × Nat) := [(69, 2), (69, 44), (69, 45), (69, 48), (89, 10005), (89, 610011), (90, 9999), (91, 9999), (92, 9999)]
noncomputable def Q_g_quicker (gi : Nat → Nat → Int32) (gl : Nat → Nat → Int64) (gr : Nat → Nat → Value) (ar1 : Int32) : Int32 → (Nat → Nat → Int32) → (Nat → Nat → Int64) → (Nat → Nat → Value) → Prop := fun (v : Int32) (gi2 : Nat → Nat → Int32) (gl2 : Nat → Nat → Int64) (gr2 : Nat → Nat → Value) => (¬ (1 ≤ ar1.toInt ∧ ar1.toInt ≤ 20) → (gi2 69 2).toInt = 1) ∧ ((1 ≤ ar1.toInt ∧ ar1.toInt ≤ 20) → (v.toInt = -1 → (gi2 69 2).toInt = 6) ∧ (v.toInt ≠ -1 → (gi2 69 2).toInt = 0))
theorem c_g_quicker {X : x_Ext} {d : Nat} {sh : List (Nat ⊕ (Nat × Nat))} {gi : Nat → Nat → Int32} {gl : Nat → Nat → Int64} {gr : Nat → Nat → Value} (hI : t_I sh gi gr) (ar1 : Int32) : x_Me X (d + 6) n_X12_quicker [.ref 69, .int ar1] (sh, gi, gl, gr) (t_PI wl_g_quicker sh gi gl gr (-2147483648) 999999999 (Q_g_quicker gi gl gr ar1)) := by
  have hX : t_X wl_g_quicker sh gi gl gr gi gl gr := t_X.rf
  refine me_i f_X12_quicker (hI.wf.s rfl) rfl rfl rfl ?_
  refine ev_loc f_X12_quicker (nx := 1) rfl rfl rfl rfl ?_
  refine ev_anyLE f_X12_quicker (nx := 2) rfl rfl rfl rfl (fun z2 e2 => ?_)
  have i2 : z2.toInt = ar1.toInt := by rw [e2]; exact Int32.toInt_toInt64 _
  refine ev_lc f_X12_quicker (nx := 3) (v := 1) rfl (by decide) rfl ?_
  refine ev_ldL f_X12_quicker (nx := 6) (v := 20) rfl (by decide) rfl ?_
  refine ev_inS3 f_X12_quicker (nx := 9) (lo2 := [(0, .long z2), (2, .long 1), (4, .long 20)]) rfl rfl rfl rfl f_X12_isFrom rfl rfl rfl rfl ?_
  refine ev_loc f_X12_isFrom (nx := 1) rfl rfl rfl rfl ?_
  refine ev_loc f_X12_isFrom (nx := 2) rfl rfl rfl rfl ?_
  refine ev_anyIE f_X12_isFrom (nx := 3) rfl rfl rfl rfl (fun z3 e3 => ?_)
  refine ev_if f_X12_isFrom (t1 := 17) (t2 := 6) rfl rfl rfl (fun h4 => ?_) (fun h4 => ?_)
  · have u5 : ar1.toInt ≤ (0:Int) := Int.le_sub_one_of_lt ((lgc_lt (by decide : (1 : Int64).toInt = 1)).mp (by have hh := h4; rw [e3, e2] at hh; exact hh))
    have u6 : z3.toInt ≤ (-1) := t_ltu h4 (by decide : (0:Int32).toInt ≤ (0:Int)) rfl
    refine ev_ic f_X12_isFrom (nx := 18) (v := 0) rfl (by decide) rfl ?_
    refine ev_retK1 f_X12_isFrom rfl rfl rfl ?_
    refine ev_t f_X12_quicker (t1 := 25) (t2 := 12) rfl rfl rfl (by decide) ?_
    refine ev_loc f_X12_quicker (nx := 26) rfl rfl rfl rfl ?_
    refine ev_ic f_X12_quicker (nx := 27) (v := 1) rfl (by decide) rfl ?_
    refine ev_inV2 f_X12_quicker (nx := 30) (lo2 := [(0, .ref 69), (1, .int 1)]) rfl rfl rfl rfl f_X12_refuse (hI.wf.s rfl) rfl rfl rfl rfl rfl ?_
    refine ev_loc f_X12_refuse (nx := 1) rfl rfl rfl rfl ?_
    refine ev_loc f_X12_refuse (nx := 2) rfl rfl rfl rfl ?_
    refine ev_putIT f_X12_refuse (nx := 5) rfl (hI.wf.s rfl) rfl rfl rfl (hI.put0 (hI.wf.s rfl) rfl rfl) (hX.upI rfl) (fun g7 e7 hI hX => ?_)
    refine ev_ic f_X12_refuse (nx := 6) (v := -1) rfl (by decide) rfl ?_
    refine ev_retK1 f_X12_refuse rfl rfl rfl ?_
    exact ev_ret f_X12_quicker rfl rfl rfl ⟨_, _, _, rfl, hI, hX, ⟨_, rfl, (Int.le_trans (by decide : ((-2147483648):Int) ≤ (-1)) (by decide : ((-1):Int) ≤ ((-1):Int32).toInt)), (Int.le_trans (by decide : ((-1):Int32).toInt ≤ ((-1):Int)) (by decide : ((-1):Int) ≤ 999999999)), (show (¬ (1 ≤ ar1.toInt ∧ ar1.toInt ≤ 20) → (g7 69 2).toInt = 1) ∧ ((1 ≤ ar1.toInt ∧ ar1.toInt ≤ 20) → (((-1) : Int) = -1 → (g7 69 2).toInt = 6) ∧ (((-1) : Int) ≠ -1 → (g7 69 2).toInt = 0)) from ⟨fun h => (by have ffs : (g7 69 2).toInt = 1 := (congrArg Int32.toInt (by rw [e7]; exact x_up2_at _ _ _ _ : g7 69 2 = 1)).trans (by decide); omega), fun h => ⟨fun h2 => (by have ffs : (g7 69 2).toInt = 1 := (congrArg Int32.toInt (by rw [e7]; exact x_up2_at _ _ _ _ : g7 69 2 = 1)).trans (by decide); omega), fun h2 => (by have ffs : (g7 69 2).toInt = 1 := (congrArg Int32.toInt (by rw [e7]; exact x_up2_at _ _ _ _ : g7 69 2 = 1)).trans (by decide); omega)⟩⟩)⟩⟩
  · have l8 : (1:Int) ≤ ar1.toInt := (lgc_ge (by decide : (1 : Int64).toInt = 1)).mp (by have hh := (t_nlt h4); rw [e3, e2] at hh; exact hh)
    have l9 : 0 ≤ z3.toInt := t_lel (t_nlt h4) (by decide : (0:Int) ≤ (0:Int32).toInt)
    refine ev_loc f_X12_isFrom (nx := 7) rfl rfl rfl rfl ?_
    refine ev_loc f_X12_isFrom (nx := 9) rfl rfl rfl rfl ?_
    refine ev_anyIE f_X12_isFrom (nx := 10) rfl rfl rfl rfl (fun z10 e10 => ?_)
    refine ev_if f_X12_isFrom (t1 := 17) (t2 := 13) rfl rfl rfl (fun h11 => ?_) (fun h11 => ?_)
    · have l12 : (21:Int) ≤ ar1.toInt := Int.add_one_le_of_lt ((lgc_gt (by decide : (20 : Int64).toInt = 20)).mp (by have hh := h11; rw [e10, e2] at hh; exact hh))
      have l13 : 1 ≤ z10.toInt := t_ltl h11 (by decide : (0:Int) ≤ (0:Int32).toInt) rfl
      refine ev_ic f_X12_isFrom (nx := 18) (v := 0) rfl (by decide) rfl ?_
      refine ev_retK1 f_X12_isFrom rfl rfl rfl ?_
      refine ev_t f_X12_quicker (t1 := 25) (t2 := 12) rfl rfl rfl (by decide) ?_
      refine ev_loc f_X12_quicker (nx := 26) rfl rfl rfl rfl ?_
      refine ev_ic f_X12_quicker (nx := 27) (v := 1) rfl (by decide) rfl ?_
      refine ev_inV2 f_X12_quicker (nx := 30) (lo2 := [(0, .ref 69), (1, .int 1)]) rfl rfl rfl rfl f_X12_refuse (hI.wf.s rfl) rfl rfl rfl rfl rfl ?_
      refine ev_loc f_X12_refuse (nx := 1) rfl rfl rfl rfl ?_
      refine ev_loc f_X12_refuse (nx := 2) rfl rfl rfl rfl ?_
      refine ev_putIT f_X12_refuse (nx := 5) rfl (hI.wf.s rfl) rfl rfl rfl (hI.put0 (hI.wf.s rfl) rfl rfl) (hX.upI rfl) (fun g14 e14 hI hX => ?_)
      refine ev_ic f_X12_refuse (nx := 6) (v := -1) rfl (by decide) rfl ?_
      refine ev_retK1 f_X12_refuse rfl rfl rfl ?_
      exact ev_ret f_X12_quicker rfl rfl rfl ⟨_, _, _, rfl, hI, hX, ⟨_, rfl, (Int.le_trans (by decide : ((-2147483648):Int) ≤ (-1)) (by decide : ((-1):Int) ≤ ((-1):Int32).toInt)), (Int.le_trans (by decide : ((-1):Int32).toInt ≤ ((-1):Int)) (by decide : ((-1):Int) ≤ 999999999)), (show (¬ (1 ≤ ar1.toInt ∧ ar1.toInt ≤ 20) → (g14 69 2).toInt = 1) ∧ ((1 ≤ ar1.toInt ∧ ar1.toInt ≤ 20) → (((-1) : Int) = -1 → (g14 69 2).toInt = 6) ∧ (((-1) : Int) ≠ -1 → (g14 69 2).toInt = 0)) from ⟨fun h => (by have ffs : (g14 69 2).toInt = 1 := (congrArg Int32.toInt (by rw [e14]; exact x_up2_at _ _ _ _ : g14 69 2 = 1)).trans (by decide); omega), fun h => ⟨fun h2 => (by have ffs : (g14 69 2).toInt = 1 := (congrArg Int32.toInt (by rw [e14]; exact x_up2_at _ _ _ _ : g14 69 2 = 1)).trans (by decide); omega), fun h2 => (by have ffs : (g14 69 2).toInt = 1 := (congrArg Int32.toInt (by rw [e14]; exact x_up2_at _ _ _ _ : g14 69 2 = 1)).trans (by decide); omega)⟩⟩)⟩⟩
    · have u15 : ar1.toInt ≤ (20:Int) := (lgc_le (by decide : (20 : Int64).toInt = 20)).mp (by have hh := (t_nlt h11); rw [e10, e2] at hh; exact hh)
      have u16 : z10.toInt ≤ 0 := t_leu (t_nlt h11) (by decide : (0:Int32).toInt ≤ (0:Int))
      refine ev_ic f_X12_isFrom (nx := 14) (v := 1) rfl (by decide) rfl ?_
      refine ev_jmp f_X12_isFrom (nx := 18) rfl rfl rfl ?_
      refine ev_retK1 f_X12_isFrom rfl rfl rfl ?_
      refine ev_f f_X12_quicker (t1 := 25) (t2 := 12) rfl rfl rfl (by decide) ?_
      refine ev_loc f_X12_quicker (nx := 13) rfl rfl rfl rfl ?_
      refine ev_loc f_X12_quicker (nx := 14) rfl rfl rfl rfl ?_
      refine ev_ic f_X12_quicker (nx := 15) (v := 0) rfl (by decide) rfl ?_
      refine ev_loc f_X12_quicker (nx := 16) rfl rfl rfl rfl ?_
      refine ev_qI f_X12_quicker (nx := 19) (r := [.ref 69]) rfl rfl rfl rfl rfl rfl rfl (c_m_leastBy hI (0) (ar1) (Int.le_trans (by decide : (0:Int) ≤ 1) l8) u15 (by omega)) rfl hX rfl (fun w17 gi17 gl17 gr17 l17 u17 hI hX hC17 q17 => ?_)
      have q17 : Q_m_leastBy gi gl gr (0 : Int32) ar1 w17 gi17 gl17 gr17 := q17
      refine ev_inV2 f_X12_quicker (nx := 22) (lo2 := [(0, .ref 69), (1, .int w17)]) rfl rfl rfl rfl f_X12_orNone (hI.wf.s rfl) rfl rfl rfl rfl rfl ?_
      refine ev_loc f_X12_orNone (nx := 1) rfl rfl rfl rfl ?_
      refine ev_ic f_X12_orNone (nx := 2) (v := -1) rfl (by decide) rfl ?_
      refine ev_if f_X12_orNone (t1 := 5) (t2 := 14) rfl rfl rfl (fun h18 => ?_) (fun h18 => ?_)
      · have u19 : w17.toInt ≤ (-1) := t_equ h18 (by decide : ((-1):Int32).toInt ≤ ((-1):Int))
        have l20 : (-1) ≤ w17.toInt := t_eql h18 (by decide : ((-1):Int) ≤ ((-1):Int32).toInt)
        refine ev_loc f_X12_orNone (nx := 6) rfl rfl rfl rfl ?_
        refine ev_bp f_X12_orNone (nx := 8) (v := 6) rfl (by decide) rfl ?_
        refine ev_inV2 f_X12_orNone (nx := 11) (lo2 := [(0, .ref 69), (1, .int 6)]) rfl rfl rfl rfl f_X12_refuse (hI.wf.s rfl) rfl rfl rfl rfl rfl ?_
        refine ev_loc f_X12_refuse (nx := 1) rfl rfl rfl rfl ?_
        refine ev_loc f_X12_refuse (nx := 2) rfl rfl rfl rfl ?_
        refine ev_putIT f_X12_refuse (nx := 5) rfl (hI.wf.s rfl) rfl rfl rfl (hI.put0 (hI.wf.s rfl) rfl rfl) (hX.upI rfl) (fun g21 e21 hI hX => ?_)
        refine ev_ic f_X12_refuse (nx := 6) (v := -1) rfl (by decide) rfl ?_
        refine ev_retK1 f_X12_refuse rfl rfl rfl ?_
        refine ev_jmp f_X12_orNone (nx := 19) rfl rfl rfl ?_
        refine ev_retK1 f_X12_orNone rfl rfl rfl ?_
        refine ev_jmp f_X12_quicker (nx := 30) rfl rfl rfl ?_
        exact ev_ret f_X12_quicker rfl rfl rfl ⟨_, _, _, rfl, hI, hX, ⟨_, rfl, (Int.le_trans (by decide : ((-2147483648):Int) ≤ (-1)) (by decide : ((-1):Int) ≤ ((-1):Int32).toInt)), (Int.le_trans (by decide : ((-1):Int32).toInt ≤ ((-1):Int)) (by decide : ((-1):Int) ≤ 999999999)), (show (¬ (1 ≤ ar1.toInt ∧ ar1.toInt ≤ 20) → (g21 69 2).toInt = 1) ∧ ((1 ≤ ar1.toInt ∧ ar1.toInt ≤ 20) → (((-1) : Int) = -1 → (g21 69 2).toInt = 6) ∧ (((-1) : Int) ≠ -1 → (g21 69 2).toInt = 0)) from ⟨fun h => (by have ffs : (g21 69 2).toInt = 6 := (congrArg Int32.toInt (by rw [e21]; exact x_up2_at _ _ _ _ : g21 69 2 = 6)).trans (by decide); omega), fun h => ⟨fun h2 => (by have ffs : (g21 69 2).toInt = 6 := (congrArg Int32.toInt (by rw [e21]; exact x_up2_at _ _ _ _ : g21 69 2 = 6)).trans (by decide); omega), fun h2 => (by have ffs : (g21 69 2).toInt = 6 := (congrArg Int32.toInt (by rw [e21]; exact x_up2_at _ _ _ _ : g21 69 2 = 6)).trans (by decide); omega)⟩⟩)⟩⟩
      · have r22 : w17.toInt ≠ (-1) := fun e => h18 (Int32.toInt_inj.mp (e.trans (by decide : ((-1):Int) = ((-1) : Int32).toInt)))
        refine ev_loc f_X12_orNone (nx := 15) rfl rfl rfl rfl ?_
        refine ev_loc f_X12_orNone (nx := 16) rfl rfl rfl rfl ?_
        refine ev_inV2 f_X12_orNone (nx := 19) (lo2 := [(0, .ref 69), (1, .int w17)]) rfl rfl rfl rfl f_X12_gives (hI.wf.s rfl) rfl rfl rfl rfl rfl ?_
        refine ev_loc f_X12_gives (nx := 1) rfl rfl rfl rfl ?_
        refine ev_ic f_X12_gives (nx := 2) (v := 0) rfl (by decide) rfl ?_
        refine ev_putIT f_X12_gives (nx := 5) rfl (hI.wf.s rfl) rfl rfl rfl (hI.put0 (hI.wf.s rfl) rfl rfl) (hX.upI rfl) (fun g23 e23 hI hX => ?_)
        refine ev_loc f_X12_gives (nx := 6) rfl rfl rfl rfl ?_
        refine ev_retK1 f_X12_gives rfl rfl rfl ?_
        refine ev_retK1 f_X12_orNone rfl rfl rfl ?_
        refine ev_jmp f_X12_quicker (nx := 30) rfl rfl rfl ?_
        exact ev_ret f_X12_quicker rfl rfl rfl ⟨_, _, _, rfl, hI, hX, ⟨_, rfl, l17, u17, (show (¬ (1 ≤ ar1.toInt ∧ ar1.toInt ≤ 20) → (g23 69 2).toInt = 1) ∧ ((1 ≤ ar1.toInt ∧ ar1.toInt ≤ 20) → (w17.toInt = -1 → (g23 69 2).toInt = 6) ∧ (w17.toInt ≠ -1 → (g23 69 2).toInt = 0)) from ⟨fun h => (by have ffs : (g23 69 2).toInt = 0 := (congrArg Int32.toInt (by rw [e23]; exact x_up2_at _ _ _ _ : g23 69 2 = 0)).trans (by decide); omega), fun h => ⟨fun h2 => (by have ffs : (g23 69 2).toInt = 0 := (congrArg Int32.toInt (by rw [e23]; exact x_up2_at _ _ _ _ : g23 69 2 = 0)).trans (by decide); omega), fun h2 => (by have ffs : (g23 69 2).toInt = 0 := (congrArg Int32.toInt (by rw [e23]; exact x_up2_at _ _ _ _ : g23 69 2 = 0)).trans (by decide); omega)⟩⟩)⟩⟩
noncomputable def wl_g_away : List (Nat × Nat) := [(69, 2), (69, 44), (69, 45), (69, 48), (89, 10005), (89, 610011), (90, 9999), (91, 9999), (92, 9999)]
noncomputable def Q_g_away (gi : Nat → Nat → Int32) (gl : Nat → Nat → Int64) (gr : Nat → Nat → Value) : Int32 → (Nat → Nat → Int32) → (Nat → Nat → Int64) → (Nat → Nat → Value) → Prop := fun (v : Int32) (gi2 : Nat → Nat → Int32) (gl2 : Nat → Nat → Int64) (gr2 : Nat → Nat → Value) => (v.toInt = -1 → (gi2 69 2).toInt = 6) ∧ (v.toInt ≠ -1 → (gi2 69 2).toInt = 0)
theorem c_g_away {X : x_Ext} {d : Nat} {sh : List (Nat ⊕ (Nat × Nat))} {gi : Nat → Nat → Int32} {gl : Nat → Nat → Int64} {gr : Nat → Nat → Value} (hI : t_I sh gi gr) (e_p0 : 1 ≤ (gi 70 4).toInt) : x_Me X (d + 6) n_X12_away [.ref 69] (sh, gi, gl, gr) (t_PI wl_g_away sh gi gl gr (-1) 63 (Q_g_away gi gl gr)) := by
  have hX : t_X wl_g_away sh gi gl gr gi gl gr := t_X.rf
  refine me_i f_X12_away (hI.wf.s rfl) rfl rfl rfl ?_
  obtain ⟨l2, u2⟩ := hI.ab (by decide +kernel : t_abr 70 4 4 0 20 = true) (Nat.le_refl _) (Nat.le_refl _)
  refine ev_ic f_X12_away (nx := 1) (v := -1) rfl (by decide) rfl ?_
  refine ev_loc f_X12_away (nx := 2) (lo' := [(1, .int (-1)), (0, .ref 69)]) rfl rfl rfl rfl ?_
  refine ev_ic f_X12_away (nx := 3) (v := 0) rfl (by decide) rfl ?_
  refine ev_loc f_X12_away (nx := 4) (lo' := [(2, .int 0), (1, .int (-1)), (0, .ref 69)]) rfl rfl rfl rfl ?_
  have L3 : ∀ (m3 : Nat) (gi3 : Nat → Nat → Int32) (gl3 : Nat → Nat → Int64) (gr3 : Nat → Nat → Value) (y3_2 : Int32) (y3_1 : Int32), t_I sh gi3 gr3 → t_X wl_g_away sh gi gl gr gi3 gl3 gr3 → 0 ≤ y3_2.toInt → y3_2.toInt ≤ 64 → (-1) ≤ y3_1.toInt → y3_1.toInt ≤ 63 → gi3 69 2 = (gi 69 2) → gi3 70 4 = (gi 70 4) → (64 - y3_2.toInt).toNat = m3 → x_Ev X (d + 6) n_X12_away 4 [(2, .int y3_2), (1, .int y3_1), (0, .ref 69)] [] (sh, gi3, gl3, gr3) (t_PI wl_g_away sh gi gl gr (-1) 63 (Q_g_away gi gl gr)) := by
    intro m3
    induction m3 using Nat.strongRecOn with
    | _ m3 ih3 =>
    intro gi3 gl3 gr3 y3_2 y3_1 hI hX l3_2 u3_2 l3_1 u3_1 c3_0 c3_1 hm3
    refine ev_loc f_X12_away (nx := 5) rfl rfl rfl rfl ?_
    refine ev_ic f_X12_away (nx := 6) (v := 1) rfl (by decide) rfl ?_
    refine ev_loc f_X12_away (nx := 7) rfl rfl rfl rfl ?_
    refine ev_getR f_X12_away (nx := 10) rfl (hI.wf.s rfl) rfl rfl (hI.wf.r rfl) rfl rfl ?_
    refine ev_ic f_X12_away (nx := 11) (v := 1) rfl (by decide) rfl ?_
    obtain ⟨l4, u4⟩ := hI.ab (by decide +kernel : t_abr 70 1 1 0 6 = true) (Nat.le_refl _) (Nat.le_refl _)
    refine ev_ialdv f_X12_away (nx := 12) (w := (gi3 70 1)) rfl (hI.wf.s rfl) (by decide) (rfl : (1 : Int32).toNatClampNeg = 1) (by decide) rfl rfl ?_
    refine ev_shl1E f_X12_away (nx := 13) rfl l4 u4 (by decide) (by decide) rfl (fun z5 s5 => ?_)
    have l5 : 1 ≤ z5.toInt := by have := l4; have := u4; omega
    have u5 : z5.toInt ≤ 64 := by have := l4; have := u4; omega
    refine ev_if f_X12_away (t1 := 57) (t2 := 16) rfl rfl rfl (fun h6 => ?_) (fun h6 => ?_)
    · have r7 : z5.toInt ≤ y3_2.toInt := Int32.le_iff_toInt_le.mp h6
      have l8 : 1 ≤ y3_2.toInt := t_lel h6 l5
      refine ev_loc f_X12_away (nx := 58) rfl rfl rfl rfl ?_
      refine ev_loc f_X12_away (nx := 59) rfl rfl rfl rfl ?_
      refine ev_inV2 f_X12_away (nx := 62) (lo2 := [(0, .ref 69), (1, .int y3_1)]) rfl rfl rfl rfl f_X12_orNone (hI.wf.s rfl) rfl rfl rfl rfl rfl ?_
      refine ev_loc f_X12_orNone (nx := 1) rfl rfl rfl rfl ?_
      refine ev_ic f_X12_orNone (nx := 2) (v := -1) rfl (by decide) rfl ?_
      refine ev_if f_X12_orNone (t1 := 5) (t2 := 14) rfl rfl rfl (fun h9 => ?_) (fun h9 => ?_)
      · have u10 : y3_1.toInt ≤ (-1) := t_equ h9 (by decide : ((-1):Int32).toInt ≤ ((-1):Int))
        refine ev_loc f_X12_orNone (nx := 6) rfl rfl rfl rfl ?_
        refine ev_bp f_X12_orNone (nx := 8) (v := 6) rfl (by decide) rfl ?_
        refine ev_inV2 f_X12_orNone (nx := 11) (lo2 := [(0, .ref 69), (1, .int 6)]) rfl rfl rfl rfl f_X12_refuse (hI.wf.s rfl) rfl rfl rfl rfl rfl ?_
        refine ev_loc f_X12_refuse (nx := 1) rfl rfl rfl rfl ?_
        refine ev_loc f_X12_refuse (nx := 2) rfl rfl rfl rfl ?_
        refine ev_putIT f_X12_refuse (nx := 5) rfl (hI.wf.s rfl) rfl rfl rfl (hI.put0 (hI.wf.s rfl) rfl rfl) (hX.upI rfl) (fun g11 e11 hI hX => ?_)
        refine ev_ic f_X12_refuse (nx := 6) (v := -1) rfl (by decide) rfl ?_
        refine ev_retK1 f_X12_refuse rfl rfl rfl ?_
        refine ev_jmp f_X12_orNone (nx := 19) rfl rfl rfl ?_
        refine ev_retK1 f_X12_orNone rfl rfl rfl ?_
        exact ev_ret f_X12_away rfl rfl rfl ⟨_, _, _, rfl, hI, hX, ⟨_, rfl, (by decide : ((-1):Int) ≤ ((-1):Int32).toInt), (Int.le_trans (by decide : ((-1):Int32).toInt ≤ ((-1):Int)) (by decide : ((-1):Int) ≤ 63)), (show (((-1) : Int) = -1 → (g11 69 2).toInt = 6) ∧ (((-1) : Int) ≠ -1 → (g11 69 2).toInt = 0) from ⟨fun h => (by have ffs : (g11 69 2).toInt = 6 := (congrArg Int32.toInt (by rw [e11]; exact x_up2_at _ _ _ _ : g11 69 2 = 6)).trans (by decide); omega), fun h => (by have ffs : (g11 69 2).toInt = 6 := (congrArg Int32.toInt (by rw [e11]; exact x_up2_at _ _ _ _ : g11 69 2 = 6)).trans (by decide); omega)⟩)⟩⟩
      · have r12 : y3_1.toInt ≠ (-1) := fun e => h9 (Int32.toInt_inj.mp (e.trans (by decide : ((-1):Int) = ((-1) : Int32).toInt)))
        have l13 : 0 ≤ y3_1.toInt := t_nel h9 l3_1 rfl rfl
        refine ev_loc f_X12_orNone (nx := 15) rfl rfl rfl rfl ?_
        refine ev_loc f_X12_orNone (nx := 16) rfl rfl rfl rfl ?_
        refine ev_inV2 f_X12_orNone (nx := 19) (lo2 := [(0, .ref 69), (1, .int y3_1)]) rfl rfl rfl rfl f_X12_gives (hI.wf.s rfl) rfl rfl rfl rfl rfl ?_
        refine ev_loc f_X12_gives (nx := 1) rfl rfl rfl rfl ?_
        refine ev_ic f_X12_gives (nx := 2) (v := 0) rfl (by decide) rfl ?_
        refine ev_putIT f_X12_gives (nx := 5) rfl (hI.wf.s rfl) rfl rfl rfl (hI.put0 (hI.wf.s rfl) rfl rfl) (hX.upI rfl) (fun g14 e14 hI hX => ?_)
        refine ev_loc f_X12_gives (nx := 6) rfl rfl rfl rfl ?_
        refine ev_retK1 f_X12_gives rfl rfl rfl ?_
        refine ev_retK1 f_X12_orNone rfl rfl rfl ?_
        exact ev_ret f_X12_away rfl rfl rfl ⟨_, _, _, rfl, hI, hX, ⟨_, rfl, (Int.le_trans (by decide : ((-1):Int) ≤ 0) l13), u3_1, (show (y3_1.toInt = -1 → (g14 69 2).toInt = 6) ∧ (y3_1.toInt ≠ -1 → (g14 69 2).toInt = 0) from ⟨fun h => (by have ffs : (g14 69 2).toInt = 0 := (congrArg Int32.toInt (by rw [e14]; exact x_up2_at _ _ _ _ : g14 69 2 = 0)).trans (by decide); omega), fun h => (by have ffs : (g14 69 2).toInt = 0 := (congrArg Int32.toInt (by rw [e14]; exact x_up2_at _ _ _ _ : g14 69 2 = 0)).trans (by decide); omega)⟩)⟩⟩
    · have r15 : y3_2.toInt < z5.toInt := Int32.lt_iff_toInt_lt.mp (t_nle h6)
      have u16 : y3_2.toInt ≤ 63 := t_ltu (t_nle h6) u5 rfl
      refine ev_loc f_X12_away (nx := 17) rfl rfl rfl rfl ?_
      refine ev_ic f_X12_away (nx := 18) (v := -1) rfl (by decide) rfl ?_
      refine ev_if f_X12_away (t1 := 34) (t2 := 21) rfl rfl rfl (fun h17 => ?_) (fun h17 => ?_)
      · have u18 : y3_1.toInt ≤ (-1) := t_equ h17 (by decide : ((-1):Int32).toInt ≤ ((-1):Int))
        refine ev_loc f_X12_away (nx := 35) rfl rfl rfl rfl ?_
        refine ev_loc f_X12_away (nx := 36) rfl rfl rfl rfl ?_
        refine ev_loc f_X12_away (nx := 37) rfl rfl rfl rfl ?_
        refine ev_getR f_X12_away (nx := 40) rfl (hI.wf.s rfl) rfl rfl (hI.wf.r rfl) rfl rfl ?_
        refine ev_ic f_X12_away (nx := 41) (v := 4) rfl (by decide) rfl ?_
        refine ev_ialdv f_X12_away (nx := 42) (w := (gi 70 4)) rfl (hI.wf.s rfl) (by decide) (rfl : (4 : Int32).toNatClampNeg = 4) (by decide) c3_1 rfl ?_
        refine ev_qI f_X12_away (nx := 45) (r := []) rfl rfl rfl rfl rfl rfl rfl (c_m_leastBy hI (y3_2) ((gi 70 4)) l2 u2 (by omega)) rfl hX rfl (fun w20 gi20 gl20 gr20 l20 u20 hI hX hC20 q20 => ?_)
        have q20 : Q_m_leastBy gi3 gl3 gr3 y3_2 (gi 70 4) w20 gi20 gl20 gr20 := q20
        refine ev_ic f_X12_away (nx := 46) (v := -1) rfl (by decide) rfl ?_
        refine ev_if f_X12_away (t1 := 51) (t2 := 49) rfl rfl rfl (fun h21 => ?_) (fun h21 => ?_)
        · have u22 : w20.toInt ≤ (-1) := t_equ h21 (by decide : ((-1):Int32).toInt ≤ ((-1):Int))
          have l23 : (-1) ≤ w20.toInt := t_eql h21 (by decide : ((-1):Int) ≤ ((-1):Int32).toInt)
          refine ev_incR f_X12_away (nx := 54) (c := 1) (l := 1) (u := 64) rfl rfl (by decide) (by decide) l3_2 u16 rfl rfl (by decide) (by decide) rfl (fun z24 e24 l24 u24 => ?_)
          refine ev_jmp f_X12_away (nx := 4) rfl rfl rfl ?_
          refine ev_sub (lo := [(2, .int z24), (1, .int y3_1), (0, .ref 69)]) rfl (t_sc rfl (t_sc rfl (t_sc rfl t_sn))) ?_
          exact ih3 _ (by omega) gi20 gl20 gr20 (z24) (y3_1) hI hX  (Int.le_trans (by decide : (0:Int) ≤ 1) l24) u24 l3_1 (Int.le_trans u18 (by decide : ((-1):Int) ≤ 63)) ((hC20.1 69 2 rfl).1.trans c3_0) ((hC20.1 70 4 rfl).1.trans c3_1) rfl
        · have r25 : w20.toInt ≠ (-1) := fun e => h21 (Int32.toInt_inj.mp (e.trans (by decide : ((-1):Int) = ((-1) : Int32).toInt)))
          refine ev_loc f_X12_away (nx := 50) rfl rfl rfl rfl ?_
          refine ev_loc f_X12_away (nx := 51) (lo' := [(1, .int y3_2), (2, .int y3_2), (0, .ref 69)]) rfl rfl rfl rfl ?_
          refine ev_incR f_X12_away (nx := 54) (c := 1) (l := 1) (u := 64) rfl rfl (by decide) (by decide) l3_2 u16 rfl rfl (by decide) (by decide) rfl (fun z26 e26 l26 u26 => ?_)
          refine ev_jmp f_X12_away (nx := 4) rfl rfl rfl ?_
          refine ev_sub (lo := [(2, .int z26), (1, .int y3_2), (0, .ref 69)]) rfl (t_sc rfl (t_sc rfl (t_sc rfl t_sn))) ?_
          exact ih3 _ (by omega) gi20 gl20 gr20 (z26) (y3_2) hI hX  (Int.le_trans (by decide : (0:Int) ≤ 1) l26) u26 (Int.le_trans (by decide : ((-1):Int) ≤ 0) l3_2) u16 ((hC20.1 69 2 rfl).1.trans c3_0) ((hC20.1 70 4 rfl).1.trans c3_1) rfl
      · have r27 : y3_1.toInt ≠ (-1) := fun e => h17 (Int32.toInt_inj.mp (e.trans (by decide : ((-1):Int) = ((-1) : Int32).toInt)))
        have l28 : 0 ≤ y3_1.toInt := t_nel h17 l3_1 rfl rfl
        refine ev_loc f_X12_away (nx := 22) rfl rfl rfl rfl ?_
        refine ev_anyL f_X12_away (nx := 23) rfl rfl rfl rfl (fun z29 => ?_)
        refine ev_cI f_X12_away (nx := 26) (r := []) rfl rfl rfl rfl rfl rfl rfl (c_m_bits hI (z29)) rfl hX rfl (fun w30 gi30 gl30 gr30 l30 u30 hI hX hC30 => ?_)
        refine ev_loc f_X12_away (nx := 27) rfl rfl rfl rfl ?_
        refine ev_anyL f_X12_away (nx := 28) rfl rfl rfl rfl (fun z31 => ?_)
        refine ev_cI f_X12_away (nx := 31) (r := [.int w30]) rfl rfl rfl rfl rfl rfl rfl (c_m_bits hI (z31)) rfl hX rfl (fun w32 gi32 gl32 gr32 l32 u32 hI hX hC32 => ?_)
        refine ev_if f_X12_away (t1 := 51) (t2 := 34) rfl rfl rfl (fun h33 => ?_) (fun h33 => ?_)
        · have r34 : w32.toInt ≤ w30.toInt := Int32.le_iff_toInt_le.mp h33
          refine ev_incR f_X12_away (nx := 54) (c := 1) (l := 1) (u := 64) rfl rfl (by decide) (by decide) l3_2 u16 rfl rfl (by decide) (by decide) rfl (fun z35 e35 l35 u35 => ?_)
          refine ev_jmp f_X12_away (nx := 4) rfl rfl rfl ?_
          refine ev_sub (lo := [(2, .int z35), (1, .int y3_1), (0, .ref 69)]) rfl (t_sc rfl (t_sc rfl (t_sc rfl t_sn))) ?_
          exact ih3 _ (by omega) gi32 gl32 gr32 (z35) (y3_1) hI hX  (Int.le_trans (by decide : (0:Int) ≤ 1) l35) u35 (Int.le_trans (by decide : ((-1):Int) ≤ 0) l28) u3_1 ((hC32.1 69 2 rfl).1.trans ((hC30.1 69 2 rfl).1.trans c3_0)) ((hC32.1 70 4 rfl).1.trans ((hC30.1 70 4 rfl).1.trans c3_1)) rfl
        · have r36 : w30.toInt < w32.toInt := Int32.lt_iff_toInt_lt.mp (t_nle h33)
          have u37 : w30.toInt ≤ 2147483646 := t_ltu (t_nle h33) u32 rfl
          have l38 : (-2147483647) ≤ w32.toInt := t_ltl (t_nle h33) l30 rfl
          refine ev_loc f_X12_away (nx := 35) rfl rfl rfl rfl ?_
          refine ev_loc f_X12_away (nx := 36) rfl rfl rfl rfl ?_
          refine ev_loc f_X12_away (nx := 37) rfl rfl rfl rfl ?_
          refine ev_getR f_X12_away (nx := 40) rfl (hI.wf.s rfl) rfl rfl (hI.wf.r rfl) rfl rfl ?_
          refine ev_ic f_X12_away (nx := 41) (v := 4) rfl (by decide) rfl ?_
          refine ev_ialdv f_X12_away (nx := 42) (w := (gi 70 4)) rfl (hI.wf.s rfl) (by decide) (rfl : (4 : Int32).toNatClampNeg = 4) (by decide) ((hC32.1 70 4 rfl).1.trans ((hC30.1 70 4 rfl).1.trans c3_1)) rfl ?_
          refine ev_qI f_X12_away (nx := 45) (r := []) rfl rfl rfl rfl rfl rfl rfl (c_m_leastBy hI (y3_2) ((gi 70 4)) l2 u2 (by omega)) rfl hX rfl (fun w40 gi40 gl40 gr40 l40 u40 hI hX hC40 q40 => ?_)
          have q40 : Q_m_leastBy gi32 gl32 gr32 y3_2 (gi 70 4) w40 gi40 gl40 gr40 := q40
          refine ev_ic f_X12_away (nx := 46) (v := -1) rfl (by decide) rfl ?_
          refine ev_if f_X12_away (t1 := 51) (t2 := 49) rfl rfl rfl (fun h41 => ?_) (fun h41 => ?_)
          · have u42 : w40.toInt ≤ (-1) := t_equ h41 (by decide : ((-1):Int32).toInt ≤ ((-1):Int))
            have l43 : (-1) ≤ w40.toInt := t_eql h41 (by decide : ((-1):Int) ≤ ((-1):Int32).toInt)
            refine ev_incR f_X12_away (nx := 54) (c := 1) (l := 1) (u := 64) rfl rfl (by decide) (by decide) l3_2 u16 rfl rfl (by decide) (by decide) rfl (fun z44 e44 l44 u44 => ?_)
            refine ev_jmp f_X12_away (nx := 4) rfl rfl rfl ?_
            refine ev_sub (lo := [(2, .int z44), (1, .int y3_1), (0, .ref 69)]) rfl (t_sc rfl (t_sc rfl (t_sc rfl t_sn))) ?_
            exact ih3 _ (by omega) gi40 gl40 gr40 (z44) (y3_1) hI hX  (Int.le_trans (by decide : (0:Int) ≤ 1) l44) u44 (Int.le_trans (by decide : ((-1):Int) ≤ 0) l28) u3_1 ((hC40.1 69 2 rfl).1.trans ((hC32.1 69 2 rfl).1.trans ((hC30.1 69 2 rfl).1.trans c3_0))) ((hC40.1 70 4 rfl).1.trans ((hC32.1 70 4 rfl).1.trans ((hC30.1 70 4 rfl).1.trans c3_1))) rfl
          · have r45 : w40.toInt ≠ (-1) := fun e => h41 (Int32.toInt_inj.mp (e.trans (by decide : ((-1):Int) = ((-1) : Int32).toInt)))
            refine ev_loc f_X12_away (nx := 50) rfl rfl rfl rfl ?_
            refine ev_loc f_X12_away (nx := 51) (lo' := [(1, .int y3_2), (2, .int y3_2), (0, .ref 69)]) rfl rfl rfl rfl ?_
            refine ev_incR f_X12_away (nx := 54) (c := 1) (l := 1) (u := 64) rfl rfl (by decide) (by decide) l3_2 u16 rfl rfl (by decide) (by decide) rfl (fun z46 e46 l46 u46 => ?_)
            refine ev_jmp f_X12_away (nx := 4) rfl rfl rfl ?_
            refine ev_sub (lo := [(2, .int z46), (1, .int y3_2), (0, .ref 69)]) rfl (t_sc rfl (t_sc rfl (t_sc rfl t_sn))) ?_
            exact ih3 _ (by omega) gi40 gl40 gr40 (z46) (y3_2) hI hX  (Int.le_trans (by decide : (0:Int) ≤ 1) l46) u46 (Int.le_trans (by decide : ((-1):Int) ≤ 0) l3_2) u16 ((hC40.1 69 2 rfl).1.trans ((hC32.1 69 2 rfl).1.trans ((hC30.1 69 2 rfl).1.trans c3_0))) ((hC40.1 70 4 rfl).1.trans ((hC32.1 70 4 rfl).1.trans ((hC30.1 70 4 rfl).1.trans c3_1))) rfl
  refine ev_sub (lo := [(2, .int 0), (1, .int (-1)), (0, .ref 69)]) rfl (t_sc rfl (t_sc rfl (t_sc rfl t_sn))) ?_
  exact L3 _ gi gl gr (0) ((-1)) hI hX  (by decide : (0:Int) ≤ (0:Int32).toInt) (Int.le_trans (by decide : (0:Int32).toInt ≤ (0:Int)) (by decide : (0:Int) ≤ 64)) (by decide : ((-1):Int) ≤ ((-1):Int32).toInt) (Int.le_trans (by decide : ((-1):Int32).toInt ≤ ((-1):Int)) (by decide : ((-1):Int) ≤ 63)) rfl rfl rfl
noncomputable def wl_g_later : List (Nat × Nat) := [(69, 2), (69, 44), (69, 45), (69, 48), (89, 10005), (89, 610011), (90, 9999), (91, 9999), (92, 9999)]
noncomputable def Q_g_later (gi : Nat → Nat → Int32) (gl : Nat → Nat → Int64) (gr : Nat → Nat → Value) (ar1 : Int32) (ar2 : Int32) : Int32 → (Nat → Nat → Int32) → (Nat → Nat → Int64) → (Nat → Nat → Value) → Prop := fun (v : Int32) (gi2 : Nat → Nat → Int32) (gl2 : Nat → Nat → Int64) (gr2 : Nat → Nat → Value) => (¬ (0 ≤ ar1.toInt ∧ ar1.toInt < (gi 70 1).toInt ∧ 0 ≤ ar2.toInt ∧ ar2.toInt ≤ 60) → (gi2 69 2).toInt = 1) ∧ ((0 ≤ ar1.toInt ∧ ar1.toInt < (gi 70 1).toInt ∧ 0 ≤ ar2.toInt ∧ ar2.toInt ≤ 60) → (v.toInt = -1 → (gi2 69 2).toInt = 6) ∧ (v.toInt ≠ -1 → (gi2 69 2).toInt = 0))
theorem c_g_later {X : x_Ext} {d : Nat} {sh : List (Nat ⊕ (Nat × Nat))} {gi : Nat → Nat → Int32} {gl : Nat → Nat → Int64} {gr : Nat → Nat → Value} (hI : t_I sh gi gr) (ar1 : Int32) (ar2 : Int32) (e_p0 : 1 ≤ (gi 70 4).toInt) : x_Me X (d + 6) n_X12_later [.ref 69, .int ar1, .int ar2] (sh, gi, gl, gr) (t_PI wl_g_later sh gi gl gr (-2147483648) 999999999 (Q_g_later gi gl gr ar1 ar2)) := by
  have hX : t_X wl_g_later sh gi gl gr gi gl gr := t_X.rf
  refine me_i f_X12_later (hI.wf.s rfl) rfl rfl rfl ?_
  obtain ⟨l2, u2⟩ := hI.ab (by decide +kernel : t_abr 70 1 1 0 6 = true) (Nat.le_refl _) (Nat.le_refl _)
  obtain ⟨l3, u3⟩ := hI.ab (by decide +kernel : t_abr 70 4 4 0 20 = true) (Nat.le_refl _) (Nat.le_refl _)
  refine ev_loc f_X12_later (nx := 1) rfl rfl rfl rfl ?_
  refine ev_loc f_X12_later (nx := 2) rfl rfl rfl rfl ?_
  refine ev_inV2 f_X12_later (nx := 5) (lo2 := [(0, .ref 69), (1, .int ar1)]) rfl rfl rfl rfl f_X12_isShip (hI.wf.s rfl) rfl rfl rfl rfl rfl ?_
  refine ev_loc f_X12_isShip (nx := 1) rfl rfl rfl rfl ?_
  refine ev_if f_X12_isShip (t1 := 18) (t2 := 4) rfl rfl rfl (fun h4 => ?_) (fun h4 => ?_)
  · have u5 : ar1.toInt ≤ (-1) := t_ltu h4 (by decide : (0:Int32).toInt ≤ (0:Int)) rfl
    refine ev_ic f_X12_isShip (nx := 19) (v := 0) rfl (by decide) rfl ?_
    refine ev_retK1 f_X12_isShip rfl rfl rfl ?_
    refine ev_t f_X12_later (t1 := 20) (t2 := 8) rfl rfl rfl (by decide) ?_
    refine ev_loc f_X12_later (nx := 21) rfl rfl rfl rfl ?_
    refine ev_ic f_X12_later (nx := 22) (v := 1) rfl (by decide) rfl ?_
    refine ev_inV2 f_X12_later (nx := 25) (lo2 := [(0, .ref 69), (1, .int 1)]) rfl rfl rfl rfl f_X12_refuse (hI.wf.s rfl) rfl rfl rfl rfl rfl ?_
    refine ev_loc f_X12_refuse (nx := 1) rfl rfl rfl rfl ?_
    refine ev_loc f_X12_refuse (nx := 2) rfl rfl rfl rfl ?_
    refine ev_putIT f_X12_refuse (nx := 5) rfl (hI.wf.s rfl) rfl rfl rfl (hI.put0 (hI.wf.s rfl) rfl rfl) (hX.upI rfl) (fun g6 e6 hI hX => ?_)
    refine ev_ic f_X12_refuse (nx := 6) (v := -1) rfl (by decide) rfl ?_
    refine ev_retK1 f_X12_refuse rfl rfl rfl ?_
    exact ev_ret f_X12_later rfl rfl rfl ⟨_, _, _, rfl, hI, hX, ⟨_, rfl, (Int.le_trans (by decide : ((-2147483648):Int) ≤ (-1)) (by decide : ((-1):Int) ≤ ((-1):Int32).toInt)), (Int.le_trans (by decide : ((-1):Int32).toInt ≤ ((-1):Int)) (by decide : ((-1):Int) ≤ 999999999)), (show (¬ (0 ≤ ar1.toInt ∧ ar1.toInt < (gi 70 1).toInt ∧ 0 ≤ ar2.toInt ∧ ar2.toInt ≤ 60) → (g6 69 2).toInt = 1) ∧ ((0 ≤ ar1.toInt ∧ ar1.toInt < (gi 70 1).toInt ∧ 0 ≤ ar2.toInt ∧ ar2.toInt ≤ 60) → (((-1) : Int) = -1 → (g6 69 2).toInt = 6) ∧ (((-1) : Int) ≠ -1 → (g6 69 2).toInt = 0)) from ⟨fun h => (by have ffs : (g6 69 2).toInt = 1 := (congrArg Int32.toInt (by rw [e6]; exact x_up2_at _ _ _ _ : g6 69 2 = 1)).trans (by decide); omega), fun h => ⟨fun h2 => (by have ffs : (g6 69 2).toInt = 1 := (congrArg Int32.toInt (by rw [e6]; exact x_up2_at _ _ _ _ : g6 69 2 = 1)).trans (by decide); omega), fun h2 => (by have ffs : (g6 69 2).toInt = 1 := (congrArg Int32.toInt (by rw [e6]; exact x_up2_at _ _ _ _ : g6 69 2 = 1)).trans (by decide); omega)⟩⟩)⟩⟩
  · have l7 : 0 ≤ ar1.toInt := t_lel (t_nlt h4) (by decide : (0:Int) ≤ (0:Int32).toInt)
    refine ev_loc f_X12_isShip (nx := 5) rfl rfl rfl rfl ?_
    refine ev_loc f_X12_isShip (nx := 6) rfl rfl rfl rfl ?_
    refine ev_getR f_X12_isShip (nx := 9) rfl (hI.wf.s rfl) rfl rfl (hI.wf.r rfl) rfl rfl ?_
    refine ev_ic f_X12_isShip (nx := 10) (v := 1) rfl (by decide) rfl ?_
    refine ev_ialdv f_X12_isShip (nx := 11) (w := (gi 70 1)) rfl (hI.wf.s rfl) (by decide) (rfl : (1 : Int32).toNatClampNeg = 1) (by decide) rfl rfl ?_
    refine ev_if f_X12_isShip (t1 := 18) (t2 := 14) rfl rfl rfl (fun h9 => ?_) (fun h9 => ?_)
    · have r10 : (gi 70 1).toInt ≤ ar1.toInt := Int32.le_iff_toInt_le.mp h9
      refine ev_ic f_X12_isShip (nx := 19) (v := 0) rfl (by decide) rfl ?_
      refine ev_retK1 f_X12_isShip rfl rfl rfl ?_
      refine ev_t f_X12_later (t1 := 20) (t2 := 8) rfl rfl rfl (by decide) ?_
      refine ev_loc f_X12_later (nx := 21) rfl rfl rfl rfl ?_
      refine ev_ic f_X12_later (nx := 22) (v := 1) rfl (by decide) rfl ?_
      refine ev_inV2 f_X12_later (nx := 25) (lo2 := [(0, .ref 69), (1, .int 1)]) rfl rfl rfl rfl f_X12_refuse (hI.wf.s rfl) rfl rfl rfl rfl rfl ?_
      refine ev_loc f_X12_refuse (nx := 1) rfl rfl rfl rfl ?_
      refine ev_loc f_X12_refuse (nx := 2) rfl rfl rfl rfl ?_
      refine ev_putIT f_X12_refuse (nx := 5) rfl (hI.wf.s rfl) rfl rfl rfl (hI.put0 (hI.wf.s rfl) rfl rfl) (hX.upI rfl) (fun g11 e11 hI hX => ?_)
      refine ev_ic f_X12_refuse (nx := 6) (v := -1) rfl (by decide) rfl ?_
      refine ev_retK1 f_X12_refuse rfl rfl rfl ?_
      exact ev_ret f_X12_later rfl rfl rfl ⟨_, _, _, rfl, hI, hX, ⟨_, rfl, (Int.le_trans (by decide : ((-2147483648):Int) ≤ (-1)) (by decide : ((-1):Int) ≤ ((-1):Int32).toInt)), (Int.le_trans (by decide : ((-1):Int32).toInt ≤ ((-1):Int)) (by decide : ((-1):Int) ≤ 999999999)), (show (¬ (0 ≤ ar1.toInt ∧ ar1.toInt < (gi 70 1).toInt ∧ 0 ≤ ar2.toInt ∧ ar2.toInt ≤ 60) → (g11 69 2).toInt = 1) ∧ ((0 ≤ ar1.toInt ∧ ar1.toInt < (gi 70 1).toInt ∧ 0 ≤ ar2.toInt ∧ ar2.toInt ≤ 60) → (((-1) : Int) = -1 → (g11 69 2).toInt = 6) ∧ (((-1) : Int) ≠ -1 → (g11 69 2).toInt = 0)) from ⟨fun h => (by have ffs : (g11 69 2).toInt = 1 := (congrArg Int32.toInt (by rw [e11]; exact x_up2_at _ _ _ _ : g11 69 2 = 1)).trans (by decide); omega), fun h => ⟨fun h2 => (by have ffs : (g11 69 2).toInt = 1 := (congrArg Int32.toInt (by rw [e11]; exact x_up2_at _ _ _ _ : g11 69 2 = 1)).trans (by decide); omega), fun h2 => (by have ffs : (g11 69 2).toInt = 1 := (congrArg Int32.toInt (by rw [e11]; exact x_up2_at _ _ _ _ : g11 69 2 = 1)).trans (by decide); omega)⟩⟩)⟩⟩
    · have r12 : ar1.toInt < (gi 70 1).toInt := Int32.lt_iff_toInt_lt.mp (t_nle h9)
      have u13 : ar1.toInt ≤ 5 := t_ltu (t_nle h9) u2 rfl
      have l14 : 1 ≤ (gi 70 1).toInt := t_ltl (t_nle h9) l7 rfl
      refine ev_ic f_X12_isShip (nx := 15) (v := 1) rfl (by decide) rfl ?_
      refine ev_jmp f_X12_isShip (nx := 19) rfl rfl rfl ?_
      refine ev_retK1 f_X12_isShip rfl rfl rfl ?_
      refine ev_f f_X12_later (t1 := 20) (t2 := 8) rfl rfl rfl (by decide) ?_
      refine ev_loc f_X12_later (nx := 9) rfl rfl rfl rfl ?_
      refine ev_anyLE f_X12_later (nx := 10) rfl rfl rfl rfl (fun z15 e15 => ?_)
      have i15 : z15.toInt = ar2.toInt := by rw [e15]; exact Int32.toInt_toInt64 _
      refine ev_lc f_X12_later (nx := 11) (v := 0) rfl (by decide) rfl ?_
      refine ev_ldL f_X12_later (nx := 14) (v := 60) rfl (by decide) rfl ?_
      refine ev_inS3 f_X12_later (nx := 17) (lo2 := [(0, .long z15), (2, .long 0), (4, .long 60)]) rfl rfl rfl rfl f_X12_isFrom rfl rfl rfl rfl ?_
      refine ev_loc f_X12_isFrom (nx := 1) rfl rfl rfl rfl ?_
      refine ev_loc f_X12_isFrom (nx := 2) rfl rfl rfl rfl ?_
      refine ev_anyIE f_X12_isFrom (nx := 3) rfl rfl rfl rfl (fun z16 e16 => ?_)
      refine ev_if f_X12_isFrom (t1 := 17) (t2 := 6) rfl rfl rfl (fun h17 => ?_) (fun h17 => ?_)
      · have u18 : ar2.toInt ≤ ((-1):Int) := Int.le_sub_one_of_lt ((lgc_lt (by decide : (0 : Int64).toInt = 0)).mp (by have hh := h17; rw [e16, e15] at hh; exact hh))
        have u19 : z16.toInt ≤ (-1) := t_ltu h17 (by decide : (0:Int32).toInt ≤ (0:Int)) rfl
        refine ev_ic f_X12_isFrom (nx := 18) (v := 0) rfl (by decide) rfl ?_
        refine ev_retK1 f_X12_isFrom rfl rfl rfl ?_
        refine ev_t f_X12_later (t1 := 20) (t2 := 26) rfl rfl rfl (by decide) ?_
        refine ev_loc f_X12_later (nx := 21) rfl rfl rfl rfl ?_
        refine ev_ic f_X12_later (nx := 22) (v := 1) rfl (by decide) rfl ?_
        refine ev_inV2 f_X12_later (nx := 25) (lo2 := [(0, .ref 69), (1, .int 1)]) rfl rfl rfl rfl f_X12_refuse (hI.wf.s rfl) rfl rfl rfl rfl rfl ?_
        refine ev_loc f_X12_refuse (nx := 1) rfl rfl rfl rfl ?_
        refine ev_loc f_X12_refuse (nx := 2) rfl rfl rfl rfl ?_
        refine ev_putIT f_X12_refuse (nx := 5) rfl (hI.wf.s rfl) rfl rfl rfl (hI.put0 (hI.wf.s rfl) rfl rfl) (hX.upI rfl) (fun g20 e20 hI hX => ?_)
        refine ev_ic f_X12_refuse (nx := 6) (v := -1) rfl (by decide) rfl ?_
        refine ev_retK1 f_X12_refuse rfl rfl rfl ?_
        exact ev_ret f_X12_later rfl rfl rfl ⟨_, _, _, rfl, hI, hX, ⟨_, rfl, (Int.le_trans (by decide : ((-2147483648):Int) ≤ (-1)) (by decide : ((-1):Int) ≤ ((-1):Int32).toInt)), (Int.le_trans (by decide : ((-1):Int32).toInt ≤ ((-1):Int)) (by decide : ((-1):Int) ≤ 999999999)), (show (¬ (0 ≤ ar1.toInt ∧ ar1.toInt < (gi 70 1).toInt ∧ 0 ≤ ar2.toInt ∧ ar2.toInt ≤ 60) → (g20 69 2).toInt = 1) ∧ ((0 ≤ ar1.toInt ∧ ar1.toInt < (gi 70 1).toInt ∧ 0 ≤ ar2.toInt ∧ ar2.toInt ≤ 60) → (((-1) : Int) = -1 → (g20 69 2).toInt = 6) ∧ (((-1) : Int) ≠ -1 → (g20 69 2).toInt = 0)) from ⟨fun h => (by have ffs : (g20 69 2).toInt = 1 := (congrArg Int32.toInt (by rw [e20]; exact x_up2_at _ _ _ _ : g20 69 2 = 1)).trans (by decide); omega), fun h => ⟨fun h2 => (by have ffs : (g20 69 2).toInt = 1 := (congrArg Int32.toInt (by rw [e20]; exact x_up2_at _ _ _ _ : g20 69 2 = 1)).trans (by decide); omega), fun h2 => (by have ffs : (g20 69 2).toInt = 1 := (congrArg Int32.toInt (by rw [e20]; exact x_up2_at _ _ _ _ : g20 69 2 = 1)).trans (by decide); omega)⟩⟩)⟩⟩
      · have l21 : (0:Int) ≤ ar2.toInt := (lgc_ge (by decide : (0 : Int64).toInt = 0)).mp (by have hh := (t_nlt h17); rw [e16, e15] at hh; exact hh)
        have l22 : 0 ≤ z16.toInt := t_lel (t_nlt h17) (by decide : (0:Int) ≤ (0:Int32).toInt)
        refine ev_loc f_X12_isFrom (nx := 7) rfl rfl rfl rfl ?_
        refine ev_loc f_X12_isFrom (nx := 9) rfl rfl rfl rfl ?_
        refine ev_anyIE f_X12_isFrom (nx := 10) rfl rfl rfl rfl (fun z23 e23 => ?_)
        refine ev_if f_X12_isFrom (t1 := 17) (t2 := 13) rfl rfl rfl (fun h24 => ?_) (fun h24 => ?_)
        · have l25 : (61:Int) ≤ ar2.toInt := Int.add_one_le_of_lt ((lgc_gt (by decide : (60 : Int64).toInt = 60)).mp (by have hh := h24; rw [e23, e15] at hh; exact hh))
          have l26 : 1 ≤ z23.toInt := t_ltl h24 (by decide : (0:Int) ≤ (0:Int32).toInt) rfl
          refine ev_ic f_X12_isFrom (nx := 18) (v := 0) rfl (by decide) rfl ?_
          refine ev_retK1 f_X12_isFrom rfl rfl rfl ?_
          refine ev_t f_X12_later (t1 := 20) (t2 := 26) rfl rfl rfl (by decide) ?_
          refine ev_loc f_X12_later (nx := 21) rfl rfl rfl rfl ?_
          refine ev_ic f_X12_later (nx := 22) (v := 1) rfl (by decide) rfl ?_
          refine ev_inV2 f_X12_later (nx := 25) (lo2 := [(0, .ref 69), (1, .int 1)]) rfl rfl rfl rfl f_X12_refuse (hI.wf.s rfl) rfl rfl rfl rfl rfl ?_
          refine ev_loc f_X12_refuse (nx := 1) rfl rfl rfl rfl ?_
          refine ev_loc f_X12_refuse (nx := 2) rfl rfl rfl rfl ?_
          refine ev_putIT f_X12_refuse (nx := 5) rfl (hI.wf.s rfl) rfl rfl rfl (hI.put0 (hI.wf.s rfl) rfl rfl) (hX.upI rfl) (fun g27 e27 hI hX => ?_)
          refine ev_ic f_X12_refuse (nx := 6) (v := -1) rfl (by decide) rfl ?_
          refine ev_retK1 f_X12_refuse rfl rfl rfl ?_
          exact ev_ret f_X12_later rfl rfl rfl ⟨_, _, _, rfl, hI, hX, ⟨_, rfl, (Int.le_trans (by decide : ((-2147483648):Int) ≤ (-1)) (by decide : ((-1):Int) ≤ ((-1):Int32).toInt)), (Int.le_trans (by decide : ((-1):Int32).toInt ≤ ((-1):Int)) (by decide : ((-1):Int) ≤ 999999999)), (show (¬ (0 ≤ ar1.toInt ∧ ar1.toInt < (gi 70 1).toInt ∧ 0 ≤ ar2.toInt ∧ ar2.toInt ≤ 60) → (g27 69 2).toInt = 1) ∧ ((0 ≤ ar1.toInt ∧ ar1.toInt < (gi 70 1).toInt ∧ 0 ≤ ar2.toInt ∧ ar2.toInt ≤ 60) → (((-1) : Int) = -1 → (g27 69 2).toInt = 6) ∧ (((-1) : Int) ≠ -1 → (g27 69 2).toInt = 0)) from ⟨fun h => (by have ffs : (g27 69 2).toInt = 1 := (congrArg Int32.toInt (by rw [e27]; exact x_up2_at _ _ _ _ : g27 69 2 = 1)).trans (by decide); omega), fun h => ⟨fun h2 => (by have ffs : (g27 69 2).toInt = 1 := (congrArg Int32.toInt (by rw [e27]; exact x_up2_at _ _ _ _ : g27 69 2 = 1)).trans (by decide); omega), fun h2 => (by have ffs : (g27 69 2).toInt = 1 := (congrArg Int32.toInt (by rw [e27]; exact x_up2_at _ _ _ _ : g27 69 2 = 1)).trans (by decide); omega)⟩⟩)⟩⟩
        · have u28 : ar2.toInt ≤ (60:Int) := (lgc_le (by decide : (60 : Int64).toInt = 60)).mp (by have hh := (t_nlt h24); rw [e23, e15] at hh; exact hh)
          have u29 : z23.toInt ≤ 0 := t_leu (t_nlt h24) (by decide : (0:Int32).toInt ≤ (0:Int))
          refine ev_ic f_X12_isFrom (nx := 14) (v := 1) rfl (by decide) rfl ?_
          refine ev_jmp f_X12_isFrom (nx := 18) rfl rfl rfl ?_
          refine ev_retK1 f_X12_isFrom rfl rfl rfl ?_
          refine ev_f f_X12_later (t1 := 20) (t2 := 26) rfl rfl rfl (by decide) ?_
          refine ev_loc f_X12_later (nx := 27) rfl rfl rfl rfl ?_
          refine ev_loc f_X12_later (nx := 28) rfl rfl rfl rfl ?_
          refine ev_loc f_X12_later (nx := 29) rfl rfl rfl rfl ?_
          refine ev_loc f_X12_later (nx := 30) rfl rfl rfl rfl ?_
          refine ev_qI f_X12_later (nx := 33) (r := [.ref 69]) rfl rfl rfl rfl rfl rfl rfl (c_m_laterBy hI (ar1) l7 u13 (ar2) l21 u28 (by omega)) rfl hX rfl (fun w30 gi30 gl30 gr30 l30 u30 hI hX hC30 q30 => ?_)
          have q30 : True := q30
          refine ev_inV2 f_X12_later (nx := 36) (lo2 := [(0, .ref 69), (1, .int w30)]) rfl rfl rfl rfl f_X12_orNone (hI.wf.s rfl) rfl rfl rfl rfl rfl ?_
          refine ev_loc f_X12_orNone (nx := 1) rfl rfl rfl rfl ?_
          refine ev_ic f_X12_orNone (nx := 2) (v := -1) rfl (by decide) rfl ?_
          refine ev_if f_X12_orNone (t1 := 5) (t2 := 14) rfl rfl rfl (fun h31 => ?_) (fun h31 => ?_)
          · have u32 : w30.toInt ≤ (-1) := t_equ h31 (by decide : ((-1):Int32).toInt ≤ ((-1):Int))
            have l33 : (-1) ≤ w30.toInt := t_eql h31 (by decide : ((-1):Int) ≤ ((-1):Int32).toInt)
            refine ev_loc f_X12_orNone (nx := 6) rfl rfl rfl rfl ?_
            refine ev_bp f_X12_orNone (nx := 8) (v := 6) rfl (by decide) rfl ?_
            refine ev_inV2 f_X12_orNone (nx := 11) (lo2 := [(0, .ref 69), (1, .int 6)]) rfl rfl rfl rfl f_X12_refuse (hI.wf.s rfl) rfl rfl rfl rfl rfl ?_
            refine ev_loc f_X12_refuse (nx := 1) rfl rfl rfl rfl ?_
            refine ev_loc f_X12_refuse (nx := 2) rfl rfl rfl rfl ?_
            refine ev_putIT f_X12_refuse (nx := 5) rfl (hI.wf.s rfl) rfl rfl rfl (hI.put0 (hI.wf.s rfl) rfl rfl) (hX.upI rfl) (fun g34 e34 hI hX => ?_)
            refine ev_ic f_X12_refuse (nx := 6) (v := -1) rfl (by decide) rfl ?_
            refine ev_retK1 f_X12_refuse rfl rfl rfl ?_
            refine ev_jmp f_X12_orNone (nx := 19) rfl rfl rfl ?_
            refine ev_retK1 f_X12_orNone rfl rfl rfl ?_
            exact ev_ret f_X12_later rfl rfl rfl ⟨_, _, _, rfl, hI, hX, ⟨_, rfl, (Int.le_trans (by decide : ((-2147483648):Int) ≤ (-1)) (by decide : ((-1):Int) ≤ ((-1):Int32).toInt)), (Int.le_trans (by decide : ((-1):Int32).toInt ≤ ((-1):Int)) (by decide : ((-1):Int) ≤ 999999999)), (show (¬ (0 ≤ ar1.toInt ∧ ar1.toInt < (gi 70 1).toInt ∧ 0 ≤ ar2.toInt ∧ ar2.toInt ≤ 60) → (g34 69 2).toInt = 1) ∧ ((0 ≤ ar1.toInt ∧ ar1.toInt < (gi 70 1).toInt ∧ 0 ≤ ar2.toInt ∧ ar2.toInt ≤ 60) → (((-1) : Int) = -1 → (g34 69 2).toInt = 6) ∧ (((-1) : Int) ≠ -1 → (g34 69 2).toInt = 0)) from ⟨fun h => (by have ffs : (g34 69 2).toInt = 6 := (congrArg Int32.toInt (by rw [e34]; exact x_up2_at _ _ _ _ : g34 69 2 = 6)).trans (by decide); omega), fun h => ⟨fun h2 => (by have ffs : (g34 69 2).toInt = 6 := (congrArg Int32.toInt (by rw [e34]; exact x_up2_at _ _ _ _ : g34 69 2 = 6)).trans (by decide); omega), fun h2 => (by have ffs : (g34 69 2).toInt = 6 := (congrArg Int32.toInt (by rw [e34]; exact x_up2_at _ _ _ _ : g34 69 2 = 6)).trans (by decide); omega)⟩⟩)⟩⟩
          · have r35 : w30.toInt ≠ (-1) := fun e => h31 (Int32.toInt_inj.mp (e.trans (by decide : ((-1):Int) = ((-1) : Int32).toInt)))
            refine ev_loc f_X12_orNone (nx := 15) rfl rfl rfl rfl ?_
            refine ev_loc f_X12_orNone (nx := 16) rfl rfl rfl rfl ?_
            refine ev_inV2 f_X12_orNone (nx := 19) (lo2 := [(0, .ref 69), (1, .int w30)]) rfl rfl rfl rfl f_X12_gives (hI.wf.s rfl) rfl rfl rfl rfl rfl ?_
            refine ev_loc f_X12_gives (nx := 1) rfl rfl rfl rfl ?_
            refine ev_ic f_X12_gives (nx := 2) (v := 0) rfl (by decide) rfl ?_
            refine ev_putIT f_X12_gives (nx := 5) rfl (hI.wf.s rfl) rfl rfl rfl (hI.put0 (hI.wf.s rfl) rfl rfl) (hX.upI rfl) (fun g36 e36 hI hX => ?_)
            refine ev_loc f_X12_gives (nx := 6) rfl rfl rfl rfl ?_
            refine ev_retK1 f_X12_gives rfl rfl rfl ?_
            refine ev_retK1 f_X12_orNone rfl rfl rfl ?_
            exact ev_ret f_X12_later rfl rfl rfl ⟨_, _, _, rfl, hI, hX, ⟨_, rfl, l30, u30, (show (¬ (0 ≤ ar1.toInt ∧ ar1.toInt < (gi 70 1).toInt ∧ 0 ≤ ar2.toInt ∧ ar2.toInt ≤ 60) → (g36 69 2).toInt = 1) ∧ ((0 ≤ ar1.toInt ∧ ar1.toInt < (gi 70 1).toInt ∧ 0 ≤ ar2.toInt ∧ ar2.toInt ≤ 60) → (w30.toInt = -1 → (g36 69 2).toInt = 6) ∧ (w30.toInt ≠ -1 → (g36 69 2).toInt = 0)) from ⟨fun h => (by have ffs : (g36 69 2).toInt = 0 := (congrArg Int32.toInt (by rw [e36]; exact x_up2_at _ _ _ _ : g36 69 2 = 0)).trans (by decide); omega), fun h => ⟨fun h2 => (by have ffs : (g36 69 2).toInt = 0 := (congrArg Int32.toInt (by rw [e36]; exact x_up2_at _ _ _ _ : g36 69 2 = 0)).trans (by decide); omega), fun h2 => (by have ffs : (g36 69 2).toInt = 0 := (congrArg Int32.toInt (by rw [e36]; exact x_up2_at _ _ _ _ : g36 69 2 = 0)).trans (by decide); omega)⟩⟩)⟩⟩
noncomputable def wl_g_slack : List (Nat × Nat) := [(69, 2), (69, 44), (69, 45), (69, 48), (89, 10005), (89, 610011), (90, 9999), (91, 9999), (92, 9999)]
noncomputable def Q_g_slack (gi : Nat → Nat → Int32) (gl : Nat → Nat → Int64) (gr : Nat → Nat → Value) (ar1 : Int32) : Int32 → (Nat → Nat → Int32) → (Nat → Nat → Int64) → (Nat → Nat → Value) → Prop := fun (v : Int32) (gi2 : Nat → Nat → Int32) (gl2 : Nat → Nat → Int64) (gr2 : Nat → Nat → Value) => (¬ (0 ≤ ar1.toInt ∧ ar1.toInt < (gi 70 1).toInt) → (gi2 69 2).toInt = 1) ∧ ((0 ≤ ar1.toInt ∧ ar1.toInt < (gi 70 1).toInt) → (v.toInt = -1 → (gi2 69 2).toInt = 6) ∧ (v.toInt ≠ -1 → (gi2 69 2).toInt = 0))
theorem c_g_slack {X : x_Ext} {d : Nat} {sh : List (Nat ⊕ (Nat × Nat))} {gi : Nat → Nat → Int32} {gl : Nat → Nat → Int64} {gr : Nat → Nat → Value} (hI : t_I sh gi gr) (ar1 : Int32) (e_p0 : 1 ≤ (gi 70 4).toInt) : x_Me X (d + 6) n_X12_slack [.ref 69, .int ar1] (sh, gi, gl, gr) (t_PI wl_g_slack sh gi gl gr (-1) 60 (Q_g_slack gi gl gr ar1)) := by
  have hX : t_X wl_g_slack sh gi gl gr gi gl gr := t_X.rf
  refine me_i f_X12_slack (hI.wf.s rfl) rfl rfl rfl ?_
  obtain ⟨l2, u2⟩ := hI.ab (by decide +kernel : t_abr 70 1 1 0 6 = true) (Nat.le_refl _) (Nat.le_refl _)
  obtain ⟨l3, u3⟩ := hI.ab (by decide +kernel : t_abr 70 4 4 0 20 = true) (Nat.le_refl _) (Nat.le_refl _)
  refine ev_loc f_X12_slack (nx := 1) rfl rfl rfl rfl ?_
  refine ev_loc f_X12_slack (nx := 2) rfl rfl rfl rfl ?_
  refine ev_inV2 f_X12_slack (nx := 5) (lo2 := [(0, .ref 69), (1, .int ar1)]) rfl rfl rfl rfl f_X12_isShip (hI.wf.s rfl) rfl rfl rfl rfl rfl ?_
  refine ev_loc f_X12_isShip (nx := 1) rfl rfl rfl rfl ?_
  refine ev_if f_X12_isShip (t1 := 18) (t2 := 4) rfl rfl rfl (fun h4 => ?_) (fun h4 => ?_)
  · have u5 : ar1.toInt ≤ (-1) := t_ltu h4 (by decide : (0:Int32).toInt ≤ (0:Int)) rfl
    refine ev_ic f_X12_isShip (nx := 19) (v := 0) rfl (by decide) rfl ?_
    refine ev_retK1 f_X12_isShip rfl rfl rfl ?_
    refine ev_t f_X12_slack (t1 := 8) (t2 := 14) rfl rfl rfl (by decide) ?_
    refine ev_loc f_X12_slack (nx := 9) rfl rfl rfl rfl ?_
    refine ev_ic f_X12_slack (nx := 10) (v := 1) rfl (by decide) rfl ?_
    refine ev_inV2 f_X12_slack (nx := 13) (lo2 := [(0, .ref 69), (1, .int 1)]) rfl rfl rfl rfl f_X12_refuse (hI.wf.s rfl) rfl rfl rfl rfl rfl ?_
    refine ev_loc f_X12_refuse (nx := 1) rfl rfl rfl rfl ?_
    refine ev_loc f_X12_refuse (nx := 2) rfl rfl rfl rfl ?_
    refine ev_putIT f_X12_refuse (nx := 5) rfl (hI.wf.s rfl) rfl rfl rfl (hI.put0 (hI.wf.s rfl) rfl rfl) (hX.upI rfl) (fun g6 e6 hI hX => ?_)
    refine ev_ic f_X12_refuse (nx := 6) (v := -1) rfl (by decide) rfl ?_
    refine ev_retK1 f_X12_refuse rfl rfl rfl ?_
    exact ev_ret f_X12_slack rfl rfl rfl ⟨_, _, _, rfl, hI, hX, ⟨_, rfl, (by decide : ((-1):Int) ≤ ((-1):Int32).toInt), (Int.le_trans (by decide : ((-1):Int32).toInt ≤ ((-1):Int)) (by decide : ((-1):Int) ≤ 60)), (show (¬ (0 ≤ ar1.toInt ∧ ar1.toInt < (gi 70 1).toInt) → (g6 69 2).toInt = 1) ∧ ((0 ≤ ar1.toInt ∧ ar1.toInt < (gi 70 1).toInt) → (((-1) : Int) = -1 → (g6 69 2).toInt = 6) ∧ (((-1) : Int) ≠ -1 → (g6 69 2).toInt = 0)) from ⟨fun h => (by have ffs : (g6 69 2).toInt = 1 := (congrArg Int32.toInt (by rw [e6]; exact x_up2_at _ _ _ _ : g6 69 2 = 1)).trans (by decide); omega), fun h => ⟨fun h2 => (by have ffs : (g6 69 2).toInt = 1 := (congrArg Int32.toInt (by rw [e6]; exact x_up2_at _ _ _ _ : g6 69 2 = 1)).trans (by decide); omega), fun h2 => (by have ffs : (g6 69 2).toInt = 1 := (congrArg Int32.toInt (by rw [e6]; exact x_up2_at _ _ _ _ : g6 69 2 = 1)).trans (by decide); omega)⟩⟩)⟩⟩
  · have l7 : 0 ≤ ar1.toInt := t_lel (t_nlt h4) (by decide : (0:Int) ≤ (0:Int32).toInt)
    refine ev_loc f_X12_isShip (nx := 5) rfl rfl rfl rfl ?_
    refine ev_loc f_X12_isShip (nx := 6) rfl rfl rfl rfl ?_
    refine ev_getR f_X12_isShip (nx := 9) rfl (hI.wf.s rfl) rfl rfl (hI.wf.r rfl) rfl rfl ?_
    refine ev_ic f_X12_isShip (nx := 10) (v := 1) rfl (by decide) rfl ?_
    refine ev_ialdv f_X12_isShip (nx := 11) (w := (gi 70 1)) rfl (hI.wf.s rfl) (by decide) (rfl : (1 : Int32).toNatClampNeg = 1) (by decide) rfl rfl ?_
    refine ev_if f_X12_isShip (t1 := 18) (t2 := 14) rfl rfl rfl (fun h9 => ?_) (fun h9 => ?_)
    · have r10 : (gi 70 1).toInt ≤ ar1.toInt := Int32.le_iff_toInt_le.mp h9
      refine ev_ic f_X12_isShip (nx := 19) (v := 0) rfl (by decide) rfl ?_
      refine ev_retK1 f_X12_isShip rfl rfl rfl ?_
      refine ev_t f_X12_slack (t1 := 8) (t2 := 14) rfl rfl rfl (by decide) ?_
      refine ev_loc f_X12_slack (nx := 9) rfl rfl rfl rfl ?_
      refine ev_ic f_X12_slack (nx := 10) (v := 1) rfl (by decide) rfl ?_
      refine ev_inV2 f_X12_slack (nx := 13) (lo2 := [(0, .ref 69), (1, .int 1)]) rfl rfl rfl rfl f_X12_refuse (hI.wf.s rfl) rfl rfl rfl rfl rfl ?_
      refine ev_loc f_X12_refuse (nx := 1) rfl rfl rfl rfl ?_
      refine ev_loc f_X12_refuse (nx := 2) rfl rfl rfl rfl ?_
      refine ev_putIT f_X12_refuse (nx := 5) rfl (hI.wf.s rfl) rfl rfl rfl (hI.put0 (hI.wf.s rfl) rfl rfl) (hX.upI rfl) (fun g11 e11 hI hX => ?_)
      refine ev_ic f_X12_refuse (nx := 6) (v := -1) rfl (by decide) rfl ?_
      refine ev_retK1 f_X12_refuse rfl rfl rfl ?_
      exact ev_ret f_X12_slack rfl rfl rfl ⟨_, _, _, rfl, hI, hX, ⟨_, rfl, (by decide : ((-1):Int) ≤ ((-1):Int32).toInt), (Int.le_trans (by decide : ((-1):Int32).toInt ≤ ((-1):Int)) (by decide : ((-1):Int) ≤ 60)), (show (¬ (0 ≤ ar1.toInt ∧ ar1.toInt < (gi 70 1).toInt) → (g11 69 2).toInt = 1) ∧ ((0 ≤ ar1.toInt ∧ ar1.toInt < (gi 70 1).toInt) → (((-1) : Int) = -1 → (g11 69 2).toInt = 6) ∧ (((-1) : Int) ≠ -1 → (g11 69 2).toInt = 0)) from ⟨fun h => (by have ffs : (g11 69 2).toInt = 1 := (congrArg Int32.toInt (by rw [e11]; exact x_up2_at _ _ _ _ : g11 69 2 = 1)).trans (by decide); omega), fun h => ⟨fun h2 => (by have ffs : (g11 69 2).toInt = 1 := (congrArg Int32.toInt (by rw [e11]; exact x_up2_at _ _ _ _ : g11 69 2 = 1)).trans (by decide); omega), fun h2 => (by have ffs : (g11 69 2).toInt = 1 := (congrArg Int32.toInt (by rw [e11]; exact x_up2_at _ _ _ _ : g11 69 2 = 1)).trans (by decide); omega)⟩⟩)⟩⟩
    · have r12 : ar1.toInt < (gi 70 1).toInt := Int32.lt_iff_toInt_lt.mp (t_nle h9)
      have u13 : ar1.toInt ≤ 5 := t_ltu (t_nle h9) u2 rfl
      have l14 : 1 ≤ (gi 70 1).toInt := t_ltl (t_nle h9) l7 rfl
      refine ev_ic f_X12_isShip (nx := 15) (v := 1) rfl (by decide) rfl ?_
      refine ev_jmp f_X12_isShip (nx := 19) rfl rfl rfl ?_
      refine ev_retK1 f_X12_isShip rfl rfl rfl ?_
      refine ev_f f_X12_slack (t1 := 8) (t2 := 14) rfl rfl rfl (by decide) ?_
      refine ev_loc f_X12_slack (nx := 15) rfl rfl rfl rfl ?_
      refine ev_ic f_X12_slack (nx := 16) (v := 0) rfl (by decide) rfl ?_
      refine ev_loc f_X12_slack (nx := 17) rfl rfl rfl rfl ?_
      refine ev_getR f_X12_slack (nx := 20) rfl (hI.wf.s rfl) rfl rfl (hI.wf.r rfl) rfl rfl ?_
      refine ev_ic f_X12_slack (nx := 21) (v := 4) rfl (by decide) rfl ?_
      refine ev_ialdv f_X12_slack (nx := 22) (w := (gi 70 4)) rfl (hI.wf.s rfl) (by decide) (rfl : (4 : Int32).toNatClampNeg = 4) (by decide) rfl rfl ?_
      refine ev_qI f_X12_slack (nx := 25) (r := []) rfl rfl rfl rfl rfl rfl rfl (c_m_leastBy hI (0) ((gi 70 4)) l3 u3 (by omega)) rfl hX rfl (fun w16 gi16 gl16 gr16 l16 u16 hI hX hC16 q16 => ?_)
      have q16 : Q_m_leastBy gi gl gr (0 : Int32) (gi 70 4) w16 gi16 gl16 gr16 := q16
      refine ev_loc f_X12_slack (nx := 26) (lo' := [(2, .int w16), (0, .ref 69), (1, .int ar1)]) rfl rfl rfl rfl ?_
      refine ev_loc f_X12_slack (nx := 27) rfl rfl rfl rfl ?_
      refine ev_ic f_X12_slack (nx := 28) (v := -1) rfl (by decide) rfl ?_
      refine ev_if f_X12_slack (t1 := 31) (t2 := 38) rfl rfl rfl (fun h17 => ?_) (fun h17 => ?_)
      · have u18 : w16.toInt ≤ (-1) := t_equ h17 (by decide : ((-1):Int32).toInt ≤ ((-1):Int))
        have l19 : (-1) ≤ w16.toInt := t_eql h17 (by decide : ((-1):Int) ≤ ((-1):Int32).toInt)
        refine ev_loc f_X12_slack (nx := 32) rfl rfl rfl rfl ?_
        refine ev_bp f_X12_slack (nx := 34) (v := 6) rfl (by decide) rfl ?_
        refine ev_inV2 f_X12_slack (nx := 37) (lo2 := [(0, .ref 69), (1, .int 6)]) rfl rfl rfl rfl f_X12_refuse (hI.wf.s rfl) rfl rfl rfl rfl rfl ?_
        refine ev_loc f_X12_refuse (nx := 1) rfl rfl rfl rfl ?_
        refine ev_loc f_X12_refuse (nx := 2) rfl rfl rfl rfl ?_
        refine ev_putIT f_X12_refuse (nx := 5) rfl (hI.wf.s rfl) rfl rfl rfl (hI.put0 (hI.wf.s rfl) rfl rfl) (hX.upI rfl) (fun g20 e20 hI hX => ?_)
        refine ev_ic f_X12_refuse (nx := 6) (v := -1) rfl (by decide) rfl ?_
        refine ev_retK1 f_X12_refuse rfl rfl rfl ?_
        exact ev_ret f_X12_slack rfl rfl rfl ⟨_, _, _, rfl, hI, hX, ⟨_, rfl, (by decide : ((-1):Int) ≤ ((-1):Int32).toInt), (Int.le_trans (by decide : ((-1):Int32).toInt ≤ ((-1):Int)) (by decide : ((-1):Int) ≤ 60)), (show (¬ (0 ≤ ar1.toInt ∧ ar1.toInt < (gi 70 1).toInt) → (g20 69 2).toInt = 1) ∧ ((0 ≤ ar1.toInt ∧ ar1.toInt < (gi 70 1).toInt) → (((-1) : Int) = -1 → (g20 69 2).toInt = 6) ∧ (((-1) : Int) ≠ -1 → (g20 69 2).toInt = 0)) from ⟨fun h => (by have ffs : (g20 69 2).toInt = 6 := (congrArg Int32.toInt (by rw [e20]; exact x_up2_at _ _ _ _ : g20 69 2 = 6)).trans (by decide); omega), fun h => ⟨fun h2 => (by have ffs : (g20 69 2).toInt = 6 := (congrArg Int32.toInt (by rw [e20]; exact x_up2_at _ _ _ _ : g20 69 2 = 6)).trans (by decide); omega), fun h2 => (by have ffs : (g20 69 2).toInt = 6 := (congrArg Int32.toInt (by rw [e20]; exact x_up2_at _ _ _ _ : g20 69 2 = 6)).trans (by decide); omega)⟩⟩)⟩⟩
      · have r21 : w16.toInt ≠ (-1) := fun e => h17 (Int32.toInt_inj.mp (e.trans (by decide : ((-1):Int) = ((-1) : Int32).toInt)))
        refine ev_ic f_X12_slack (nx := 39) (v := 0) rfl (by decide) rfl ?_
        refine ev_loc f_X12_slack (nx := 40) (lo' := [(3, .int 0), (2, .int w16), (0, .ref 69), (1, .int ar1)]) rfl rfl rfl rfl ?_
        refine ev_ic f_X12_slack (nx := 41) (v := 1) rfl (by decide) rfl ?_
        refine ev_loc f_X12_slack (nx := 43) (lo' := [(4, .int 1), (3, .int 0), (2, .int w16), (0, .ref 69), (1, .int ar1)]) rfl rfl rfl rfl ?_
        have L22 : ∀ (m22 : Nat) (gi22 : Nat → Nat → Int32) (gl22 : Nat → Nat → Int64) (gr22 : Nat → Nat → Value) (y22_4 : Int32) (y22_3 : Int32), t_I sh gi22 gr22 → t_X wl_g_slack sh gi gl gr gi22 gl22 gr22 → 1 ≤ y22_4.toInt → y22_4.toInt ≤ 61 → 0 ≤ y22_3.toInt → y22_3.toInt ≤ 60 → gi22 69 2 = (gi 69 2) → gi22 70 1 = (gi 70 1) → gi22 70 4 = (gi 70 4) → (61 - y22_4.toInt).toNat = m22 → x_Ev X (d + 6) n_X12_slack 43 [(4, .int y22_4), (3, .int y22_3), (2, .int w16), (0, .ref 69), (1, .int ar1)] [] (sh, gi22, gl22, gr22) (t_PI wl_g_slack sh gi gl gr (-1) 60 (Q_g_slack gi gl gr ar1)) := by
          intro m22
          induction m22 using Nat.strongRecOn with
          | _ m22 ih22 =>
          intro gi22 gl22 gr22 y22_4 y22_3 hI hX l22_4 u22_4 l22_3 u22_3 c22_0 c22_1 c22_2 hm22
          refine ev_loc f_X12_slack (nx := 45) rfl rfl rfl rfl ?_
          refine ev_bp f_X12_slack (nx := 47) (v := 60) rfl (by decide) rfl ?_
          refine ev_if f_X12_slack (t1 := 80) (t2 := 50) rfl rfl rfl (fun h23 => ?_) (fun h23 => ?_)
          · have l24 : 61 ≤ y22_4.toInt := t_ltl h23 (by decide : (60:Int) ≤ (60:Int32).toInt) rfl
            refine ev_loc f_X12_slack (nx := 81) rfl rfl rfl rfl ?_
            refine ev_loc f_X12_slack (nx := 82) rfl rfl rfl rfl ?_
            refine ev_inV2 f_X12_slack (nx := 85) (lo2 := [(0, .ref 69), (1, .int y22_3)]) rfl rfl rfl rfl f_X12_gives (hI.wf.s rfl) rfl rfl rfl rfl rfl ?_
            refine ev_loc f_X12_gives (nx := 1) rfl rfl rfl rfl ?_
            refine ev_ic f_X12_gives (nx := 2) (v := 0) rfl (by decide) rfl ?_
            refine ev_putIT f_X12_gives (nx := 5) rfl (hI.wf.s rfl) rfl rfl rfl (hI.put0 (hI.wf.s rfl) rfl rfl) (hX.upI rfl) (fun g25 e25 hI hX => ?_)
            refine ev_loc f_X12_gives (nx := 6) rfl rfl rfl rfl ?_
            refine ev_retK1 f_X12_gives rfl rfl rfl ?_
            exact ev_ret f_X12_slack rfl rfl rfl ⟨_, _, _, rfl, hI, hX, ⟨_, rfl, (Int.le_trans (by decide : ((-1):Int) ≤ 0) l22_3), u22_3, (show (¬ (0 ≤ ar1.toInt ∧ ar1.toInt < (gi 70 1).toInt) → (g25 69 2).toInt = 1) ∧ ((0 ≤ ar1.toInt ∧ ar1.toInt < (gi 70 1).toInt) → (y22_3.toInt = -1 → (g25 69 2).toInt = 6) ∧ (y22_3.toInt ≠ -1 → (g25 69 2).toInt = 0)) from ⟨fun h => (by have ffs : (g25 69 2).toInt = 0 := (congrArg Int32.toInt (by rw [e25]; exact x_up2_at _ _ _ _ : g25 69 2 = 0)).trans (by decide); omega), fun h => ⟨fun h2 => (by have ffs : (g25 69 2).toInt = 0 := (congrArg Int32.toInt (by rw [e25]; exact x_up2_at _ _ _ _ : g25 69 2 = 0)).trans (by decide); omega), fun h2 => (by have ffs : (g25 69 2).toInt = 0 := (congrArg Int32.toInt (by rw [e25]; exact x_up2_at _ _ _ _ : g25 69 2 = 0)).trans (by decide); omega)⟩⟩)⟩⟩
          · have u26 : y22_4.toInt ≤ 60 := t_leu (t_nlt h23) (by decide : (60:Int32).toInt ≤ (60:Int))
            refine ev_loc f_X12_slack (nx := 51) rfl rfl rfl rfl ?_
            refine ev_loc f_X12_slack (nx := 52) rfl rfl rfl rfl ?_
            refine ev_loc f_X12_slack (nx := 54) rfl rfl rfl rfl ?_
            refine ev_qI f_X12_slack (nx := 57) (r := []) rfl rfl rfl rfl rfl rfl rfl (c_m_laterBy hI (ar1) l7 u13 (y22_4) (Int.le_trans (by decide : (0:Int) ≤ 1) l22_4) u26 (by have ff28 : (gi22 70 4).toInt = (gi 70 4).toInt := congrArg Int32.toInt c22_2; omega)) rfl hX rfl (fun w27 gi27 gl27 gr27 l27 u27 hI hX hC27 q27 => ?_)
            have q27 : True := q27
            refine ev_loc f_X12_slack (nx := 59) (lo' := [(5, .int w27), (4, .int y22_4), (3, .int y22_3), (2, .int w16), (0, .ref 69), (1, .int ar1)]) rfl rfl rfl rfl ?_
            refine ev_loc f_X12_slack (nx := 61) rfl rfl rfl rfl ?_
            refine ev_ic f_X12_slack (nx := 62) (v := -1) rfl (by decide) rfl ?_
            refine ev_if f_X12_slack (t1 := 74) (t2 := 65) rfl rfl rfl (fun h29 => ?_) (fun h29 => ?_)
            · have u30 : w27.toInt ≤ (-1) := t_equ h29 (by decide : ((-1):Int32).toInt ≤ ((-1):Int))
              have l31 : (-1) ≤ w27.toInt := t_eql h29 (by decide : ((-1):Int) ≤ ((-1):Int32).toInt)
              refine ev_incR f_X12_slack (nx := 77) (c := 1) (l := 2) (u := 61) rfl rfl (by decide) (by decide) l22_4 u26 rfl rfl (by decide) (by decide) rfl (fun z32 e32 l32 u32 => ?_)
              refine ev_jmp f_X12_slack (nx := 43) rfl rfl rfl ?_
              refine ev_sub (lo := [(4, .int z32), (3, .int y22_3), (2, .int w16), (0, .ref 69), (1, .int ar1)]) rfl (t_sc rfl (t_sc rfl (t_sc rfl (t_sc rfl (t_sc rfl t_sn))))) ?_
              exact ih22 _ (by omega) gi27 gl27 gr27 (z32) (y22_3) hI hX  (Int.le_trans (by decide : (1:Int) ≤ 2) l32) u32 l22_3 u22_3 ((hC27.1 69 2 rfl).1.trans c22_0) ((hC27.1 70 1 rfl).1.trans c22_1) ((hC27.1 70 4 rfl).1.trans c22_2) rfl
            · have r33 : w27.toInt ≠ (-1) := fun e => h29 (Int32.toInt_inj.mp (e.trans (by decide : ((-1):Int) = ((-1) : Int32).toInt)))
              refine ev_loc f_X12_slack (nx := 67) rfl rfl rfl rfl ?_
              refine ev_loc f_X12_slack (nx := 68) rfl rfl rfl rfl ?_
              refine ev_if f_X12_slack (t1 := 74) (t2 := 71) rfl rfl rfl (fun h34 => ?_) (fun h34 => ?_)
              · have r35 : w16.toInt < w27.toInt := Int32.lt_iff_toInt_lt.mp h34
                have u36 : w16.toInt ≤ 999999998 := t_ltu h34 u27 rfl
                have l37 : (-2147483647) ≤ w27.toInt := t_ltl h34 l16 rfl
                refine ev_incR f_X12_slack (nx := 77) (c := 1) (l := 2) (u := 61) rfl rfl (by decide) (by decide) l22_4 u26 rfl rfl (by decide) (by decide) rfl (fun z38 e38 l38 u38 => ?_)
                refine ev_jmp f_X12_slack (nx := 43) rfl rfl rfl ?_
                refine ev_sub (lo := [(4, .int z38), (3, .int y22_3), (2, .int w16), (0, .ref 69), (1, .int ar1)]) rfl (t_sc rfl (t_sc rfl (t_sc rfl (t_sc rfl (t_sc rfl t_sn))))) ?_
                exact ih22 _ (by omega) gi27 gl27 gr27 (z38) (y22_3) hI hX  (Int.le_trans (by decide : (1:Int) ≤ 2) l38) u38 l22_3 u22_3 ((hC27.1 69 2 rfl).1.trans c22_0) ((hC27.1 70 1 rfl).1.trans c22_1) ((hC27.1 70 4 rfl).1.trans c22_2) rfl
              · have r39 : w27.toInt ≤ w16.toInt := Int32.le_iff_toInt_le.mp (t_nlt h34)
                refine ev_loc f_X12_slack (nx := 73) rfl rfl rfl rfl ?_
                refine ev_loc f_X12_slack (nx := 74) (lo' := [(3, .int y22_4), (5, .int w27), (4, .int y22_4), (2, .int w16), (0, .ref 69), (1, .int ar1)]) rfl rfl rfl rfl ?_
                refine ev_incR f_X12_slack (nx := 77) (c := 1) (l := 2) (u := 61) rfl rfl (by decide) (by decide) l22_4 u26 rfl rfl (by decide) (by decide) rfl (fun z40 e40 l40 u40 => ?_)
                refine ev_jmp f_X12_slack (nx := 43) rfl rfl rfl ?_
                refine ev_sub (lo := [(4, .int z40), (3, .int y22_4), (2, .int w16), (0, .ref 69), (1, .int ar1)]) rfl (t_sc rfl (t_sc rfl (t_sc rfl (t_sc rfl (t_sc rfl t_sn))))) ?_
                exact ih22 _ (by omega) gi27 gl27 gr27 (z40) (y22_4) hI hX  (Int.le_trans (by decide : (1:Int) ≤ 2) l40) u40 (Int.le_trans (by decide : (0:Int) ≤ 1) l22_4) u26 ((hC27.1 69 2 rfl).1.trans c22_0) ((hC27.1 70 1 rfl).1.trans c22_1) ((hC27.1 70 4 rfl).1.trans c22_2) rfl
        refine ev_sub (lo := [(4, .int 1), (3, .int 0), (2, .int w16), (0, .ref 69), (1, .int ar1)]) rfl (t_sc rfl (t_sc rfl (t_sc rfl (t_sc rfl (t_sc rfl t_sn))))) ?_
        exact L22 _ gi16 gl16 gr16 (1) (0) hI hX  (by decide : (1:Int) ≤ (1:Int32).toInt) (Int.le_trans (by decide : (1:Int32).toInt ≤ (1:Int)) (by decide : (1:Int) ≤ 61)) (by decide : (0:Int) ≤ (0:Int32).toInt) (Int.le_trans (by decide : (0:Int32).toInt ≤ (0:Int)) (by decide : (0:Int) ≤ 60)) ((hC16.1 69 2 rfl).1.trans rfl) ((hC16.1 70 1 rfl).1.trans rfl) ((hC16.1 70 4 rfl).1.trans rfl) rfl
noncomputable def wl_g_without : List (Nat × Nat) := [(69, 2), (69, 44), (69, 45), (69, 46), (69, 48), (89, 10005), (89, 610011), (90, 9999), (91, 9999), (92, 9999)]
noncomputable def Q_g_without (gi : Nat → Nat → Int32) (gl : Nat → Nat → Int64) (gr : Nat → Nat → Value) (ar1 : Int32) : Int32 → (Nat → Nat → Int32) → (Nat → Nat → Int64) → (Nat → Nat → Value) → Prop := fun (v : Int32) (gi2 : Nat → Nat → Int32) (gl2 : Nat → Nat → Int64) (gr2 : Nat → Nat → Value) => (¬ (0 ≤ ar1.toInt ∧ ar1.toInt < (gi 70 2).toInt) → (gi2 69 2).toInt = 1) ∧ ((0 ≤ ar1.toInt ∧ ar1.toInt < (gi 70 2).toInt) → (v.toInt = -1 → (gi2 69 2).toInt = 6) ∧ (v.toInt ≠ -1 → (gi2 69 2).toInt = 0))
theorem c_g_without {X : x_Ext} {d : Nat} {sh : List (Nat ⊕ (Nat × Nat))} {gi : Nat → Nat → Int32} {gl : Nat → Nat → Int64} {gr : Nat → Nat → Value} (hI : t_I sh gi gr) (ar1 : Int32) (e_p0 : 1 ≤ (gi 70 4).toInt) : x_Me X (d + 6) n_X12_without [.ref 69, .int ar1] (sh, gi, gl, gr) (t_PI wl_g_without sh gi gl gr (-2147483648) 999999999 (Q_g_without gi gl gr ar1)) := by
  have hX : t_X wl_g_without sh gi gl gr gi gl gr := t_X.rf
  refine me_i f_X12_without (hI.wf.s rfl) rfl rfl rfl ?_
  obtain ⟨l2, u2⟩ := hI.ab (by decide +kernel : t_abr 70 2 2 0 6 = true) (Nat.le_refl _) (Nat.le_refl _)
  obtain ⟨l3, u3⟩ := hI.ab (by decide +kernel : t_abr 70 4 4 0 20 = true) (Nat.le_refl _) (Nat.le_refl _)
  refine ev_loc f_X12_without (nx := 1) rfl rfl rfl rfl ?_
  refine ev_loc f_X12_without (nx := 2) rfl rfl rfl rfl ?_
  refine ev_inV2 f_X12_without (nx := 5) (lo2 := [(0, .ref 69), (1, .int ar1)]) rfl rfl rfl rfl f_X12_isCart (hI.wf.s rfl) rfl rfl rfl rfl rfl ?_
  refine ev_loc f_X12_isCart (nx := 1) rfl rfl rfl rfl ?_
  refine ev_if f_X12_isCart (t1 := 18) (t2 := 4) rfl rfl rfl (fun h4 => ?_) (fun h4 => ?_)
  · have u5 : ar1.toInt ≤ (-1) := t_ltu h4 (by decide : (0:Int32).toInt ≤ (0:Int)) rfl
    refine ev_ic f_X12_isCart (nx := 19) (v := 0) rfl (by decide) rfl ?_
    refine ev_retK1 f_X12_isCart rfl rfl rfl ?_
    refine ev_t f_X12_without (t1 := 8) (t2 := 14) rfl rfl rfl (by decide) ?_
    refine ev_loc f_X12_without (nx := 9) rfl rfl rfl rfl ?_
    refine ev_ic f_X12_without (nx := 10) (v := 1) rfl (by decide) rfl ?_
    refine ev_inV2 f_X12_without (nx := 13) (lo2 := [(0, .ref 69), (1, .int 1)]) rfl rfl rfl rfl f_X12_refuse (hI.wf.s rfl) rfl rfl rfl rfl rfl ?_
    refine ev_loc f_X12_refuse (nx := 1) rfl rfl rfl rfl ?_
    refine ev_loc f_X12_refuse (nx := 2) rfl rfl rfl rfl ?_
    refine ev_putIT f_X12_refuse (nx := 5) rfl (hI.wf.s rfl) rfl rfl rfl (hI.put0 (hI.wf.s rfl) rfl rfl) (hX.upI rfl) (fun g6 e6 hI hX => ?_)
    refine ev_ic f_X12_refuse (nx := 6) (v := -1) rfl (by decide) rfl ?_
    refine ev_retK1 f_X12_refuse rfl rfl rfl ?_
    exact ev_ret f_X12_without rfl rfl rfl ⟨_, _, _, rfl, hI, hX, ⟨_, rfl, (Int.le_trans (by decide : ((-2147483648):Int) ≤ (-1)) (by decide : ((-1):Int) ≤ ((-1):Int32).toInt)), (Int.le_trans (by decide : ((-1):Int32).toInt ≤ ((-1):Int)) (by decide : ((-1):Int) ≤ 999999999)), (show (¬ (0 ≤ ar1.toInt ∧ ar1.toInt < (gi 70 2).toInt) → (g6 69 2).toInt = 1) ∧ ((0 ≤ ar1.toInt ∧ ar1.toInt < (gi 70 2).toInt) → (((-1) : Int) = -1 → (g6 69 2).toInt = 6) ∧ (((-1) : Int) ≠ -1 → (g6 69 2).toInt = 0)) from ⟨fun h => (by have ffs : (g6 69 2).toInt = 1 := (congrArg Int32.toInt (by rw [e6]; exact x_up2_at _ _ _ _ : g6 69 2 = 1)).trans (by decide); omega), fun h => ⟨fun h2 => (by have ffs : (g6 69 2).toInt = 1 := (congrArg Int32.toInt (by rw [e6]; exact x_up2_at _ _ _ _ : g6 69 2 = 1)).trans (by decide); omega), fun h2 => (by have ffs : (g6 69 2).toInt = 1 := (congrArg Int32.toInt (by rw [e6]; exact x_up2_at _ _ _ _ : g6 69 2 = 1)).trans (by decide); omega)⟩⟩)⟩⟩
  · have l7 : 0 ≤ ar1.toInt := t_lel (t_nlt h4) (by decide : (0:Int) ≤ (0:Int32).toInt)
    refine ev_loc f_X12_isCart (nx := 5) rfl rfl rfl rfl ?_
    refine ev_loc f_X12_isCart (nx := 6) rfl rfl rfl rfl ?_
    refine ev_getR f_X12_isCart (nx := 9) rfl (hI.wf.s rfl) rfl rfl (hI.wf.r rfl) rfl rfl ?_
    refine ev_ic f_X12_isCart (nx := 10) (v := 2) rfl (by decide) rfl ?_
    refine ev_ialdv f_X12_isCart (nx := 11) (w := (gi 70 2)) rfl (hI.wf.s rfl) (by decide) (rfl : (2 : Int32).toNatClampNeg = 2) (by decide) rfl rfl ?_
    refine ev_if f_X12_isCart (t1 := 18) (t2 := 14) rfl rfl rfl (fun h9 => ?_) (fun h9 => ?_)
    · have r10 : (gi 70 2).toInt ≤ ar1.toInt := Int32.le_iff_toInt_le.mp h9
      refine ev_ic f_X12_isCart (nx := 19) (v := 0) rfl (by decide) rfl ?_
      refine ev_retK1 f_X12_isCart rfl rfl rfl ?_
      refine ev_t f_X12_without (t1 := 8) (t2 := 14) rfl rfl rfl (by decide) ?_
      refine ev_loc f_X12_without (nx := 9) rfl rfl rfl rfl ?_
      refine ev_ic f_X12_without (nx := 10) (v := 1) rfl (by decide) rfl ?_
      refine ev_inV2 f_X12_without (nx := 13) (lo2 := [(0, .ref 69), (1, .int 1)]) rfl rfl rfl rfl f_X12_refuse (hI.wf.s rfl) rfl rfl rfl rfl rfl ?_
      refine ev_loc f_X12_refuse (nx := 1) rfl rfl rfl rfl ?_
      refine ev_loc f_X12_refuse (nx := 2) rfl rfl rfl rfl ?_
      refine ev_putIT f_X12_refuse (nx := 5) rfl (hI.wf.s rfl) rfl rfl rfl (hI.put0 (hI.wf.s rfl) rfl rfl) (hX.upI rfl) (fun g11 e11 hI hX => ?_)
      refine ev_ic f_X12_refuse (nx := 6) (v := -1) rfl (by decide) rfl ?_
      refine ev_retK1 f_X12_refuse rfl rfl rfl ?_
      exact ev_ret f_X12_without rfl rfl rfl ⟨_, _, _, rfl, hI, hX, ⟨_, rfl, (Int.le_trans (by decide : ((-2147483648):Int) ≤ (-1)) (by decide : ((-1):Int) ≤ ((-1):Int32).toInt)), (Int.le_trans (by decide : ((-1):Int32).toInt ≤ ((-1):Int)) (by decide : ((-1):Int) ≤ 999999999)), (show (¬ (0 ≤ ar1.toInt ∧ ar1.toInt < (gi 70 2).toInt) → (g11 69 2).toInt = 1) ∧ ((0 ≤ ar1.toInt ∧ ar1.toInt < (gi 70 2).toInt) → (((-1) : Int) = -1 → (g11 69 2).toInt = 6) ∧ (((-1) : Int) ≠ -1 → (g11 69 2).toInt = 0)) from ⟨fun h => (by have ffs : (g11 69 2).toInt = 1 := (congrArg Int32.toInt (by rw [e11]; exact x_up2_at _ _ _ _ : g11 69 2 = 1)).trans (by decide); omega), fun h => ⟨fun h2 => (by have ffs : (g11 69 2).toInt = 1 := (congrArg Int32.toInt (by rw [e11]; exact x_up2_at _ _ _ _ : g11 69 2 = 1)).trans (by decide); omega), fun h2 => (by have ffs : (g11 69 2).toInt = 1 := (congrArg Int32.toInt (by rw [e11]; exact x_up2_at _ _ _ _ : g11 69 2 = 1)).trans (by decide); omega)⟩⟩)⟩⟩
    · have r12 : ar1.toInt < (gi 70 2).toInt := Int32.lt_iff_toInt_lt.mp (t_nle h9)
      have u13 : ar1.toInt ≤ 5 := t_ltu (t_nle h9) u2 rfl
      have l14 : 1 ≤ (gi 70 2).toInt := t_ltl (t_nle h9) l7 rfl
      refine ev_ic f_X12_isCart (nx := 15) (v := 1) rfl (by decide) rfl ?_
      refine ev_jmp f_X12_isCart (nx := 19) rfl rfl rfl ?_
      refine ev_retK1 f_X12_isCart rfl rfl rfl ?_
      refine ev_f f_X12_without (t1 := 8) (t2 := 14) rfl rfl rfl (by decide) ?_
      refine ev_loc f_X12_without (nx := 15) rfl rfl rfl rfl ?_
      refine ev_loc f_X12_without (nx := 16) rfl rfl rfl rfl ?_
      refine ev_putIT f_X12_without (nx := 19) rfl (hI.wf.s rfl) rfl rfl rfl (hI.put0 (hI.wf.s rfl) rfl rfl) (hX.upI rfl) (fun g15 e15 hI hX => ?_)
      refine ev_loc f_X12_without (nx := 20) rfl rfl rfl rfl ?_
      refine ev_ic f_X12_without (nx := 21) (v := 0) rfl (by decide) rfl ?_
      refine ev_loc f_X12_without (nx := 22) rfl rfl rfl rfl ?_
      refine ev_getR f_X12_without (nx := 25) rfl (hI.wf.s rfl) rfl rfl (hI.wf.r rfl) rfl rfl ?_
      refine ev_ic f_X12_without (nx := 26) (v := 4) rfl (by decide) rfl ?_
      refine ev_ialdv f_X12_without (nx := 27) (w := (gi 70 4)) rfl (hI.wf.s rfl) (by decide) (rfl : (4 : Int32).toNatClampNeg = 4) (by decide) ((by rw [e15]; exact x_up2_off (Or.inr (by decide)) : g15 70 4 = gi 70 4).trans rfl) rfl ?_
      refine ev_qI f_X12_without (nx := 30) (r := []) rfl rfl rfl rfl rfl rfl rfl (c_m_leastBy hI (0) ((gi 70 4)) l3 u3 (by omega)) rfl hX rfl (fun w17 gi17 gl17 gr17 l17 u17 hI hX hC17 q17 => ?_)
      have q17 : Q_m_leastBy g15 gl gr (0 : Int32) (gi 70 4) w17 gi17 gl17 gr17 := q17
      refine ev_loc f_X12_without (nx := 31) (lo' := [(2, .int w17), (0, .ref 69), (1, .int ar1)]) rfl rfl rfl rfl ?_
      refine ev_loc f_X12_without (nx := 32) rfl rfl rfl rfl ?_
      refine ev_ic f_X12_without (nx := 33) (v := -1) rfl (by decide) rfl ?_
      refine ev_putIT f_X12_without (nx := 36) rfl (hI.wf.s rfl) rfl rfl rfl (hI.put0 (hI.wf.s rfl) rfl rfl) (hX.upI rfl) (fun g18 e18 hI hX => ?_)
      refine ev_loc f_X12_without (nx := 37) rfl rfl rfl rfl ?_
      refine ev_loc f_X12_without (nx := 38) rfl rfl rfl rfl ?_
      refine ev_inV2 f_X12_without (nx := 41) (lo2 := [(0, .ref 69), (1, .int w17)]) rfl rfl rfl rfl f_X12_orNone (hI.wf.s rfl) rfl rfl rfl rfl rfl ?_
      refine ev_loc f_X12_orNone (nx := 1) rfl rfl rfl rfl ?_
      refine ev_ic f_X12_orNone (nx := 2) (v := -1) rfl (by decide) rfl ?_
      refine ev_if f_X12_orNone (t1 := 5) (t2 := 14) rfl rfl rfl (fun h19 => ?_) (fun h19 => ?_)
      · have u20 : w17.toInt ≤ (-1) := t_equ h19 (by decide : ((-1):Int32).toInt ≤ ((-1):Int))
        have l21 : (-1) ≤ w17.toInt := t_eql h19 (by decide : ((-1):Int) ≤ ((-1):Int32).toInt)
        refine ev_loc f_X12_orNone (nx := 6) rfl rfl rfl rfl ?_
        refine ev_bp f_X12_orNone (nx := 8) (v := 6) rfl (by decide) rfl ?_
        refine ev_inV2 f_X12_orNone (nx := 11) (lo2 := [(0, .ref 69), (1, .int 6)]) rfl rfl rfl rfl f_X12_refuse (hI.wf.s rfl) rfl rfl rfl rfl rfl ?_
        refine ev_loc f_X12_refuse (nx := 1) rfl rfl rfl rfl ?_
        refine ev_loc f_X12_refuse (nx := 2) rfl rfl rfl rfl ?_
        refine ev_putIT f_X12_refuse (nx := 5) rfl (hI.wf.s rfl) rfl rfl rfl (hI.put0 (hI.wf.s rfl) rfl rfl) (hX.upI rfl) (fun g22 e22 hI hX => ?_)
        refine ev_ic f_X12_refuse (nx := 6) (v := -1) rfl (by decide) rfl ?_
        refine ev_retK1 f_X12_refuse rfl rfl rfl ?_
        refine ev_jmp f_X12_orNone (nx := 19) rfl rfl rfl ?_
        refine ev_retK1 f_X12_orNone rfl rfl rfl ?_
        exact ev_ret f_X12_without rfl rfl rfl ⟨_, _, _, rfl, hI, hX, ⟨_, rfl, (Int.le_trans (by decide : ((-2147483648):Int) ≤ (-1)) (by decide : ((-1):Int) ≤ ((-1):Int32).toInt)), (Int.le_trans (by decide : ((-1):Int32).toInt ≤ ((-1):Int)) (by decide : ((-1):Int) ≤ 999999999)), (show (¬ (0 ≤ ar1.toInt ∧ ar1.toInt < (gi 70 2).toInt) → (g22 69 2).toInt = 1) ∧ ((0 ≤ ar1.toInt ∧ ar1.toInt < (gi 70 2).toInt) → (((-1) : Int) = -1 → (g22 69 2).toInt = 6) ∧ (((-1) : Int) ≠ -1 → (g22 69 2).toInt = 0)) from ⟨fun h => (by have ffs : (g22 69 2).toInt = 6 := (congrArg Int32.toInt (by rw [e22]; exact x_up2_at _ _ _ _ : g22 69 2 = 6)).trans (by decide); omega), fun h => ⟨fun h2 => (by have ffs : (g22 69 2).toInt = 6 := (congrArg Int32.toInt (by rw [e22]; exact x_up2_at _ _ _ _ : g22 69 2 = 6)).trans (by decide); omega), fun h2 => (by have ffs : (g22 69 2).toInt = 6 := (congrArg Int32.toInt (by rw [e22]; exact x_up2_at _ _ _ _ : g22 69 2 = 6)).trans (by decide); omega)⟩⟩)⟩⟩
      · have r23 : w17.toInt ≠ (-1) := fun e => h19 (Int32.toInt_inj.mp (e.trans (by decide : ((-1):Int) = ((-1) : Int32).toInt)))
        refine ev_loc f_X12_orNone (nx := 15) rfl rfl rfl rfl ?_
        refine ev_loc f_X12_orNone (nx := 16) rfl rfl rfl rfl ?_
        refine ev_inV2 f_X12_orNone (nx := 19) (lo2 := [(0, .ref 69), (1, .int w17)]) rfl rfl rfl rfl f_X12_gives (hI.wf.s rfl) rfl rfl rfl rfl rfl ?_
        refine ev_loc f_X12_gives (nx := 1) rfl rfl rfl rfl ?_
        refine ev_ic f_X12_gives (nx := 2) (v := 0) rfl (by decide) rfl ?_
        refine ev_putIT f_X12_gives (nx := 5) rfl (hI.wf.s rfl) rfl rfl rfl (hI.put0 (hI.wf.s rfl) rfl rfl) (hX.upI rfl) (fun g24 e24 hI hX => ?_)
        refine ev_loc f_X12_gives (nx := 6) rfl rfl rfl rfl ?_
        refine ev_retK1 f_X12_gives rfl rfl rfl ?_
        refine ev_retK1 f_X12_orNone rfl rfl rfl ?_
        exact ev_ret f_X12_without rfl rfl rfl ⟨_, _, _, rfl, hI, hX, ⟨_, rfl, l17, u17, (show (¬ (0 ≤ ar1.toInt ∧ ar1.toInt < (gi 70 2).toInt) → (g24 69 2).toInt = 1) ∧ ((0 ≤ ar1.toInt ∧ ar1.toInt < (gi 70 2).toInt) → (w17.toInt = -1 → (g24 69 2).toInt = 6) ∧ (w17.toInt ≠ -1 → (g24 69 2).toInt = 0)) from ⟨fun h => (by have ffs : (g24 69 2).toInt = 0 := (congrArg Int32.toInt (by rw [e24]; exact x_up2_at _ _ _ _ : g24 69 2 = 0)).trans (by decide); omega), fun h => ⟨fun h2 => (by have ffs : (g24 69 2).toInt = 0 := (congrArg Int32.toInt (by rw [e24]; exact x_up2_at _ _ _ _ : g24 69 2 = 0)).trans (by decide); omega), fun h2 => (by have ffs : (g24 69 2).toInt = 0 := (congrArg Int32.toInt (by rw [e24]; exact x_up2_at _ _ _ _ : g24 69 2 = 0)).trans (by decide); omega)⟩⟩)⟩⟩
noncomputable def wl_g_plan : List (Nat × Nat) := [(69, 2), (69, 44), (69, 45), (69, 48), (69, 55), (69, 56), (69, 57), (89, 10005), (89, 610011), (90, 9999), (91, 9999), (92, 9999), (93, 9999), (94, 9999), (95, 9999), (96, 9999), (97, 9999), (98, 9999)]
noncomputable def Q_g_plan (gi : Nat → Nat → Int32) (gl : Nat → Nat → Int64) (gr : Nat → Nat → Value) : Int32 → (Nat → Nat → Int32) → (Nat → Nat → Int64) → (Nat → Nat → Value) → Prop := fun (v : Int32) (gi2 : Nat → Nat → Int32) (gl2 : Nat → Nat → Int64) (gr2 : Nat → Nat → Value) => (v.toInt = -1 → (gi2 69 2).toInt = 6) ∧ (v.toInt ≠ -1 → (gi2 69 2).toInt = 0)
theorem c_g_plan {X : x_Ext} {d : Nat} {sh : List (Nat ⊕ (Nat × Nat))} {gi : Nat → Nat → Int32} {gl : Nat → Nat → Int64} {gr : Nat → Nat → Value} (hI : t_I sh gi gr) (e_p0 : 1 ≤ (gi 70 4).toInt) : x_Me X (d + 7) n_X12_plan [.ref 69] (sh, gi, gl, gr) (t_PI wl_g_plan sh gi gl gr (-1) 100 (Q_g_plan gi gl gr)) := by
  have hX : t_X wl_g_plan sh gi gl gr gi gl gr := t_X.rf
  refine me_i f_X12_plan (hI.wf.s rfl) rfl rfl rfl ?_
  obtain ⟨l2, u2⟩ := hI.ab (by decide +kernel : t_abr 70 4 4 0 20 = true) (Nat.le_refl _) (Nat.le_refl _)
  refine ev_loc f_X12_plan (nx := 1) rfl rfl rfl rfl ?_
  refine ev_qI f_X12_plan (nx := 4) (r := []) rfl rfl rfl rfl rfl rfl rfl (c_m_plans hI  (by omega)) rfl hX rfl (fun w3 gi3 gl3 gr3 l3 u3 hI hX hC3 q3 => ?_)
  have q3 : (w3.toInt = 1 → t_wh (gi3 69 55).toInt (gi3 93) (gi3 95)) := q3
  refine ev_if f_X12_plan (t1 := 7) (t2 := 14) rfl rfl rfl (fun h4 => ?_) (fun h4 => ?_)
  · have u5 : w3.toInt ≤ 0 := t_equ h4 (by decide : (0:Int32).toInt ≤ (0:Int))
    refine ev_loc f_X12_plan (nx := 8) rfl rfl rfl rfl ?_
    refine ev_bp f_X12_plan (nx := 10) (v := 6) rfl (by decide) rfl ?_
    refine ev_inV2 f_X12_plan (nx := 13) (lo2 := [(0, .ref 69), (1, .int 6)]) rfl rfl rfl rfl f_X12_refuse (hI.wf.s rfl) rfl rfl rfl rfl rfl ?_
    refine ev_loc f_X12_refuse (nx := 1) rfl rfl rfl rfl ?_
    refine ev_loc f_X12_refuse (nx := 2) rfl rfl rfl rfl ?_
    refine ev_putIT f_X12_refuse (nx := 5) rfl (hI.wf.s rfl) rfl rfl rfl (hI.put0 (hI.wf.s rfl) rfl rfl) (hX.upI rfl) (fun g6 e6 hI hX => ?_)
    refine ev_ic f_X12_refuse (nx := 6) (v := -1) rfl (by decide) rfl ?_
    refine ev_retK1 f_X12_refuse rfl rfl rfl ?_
    exact ev_ret f_X12_plan rfl rfl rfl ⟨_, _, _, rfl, hI, hX, ⟨_, rfl, (by decide : ((-1):Int) ≤ ((-1):Int32).toInt), (Int.le_trans (by decide : ((-1):Int32).toInt ≤ ((-1):Int)) (by decide : ((-1):Int) ≤ 100)), (show (((-1) : Int) = -1 → (g6 69 2).toInt = 6) ∧ (((-1) : Int) ≠ -1 → (g6 69 2).toInt = 0) from ⟨fun h => (by have ffs : (g6 69 2).toInt = 6 := (congrArg Int32.toInt (by rw [e6]; exact x_up2_at _ _ _ _ : g6 69 2 = 6)).trans (by decide); omega), fun h => (by have ffs : (g6 69 2).toInt = 6 := (congrArg Int32.toInt (by rw [e6]; exact x_up2_at _ _ _ _ : g6 69 2 = 6)).trans (by decide); omega)⟩)⟩⟩
  · have r7 : w3.toInt ≠ 0 := fun e => h4 (Int32.toInt_inj.mp (e.trans (by decide : (0:Int) = (0 : Int32).toInt)))
    have l8 : 1 ≤ w3.toInt := t_nel h4 l3 rfl rfl
    refine ev_ic f_X12_plan (nx := 15) (v := 0) rfl (by decide) rfl ?_
    refine ev_loc f_X12_plan (nx := 16) (lo' := [(1, .int 0), (0, .ref 69)]) rfl rfl rfl rfl ?_
    have L9 : ∀ (m9 : Nat) (gi9 : Nat → Nat → Int32) (gl9 : Nat → Nat → Int64) (gr9 : Nat → Nat → Value) (y9_1 : Int32), t_I sh gi9 gr9 → t_X wl_g_plan sh gi gl gr gi9 gl9 gr9 → 0 ≤ y9_1.toInt → y9_1.toInt ≤ 119 → gi9 69 2 = (gi 69 2) → gi9 70 4 = (gi 70 4) → (119 - y9_1.toInt).toNat = m9 → x_Ev X (d + 7) n_X12_plan 16 [(1, .int y9_1), (0, .ref 69)] [] (sh, gi9, gl9, gr9) (t_PI wl_g_plan sh gi gl gr (-1) 100 (Q_g_plan gi gl gr)) := by
      intro m9
      induction m9 using Nat.strongRecOn with
      | _ m9 ih9 =>
      intro gi9 gl9 gr9 y9_1 hI hX l9_1 u9_1 c9_0 c9_1 hm9
      refine ev_loc f_X12_plan (nx := 17) rfl rfl rfl rfl ?_
      refine ev_loc f_X12_plan (nx := 18) rfl rfl rfl rfl ?_
      refine ev_getI f_X12_plan (nx := 21) rfl (hI.wf.s rfl) rfl rfl rfl ?_
      obtain ⟨l10, u10⟩ := hI.b (hI.wf.s (k := 69) rfl) (t_bdK rfl : t_bd 11 55 = some (0, 100))
      refine ev_if f_X12_plan (t1 := 66) (t2 := 24) rfl rfl rfl (fun h11 => ?_) (fun h11 => ?_)
      · have r12 : (gi9 69 55).toInt ≤ y9_1.toInt := Int32.le_iff_toInt_le.mp h11
        refine ev_loc f_X12_plan (nx := 67) rfl rfl rfl rfl ?_
        refine ev_loc f_X12_plan (nx := 68) rfl rfl rfl rfl ?_
        refine ev_gvI f_X12_plan (nx := 71) (w := (gi9 69 55)) rfl (hI.wf.s rfl) rfl rfl rfl rfl ?_
        refine ev_putIT f_X12_plan (nx := 74) rfl (hI.wf.s rfl) rfl rfl rfl (hI.putB (hI.wf.s rfl) rfl rfl l10 (by decide) u10 (by decide)) (hX.upI rfl) (fun g13 e13 hI hX => ?_)
        refine ev_loc f_X12_plan (nx := 75) rfl rfl rfl rfl ?_
        refine ev_loc f_X12_plan (nx := 76) rfl rfl rfl rfl ?_
        refine ev_gvI f_X12_plan (nx := 79) (w := (gi9 69 55)) rfl (hI.wf.s rfl) rfl rfl ((by rw [e13]; exact x_up2_off (Or.inr (by decide)) : g13 69 55 = gi9 69 55).trans rfl) rfl ?_
        refine ev_inV2 f_X12_plan (nx := 82) (lo2 := [(0, .ref 69), (1, .int (gi9 69 55))]) rfl rfl rfl rfl f_X12_gives (hI.wf.s rfl) rfl rfl rfl rfl rfl ?_
        refine ev_loc f_X12_gives (nx := 1) rfl rfl rfl rfl ?_
        refine ev_ic f_X12_gives (nx := 2) (v := 0) rfl (by decide) rfl ?_
        refine ev_putIT f_X12_gives (nx := 5) rfl (hI.wf.s rfl) rfl rfl rfl (hI.put0 (hI.wf.s rfl) rfl rfl) (hX.upI rfl) (fun g14 e14 hI hX => ?_)
        refine ev_loc f_X12_gives (nx := 6) rfl rfl rfl rfl ?_
        refine ev_retK1 f_X12_gives rfl rfl rfl ?_
        exact ev_ret f_X12_plan rfl rfl rfl ⟨_, _, _, rfl, hI, hX, ⟨_, rfl, (Int.le_trans (by decide : ((-1):Int) ≤ 0) l10), u10, (show ((gi9 69 55).toInt = -1 → (g14 69 2).toInt = 6) ∧ ((gi9 69 55).toInt ≠ -1 → (g14 69 2).toInt = 0) from ⟨fun h => (by have ffs : (g14 69 2).toInt = 0 := (congrArg Int32.toInt (by rw [e14]; exact x_up2_at _ _ _ _ : g14 69 2 = 0)).trans (by decide); omega), fun h => (by have ffs : (g14 69 2).toInt = 0 := (congrArg Int32.toInt (by rw [e14]; exact x_up2_at _ _ _ _ : g14 69 2 = 0)).trans (by decide); omega)⟩)⟩⟩
      · have r15 : y9_1.toInt < (gi9 69 55).toInt := Int32.lt_iff_toInt_lt.mp (t_nle h11)
        have u16 : y9_1.toInt ≤ 99 := t_ltu (t_nle h11) u10 rfl
        have l17 : 1 ≤ (gi9 69 55).toInt := t_ltl (t_nle h11) l9_1 rfl
        refine ev_loc f_X12_plan (nx := 25) rfl rfl rfl rfl ?_
        refine ev_getR f_X12_plan (nx := 28) rfl (hI.wf.s rfl) rfl rfl (hI.wf.r rfl) rfl rfl ?_
        refine ev_loc f_X12_plan (nx := 29) rfl rfl rfl rfl ?_
        refine ev_loc f_X12_plan (nx := 30) rfl rfl rfl rfl ?_
        refine ev_getR f_X12_plan (nx := 33) rfl (hI.wf.s rfl) rfl rfl (hI.wf.r rfl) rfl rfl ?_
        refine ev_loc f_X12_plan (nx := 34) rfl rfl rfl rfl ?_
        refine ev_ialdT f_X12_plan (nx := 35) rfl (hI.wf.s rfl) l9_1 (by decide) u16 (by decide) rfl (fun w18 e18 => ?_)
        obtain ⟨l18, u18⟩ := hI.abi e18 (by decide +kernel : t_abr 93 0 99 0 2 = true) l9_1 (by decide) u16 (by decide)
        refine ev_iastT f_X12_plan (nx := 36) rfl (hI.wf.s rfl) l9_1 (by decide) u16 (by decide) rfl (hI.astG (hI.wf.s rfl) (fun lo hi e => absurd e (t_nob (by decide +kernel) _)) (fun k hk e => by have := hk.2.1; omega)) (hX.upI (t_inA_ok rfl)) (fun g19 e19 hI hX => ?_)
        refine ev_loc f_X12_plan (nx := 37) rfl rfl rfl rfl ?_
        refine ev_getR f_X12_plan (nx := 40) rfl (hI.wf.s rfl) rfl rfl (hI.wf.r rfl) rfl rfl ?_
        refine ev_loc f_X12_plan (nx := 41) rfl rfl rfl rfl ?_
        refine ev_loc f_X12_plan (nx := 42) rfl rfl rfl rfl ?_
        refine ev_getR f_X12_plan (nx := 45) rfl (hI.wf.s rfl) rfl rfl (hI.wf.r rfl) rfl rfl ?_
        refine ev_loc f_X12_plan (nx := 46) rfl rfl rfl rfl ?_
        refine ev_ialdT f_X12_plan (nx := 47) rfl (hI.wf.s rfl) l9_1 (by decide) u16 (by decide) rfl (fun w20 e20 => ?_)
        refine ev_iastT f_X12_plan (nx := 48) rfl (hI.wf.s rfl) l9_1 (by decide) u16 (by decide) rfl (hI.astG (hI.wf.s rfl) (fun lo hi e => absurd e (t_nob (by decide +kernel) _)) (fun k hk e => by have := hk.2.1; omega)) (hX.upI (t_inA_ok rfl)) (fun g21 e21 hI hX => ?_)
        refine ev_loc f_X12_plan (nx := 49) rfl rfl rfl rfl ?_
        refine ev_getR f_X12_plan (nx := 52) rfl (hI.wf.s rfl) rfl rfl (hI.wf.r rfl) rfl rfl ?_
        refine ev_loc f_X12_plan (nx := 53) rfl rfl rfl rfl ?_
        refine ev_loc f_X12_plan (nx := 54) rfl rfl rfl rfl ?_
        refine ev_getR f_X12_plan (nx := 57) rfl (hI.wf.s rfl) rfl rfl (hI.wf.r rfl) rfl rfl ?_
        refine ev_loc f_X12_plan (nx := 58) rfl rfl rfl rfl ?_
        refine ev_ialdT f_X12_plan (nx := 59) rfl (hI.wf.s rfl) l9_1 (by decide) u16 (by decide) rfl (fun w22 e22 => ?_)
        obtain ⟨l22, u22⟩ := hI.abi e22 (by decide +kernel : t_abr 95 0 99 (-1) 5 = true) l9_1 (by decide) u16 (by decide)
        refine ev_iastT f_X12_plan (nx := 60) rfl (hI.wf.s rfl) l9_1 (by decide) u16 (by decide) rfl (hI.astG (hI.wf.s rfl) (fun lo hi e => absurd e (t_nob (by decide +kernel) _)) (fun k hk e => by have := hk.2.1; omega)) (hX.upI (t_inA_ok rfl)) (fun g23 e23 hI hX => ?_)
        refine ev_incR f_X12_plan (nx := 63) (c := 1) (l := 1) (u := 100) rfl rfl (by decide) (by decide) l9_1 u16 rfl rfl (by decide) (by decide) rfl (fun z24 e24 l24 u24 => ?_)
        refine ev_jmp f_X12_plan (nx := 16) rfl rfl rfl ?_
        refine ev_sub (lo := [(1, .int z24), (0, .ref 69)]) rfl (t_sc rfl (t_sc rfl t_sn)) ?_
        exact ih9 _ (by omega) g23 gl9 gr9 (z24) hI hX  (Int.le_trans (by decide : (0:Int) ≤ 1) l24) (Int.le_trans u24 (by decide : (100:Int) ≤ 119)) ((by rw [e23]; exact x_up2_off (Or.inl (by decide)) : g23 69 2 = g21 69 2).trans ((by rw [e21]; exact x_up2_off (Or.inl (by decide)) : g21 69 2 = g19 69 2).trans ((by rw [e19]; exact x_up2_off (Or.inl (by decide)) : g19 69 2 = gi9 69 2).trans c9_0))) ((by rw [e23]; exact x_up2_off (Or.inl (by decide)) : g23 70 4 = g21 70 4).trans ((by rw [e21]; exact x_up2_off (Or.inl (by decide)) : g21 70 4 = g19 70 4).trans ((by rw [e19]; exact x_up2_off (Or.inl (by decide)) : g19 70 4 = gi9 70 4).trans c9_1))) rfl
    refine ev_sub (lo := [(1, .int 0), (0, .ref 69)]) rfl (t_sc rfl (t_sc rfl t_sn)) ?_
    exact L9 _ gi3 gl3 gr3 (0) hI hX  (by decide : (0:Int) ≤ (0:Int32).toInt) (Int.le_trans (by decide : (0:Int32).toInt ≤ (0:Int)) (by decide : (0:Int) ≤ 119)) ((hC3.1 69 2 rfl).1.trans rfl) ((hC3.1 70 4 rfl).1.trans rfl) rfl
/-! ===== printed by riv.py: STATUS, the other side ===== -/
noncomputable def wl_g_dearest : List (Nat × Nat) := [(69, 2), (69, 44), (69, 45), (69, 48), (69, 55), (69, 57), (89, 10005), (89, 610011), (90, 9999), (91, 9999), (92, 9999), (93, 9999), (94, 9999), (95, 9999)]
noncomputable def Q_g_dearest (gi : Nat → Nat → Int32) (gl : Nat → Nat → Int64) (gr : Nat → Nat → Value) : Int32 → (Nat → Nat → Int32) → (Nat → Nat → Int64) → (Nat → Nat → Value) → Prop := fun (v : Int32) (gi2 : Nat → Nat → Int32) (gl2 : Nat → Nat → Int64) (gr2 : Nat → Nat → Value) => (v.toInt = -1 → (gi2 69 2).toInt = 6) ∧ (v.toInt ≠ -1 → (gi2 69 2).toInt = 0)
theorem c_g_dearest {X : x_Ext} {d : Nat} {sh : List (Nat ⊕ (Nat × Nat))} {gi : Nat → Nat → Int32} {gl : Nat → Nat → Int64} {gr : Nat → Nat → Value} (hI : t_I sh gi gr) (e_p0 : 1 ≤ (gi 70 4).toInt) : x_Me X (d + 7) n_X12_dearest [.ref 69] (sh, gi, gl, gr) (t_PI wl_g_dearest sh gi gl gr (-1) 12 (Q_g_dearest gi gl gr)) := by
  have hX : t_X wl_g_dearest sh gi gl gr gi gl gr := t_X.rf
  refine me_i f_X12_dearest (hI.wf.s rfl) rfl rfl rfl ?_
  obtain ⟨l2, u2⟩ := hI.b (hI.wf.s (k := 69) rfl) (t_bdK rfl : t_bd 11 55 = some (0, 100))
  obtain ⟨l3, u3⟩ := hI.ab (by decide +kernel : t_abr 70 4 4 0 20 = true) (Nat.le_refl _) (Nat.le_refl _)
  refine ev_loc f_X12_dearest (nx := 1) rfl rfl rfl rfl ?_
  refine ev_qI f_X12_dearest (nx := 4) (r := []) rfl rfl rfl rfl rfl rfl rfl (c_m_plans hI  (by omega)) rfl hX rfl (fun w4 gi4 gl4 gr4 l4 u4 hI hX hC4 q4 => ?_)
  have q4 : (w4.toInt = 1 → t_wh (gi4 69 55).toInt (gi4 93) (gi4 95)) := q4
  obtain ⟨l5, u5⟩ := hI.b (hI.wf.s (k := 69) rfl) (t_bdK rfl : t_bd 11 55 = some (0, 100))
  refine ev_if f_X12_dearest (t1 := 7) (t2 := 14) rfl rfl rfl (fun h6 => ?_) (fun h6 => ?_)
  · have u7 : w4.toInt ≤ 0 := t_equ h6 (by decide : (0:Int32).toInt ≤ (0:Int))
    refine ev_loc f_X12_dearest (nx := 8) rfl rfl rfl rfl ?_
    refine ev_bp f_X12_dearest (nx := 10) (v := 6) rfl (by decide) rfl ?_
    refine ev_inV2 f_X12_dearest (nx := 13) (lo2 := [(0, .ref 69), (1, .int 6)]) rfl rfl rfl rfl f_X12_refuse (hI.wf.s rfl) rfl rfl rfl rfl rfl ?_
    refine ev_loc f_X12_refuse (nx := 1) rfl rfl rfl rfl ?_
    refine ev_loc f_X12_refuse (nx := 2) rfl rfl rfl rfl ?_
    refine ev_putIT f_X12_refuse (nx := 5) rfl (hI.wf.s rfl) rfl rfl rfl (hI.put0 (hI.wf.s rfl) rfl rfl) (hX.upI rfl) (fun g8 e8 hI hX => ?_)
    refine ev_ic f_X12_refuse (nx := 6) (v := -1) rfl (by decide) rfl ?_
    refine ev_retK1 f_X12_refuse rfl rfl rfl ?_
    exact ev_ret f_X12_dearest rfl rfl rfl ⟨_, _, _, rfl, hI, hX, ⟨_, rfl, (by decide : ((-1):Int) ≤ ((-1):Int32).toInt), (Int.le_trans (by decide : ((-1):Int32).toInt ≤ ((-1):Int)) (by decide : ((-1):Int) ≤ 12)), (show (((-1) : Int) = -1 → (g8 69 2).toInt = 6) ∧ (((-1) : Int) ≠ -1 → (g8 69 2).toInt = 0) from ⟨fun h => (by have ffs : (g8 69 2).toInt = 6 := (congrArg Int32.toInt (by rw [e8]; exact x_up2_at _ _ _ _ : g8 69 2 = 6)).trans (by decide); omega), fun h => (by have ffs : (g8 69 2).toInt = 6 := (congrArg Int32.toInt (by rw [e8]; exact x_up2_at _ _ _ _ : g8 69 2 = 6)).trans (by decide); omega)⟩)⟩⟩
  · have r9 : w4.toInt ≠ 0 := fun e => h6 (Int32.toInt_inj.mp (e.trans (by decide : (0:Int) = (0 : Int32).toInt)))
    have l10 : 1 ≤ w4.toInt := t_nel h6 l4 rfl rfl
    refine ev_ic f_X12_dearest (nx := 15) (v := -1) rfl (by decide) rfl ?_
    refine ev_loc f_X12_dearest (nx := 16) (lo' := [(1, .int (-1)), (0, .ref 69)]) rfl rfl rfl rfl ?_
    refine ev_ic f_X12_dearest (nx := 17) (v := 0) rfl (by decide) rfl ?_
    refine ev_loc f_X12_dearest (nx := 18) (lo' := [(2, .int 0), (1, .int (-1)), (0, .ref 69)]) rfl rfl rfl rfl ?_
    refine ev_ic f_X12_dearest (nx := 19) (v := 0) rfl (by decide) rfl ?_
    refine ev_loc f_X12_dearest (nx := 20) (lo' := [(3, .int 0), (2, .int 0), (1, .int (-1)), (0, .ref 69)]) rfl rfl rfl rfl ?_
    have L11 : ∀ (m11 : Nat) (gi11 : Nat → Nat → Int32) (gl11 : Nat → Nat → Int64) (gr11 : Nat → Nat → Value) (y11_3 : Int32) (y11_2 : Int32) (y11_1 : Int32), t_I sh gi11 gr11 → t_X wl_g_dearest sh gi gl gr gi11 gl11 gr11 → 0 ≤ y11_3.toInt → y11_3.toInt ≤ 119 → 0 ≤ y11_2.toInt → (-1) ≤ y11_1.toInt → y11_1.toInt ≤ 12 → gi11 69 2 = (gi 69 2) → gi11 69 55 = (gi4 69 55) → gi11 70 4 = (gi 70 4) → t_wh (gi11 69 55).toInt (gi11 93) (gi11 95) → (119 - y11_3.toInt).toNat = m11 → x_Ev X (d + 7) n_X12_dearest 20 [(3, .int y11_3), (2, .int y11_2), (1, .int y11_1), (0, .ref 69)] [] (sh, gi11, gl11, gr11) (t_PI wl_g_dearest sh gi gl gr (-1) 12 (Q_g_dearest gi gl gr)) := by
      intro m11
      induction m11 using Nat.strongRecOn with
      | _ m11 ih11 =>
      intro gi11 gl11 gr11 y11_3 y11_2 y11_1 hI hX l11_3 u11_3 l11_2 l11_1 u11_1 c11_0 c11_1 c11_2 j11_0 hm11
      refine ev_loc f_X12_dearest (nx := 21) rfl rfl rfl rfl ?_
      refine ev_loc f_X12_dearest (nx := 22) rfl rfl rfl rfl ?_
      refine ev_gvI f_X12_dearest (nx := 25) (w := (gi4 69 55)) rfl (hI.wf.s rfl) rfl rfl c11_1 rfl ?_
      refine ev_if f_X12_dearest (t1 := 128) (t2 := 28) rfl rfl rfl (fun h12 => ?_) (fun h12 => ?_)
      · have r13 : (gi4 69 55).toInt ≤ y11_3.toInt := Int32.le_iff_toInt_le.mp h12
        refine ev_loc f_X12_dearest (nx := 129) rfl rfl rfl rfl ?_
        refine ev_loc f_X12_dearest (nx := 130) rfl rfl rfl rfl ?_
        refine ev_inV2 f_X12_dearest (nx := 133) (lo2 := [(0, .ref 69), (1, .int y11_1)]) rfl rfl rfl rfl f_X12_orNone (hI.wf.s rfl) rfl rfl rfl rfl rfl ?_
        refine ev_loc f_X12_orNone (nx := 1) rfl rfl rfl rfl ?_
        refine ev_ic f_X12_orNone (nx := 2) (v := -1) rfl (by decide) rfl ?_
        refine ev_if f_X12_orNone (t1 := 5) (t2 := 14) rfl rfl rfl (fun h14 => ?_) (fun h14 => ?_)
        · have u15 : y11_1.toInt ≤ (-1) := t_equ h14 (by decide : ((-1):Int32).toInt ≤ ((-1):Int))
          refine ev_loc f_X12_orNone (nx := 6) rfl rfl rfl rfl ?_
          refine ev_bp f_X12_orNone (nx := 8) (v := 6) rfl (by decide) rfl ?_
          refine ev_inV2 f_X12_orNone (nx := 11) (lo2 := [(0, .ref 69), (1, .int 6)]) rfl rfl rfl rfl f_X12_refuse (hI.wf.s rfl) rfl rfl rfl rfl rfl ?_
          refine ev_loc f_X12_refuse (nx := 1) rfl rfl rfl rfl ?_
          refine ev_loc f_X12_refuse (nx := 2) rfl rfl rfl rfl ?_
          refine ev_putIT f_X12_refuse (nx := 5) rfl (hI.wf.s rfl) rfl rfl rfl (hI.put0 (hI.wf.s rfl) rfl rfl) (hX.upI rfl) (fun g16 e16 hI hX => ?_)
          refine ev_ic f_X12_refuse (nx := 6) (v := -1) rfl (by decide) rfl ?_
          refine ev_retK1 f_X12_refuse rfl rfl rfl ?_
          refine ev_jmp f_X12_orNone (nx := 19) rfl rfl rfl ?_
          refine ev_retK1 f_X12_orNone rfl rfl rfl ?_
          exact ev_ret f_X12_dearest rfl rfl rfl ⟨_, _, _, rfl, hI, hX, ⟨_, rfl, (by decide : ((-1):Int) ≤ ((-1):Int32).toInt), (Int.le_trans (by decide : ((-1):Int32).toInt ≤ ((-1):Int)) (by decide : ((-1):Int) ≤ 12)), (show (((-1) : Int) = -1 → (g16 69 2).toInt = 6) ∧ (((-1) : Int) ≠ -1 → (g16 69 2).toInt = 0) from ⟨fun h => (by have ffs : (g16 69 2).toInt = 6 := (congrArg Int32.toInt (by rw [e16]; exact x_up2_at _ _ _ _ : g16 69 2 = 6)).trans (by decide); omega), fun h => (by have ffs : (g16 69 2).toInt = 6 := (congrArg Int32.toInt (by rw [e16]; exact x_up2_at _ _ _ _ : g16 69 2 = 6)).trans (by decide); omega)⟩)⟩⟩
        · have r17 : y11_1.toInt ≠ (-1) := fun e => h14 (Int32.toInt_inj.mp (e.trans (by decide : ((-1):Int) = ((-1) : Int32).toInt)))
          have l18 : 0 ≤ y11_1.toInt := t_nel h14 l11_1 rfl rfl
          refine ev_loc f_X12_orNone (nx := 15) rfl rfl rfl rfl ?_
          refine ev_loc f_X12_orNone (nx := 16) rfl rfl rfl rfl ?_
          refine ev_inV2 f_X12_orNone (nx := 19) (lo2 := [(0, .ref 69), (1, .int y11_1)]) rfl rfl rfl rfl f_X12_gives (hI.wf.s rfl) rfl rfl rfl rfl rfl ?_
          refine ev_loc f_X12_gives (nx := 1) rfl rfl rfl rfl ?_
          refine ev_ic f_X12_gives (nx := 2) (v := 0) rfl (by decide) rfl ?_
          refine ev_putIT f_X12_gives (nx := 5) rfl (hI.wf.s rfl) rfl rfl rfl (hI.put0 (hI.wf.s rfl) rfl rfl) (hX.upI rfl) (fun g19 e19 hI hX => ?_)
          refine ev_loc f_X12_gives (nx := 6) rfl rfl rfl rfl ?_
          refine ev_retK1 f_X12_gives rfl rfl rfl ?_
          refine ev_retK1 f_X12_orNone rfl rfl rfl ?_
          exact ev_ret f_X12_dearest rfl rfl rfl ⟨_, _, _, rfl, hI, hX, ⟨_, rfl, (Int.le_trans (by decide : ((-1):Int) ≤ 0) l18), u11_1, (show (y11_1.toInt = -1 → (g19 69 2).toInt = 6) ∧ (y11_1.toInt ≠ -1 → (g19 69 2).toInt = 0) from ⟨fun h => (by have ffs : (g19 69 2).toInt = 0 := (congrArg Int32.toInt (by rw [e19]; exact x_up2_at _ _ _ _ : g19 69 2 = 0)).trans (by decide); omega), fun h => (by have ffs : (g19 69 2).toInt = 0 := (congrArg Int32.toInt (by rw [e19]; exact x_up2_at _ _ _ _ : g19 69 2 = 0)).trans (by decide); omega)⟩)⟩⟩
      · have r20 : y11_3.toInt < (gi4 69 55).toInt := Int32.lt_iff_toInt_lt.mp (t_nle h12)
        have u21 : y11_3.toInt ≤ 99 := t_ltu (t_nle h12) u5 rfl
        have l22 : 1 ≤ (gi4 69 55).toInt := t_ltl (t_nle h12) l11_3 rfl
        refine ev_loc f_X12_dearest (nx := 29) rfl rfl rfl rfl ?_
        refine ev_getR f_X12_dearest (nx := 32) rfl (hI.wf.s rfl) rfl rfl (hI.wf.r rfl) rfl rfl ?_
        refine ev_loc f_X12_dearest (nx := 33) rfl rfl rfl rfl ?_
        refine ev_ialdT f_X12_dearest (nx := 34) rfl (hI.wf.s rfl) l11_3 (by decide) u21 (by decide) rfl (fun w23 e23 => ?_)
        obtain ⟨l23, u23⟩ := hI.abi e23 (by decide +kernel : t_abr 93 0 99 0 2 = true) l11_3 (by decide) u21 (by decide)
        refine ev_ic f_X12_dearest (nx := 35) (v := 2) rfl (by decide) rfl ?_
        refine ev_if f_X12_dearest (t1 := 38) (t2 := 41) rfl rfl rfl (fun h24 => ?_) (fun h24 => ?_)
        · have l25 : 2 ≤ w23.toInt := t_eql h24 (by decide : (2:Int) ≤ (2:Int32).toInt)
          refine ev_jmp f_X12_dearest (nx := 122) rfl rfl rfl ?_
          refine ev_incR f_X12_dearest (nx := 125) (c := 1) (l := 1) (u := 100) rfl rfl (by decide) (by decide) l11_3 u21 rfl rfl (by decide) (by decide) rfl (fun z26 e26 l26 u26 => ?_)
          refine ev_jmp f_X12_dearest (nx := 20) rfl rfl rfl ?_
          refine ev_sub (lo := [(3, .int z26), (2, .int y11_2), (1, .int y11_1), (0, .ref 69)]) rfl (t_sc rfl (t_sc rfl (t_sc rfl (t_sc rfl t_sn)))) ?_
          exact ih11 _ (by omega) gi11 gl11 gr11 (z26) (y11_2) (y11_1) hI hX  (Int.le_trans (by decide : (0:Int) ≤ 1) l26) (Int.le_trans u26 (by decide : (100:Int) ≤ 119)) l11_2 l11_1 u11_1 c11_0 c11_1 c11_2 j11_0 rfl
        · have r27 : w23.toInt ≠ 2 := fun e => h24 (Int32.toInt_inj.mp (e.trans (by decide : (2:Int) = (2 : Int32).toInt)))
          have u28 : w23.toInt ≤ 1 := t_neu h24 u23 rfl rfl
          refine ev_loc f_X12_dearest (nx := 42) rfl rfl rfl rfl ?_
          refine ev_getR f_X12_dearest (nx := 45) rfl (hI.wf.s rfl) rfl rfl (hI.wf.r rfl) rfl rfl ?_
          refine ev_loc f_X12_dearest (nx := 46) rfl rfl rfl rfl ?_
          refine ev_ialdT f_X12_dearest (nx := 47) rfl (hI.wf.s rfl) l11_3 (by decide) u21 (by decide) rfl (fun w29 e29 => ?_)
          rw [e29.trans e23.symm]
          refine ev_if f_X12_dearest (t1 := 50) (t2 := 59) rfl rfl rfl (fun h30 => ?_) (fun h30 => ?_)
          · have u31 : w23.toInt ≤ 0 := t_equ h30 (by decide : (0:Int32).toInt ≤ (0:Int))
            refine ev_loc f_X12_dearest (nx := 51) rfl rfl rfl rfl ?_
            refine ev_getR f_X12_dearest (nx := 54) rfl (hI.wf.s rfl) rfl rfl (hI.wf.r rfl) rfl rfl ?_
            refine ev_loc f_X12_dearest (nx := 55) rfl rfl rfl rfl ?_
            refine ev_ialdT f_X12_dearest (nx := 56) rfl (hI.wf.s rfl) l11_3 (by decide) u21 (by decide) rfl (fun w32 e32 => ?_)
            obtain ⟨l32, u32⟩ := hI.abi e32 (by decide +kernel : t_abr 95 0 99 (-1) 5 = true) l11_3 (by decide) u21 (by decide)
            refine ev_jmp f_X12_dearest (nx := 68) rfl rfl rfl ?_
            refine ev_loc f_X12_dearest (nx := 70) (lo' := [(4, .int w32), (3, .int y11_3), (2, .int y11_2), (1, .int y11_1), (0, .ref 69)]) rfl rfl rfl rfl ?_
            refine ev_loc f_X12_dearest (nx := 71) rfl rfl rfl rfl ?_
            refine ev_getR f_X12_dearest (nx := 74) rfl (hI.wf.s rfl) rfl rfl (hI.wf.r rfl) rfl rfl ?_
            refine ev_loc f_X12_dearest (nx := 75) rfl rfl rfl rfl ?_
            refine ev_ialdT f_X12_dearest (nx := 76) rfl (hI.wf.s rfl) l11_3 (by decide) u21 (by decide) rfl (fun w33 e33 => ?_)
            refine ev_loc f_X12_dearest (nx := 77) rfl rfl rfl rfl ?_
            refine ev_loc f_X12_dearest (nx := 78) rfl rfl rfl rfl ?_
            refine ev_qI0 f_X12_dearest (nx := 81) (r := [.int w33]) rfl rfl rfl rfl rfl rfl rfl (c_m_cameBy hI (y11_3) l11_3 u21 (fun h => j11_0 y11_3.toNatClampNeg (by have hc := t_clamp (i := y11_3) (by omega); have ff35 : (gi11 69 55).toInt = (gi4 69 55).toInt := congrArg Int32.toInt c11_1; omega) h)) rfl (fun w34 l34 u34 q34 => ?_)
            have q34 : True := q34
            refine ev_anyI f_X12_dearest (nx := 82) rfl rfl rfl rfl (fun z36 => ?_)
            refine ev_loc f_X12_dearest (nx := 83) rfl rfl rfl rfl ?_
            refine ev_loc f_X12_dearest (nx := 84) rfl rfl rfl rfl ?_
            refine ev_qI0 f_X12_dearest (nx := 87) (r := [.int z36]) rfl rfl rfl rfl rfl rfl rfl (c_m_costsBy hI (y11_3) l11_3 u21) rfl (fun w37 l37 u37 q37 => ?_)
            have q37 : True := q37
            refine ev_anyI f_X12_dearest (nx := 88) rfl rfl rfl rfl (fun z38 => ?_)
            refine ev_loc f_X12_dearest (nx := 90) (lo' := [(5, .int z38), (4, .int w32), (3, .int y11_3), (2, .int y11_2), (1, .int y11_1), (0, .ref 69)]) rfl rfl rfl rfl ?_
            refine ev_loc f_X12_dearest (nx := 92) rfl rfl rfl rfl ?_
            refine ev_loc f_X12_dearest (nx := 93) rfl rfl rfl rfl ?_
            refine ev_if f_X12_dearest (t1 := 122) (t2 := 96) rfl rfl rfl (fun h39 => ?_) (fun h39 => ?_)
            · have r40 : z38.toInt < y11_2.toInt := Int32.lt_iff_toInt_lt.mp h39
              have u41 : z38.toInt ≤ 2147483646 := t_ltu h39 (t_hi y11_2) rfl
              refine ev_incR f_X12_dearest (nx := 125) (c := 1) (l := 1) (u := 100) rfl rfl (by decide) (by decide) l11_3 u21 rfl rfl (by decide) (by decide) rfl (fun z42 e42 l42 u42 => ?_)
              refine ev_jmp f_X12_dearest (nx := 20) rfl rfl rfl ?_
              refine ev_sub (lo := [(3, .int z42), (2, .int y11_2), (1, .int y11_1), (0, .ref 69)]) rfl (t_sc rfl (t_sc rfl (t_sc rfl (t_sc rfl t_sn)))) ?_
              exact ih11 _ (by omega) gi11 gl11 gr11 (z42) (y11_2) (y11_1) hI hX  (Int.le_trans (by decide : (0:Int) ≤ 1) l42) (Int.le_trans u42 (by decide : (100:Int) ≤ 119)) l11_2 l11_1 u11_1 c11_0 c11_1 c11_2 j11_0 rfl
            · have r43 : y11_2.toInt ≤ z38.toInt := Int32.le_iff_toInt_le.mp (t_nlt h39)
              have l44 : 0 ≤ z38.toInt := t_lel (t_nlt h39) l11_2
              refine ev_loc f_X12_dearest (nx := 98) rfl rfl rfl rfl ?_
              refine ev_if f_X12_dearest (t1 := 122) (t2 := 101) rfl rfl rfl (fun h45 => ?_) (fun h45 => ?_)
              · have u46 : z38.toInt ≤ 0 := t_equ h45 (by decide : (0:Int32).toInt ≤ (0:Int))
                refine ev_incR f_X12_dearest (nx := 125) (c := 1) (l := 1) (u := 100) rfl rfl (by decide) (by decide) l11_3 u21 rfl rfl (by decide) (by decide) rfl (fun z47 e47 l47 u47 => ?_)
                refine ev_jmp f_X12_dearest (nx := 20) rfl rfl rfl ?_
                refine ev_sub (lo := [(3, .int z47), (2, .int y11_2), (1, .int y11_1), (0, .ref 69)]) rfl (t_sc rfl (t_sc rfl (t_sc rfl (t_sc rfl t_sn)))) ?_
                exact ih11 _ (by omega) gi11 gl11 gr11 (z47) (y11_2) (y11_1) hI hX  (Int.le_trans (by decide : (0:Int) ≤ 1) l47) (Int.le_trans u47 (by decide : (100:Int) ≤ 119)) l11_2 l11_1 u11_1 c11_0 c11_1 c11_2 j11_0 rfl
              · have r48 : z38.toInt ≠ 0 := fun e => h45 (Int32.toInt_inj.mp (e.trans (by decide : (0:Int) = (0 : Int32).toInt)))
                have l49 : 1 ≤ z38.toInt := t_nel h45 l44 rfl rfl
                refine ev_loc f_X12_dearest (nx := 103) rfl rfl rfl rfl ?_
                refine ev_loc f_X12_dearest (nx := 104) rfl rfl rfl rfl ?_
                refine ev_if f_X12_dearest (t1 := 107) (t2 := 116) rfl rfl rfl (fun h50 => ?_) (fun h50 => ?_)
                · have r51 : z38.toInt = y11_2.toInt := t_eqi h50
                  have l52 : 1 ≤ y11_2.toInt := t_eql (Eq.symm h50) l49
                  refine ev_loc f_X12_dearest (nx := 109) rfl rfl rfl rfl ?_
                  refine ev_loc f_X12_dearest (nx := 110) rfl rfl rfl rfl ?_
                  refine ev_if f_X12_dearest (t1 := 116) (t2 := 113) rfl rfl rfl (fun h53 => ?_) (fun h53 => ?_)
                  · have r54 : w32.toInt ≤ y11_1.toInt := Int32.le_iff_toInt_le.mp h53
                    refine ev_loc f_X12_dearest (nx := 118) rfl rfl rfl rfl ?_
                    refine ev_loc f_X12_dearest (nx := 119) (lo' := [(2, .int z38), (5, .int z38), (4, .int w32), (3, .int y11_3), (1, .int y11_1), (0, .ref 69)]) rfl rfl rfl rfl ?_
                    refine ev_loc f_X12_dearest (nx := 121) rfl rfl rfl rfl ?_
                    refine ev_loc f_X12_dearest (nx := 122) (lo' := [(1, .int w32), (2, .int z38), (5, .int z38), (4, .int w32), (3, .int y11_3), (0, .ref 69)]) rfl rfl rfl rfl ?_
                    refine ev_incR f_X12_dearest (nx := 125) (c := 1) (l := 1) (u := 100) rfl rfl (by decide) (by decide) l11_3 u21 rfl rfl (by decide) (by decide) rfl (fun z55 e55 l55 u55 => ?_)
                    refine ev_jmp f_X12_dearest (nx := 20) rfl rfl rfl ?_
                    refine ev_sub (lo := [(3, .int z55), (2, .int z38), (1, .int w32), (0, .ref 69)]) rfl (t_sc rfl (t_sc rfl (t_sc rfl (t_sc rfl t_sn)))) ?_
                    exact ih11 _ (by omega) gi11 gl11 gr11 (z55) (z38) (w32) hI hX  (Int.le_trans (by decide : (0:Int) ≤ 1) l55) (Int.le_trans u55 (by decide : (100:Int) ≤ 119)) (Int.le_trans (by decide : (0:Int) ≤ 1) l49) l32 (Int.le_trans u32 (by decide : (5:Int) ≤ 12)) c11_0 c11_1 c11_2 j11_0 rfl
                  · have r56 : y11_1.toInt < w32.toInt := Int32.lt_iff_toInt_lt.mp (t_nle h53)
                    have u57 : y11_1.toInt ≤ 4 := t_ltu (t_nle h53) u32 rfl
                    have l58 : 0 ≤ w32.toInt := t_ltl (t_nle h53) l11_1 rfl
                    refine ev_jmp f_X12_dearest (nx := 122) rfl rfl rfl ?_
                    refine ev_incR f_X12_dearest (nx := 125) (c := 1) (l := 1) (u := 100) rfl rfl (by decide) (by decide) l11_3 u21 rfl rfl (by decide) (by decide) rfl (fun z59 e59 l59 u59 => ?_)
                    refine ev_jmp f_X12_dearest (nx := 20) rfl rfl rfl ?_
                    refine ev_sub (lo := [(3, .int z59), (2, .int y11_2), (1, .int y11_1), (0, .ref 69)]) rfl (t_sc rfl (t_sc rfl (t_sc rfl (t_sc rfl t_sn)))) ?_
                    exact ih11 _ (by omega) gi11 gl11 gr11 (z59) (y11_2) (y11_1) hI hX  (Int.le_trans (by decide : (0:Int) ≤ 1) l59) (Int.le_trans u59 (by decide : (100:Int) ≤ 119)) (Int.le_trans (by decide : (0:Int) ≤ 1) l52) l11_1 (Int.le_trans u57 (by decide : (4:Int) ≤ 12)) c11_0 c11_1 c11_2 j11_0 rfl
                · have r60 : z38.toInt ≠ y11_2.toInt := t_nei h50
                  refine ev_loc f_X12_dearest (nx := 118) rfl rfl rfl rfl ?_
                  refine ev_loc f_X12_dearest (nx := 119) (lo' := [(2, .int z38), (5, .int z38), (4, .int w32), (3, .int y11_3), (1, .int y11_1), (0, .ref 69)]) rfl rfl rfl rfl ?_
                  refine ev_loc f_X12_dearest (nx := 121) rfl rfl rfl rfl ?_
                  refine ev_loc f_X12_dearest (nx := 122) (lo' := [(1, .int w32), (2, .int z38), (5, .int z38), (4, .int w32), (3, .int y11_3), (0, .ref 69)]) rfl rfl rfl rfl ?_
                  refine ev_incR f_X12_dearest (nx := 125) (c := 1) (l := 1) (u := 100) rfl rfl (by decide) (by decide) l11_3 u21 rfl rfl (by decide) (by decide) rfl (fun z61 e61 l61 u61 => ?_)
                  refine ev_jmp f_X12_dearest (nx := 20) rfl rfl rfl ?_
                  refine ev_sub (lo := [(3, .int z61), (2, .int z38), (1, .int w32), (0, .ref 69)]) rfl (t_sc rfl (t_sc rfl (t_sc rfl (t_sc rfl t_sn)))) ?_
                  exact ih11 _ (by omega) gi11 gl11 gr11 (z61) (z38) (w32) hI hX  (Int.le_trans (by decide : (0:Int) ≤ 1) l61) (Int.le_trans u61 (by decide : (100:Int) ≤ 119)) (Int.le_trans (by decide : (0:Int) ≤ 1) l49) l32 (Int.le_trans u32 (by decide : (5:Int) ≤ 12)) c11_0 c11_1 c11_2 j11_0 rfl
          · have r62 : w23.toInt ≠ 0 := fun e => h30 (Int32.toInt_inj.mp (e.trans (by decide : (0:Int) = (0 : Int32).toInt)))
            have l63 : 1 ≤ w23.toInt := t_nel h30 l23 rfl rfl
            refine ev_bp f_X12_dearest (nx := 61) (v := 6) rfl (by decide) rfl ?_
            refine ev_loc f_X12_dearest (nx := 62) rfl rfl rfl rfl ?_
            refine ev_getR f_X12_dearest (nx := 65) rfl (hI.wf.s rfl) rfl rfl (hI.wf.r rfl) rfl rfl ?_
            refine ev_loc f_X12_dearest (nx := 66) rfl rfl rfl rfl ?_
            refine ev_ialdT f_X12_dearest (nx := 67) rfl (hI.wf.s rfl) l11_3 (by decide) u21 (by decide) rfl (fun w64 e64 => ?_)
            obtain ⟨l64, u64⟩ := hI.abi e64 (by decide +kernel : t_abr 95 0 99 (-1) 5 = true) l11_3 (by decide) u21 (by decide)
            refine ev_addK f_X12_dearest (nx := 68) (c := 6) (l := 5) (u := 11) rfl (by decide) l64 u64 rfl rfl (by decide) (by decide) rfl (fun z65 e65 l65 u65 => ?_)
            refine ev_loc f_X12_dearest (nx := 70) (lo' := [(4, .int z65), (3, .int y11_3), (2, .int y11_2), (1, .int y11_1), (0, .ref 69)]) rfl rfl rfl rfl ?_
            refine ev_loc f_X12_dearest (nx := 71) rfl rfl rfl rfl ?_
            refine ev_getR f_X12_dearest (nx := 74) rfl (hI.wf.s rfl) rfl rfl (hI.wf.r rfl) rfl rfl ?_
            refine ev_loc f_X12_dearest (nx := 75) rfl rfl rfl rfl ?_
            refine ev_ialdT f_X12_dearest (nx := 76) rfl (hI.wf.s rfl) l11_3 (by decide) u21 (by decide) rfl (fun w66 e66 => ?_)
            refine ev_loc f_X12_dearest (nx := 77) rfl rfl rfl rfl ?_
            refine ev_loc f_X12_dearest (nx := 78) rfl rfl rfl rfl ?_
            refine ev_qI0 f_X12_dearest (nx := 81) (r := [.int w66]) rfl rfl rfl rfl rfl rfl rfl (c_m_cameBy hI (y11_3) l11_3 u21 (fun h => j11_0 y11_3.toNatClampNeg (by have hc := t_clamp (i := y11_3) (by omega); have ff68 : (gi11 69 55).toInt = (gi4 69 55).toInt := congrArg Int32.toInt c11_1; omega) h)) rfl (fun w67 l67 u67 q67 => ?_)
            have q67 : True := q67
            refine ev_anyI f_X12_dearest (nx := 82) rfl rfl rfl rfl (fun z69 => ?_)
            refine ev_loc f_X12_dearest (nx := 83) rfl rfl rfl rfl ?_
            refine ev_loc f_X12_dearest (nx := 84) rfl rfl rfl rfl ?_
            refine ev_qI0 f_X12_dearest (nx := 87) (r := [.int z69]) rfl rfl rfl rfl rfl rfl rfl (c_m_costsBy hI (y11_3) l11_3 u21) rfl (fun w70 l70 u70 q70 => ?_)
            have q70 : True := q70
            refine ev_anyI f_X12_dearest (nx := 88) rfl rfl rfl rfl (fun z71 => ?_)
            refine ev_loc f_X12_dearest (nx := 90) (lo' := [(5, .int z71), (4, .int z65), (3, .int y11_3), (2, .int y11_2), (1, .int y11_1), (0, .ref 69)]) rfl rfl rfl rfl ?_
            refine ev_loc f_X12_dearest (nx := 92) rfl rfl rfl rfl ?_
            refine ev_loc f_X12_dearest (nx := 93) rfl rfl rfl rfl ?_
            refine ev_if f_X12_dearest (t1 := 122) (t2 := 96) rfl rfl rfl (fun h72 => ?_) (fun h72 => ?_)
            · have r73 : z71.toInt < y11_2.toInt := Int32.lt_iff_toInt_lt.mp h72
              have u74 : z71.toInt ≤ 2147483646 := t_ltu h72 (t_hi y11_2) rfl
              refine ev_incR f_X12_dearest (nx := 125) (c := 1) (l := 1) (u := 100) rfl rfl (by decide) (by decide) l11_3 u21 rfl rfl (by decide) (by decide) rfl (fun z75 e75 l75 u75 => ?_)
              refine ev_jmp f_X12_dearest (nx := 20) rfl rfl rfl ?_
              refine ev_sub (lo := [(3, .int z75), (2, .int y11_2), (1, .int y11_1), (0, .ref 69)]) rfl (t_sc rfl (t_sc rfl (t_sc rfl (t_sc rfl t_sn)))) ?_
              exact ih11 _ (by omega) gi11 gl11 gr11 (z75) (y11_2) (y11_1) hI hX  (Int.le_trans (by decide : (0:Int) ≤ 1) l75) (Int.le_trans u75 (by decide : (100:Int) ≤ 119)) l11_2 l11_1 u11_1 c11_0 c11_1 c11_2 j11_0 rfl
            · have r76 : y11_2.toInt ≤ z71.toInt := Int32.le_iff_toInt_le.mp (t_nlt h72)
              have l77 : 0 ≤ z71.toInt := t_lel (t_nlt h72) l11_2
              refine ev_loc f_X12_dearest (nx := 98) rfl rfl rfl rfl ?_
              refine ev_if f_X12_dearest (t1 := 122) (t2 := 101) rfl rfl rfl (fun h78 => ?_) (fun h78 => ?_)
              · have u79 : z71.toInt ≤ 0 := t_equ h78 (by decide : (0:Int32).toInt ≤ (0:Int))
                refine ev_incR f_X12_dearest (nx := 125) (c := 1) (l := 1) (u := 100) rfl rfl (by decide) (by decide) l11_3 u21 rfl rfl (by decide) (by decide) rfl (fun z80 e80 l80 u80 => ?_)
                refine ev_jmp f_X12_dearest (nx := 20) rfl rfl rfl ?_
                refine ev_sub (lo := [(3, .int z80), (2, .int y11_2), (1, .int y11_1), (0, .ref 69)]) rfl (t_sc rfl (t_sc rfl (t_sc rfl (t_sc rfl t_sn)))) ?_
                exact ih11 _ (by omega) gi11 gl11 gr11 (z80) (y11_2) (y11_1) hI hX  (Int.le_trans (by decide : (0:Int) ≤ 1) l80) (Int.le_trans u80 (by decide : (100:Int) ≤ 119)) l11_2 l11_1 u11_1 c11_0 c11_1 c11_2 j11_0 rfl
              · have r81 : z71.toInt ≠ 0 := fun e => h78 (Int32.toInt_inj.mp (e.trans (by decide : (0:Int) = (0 : Int32).toInt)))
                have l82 : 1 ≤ z71.toInt := t_nel h78 l77 rfl rfl
                refine ev_loc f_X12_dearest (nx := 103) rfl rfl rfl rfl ?_
                refine ev_loc f_X12_dearest (nx := 104) rfl rfl rfl rfl ?_
                refine ev_if f_X12_dearest (t1 := 107) (t2 := 116) rfl rfl rfl (fun h83 => ?_) (fun h83 => ?_)
                · have r84 : z71.toInt = y11_2.toInt := t_eqi h83
                  have l85 : 1 ≤ y11_2.toInt := t_eql (Eq.symm h83) l82
                  refine ev_loc f_X12_dearest (nx := 109) rfl rfl rfl rfl ?_
                  refine ev_loc f_X12_dearest (nx := 110) rfl rfl rfl rfl ?_
                  refine ev_if f_X12_dearest (t1 := 116) (t2 := 113) rfl rfl rfl (fun h86 => ?_) (fun h86 => ?_)
                  · have r87 : z65.toInt ≤ y11_1.toInt := Int32.le_iff_toInt_le.mp h86
                    have l88 : 5 ≤ y11_1.toInt := t_lel h86 l65
                    refine ev_loc f_X12_dearest (nx := 118) rfl rfl rfl rfl ?_
                    refine ev_loc f_X12_dearest (nx := 119) (lo' := [(2, .int z71), (5, .int z71), (4, .int z65), (3, .int y11_3), (1, .int y11_1), (0, .ref 69)]) rfl rfl rfl rfl ?_
                    refine ev_loc f_X12_dearest (nx := 121) rfl rfl rfl rfl ?_
                    refine ev_loc f_X12_dearest (nx := 122) (lo' := [(1, .int z65), (2, .int z71), (5, .int z71), (4, .int z65), (3, .int y11_3), (0, .ref 69)]) rfl rfl rfl rfl ?_
                    refine ev_incR f_X12_dearest (nx := 125) (c := 1) (l := 1) (u := 100) rfl rfl (by decide) (by decide) l11_3 u21 rfl rfl (by decide) (by decide) rfl (fun z89 e89 l89 u89 => ?_)
                    refine ev_jmp f_X12_dearest (nx := 20) rfl rfl rfl ?_
                    refine ev_sub (lo := [(3, .int z89), (2, .int z71), (1, .int z65), (0, .ref 69)]) rfl (t_sc rfl (t_sc rfl (t_sc rfl (t_sc rfl t_sn)))) ?_
                    exact ih11 _ (by omega) gi11 gl11 gr11 (z89) (z71) (z65) hI hX  (Int.le_trans (by decide : (0:Int) ≤ 1) l89) (Int.le_trans u89 (by decide : (100:Int) ≤ 119)) (Int.le_trans (by decide : (0:Int) ≤ 1) l82) (Int.le_trans (by decide : ((-1):Int) ≤ 5) l65) (Int.le_trans u65 (by decide : (11:Int) ≤ 12)) c11_0 c11_1 c11_2 j11_0 rfl
                  · have r90 : y11_1.toInt < z65.toInt := Int32.lt_iff_toInt_lt.mp (t_nle h86)
                    have u91 : y11_1.toInt ≤ 10 := t_ltu (t_nle h86) u65 rfl
                    refine ev_jmp f_X12_dearest (nx := 122) rfl rfl rfl ?_
                    refine ev_incR f_X12_dearest (nx := 125) (c := 1) (l := 1) (u := 100) rfl rfl (by decide) (by decide) l11_3 u21 rfl rfl (by decide) (by decide) rfl (fun z92 e92 l92 u92 => ?_)
                    refine ev_jmp f_X12_dearest (nx := 20) rfl rfl rfl ?_
                    refine ev_sub (lo := [(3, .int z92), (2, .int y11_2), (1, .int y11_1), (0, .ref 69)]) rfl (t_sc rfl (t_sc rfl (t_sc rfl (t_sc rfl t_sn)))) ?_
                    exact ih11 _ (by omega) gi11 gl11 gr11 (z92) (y11_2) (y11_1) hI hX  (Int.le_trans (by decide : (0:Int) ≤ 1) l92) (Int.le_trans u92 (by decide : (100:Int) ≤ 119)) (Int.le_trans (by decide : (0:Int) ≤ 1) l85) l11_1 (Int.le_trans u91 (by decide : (10:Int) ≤ 12)) c11_0 c11_1 c11_2 j11_0 rfl
                · have r93 : z71.toInt ≠ y11_2.toInt := t_nei h83
                  refine ev_loc f_X12_dearest (nx := 118) rfl rfl rfl rfl ?_
                  refine ev_loc f_X12_dearest (nx := 119) (lo' := [(2, .int z71), (5, .int z71), (4, .int z65), (3, .int y11_3), (1, .int y11_1), (0, .ref 69)]) rfl rfl rfl rfl ?_
                  refine ev_loc f_X12_dearest (nx := 121) rfl rfl rfl rfl ?_
                  refine ev_loc f_X12_dearest (nx := 122) (lo' := [(1, .int z65), (2, .int z71), (5, .int z71), (4, .int z65), (3, .int y11_3), (0, .ref 69)]) rfl rfl rfl rfl ?_
                  refine ev_incR f_X12_dearest (nx := 125) (c := 1) (l := 1) (u := 100) rfl rfl (by decide) (by decide) l11_3 u21 rfl rfl (by decide) (by decide) rfl (fun z94 e94 l94 u94 => ?_)
                  refine ev_jmp f_X12_dearest (nx := 20) rfl rfl rfl ?_
                  refine ev_sub (lo := [(3, .int z94), (2, .int z71), (1, .int z65), (0, .ref 69)]) rfl (t_sc rfl (t_sc rfl (t_sc rfl (t_sc rfl t_sn)))) ?_
                  exact ih11 _ (by omega) gi11 gl11 gr11 (z94) (z71) (z65) hI hX  (Int.le_trans (by decide : (0:Int) ≤ 1) l94) (Int.le_trans u94 (by decide : (100:Int) ≤ 119)) (Int.le_trans (by decide : (0:Int) ≤ 1) l82) (Int.le_trans (by decide : ((-1):Int) ≤ 5) l65) (Int.le_trans u65 (by decide : (11:Int) ≤ 12)) c11_0 c11_1 c11_2 j11_0 rfl
    refine ev_sub (lo := [(3, .int 0), (2, .int 0), (1, .int (-1)), (0, .ref 69)]) rfl (t_sc rfl (t_sc rfl (t_sc rfl (t_sc rfl t_sn)))) ?_
    exact L11 _ gi4 gl4 gr4 (0) (0) ((-1)) hI hX  (by decide : (0:Int) ≤ (0:Int32).toInt) (Int.le_trans (by decide : (0:Int32).toInt ≤ (0:Int)) (by decide : (0:Int) ≤ 119)) (by decide : (0:Int) ≤ (0:Int32).toInt) (by decide : ((-1):Int) ≤ ((-1):Int32).toInt) (Int.le_trans (by decide : ((-1):Int32).toInt ≤ ((-1):Int)) (by decide : ((-1):Int) ≤ 12)) ((hC4.1 69 2 rfl).1.trans rfl) rfl ((hC4.1 70 4 rfl).1.trans rfl) (q4 (by omega)) rfl
noncomputable def wl_g_busiest : List (Nat × Nat) := [(69, 2), (69, 44), (69, 45), (69, 48), (69, 55), (69, 57), (89, 10005), (89, 610011), (90, 9999), (91, 9999), (92, 9999), (93, 9999), (94, 9999), (95, 9999)]
noncomputable def Q_g_busiest (gi : Nat → Nat → Int32) (gl : Nat → Nat → Int64) (gr : Nat → Nat → Value) : Int32 → (Nat → Nat → Int32) → (Nat → Nat → Int64) → (Nat → Nat → Value) → Prop := fun (v : Int32) (gi2 : Nat → Nat → Int32) (gl2 : Nat → Nat → Int64) (gr2 : Nat → Nat → Value) => (v.toInt = -1 → (gi2 69 2).toInt = 6) ∧ (v.toInt ≠ -1 → (gi2 69 2).toInt = 0)
theorem c_g_busiest {X : x_Ext} {d : Nat} {sh : List (Nat ⊕ (Nat × Nat))} {gi : Nat → Nat → Int32} {gl : Nat → Nat → Int64} {gr : Nat → Nat → Value} (hI : t_I sh gi gr) (e_p0 : 1 ≤ (gi 70 4).toInt) : x_Me X (d + 7) n_X12_busiest [.ref 69] (sh, gi, gl, gr) (t_PI wl_g_busiest sh gi gl gr (-1) 240 (Q_g_busiest gi gl gr)) := by
  have hX : t_X wl_g_busiest sh gi gl gr gi gl gr := t_X.rf
  refine me_i f_X12_busiest (hI.wf.s rfl) rfl rfl rfl ?_
  obtain ⟨l2, u2⟩ := hI.b (hI.wf.s (k := 69) rfl) (t_bdK rfl : t_bd 11 55 = some (0, 100))
  obtain ⟨l3, u3⟩ := hI.ab (by decide +kernel : t_abr 70 4 4 0 20 = true) (Nat.le_refl _) (Nat.le_refl _)
  refine ev_loc f_X12_busiest (nx := 1) rfl rfl rfl rfl ?_
  refine ev_qI f_X12_busiest (nx := 4) (r := []) rfl rfl rfl rfl rfl rfl rfl (c_m_plans hI  (by omega)) rfl hX rfl (fun w4 gi4 gl4 gr4 l4 u4 hI hX hC4 q4 => ?_)
  have q4 : (w4.toInt = 1 → t_wh (gi4 69 55).toInt (gi4 93) (gi4 95)) := q4
  obtain ⟨l5, u5⟩ := hI.b (hI.wf.s (k := 69) rfl) (t_bdK rfl : t_bd 11 55 = some (0, 100))
  refine ev_if f_X12_busiest (t1 := 7) (t2 := 14) rfl rfl rfl (fun h6 => ?_) (fun h6 => ?_)
  · have u7 : w4.toInt ≤ 0 := t_equ h6 (by decide : (0:Int32).toInt ≤ (0:Int))
    refine ev_loc f_X12_busiest (nx := 8) rfl rfl rfl rfl ?_
    refine ev_bp f_X12_busiest (nx := 10) (v := 6) rfl (by decide) rfl ?_
    refine ev_inV2 f_X12_busiest (nx := 13) (lo2 := [(0, .ref 69), (1, .int 6)]) rfl rfl rfl rfl f_X12_refuse (hI.wf.s rfl) rfl rfl rfl rfl rfl ?_
    refine ev_loc f_X12_refuse (nx := 1) rfl rfl rfl rfl ?_
    refine ev_loc f_X12_refuse (nx := 2) rfl rfl rfl rfl ?_
    refine ev_putIT f_X12_refuse (nx := 5) rfl (hI.wf.s rfl) rfl rfl rfl (hI.put0 (hI.wf.s rfl) rfl rfl) (hX.upI rfl) (fun g8 e8 hI hX => ?_)
    refine ev_ic f_X12_refuse (nx := 6) (v := -1) rfl (by decide) rfl ?_
    refine ev_retK1 f_X12_refuse rfl rfl rfl ?_
    exact ev_ret f_X12_busiest rfl rfl rfl ⟨_, _, _, rfl, hI, hX, ⟨_, rfl, (by decide : ((-1):Int) ≤ ((-1):Int32).toInt), (Int.le_trans (by decide : ((-1):Int32).toInt ≤ ((-1):Int)) (by decide : ((-1):Int) ≤ 240)), (show (((-1) : Int) = -1 → (g8 69 2).toInt = 6) ∧ (((-1) : Int) ≠ -1 → (g8 69 2).toInt = 0) from ⟨fun h => (by have ffs : (g8 69 2).toInt = 6 := (congrArg Int32.toInt (by rw [e8]; exact x_up2_at _ _ _ _ : g8 69 2 = 6)).trans (by decide); omega), fun h => (by have ffs : (g8 69 2).toInt = 6 := (congrArg Int32.toInt (by rw [e8]; exact x_up2_at _ _ _ _ : g8 69 2 = 6)).trans (by decide); omega)⟩)⟩⟩
  · have r9 : w4.toInt ≠ 0 := fun e => h6 (Int32.toInt_inj.mp (e.trans (by decide : (0:Int) = (0 : Int32).toInt)))
    have l10 : 1 ≤ w4.toInt := t_nel h6 l4 rfl rfl
    refine ev_ic f_X12_busiest (nx := 15) (v := -1) rfl (by decide) rfl ?_
    refine ev_loc f_X12_busiest (nx := 16) (lo' := [(1, .int (-1)), (0, .ref 69)]) rfl rfl rfl rfl ?_
    refine ev_ic f_X12_busiest (nx := 17) (v := 0) rfl (by decide) rfl ?_
    refine ev_loc f_X12_busiest (nx := 18) (lo' := [(2, .int 0), (1, .int (-1)), (0, .ref 69)]) rfl rfl rfl rfl ?_
    refine ev_ic f_X12_busiest (nx := 19) (v := 0) rfl (by decide) rfl ?_
    refine ev_loc f_X12_busiest (nx := 20) (lo' := [(3, .int 0), (2, .int 0), (1, .int (-1)), (0, .ref 69)]) rfl rfl rfl rfl ?_
    have L11 : ∀ (m11 : Nat) (gi11 : Nat → Nat → Int32) (gl11 : Nat → Nat → Int64) (gr11 : Nat → Nat → Value) (y11_3 : Int32) (y11_2 : Int32) (y11_1 : Int32), t_I sh gi11 gr11 → t_X wl_g_busiest sh gi gl gr gi11 gl11 gr11 → 0 ≤ y11_3.toInt → y11_3.toInt ≤ 241 → 0 ≤ y11_2.toInt → y11_2.toInt ≤ 100 → (-1) ≤ y11_1.toInt → y11_1.toInt ≤ 240 → gi11 69 2 = (gi 69 2) → gi11 69 55 = (gi4 69 55) → gi11 70 4 = (gi 70 4) → t_wh (gi11 69 55).toInt (gi11 93) (gi11 95) → (241 - y11_3.toInt).toNat = m11 → x_Ev X (d + 7) n_X12_busiest 20 [(3, .int y11_3), (2, .int y11_2), (1, .int y11_1), (0, .ref 69)] [] (sh, gi11, gl11, gr11) (t_PI wl_g_busiest sh gi gl gr (-1) 240 (Q_g_busiest gi gl gr)) := by
      intro m11
      induction m11 using Nat.strongRecOn with
      | _ m11 ih11 =>
      intro gi11 gl11 gr11 y11_3 y11_2 y11_1 hI hX l11_3 u11_3 l11_2 u11_2 l11_1 u11_1 c11_0 c11_1 c11_2 j11_0 hm11
      refine ev_loc f_X12_busiest (nx := 21) rfl rfl rfl rfl ?_
      refine ev_sp f_X12_busiest (nx := 24) (v := 240) rfl (by decide) rfl ?_
      refine ev_if f_X12_busiest (t1 := 110) (t2 := 27) rfl rfl rfl (fun h12 => ?_) (fun h12 => ?_)
      · have l13 : 241 ≤ y11_3.toInt := t_ltl h12 (by decide : (240:Int) ≤ (240:Int32).toInt) rfl
        refine ev_loc f_X12_busiest (nx := 111) rfl rfl rfl rfl ?_
        refine ev_loc f_X12_busiest (nx := 112) rfl rfl rfl rfl ?_
        refine ev_inV2 f_X12_busiest (nx := 115) (lo2 := [(0, .ref 69), (1, .int y11_1)]) rfl rfl rfl rfl f_X12_orNone (hI.wf.s rfl) rfl rfl rfl rfl rfl ?_
        refine ev_loc f_X12_orNone (nx := 1) rfl rfl rfl rfl ?_
        refine ev_ic f_X12_orNone (nx := 2) (v := -1) rfl (by decide) rfl ?_
        refine ev_if f_X12_orNone (t1 := 5) (t2 := 14) rfl rfl rfl (fun h14 => ?_) (fun h14 => ?_)
        · have u15 : y11_1.toInt ≤ (-1) := t_equ h14 (by decide : ((-1):Int32).toInt ≤ ((-1):Int))
          refine ev_loc f_X12_orNone (nx := 6) rfl rfl rfl rfl ?_
          refine ev_bp f_X12_orNone (nx := 8) (v := 6) rfl (by decide) rfl ?_
          refine ev_inV2 f_X12_orNone (nx := 11) (lo2 := [(0, .ref 69), (1, .int 6)]) rfl rfl rfl rfl f_X12_refuse (hI.wf.s rfl) rfl rfl rfl rfl rfl ?_
          refine ev_loc f_X12_refuse (nx := 1) rfl rfl rfl rfl ?_
          refine ev_loc f_X12_refuse (nx := 2) rfl rfl rfl rfl ?_
          refine ev_putIT f_X12_refuse (nx := 5) rfl (hI.wf.s rfl) rfl rfl rfl (hI.put0 (hI.wf.s rfl) rfl rfl) (hX.upI rfl) (fun g16 e16 hI hX => ?_)
          refine ev_ic f_X12_refuse (nx := 6) (v := -1) rfl (by decide) rfl ?_
          refine ev_retK1 f_X12_refuse rfl rfl rfl ?_
          refine ev_jmp f_X12_orNone (nx := 19) rfl rfl rfl ?_
          refine ev_retK1 f_X12_orNone rfl rfl rfl ?_
          exact ev_ret f_X12_busiest rfl rfl rfl ⟨_, _, _, rfl, hI, hX, ⟨_, rfl, (by decide : ((-1):Int) ≤ ((-1):Int32).toInt), (Int.le_trans (by decide : ((-1):Int32).toInt ≤ ((-1):Int)) (by decide : ((-1):Int) ≤ 240)), (show (((-1) : Int) = -1 → (g16 69 2).toInt = 6) ∧ (((-1) : Int) ≠ -1 → (g16 69 2).toInt = 0) from ⟨fun h => (by have ffs : (g16 69 2).toInt = 6 := (congrArg Int32.toInt (by rw [e16]; exact x_up2_at _ _ _ _ : g16 69 2 = 6)).trans (by decide); omega), fun h => (by have ffs : (g16 69 2).toInt = 6 := (congrArg Int32.toInt (by rw [e16]; exact x_up2_at _ _ _ _ : g16 69 2 = 6)).trans (by decide); omega)⟩)⟩⟩
        · have r17 : y11_1.toInt ≠ (-1) := fun e => h14 (Int32.toInt_inj.mp (e.trans (by decide : ((-1):Int) = ((-1) : Int32).toInt)))
          have l18 : 0 ≤ y11_1.toInt := t_nel h14 l11_1 rfl rfl
          refine ev_loc f_X12_orNone (nx := 15) rfl rfl rfl rfl ?_
          refine ev_loc f_X12_orNone (nx := 16) rfl rfl rfl rfl ?_
          refine ev_inV2 f_X12_orNone (nx := 19) (lo2 := [(0, .ref 69), (1, .int y11_1)]) rfl rfl rfl rfl f_X12_gives (hI.wf.s rfl) rfl rfl rfl rfl rfl ?_
          refine ev_loc f_X12_gives (nx := 1) rfl rfl rfl rfl ?_
          refine ev_ic f_X12_gives (nx := 2) (v := 0) rfl (by decide) rfl ?_
          refine ev_putIT f_X12_gives (nx := 5) rfl (hI.wf.s rfl) rfl rfl rfl (hI.put0 (hI.wf.s rfl) rfl rfl) (hX.upI rfl) (fun g19 e19 hI hX => ?_)
          refine ev_loc f_X12_gives (nx := 6) rfl rfl rfl rfl ?_
          refine ev_retK1 f_X12_gives rfl rfl rfl ?_
          refine ev_retK1 f_X12_orNone rfl rfl rfl ?_
          exact ev_ret f_X12_busiest rfl rfl rfl ⟨_, _, _, rfl, hI, hX, ⟨_, rfl, (Int.le_trans (by decide : ((-1):Int) ≤ 0) l18), u11_1, (show (y11_1.toInt = -1 → (g19 69 2).toInt = 6) ∧ (y11_1.toInt ≠ -1 → (g19 69 2).toInt = 0) from ⟨fun h => (by have ffs : (g19 69 2).toInt = 0 := (congrArg Int32.toInt (by rw [e19]; exact x_up2_at _ _ _ _ : g19 69 2 = 0)).trans (by decide); omega), fun h => (by have ffs : (g19 69 2).toInt = 0 := (congrArg Int32.toInt (by rw [e19]; exact x_up2_at _ _ _ _ : g19 69 2 = 0)).trans (by decide); omega)⟩)⟩⟩
      · have u20 : y11_3.toInt ≤ 240 := t_leu (t_nlt h12) (by decide : (240:Int32).toInt ≤ (240:Int))
        refine ev_ic f_X12_busiest (nx := 28) (v := 0) rfl (by decide) rfl ?_
        refine ev_loc f_X12_busiest (nx := 30) (lo' := [(4, .int 0), (3, .int y11_3), (2, .int y11_2), (1, .int y11_1), (0, .ref 69)]) rfl rfl rfl rfl ?_
        refine ev_ic f_X12_busiest (nx := 31) (v := 0) rfl (by decide) rfl ?_
        refine ev_loc f_X12_busiest (nx := 33) (lo' := [(5, .int 0), (4, .int 0), (3, .int y11_3), (2, .int y11_2), (1, .int y11_1), (0, .ref 69)]) rfl rfl rfl rfl ?_
        have L21 : ∀ (m21 : Nat) (gi21 : Nat → Nat → Int32) (gl21 : Nat → Nat → Int64) (gr21 : Nat → Nat → Value) (y21_5 : Int32) (y21_4 : Int32), t_I sh gi21 gr21 → t_X wl_g_busiest sh gi gl gr gi21 gl21 gr21 → 0 ≤ y21_5.toInt → y21_5.toInt ≤ 119 → 0 ≤ y21_4.toInt → y21_4.toInt ≤ 100 → gi21 69 2 = (gi 69 2) → gi21 69 55 = (gi4 69 55) → gi21 70 4 = (gi 70 4) → t_wh (gi21 69 55).toInt (gi21 93) (gi21 95) → y21_4.toInt ≤ y21_5.toInt → (119 - y21_5.toInt).toNat = m21 → x_Ev X (d + 7) n_X12_busiest 33 [(5, .int y21_5), (4, .int y21_4), (3, .int y11_3), (2, .int y11_2), (1, .int y11_1), (0, .ref 69)] [] (sh, gi21, gl21, gr21) (t_PI wl_g_busiest sh gi gl gr (-1) 240 (Q_g_busiest gi gl gr)) := by
          intro m21
          induction m21 using Nat.strongRecOn with
          | _ m21 ih21 =>
          intro gi21 gl21 gr21 y21_5 y21_4 hI hX l21_5 u21_5 l21_4 u21_4 c21_0 c21_1 c21_2 j21_0 j21_1 hm21
          refine ev_loc f_X12_busiest (nx := 35) rfl rfl rfl rfl ?_
          refine ev_loc f_X12_busiest (nx := 36) rfl rfl rfl rfl ?_
          refine ev_gvI f_X12_busiest (nx := 39) (w := (gi4 69 55)) rfl (hI.wf.s rfl) rfl rfl c21_1 rfl ?_
          refine ev_if f_X12_busiest (t1 := 90) (t2 := 42) rfl rfl rfl (fun h22 => ?_) (fun h22 => ?_)
          · have r23 : (gi4 69 55).toInt ≤ y21_5.toInt := Int32.le_iff_toInt_le.mp h22
            refine ev_loc f_X12_busiest (nx := 92) rfl rfl rfl rfl ?_
            refine ev_loc f_X12_busiest (nx := 93) rfl rfl rfl rfl ?_
            refine ev_if f_X12_busiest (t1 := 99) (t2 := 96) rfl rfl rfl (fun h24 => ?_) (fun h24 => ?_)
            · have r25 : y11_2.toInt < y21_4.toInt := Int32.lt_iff_toInt_lt.mp h24
              have u26 : y11_2.toInt ≤ 99 := t_ltu h24 u21_4 rfl
              have l27 : 1 ≤ y21_4.toInt := t_ltl h24 l11_2 rfl
              refine ev_loc f_X12_busiest (nx := 101) rfl rfl rfl rfl ?_
              refine ev_loc f_X12_busiest (nx := 102) (lo' := [(2, .int y21_4), (5, .int y21_5), (4, .int y21_4), (3, .int y11_3), (1, .int y11_1), (0, .ref 69)]) rfl rfl rfl rfl ?_
              refine ev_loc f_X12_busiest (nx := 103) rfl rfl rfl rfl ?_
              refine ev_loc f_X12_busiest (nx := 104) (lo' := [(1, .int y11_3), (2, .int y21_4), (5, .int y21_5), (4, .int y21_4), (3, .int y11_3), (0, .ref 69)]) rfl rfl rfl rfl ?_
              refine ev_incR f_X12_busiest (nx := 107) (c := 1) (l := 1) (u := 241) rfl rfl (by decide) (by decide) l11_3 u20 rfl rfl (by decide) (by decide) rfl (fun z28 e28 l28 u28 => ?_)
              refine ev_jmp f_X12_busiest (nx := 20) rfl rfl rfl ?_
              refine ev_sub (lo := [(3, .int z28), (2, .int y21_4), (1, .int y11_3), (0, .ref 69)]) rfl (t_sc rfl (t_sc rfl (t_sc rfl (t_sc rfl t_sn)))) ?_
              exact ih11 _ (by omega) gi21 gl21 gr21 (z28) (y21_4) (y11_3) hI hX  (Int.le_trans (by decide : (0:Int) ≤ 1) l28) u28 (Int.le_trans (by decide : (0:Int) ≤ 1) l27) u21_4 (Int.le_trans (by decide : ((-1):Int) ≤ 0) l11_3) u20 c21_0 c21_1 c21_2 j21_0 rfl
            · have r29 : y21_4.toInt ≤ y11_2.toInt := Int32.le_iff_toInt_le.mp (t_nlt h24)
              refine ev_jmp f_X12_busiest (nx := 104) rfl rfl rfl ?_
              refine ev_incR f_X12_busiest (nx := 107) (c := 1) (l := 1) (u := 241) rfl rfl (by decide) (by decide) l11_3 u20 rfl rfl (by decide) (by decide) rfl (fun z30 e30 l30 u30 => ?_)
              refine ev_jmp f_X12_busiest (nx := 20) rfl rfl rfl ?_
              refine ev_sub (lo := [(3, .int z30), (2, .int y11_2), (1, .int y11_1), (0, .ref 69)]) rfl (t_sc rfl (t_sc rfl (t_sc rfl (t_sc rfl t_sn)))) ?_
              exact ih11 _ (by omega) gi21 gl21 gr21 (z30) (y11_2) (y11_1) hI hX  (Int.le_trans (by decide : (0:Int) ≤ 1) l30) u30 l11_2 u11_2 l11_1 u11_1 c21_0 c21_1 c21_2 j21_0 rfl
          · have r31 : y21_5.toInt < (gi4 69 55).toInt := Int32.lt_iff_toInt_lt.mp (t_nle h22)
            have u32 : y21_5.toInt ≤ 99 := t_ltu (t_nle h22) u5 rfl
            have l33 : 1 ≤ (gi4 69 55).toInt := t_ltl (t_nle h22) l21_5 rfl
            refine ev_loc f_X12_busiest (nx := 44) rfl rfl rfl rfl ?_
            refine ev_loc f_X12_busiest (nx := 45) rfl rfl rfl rfl ?_
            refine ev_getR f_X12_busiest (nx := 48) rfl (hI.wf.s rfl) rfl rfl (hI.wf.r rfl) rfl rfl ?_
            refine ev_loc f_X12_busiest (nx := 50) rfl rfl rfl rfl ?_
            refine ev_ialdT f_X12_busiest (nx := 51) rfl (hI.wf.s rfl) l21_5 (by decide) u32 (by decide) rfl (fun w34 e34 => ?_)
            obtain ⟨l34, u34⟩ := hI.abi e34 (by decide +kernel : t_abr 93 0 99 0 2 = true) l21_5 (by decide) u32 (by decide)
            refine ev_ic f_X12_busiest (nx := 52) (v := 2) rfl (by decide) rfl ?_
            refine ev_if f_X12_busiest (t1 := 80) (t2 := 55) rfl rfl rfl (fun h35 => ?_) (fun h35 => ?_)
            · have l36 : 2 ≤ w34.toInt := t_eql h35 (by decide : (2:Int) ≤ (2:Int32).toInt)
              refine ev_ic f_X12_busiest (nx := 81) (v := 0) rfl (by decide) rfl ?_
              refine ev_addC f_X12_busiest (nx := 82) (c := 0) (l := 0) (u := 100) rfl (by decide) l21_4 u21_4 rfl rfl (by decide) (by decide) rfl (fun z37 e37 l37 u37 => ?_)
              refine ev_loc f_X12_busiest (nx := 84) (lo' := [(4, .int z37), (5, .int y21_5), (3, .int y11_3), (2, .int y11_2), (1, .int y11_1), (0, .ref 69)]) rfl rfl rfl rfl ?_
              refine ev_incR f_X12_busiest (nx := 87) (c := 1) (l := 1) (u := 100) rfl rfl (by decide) (by decide) l21_5 u32 rfl rfl (by decide) (by decide) rfl (fun z38 e38 l38 u38 => ?_)
              refine ev_jmp f_X12_busiest (nx := 33) rfl rfl rfl ?_
              refine ev_sub (lo := [(5, .int z38), (4, .int z37), (3, .int y11_3), (2, .int y11_2), (1, .int y11_1), (0, .ref 69)]) rfl (t_sc rfl (t_sc rfl (t_sc rfl (t_sc rfl (t_sc rfl (t_sc rfl t_sn)))))) ?_
              exact ih21 _ (by omega) gi21 gl21 gr21 (z38) (z37) hI hX  (Int.le_trans (by decide : (0:Int) ≤ 1) l38) (Int.le_trans u38 (by decide : (100:Int) ≤ 119)) l37 u37 c21_0 c21_1 c21_2 j21_0 (by omega) rfl
            · have r39 : w34.toInt ≠ 2 := fun e => h35 (Int32.toInt_inj.mp (e.trans (by decide : (2:Int) = (2 : Int32).toInt)))
              have u40 : w34.toInt ≤ 1 := t_neu h35 u34 rfl rfl
              refine ev_loc f_X12_busiest (nx := 56) rfl rfl rfl rfl ?_
              refine ev_loc f_X12_busiest (nx := 58) rfl rfl rfl rfl ?_
              refine ev_qI0 f_X12_busiest (nx := 61) (r := [.int y21_4]) rfl rfl rfl rfl rfl rfl rfl (c_m_cameBy hI (y21_5) l21_5 u32 (fun h => j21_0 y21_5.toNatClampNeg (by have hc := t_clamp (i := y21_5) (by omega); have ff42 : (gi21 69 55).toInt = (gi4 69 55).toInt := congrArg Int32.toInt c21_1; omega) h)) rfl (fun w41 l41 u41 q41 => ?_)
              have q41 : True := q41
              refine ev_loc f_X12_busiest (nx := 62) rfl rfl rfl rfl ?_
              refine ev_if f_X12_busiest (t1 := 80) (t2 := 65) rfl rfl rfl (fun h43 => ?_) (fun h43 => ?_)
              · have r44 : y11_3.toInt < w41.toInt := Int32.lt_iff_toInt_lt.mp h43
                have l45 : 1 ≤ w41.toInt := t_ltl h43 l11_3 rfl
                refine ev_ic f_X12_busiest (nx := 81) (v := 0) rfl (by decide) rfl ?_
                refine ev_addC f_X12_busiest (nx := 82) (c := 0) (l := 0) (u := 100) rfl (by decide) l21_4 u21_4 rfl rfl (by decide) (by decide) rfl (fun z46 e46 l46 u46 => ?_)
                refine ev_loc f_X12_busiest (nx := 84) (lo' := [(4, .int z46), (5, .int y21_5), (3, .int y11_3), (2, .int y11_2), (1, .int y11_1), (0, .ref 69)]) rfl rfl rfl rfl ?_
                refine ev_incR f_X12_busiest (nx := 87) (c := 1) (l := 1) (u := 100) rfl rfl (by decide) (by decide) l21_5 u32 rfl rfl (by decide) (by decide) rfl (fun z47 e47 l47 u47 => ?_)
                refine ev_jmp f_X12_busiest (nx := 33) rfl rfl rfl ?_
                refine ev_sub (lo := [(5, .int z47), (4, .int z46), (3, .int y11_3), (2, .int y11_2), (1, .int y11_1), (0, .ref 69)]) rfl (t_sc rfl (t_sc rfl (t_sc rfl (t_sc rfl (t_sc rfl (t_sc rfl t_sn)))))) ?_
                exact ih21 _ (by omega) gi21 gl21 gr21 (z47) (z46) hI hX  (Int.le_trans (by decide : (0:Int) ≤ 1) l47) (Int.le_trans u47 (by decide : (100:Int) ≤ 119)) l46 u46 c21_0 c21_1 c21_2 j21_0 (by omega) rfl
              · have r48 : w41.toInt ≤ y11_3.toInt := Int32.le_iff_toInt_le.mp (t_nlt h43)
                have u49 : w41.toInt ≤ 240 := t_leu (t_nlt h43) u20
                refine ev_loc f_X12_busiest (nx := 66) rfl rfl rfl rfl ?_
                refine ev_getR f_X12_busiest (nx := 69) rfl (hI.wf.s rfl) rfl rfl (hI.wf.r rfl) rfl rfl ?_
                refine ev_loc f_X12_busiest (nx := 71) rfl rfl rfl rfl ?_
                refine ev_ialdT f_X12_busiest (nx := 72) rfl (hI.wf.s rfl) l21_5 (by decide) u32 (by decide) rfl (fun w50 e50 => ?_)
                refine ev_loc f_X12_busiest (nx := 73) rfl rfl rfl rfl ?_
                refine ev_if f_X12_busiest (t1 := 80) (t2 := 76) rfl rfl rfl (fun h51 => ?_) (fun h51 => ?_)
                · have r52 : w50.toInt ≤ y11_3.toInt := Int32.le_iff_toInt_le.mp h51
                  have u53 : w50.toInt ≤ 240 := t_leu h51 u20
                  refine ev_ic f_X12_busiest (nx := 81) (v := 0) rfl (by decide) rfl ?_
                  refine ev_addC f_X12_busiest (nx := 82) (c := 0) (l := 0) (u := 100) rfl (by decide) l21_4 u21_4 rfl rfl (by decide) (by decide) rfl (fun z54 e54 l54 u54 => ?_)
                  refine ev_loc f_X12_busiest (nx := 84) (lo' := [(4, .int z54), (5, .int y21_5), (3, .int y11_3), (2, .int y11_2), (1, .int y11_1), (0, .ref 69)]) rfl rfl rfl rfl ?_
                  refine ev_incR f_X12_busiest (nx := 87) (c := 1) (l := 1) (u := 100) rfl rfl (by decide) (by decide) l21_5 u32 rfl rfl (by decide) (by decide) rfl (fun z55 e55 l55 u55 => ?_)
                  refine ev_jmp f_X12_busiest (nx := 33) rfl rfl rfl ?_
                  refine ev_sub (lo := [(5, .int z55), (4, .int z54), (3, .int y11_3), (2, .int y11_2), (1, .int y11_1), (0, .ref 69)]) rfl (t_sc rfl (t_sc rfl (t_sc rfl (t_sc rfl (t_sc rfl (t_sc rfl t_sn)))))) ?_
                  exact ih21 _ (by omega) gi21 gl21 gr21 (z55) (z54) hI hX  (Int.le_trans (by decide : (0:Int) ≤ 1) l55) (Int.le_trans u55 (by decide : (100:Int) ≤ 119)) l54 u54 c21_0 c21_1 c21_2 j21_0 (by omega) rfl
                · have r56 : y11_3.toInt < w50.toInt := Int32.lt_iff_toInt_lt.mp (t_nle h51)
                  have l57 : 1 ≤ w50.toInt := t_ltl (t_nle h51) l11_3 rfl
                  refine ev_ic f_X12_busiest (nx := 77) (v := 1) rfl (by decide) rfl ?_
                  refine ev_jmp f_X12_busiest (nx := 81) rfl rfl rfl ?_
                  refine ev_addC f_X12_busiest (nx := 82) (c := 1) (l := 1) (u := 101) rfl (by decide) l21_4 u21_4 rfl rfl (by decide) (by decide) rfl (fun z58 e58 l58 u58 => ?_)
                  refine ev_loc f_X12_busiest (nx := 84) (lo' := [(4, .int z58), (5, .int y21_5), (3, .int y11_3), (2, .int y11_2), (1, .int y11_1), (0, .ref 69)]) rfl rfl rfl rfl ?_
                  refine ev_incR f_X12_busiest (nx := 87) (c := 1) (l := 1) (u := 100) rfl rfl (by decide) (by decide) l21_5 u32 rfl rfl (by decide) (by decide) rfl (fun z59 e59 l59 u59 => ?_)
                  refine ev_jmp f_X12_busiest (nx := 33) rfl rfl rfl ?_
                  refine ev_sub (lo := [(5, .int z59), (4, .int z58), (3, .int y11_3), (2, .int y11_2), (1, .int y11_1), (0, .ref 69)]) rfl (t_sc rfl (t_sc rfl (t_sc rfl (t_sc rfl (t_sc rfl (t_sc rfl t_sn)))))) ?_
                  exact ih21 _ (by omega) gi21 gl21 gr21 (z59) (z58) hI hX  (Int.le_trans (by decide : (0:Int) ≤ 1) l59) (Int.le_trans u59 (by decide : (100:Int) ≤ 119)) (Int.le_trans (by decide : (0:Int) ≤ 1) l58) (by omega : z58.toInt ≤ (100:Int)) c21_0 c21_1 c21_2 j21_0 (by omega) rfl
        refine ev_sub (lo := [(5, .int 0), (4, .int 0), (3, .int y11_3), (2, .int y11_2), (1, .int y11_1), (0, .ref 69)]) rfl (t_sc rfl (t_sc rfl (t_sc rfl (t_sc rfl (t_sc rfl (t_sc rfl t_sn)))))) ?_
        exact L21 _ gi11 gl11 gr11 (0) (0) hI hX  (by decide : (0:Int) ≤ (0:Int32).toInt) (Int.le_trans (by decide : (0:Int32).toInt ≤ (0:Int)) (by decide : (0:Int) ≤ 119)) (by decide : (0:Int) ≤ (0:Int32).toInt) (Int.le_trans (by decide : (0:Int32).toInt ≤ (0:Int)) (by decide : (0:Int) ≤ 100)) c11_0 c11_1 c11_2 j11_0 (by have kf60 : (0 : Int32).toInt = 0 := (by decide); omega) rfl
    refine ev_sub (lo := [(3, .int 0), (2, .int 0), (1, .int (-1)), (0, .ref 69)]) rfl (t_sc rfl (t_sc rfl (t_sc rfl (t_sc rfl t_sn)))) ?_
    exact L11 _ gi4 gl4 gr4 (0) (0) ((-1)) hI hX  (by decide : (0:Int) ≤ (0:Int32).toInt) (Int.le_trans (by decide : (0:Int32).toInt ≤ (0:Int)) (by decide : (0:Int) ≤ 241)) (by decide : (0:Int) ≤ (0:Int32).toInt) (Int.le_trans (by decide : (0:Int32).toInt ≤ (0:Int)) (by decide : (0:Int) ≤ 100)) (by decide : ((-1):Int) ≤ ((-1):Int32).toInt) (Int.le_trans (by decide : ((-1):Int32).toInt ≤ ((-1):Int)) (by decide : ((-1):Int) ≤ 240)) ((hC4.1 69 2 rfl).1.trans rfl) rfl ((hC4.1 70 4 rfl).1.trans rfl) (q4 (by omega)) rfl
noncomputable def wl_g_write : List (Nat × Nat) := [(69, 2), (74, 9999)]
noncomputable def Q_g_write (gi : Nat → Nat → Int32) (gl : Nat → Nat → Int64) (gr : Nat → Nat → Value) (ar1 : Int32) (ar2 : Int32) (ar3 : Int64) : Int32 → (Nat → Nat → Int32) → (Nat → Nat → Int64) → (Nat → Nat → Value) → Prop := fun (v : Int32) (gi2 : Nat → Nat → Int32) (gl2 : Nat → Nat → Int64) (gr2 : Nat → Nat → Value) => (¬ (0 ≤ ar1.toInt ∧ ar1.toInt ≤ 3) → (gi2 69 2).toInt = 1) ∧ ((0 ≤ ar1.toInt ∧ ar1.toInt ≤ 3) → ((gi 73 ar1.toNatClampNeg).toInt = -1 → (gi2 69 2).toInt = 2) ∧ ((gi 73 ar1.toNatClampNeg).toInt ≠ -1 → ¬ (0 ≤ ar2.toInt ∧ ar2.toInt < (gi 73 ar1.toNatClampNeg).toInt) → (gi2 69 2).toInt = 3) ∧ ((0 ≤ ar2.toInt ∧ ar2.toInt < (gi 73 ar1.toNatClampNeg).toInt) → (gi2 69 2).toInt = 0))
theorem c_g_write {X : x_Ext} {d : Nat} {sh : List (Nat ⊕ (Nat × Nat))} {gi : Nat → Nat → Int32} {gl : Nat → Nat → Int64} {gr : Nat → Nat → Value} (hI : t_I sh gi gr) (ar1 : Int32) (ar2 : Int32) (ar3 : Int64) : x_Me X (d + 3) n_X12_write [.ref 69, .int ar1, .int ar2, .long ar3] (sh, gi, gl, gr) (t_PI wl_g_write sh gi gl gr 0 1 (Q_g_write gi gl gr ar1 ar2 ar3)) := by
  have hX : t_X wl_g_write sh gi gl gr gi gl gr := t_X.rf
  refine me_i f_X12_write (hI.wf.s rfl) rfl rfl rfl ?_
  refine ev_loc f_X12_write (nx := 1) rfl rfl rfl rfl ?_
  refine ev_loc f_X12_write (nx := 2) rfl rfl rfl rfl ?_
  refine ev_loc f_X12_write (nx := 3) rfl rfl rfl rfl ?_
  refine ev_inV3 f_X12_write (nx := 6) (lo2 := [(0, .ref 69), (1, .int ar1), (2, .int ar2)]) rfl rfl rfl rfl f_X12_wrongPlace (hI.wf.s rfl) rfl rfl rfl rfl rfl ?_
  refine ev_loc f_X12_wrongPlace (nx := 1) rfl rfl rfl rfl ?_
  refine ev_inS1 f_X12_wrongPlace (nx := 4) (lo2 := [(0, .int ar1)]) rfl rfl rfl rfl f_X12_isTray rfl rfl rfl rfl ?_
  refine ev_loc f_X12_isTray (nx := 1) rfl rfl rfl rfl ?_
  refine ev_if f_X12_isTray (t1 := 13) (t2 := 4) rfl rfl rfl (fun h2 => ?_) (fun h2 => ?_)
  · have u3 : ar1.toInt ≤ (-1) := t_ltu h2 (by decide : (0:Int32).toInt ≤ (0:Int)) rfl
    refine ev_ic f_X12_isTray (nx := 14) (v := 0) rfl (by decide) rfl ?_
    refine ev_retK1 f_X12_isTray rfl rfl rfl ?_
    refine ev_t f_X12_wrongPlace (t1 := 7) (t2 := 11) rfl rfl rfl (by decide) ?_
    refine ev_ic f_X12_wrongPlace (nx := 8) (v := 1) rfl (by decide) rfl ?_
    refine ev_jmp f_X12_wrongPlace (nx := 44) rfl rfl rfl ?_
    refine ev_retK1 f_X12_wrongPlace rfl rfl rfl ?_
    refine ev_loc f_X12_write (nx := 8) (lo' := [(5, .int 1), (0, .ref 69), (1, .int ar1), (2, .int ar2), (3, .long ar3)]) rfl rfl rfl rfl ?_
    refine ev_loc f_X12_write (nx := 10) rfl rfl rfl rfl ?_
    refine ev_f f_X12_write (t1 := 13) (t2 := 34) rfl rfl rfl (by decide) ?_
    refine ev_loc f_X12_write (nx := 35) rfl rfl rfl rfl ?_
    refine ev_loc f_X12_write (nx := 37) rfl rfl rfl rfl ?_
    refine ev_inV2 f_X12_write (nx := 40) (lo2 := [(0, .ref 69), (1, .int 1)]) rfl rfl rfl rfl f_X12_is (hI.wf.s rfl) rfl rfl rfl rfl rfl ?_
    refine ev_loc f_X12_is (nx := 1) rfl rfl rfl rfl ?_
    refine ev_loc f_X12_is (nx := 2) rfl rfl rfl rfl ?_
    refine ev_putIT f_X12_is (nx := 5) rfl (hI.wf.s rfl) rfl rfl rfl (hI.put0 (hI.wf.s rfl) rfl rfl) (hX.upI rfl) (fun g4 e4 hI hX => ?_)
    refine ev_loc f_X12_is (nx := 6) rfl rfl rfl rfl ?_
    refine ev_f f_X12_is (t1 := 9) (t2 := 13) rfl rfl rfl (by decide) ?_
    refine ev_ic f_X12_is (nx := 14) (v := 0) rfl (by decide) rfl ?_
    refine ev_retK1 f_X12_is rfl rfl rfl ?_
    exact ev_ret f_X12_write rfl rfl rfl ⟨_, _, _, rfl, hI, hX, ⟨_, rfl, (by decide : (0:Int) ≤ (0:Int32).toInt), (Int.le_trans (by decide : (0:Int32).toInt ≤ (0:Int)) (by decide : (0:Int) ≤ 1)), (show (¬ (0 ≤ ar1.toInt ∧ ar1.toInt ≤ 3) → (g4 69 2).toInt = 1) ∧ ((0 ≤ ar1.toInt ∧ ar1.toInt ≤ 3) → ((gi 73 ar1.toNatClampNeg).toInt = -1 → (g4 69 2).toInt = 2) ∧ ((gi 73 ar1.toNatClampNeg).toInt ≠ -1 → ¬ (0 ≤ ar2.toInt ∧ ar2.toInt < (gi 73 ar1.toNatClampNeg).toInt) → (g4 69 2).toInt = 3) ∧ ((0 ≤ ar2.toInt ∧ ar2.toInt < (gi 73 ar1.toNatClampNeg).toInt) → (g4 69 2).toInt = 0)) from (by have ffs : (g4 69 2).toInt = 1 := (congrArg Int32.toInt (by rw [e4]; exact x_up2_at _ _ _ _ : g4 69 2 = 1)).trans (by decide); refine ⟨fun h3 => by omega, fun hi1 => ?_⟩; refine ⟨fun h4 => ?_, fun h4 h5 => ?_, fun h4 => ?_⟩ <;> omega))⟩⟩
  · have l5 : 0 ≤ ar1.toInt := t_lel (t_nlt h2) (by decide : (0:Int) ≤ (0:Int32).toInt)
    refine ev_loc f_X12_isTray (nx := 5) rfl rfl rfl rfl ?_
    refine ev_ic f_X12_isTray (nx := 6) (v := 4) rfl (by decide) rfl ?_
    refine ev_if f_X12_isTray (t1 := 13) (t2 := 9) rfl rfl rfl (fun h6 => ?_) (fun h6 => ?_)
    · have l7 : 4 ≤ ar1.toInt := t_lel h6 (by decide : (4:Int) ≤ (4:Int32).toInt)
      refine ev_ic f_X12_isTray (nx := 14) (v := 0) rfl (by decide) rfl ?_
      refine ev_retK1 f_X12_isTray rfl rfl rfl ?_
      refine ev_t f_X12_wrongPlace (t1 := 7) (t2 := 11) rfl rfl rfl (by decide) ?_
      refine ev_ic f_X12_wrongPlace (nx := 8) (v := 1) rfl (by decide) rfl ?_
      refine ev_jmp f_X12_wrongPlace (nx := 44) rfl rfl rfl ?_
      refine ev_retK1 f_X12_wrongPlace rfl rfl rfl ?_
      refine ev_loc f_X12_write (nx := 8) (lo' := [(5, .int 1), (0, .ref 69), (1, .int ar1), (2, .int ar2), (3, .long ar3)]) rfl rfl rfl rfl ?_
      refine ev_loc f_X12_write (nx := 10) rfl rfl rfl rfl ?_
      refine ev_f f_X12_write (t1 := 13) (t2 := 34) rfl rfl rfl (by decide) ?_
      refine ev_loc f_X12_write (nx := 35) rfl rfl rfl rfl ?_
      refine ev_loc f_X12_write (nx := 37) rfl rfl rfl rfl ?_
      refine ev_inV2 f_X12_write (nx := 40) (lo2 := [(0, .ref 69), (1, .int 1)]) rfl rfl rfl rfl f_X12_is (hI.wf.s rfl) rfl rfl rfl rfl rfl ?_
      refine ev_loc f_X12_is (nx := 1) rfl rfl rfl rfl ?_
      refine ev_loc f_X12_is (nx := 2) rfl rfl rfl rfl ?_
      refine ev_putIT f_X12_is (nx := 5) rfl (hI.wf.s rfl) rfl rfl rfl (hI.put0 (hI.wf.s rfl) rfl rfl) (hX.upI rfl) (fun g8 e8 hI hX => ?_)
      refine ev_loc f_X12_is (nx := 6) rfl rfl rfl rfl ?_
      refine ev_f f_X12_is (t1 := 9) (t2 := 13) rfl rfl rfl (by decide) ?_
      refine ev_ic f_X12_is (nx := 14) (v := 0) rfl (by decide) rfl ?_
      refine ev_retK1 f_X12_is rfl rfl rfl ?_
      exact ev_ret f_X12_write rfl rfl rfl ⟨_, _, _, rfl, hI, hX, ⟨_, rfl, (by decide : (0:Int) ≤ (0:Int32).toInt), (Int.le_trans (by decide : (0:Int32).toInt ≤ (0:Int)) (by decide : (0:Int) ≤ 1)), (show (¬ (0 ≤ ar1.toInt ∧ ar1.toInt ≤ 3) → (g8 69 2).toInt = 1) ∧ ((0 ≤ ar1.toInt ∧ ar1.toInt ≤ 3) → ((gi 73 ar1.toNatClampNeg).toInt = -1 → (g8 69 2).toInt = 2) ∧ ((gi 73 ar1.toNatClampNeg).toInt ≠ -1 → ¬ (0 ≤ ar2.toInt ∧ ar2.toInt < (gi 73 ar1.toNatClampNeg).toInt) → (g8 69 2).toInt = 3) ∧ ((0 ≤ ar2.toInt ∧ ar2.toInt < (gi 73 ar1.toNatClampNeg).toInt) → (g8 69 2).toInt = 0)) from (by have ffs : (g8 69 2).toInt = 1 := (congrArg Int32.toInt (by rw [e8]; exact x_up2_at _ _ _ _ : g8 69 2 = 1)).trans (by decide); refine ⟨fun h3 => by omega, fun hi1 => ?_⟩; refine ⟨fun h4 => ?_, fun h4 h5 => ?_, fun h4 => ?_⟩ <;> omega))⟩⟩
    · have u9 : ar1.toInt ≤ 3 := t_ltu (t_nle h6) (by decide : (4:Int32).toInt ≤ (4:Int)) rfl
      refine ev_ic f_X12_isTray (nx := 10) (v := 1) rfl (by decide) rfl ?_
      refine ev_jmp f_X12_isTray (nx := 14) rfl rfl rfl ?_
      refine ev_retK1 f_X12_isTray rfl rfl rfl ?_
      refine ev_f f_X12_wrongPlace (t1 := 7) (t2 := 11) rfl rfl rfl (by decide) ?_
      refine ev_loc f_X12_wrongPlace (nx := 12) rfl rfl rfl rfl ?_
      refine ev_getR f_X12_wrongPlace (nx := 15) rfl (hI.wf.s rfl) rfl rfl (hI.wf.r rfl) rfl rfl ?_
      refine ev_loc f_X12_wrongPlace (nx := 16) rfl rfl rfl rfl ?_
      refine ev_ialdT f_X12_wrongPlace (nx := 17) rfl (hI.wf.s rfl) l5 (by decide) u9 (by decide) rfl (fun w10 e10 => ?_)
      obtain ⟨l10, u10⟩ := hI.abi e10 (by decide +kernel : t_abr 73 0 3 (-1) 60 = true) l5 (by decide) u9 (by decide)
      refine ev_ic f_X12_wrongPlace (nx := 18) (v := -1) rfl (by decide) rfl ?_
      refine ev_if f_X12_wrongPlace (t1 := 21) (t2 := 25) rfl rfl rfl (fun h11 => ?_) (fun h11 => ?_)
      · have u12 : w10.toInt ≤ (-1) := t_equ h11 (by decide : ((-1):Int32).toInt ≤ ((-1):Int))
        refine ev_ic f_X12_wrongPlace (nx := 22) (v := 2) rfl (by decide) rfl ?_
        refine ev_jmp f_X12_wrongPlace (nx := 44) rfl rfl rfl ?_
        refine ev_retK1 f_X12_wrongPlace rfl rfl rfl ?_
        refine ev_loc f_X12_write (nx := 8) (lo' := [(5, .int 2), (0, .ref 69), (1, .int ar1), (2, .int ar2), (3, .long ar3)]) rfl rfl rfl rfl ?_
        refine ev_loc f_X12_write (nx := 10) rfl rfl rfl rfl ?_
        refine ev_f f_X12_write (t1 := 13) (t2 := 34) rfl rfl rfl (by decide) ?_
        refine ev_loc f_X12_write (nx := 35) rfl rfl rfl rfl ?_
        refine ev_loc f_X12_write (nx := 37) rfl rfl rfl rfl ?_
        refine ev_inV2 f_X12_write (nx := 40) (lo2 := [(0, .ref 69), (1, .int 2)]) rfl rfl rfl rfl f_X12_is (hI.wf.s rfl) rfl rfl rfl rfl rfl ?_
        refine ev_loc f_X12_is (nx := 1) rfl rfl rfl rfl ?_
        refine ev_loc f_X12_is (nx := 2) rfl rfl rfl rfl ?_
        refine ev_putIT f_X12_is (nx := 5) rfl (hI.wf.s rfl) rfl rfl rfl (hI.put0 (hI.wf.s rfl) rfl rfl) (hX.upI rfl) (fun g13 e13 hI hX => ?_)
        refine ev_loc f_X12_is (nx := 6) rfl rfl rfl rfl ?_
        refine ev_f f_X12_is (t1 := 9) (t2 := 13) rfl rfl rfl (by decide) ?_
        refine ev_ic f_X12_is (nx := 14) (v := 0) rfl (by decide) rfl ?_
        refine ev_retK1 f_X12_is rfl rfl rfl ?_
        exact ev_ret f_X12_write rfl rfl rfl ⟨_, _, _, rfl, hI, hX, ⟨_, rfl, (by decide : (0:Int) ≤ (0:Int32).toInt), (Int.le_trans (by decide : (0:Int32).toInt ≤ (0:Int)) (by decide : (0:Int) ≤ 1)), (show (¬ (0 ≤ ar1.toInt ∧ ar1.toInt ≤ 3) → (g13 69 2).toInt = 1) ∧ ((0 ≤ ar1.toInt ∧ ar1.toInt ≤ 3) → ((gi 73 ar1.toNatClampNeg).toInt = -1 → (g13 69 2).toInt = 2) ∧ ((gi 73 ar1.toNatClampNeg).toInt ≠ -1 → ¬ (0 ≤ ar2.toInt ∧ ar2.toInt < (gi 73 ar1.toNatClampNeg).toInt) → (g13 69 2).toInt = 3) ∧ ((0 ≤ ar2.toInt ∧ ar2.toInt < (gi 73 ar1.toNatClampNeg).toInt) → (g13 69 2).toInt = 0)) from (by have ffs : (g13 69 2).toInt = 2 := (congrArg Int32.toInt (by rw [e13]; exact x_up2_at _ _ _ _ : g13 69 2 = 2)).trans (by decide); have hfw10 : (gi 73 ar1.toNatClampNeg).toInt = w10.toInt := congrArg Int32.toInt e10.symm; refine ⟨fun h3 => by omega, fun hi1 => ?_⟩; refine ⟨fun h4 => ?_, fun h4 h5 => ?_, fun h4 => ?_⟩ <;> omega))⟩⟩
      · have r14 : w10.toInt ≠ (-1) := fun e => h11 (Int32.toInt_inj.mp (e.trans (by decide : ((-1):Int) = ((-1) : Int32).toInt)))
        have l15 : 0 ≤ w10.toInt := t_nel h11 l10 rfl rfl
        refine ev_loc f_X12_wrongPlace (nx := 26) rfl rfl rfl rfl ?_
        refine ev_if f_X12_wrongPlace (t1 := 39) (t2 := 29) rfl rfl rfl (fun h16 => ?_) (fun h16 => ?_)
        · have u17 : ar2.toInt ≤ (-1) := t_ltu h16 (by decide : (0:Int32).toInt ≤ (0:Int)) rfl
          refine ev_ic f_X12_wrongPlace (nx := 40) (v := 3) rfl (by decide) rfl ?_
          refine ev_jmp f_X12_wrongPlace (nx := 44) rfl rfl rfl ?_
          refine ev_retK1 f_X12_wrongPlace rfl rfl rfl ?_
          refine ev_loc f_X12_write (nx := 8) (lo' := [(5, .int 3), (0, .ref 69), (1, .int ar1), (2, .int ar2), (3, .long ar3)]) rfl rfl rfl rfl ?_
          refine ev_loc f_X12_write (nx := 10) rfl rfl rfl rfl ?_
          refine ev_f f_X12_write (t1 := 13) (t2 := 34) rfl rfl rfl (by decide) ?_
          refine ev_loc f_X12_write (nx := 35) rfl rfl rfl rfl ?_
          refine ev_loc f_X12_write (nx := 37) rfl rfl rfl rfl ?_
          refine ev_inV2 f_X12_write (nx := 40) (lo2 := [(0, .ref 69), (1, .int 3)]) rfl rfl rfl rfl f_X12_is (hI.wf.s rfl) rfl rfl rfl rfl rfl ?_
          refine ev_loc f_X12_is (nx := 1) rfl rfl rfl rfl ?_
          refine ev_loc f_X12_is (nx := 2) rfl rfl rfl rfl ?_
          refine ev_putIT f_X12_is (nx := 5) rfl (hI.wf.s rfl) rfl rfl rfl (hI.put0 (hI.wf.s rfl) rfl rfl) (hX.upI rfl) (fun g18 e18 hI hX => ?_)
          refine ev_loc f_X12_is (nx := 6) rfl rfl rfl rfl ?_
          refine ev_f f_X12_is (t1 := 9) (t2 := 13) rfl rfl rfl (by decide) ?_
          refine ev_ic f_X12_is (nx := 14) (v := 0) rfl (by decide) rfl ?_
          refine ev_retK1 f_X12_is rfl rfl rfl ?_
          exact ev_ret f_X12_write rfl rfl rfl ⟨_, _, _, rfl, hI, hX, ⟨_, rfl, (by decide : (0:Int) ≤ (0:Int32).toInt), (Int.le_trans (by decide : (0:Int32).toInt ≤ (0:Int)) (by decide : (0:Int) ≤ 1)), (show (¬ (0 ≤ ar1.toInt ∧ ar1.toInt ≤ 3) → (g18 69 2).toInt = 1) ∧ ((0 ≤ ar1.toInt ∧ ar1.toInt ≤ 3) → ((gi 73 ar1.toNatClampNeg).toInt = -1 → (g18 69 2).toInt = 2) ∧ ((gi 73 ar1.toNatClampNeg).toInt ≠ -1 → ¬ (0 ≤ ar2.toInt ∧ ar2.toInt < (gi 73 ar1.toNatClampNeg).toInt) → (g18 69 2).toInt = 3) ∧ ((0 ≤ ar2.toInt ∧ ar2.toInt < (gi 73 ar1.toNatClampNeg).toInt) → (g18 69 2).toInt = 0)) from (by have ffs : (g18 69 2).toInt = 3 := (congrArg Int32.toInt (by rw [e18]; exact x_up2_at _ _ _ _ : g18 69 2 = 3)).trans (by decide); have hfw10 : (gi 73 ar1.toNatClampNeg).toInt = w10.toInt := congrArg Int32.toInt e10.symm; refine ⟨fun h3 => by omega, fun hi1 => ?_⟩; refine ⟨fun h4 => ?_, fun h4 h5 => ?_, fun h4 => ?_⟩ <;> omega))⟩⟩
        · have l19 : 0 ≤ ar2.toInt := t_lel (t_nlt h16) (by decide : (0:Int) ≤ (0:Int32).toInt)
          refine ev_loc f_X12_wrongPlace (nx := 30) rfl rfl rfl rfl ?_
          refine ev_loc f_X12_wrongPlace (nx := 31) rfl rfl rfl rfl ?_
          refine ev_getR f_X12_wrongPlace (nx := 34) rfl (hI.wf.s rfl) rfl rfl (hI.wf.r rfl) rfl rfl ?_
          refine ev_loc f_X12_wrongPlace (nx := 35) rfl rfl rfl rfl ?_
          refine ev_ialdT f_X12_wrongPlace (nx := 36) rfl (hI.wf.s rfl) l5 (by decide) u9 (by decide) rfl (fun w20 e20 => ?_)
          rw [e20.trans e10.symm]
          refine ev_if f_X12_wrongPlace (t1 := 43) (t2 := 39) rfl rfl rfl (fun h21 => ?_) (fun h21 => ?_)
          · have r22 : ar2.toInt < w10.toInt := Int32.lt_iff_toInt_lt.mp h21
            have u23 : ar2.toInt ≤ 59 := t_ltu h21 u10 rfl
            have l24 : 1 ≤ w10.toInt := t_ltl h21 l19 rfl
            refine ev_ic f_X12_wrongPlace (nx := 44) (v := 0) rfl (by decide) rfl ?_
            refine ev_retK1 f_X12_wrongPlace rfl rfl rfl ?_
            refine ev_loc f_X12_write (nx := 8) (lo' := [(5, .int 0), (0, .ref 69), (1, .int ar1), (2, .int ar2), (3, .long ar3)]) rfl rfl rfl rfl ?_
            refine ev_loc f_X12_write (nx := 10) rfl rfl rfl rfl ?_
            refine ev_t f_X12_write (t1 := 13) (t2 := 34) rfl rfl rfl (by decide) ?_
            refine ev_loc f_X12_write (nx := 14) rfl rfl rfl rfl ?_
            refine ev_getR f_X12_write (nx := 17) rfl (hI.wf.s rfl) rfl rfl (hI.wf.r rfl) rfl rfl ?_
            refine ev_bp f_X12_write (nx := 19) (v := 60) rfl (by decide) rfl ?_
            refine ev_loc f_X12_write (nx := 20) rfl rfl rfl rfl ?_
            refine ev_mulL f_X12_write (nx := 21) (c := 60) (l := 0) (u := 180) rfl (by decide) (by decide) l5 u9 rfl rfl (by decide) (by decide) rfl (fun z25 e25 l25 u25 => ?_)
            refine ev_loc f_X12_write (nx := 22) rfl rfl rfl rfl ?_
            refine ev_addR f_X12_write (nx := 23) (l := 0) (u := 239) rfl l25 u25 l19 u23 rfl rfl (by decide) (by decide) rfl (fun z26 e26 l26 u26 => ?_)
            refine ev_loc f_X12_write (nx := 24) rfl rfl rfl rfl ?_
            refine ev_loc f_X12_write (nx := 25) rfl rfl rfl rfl ?_
            refine ev_getR f_X12_write (nx := 28) rfl (hI.wf.s rfl) rfl rfl (hI.wf.r rfl) rfl rfl ?_
            refine ev_loc f_X12_write (nx := 29) rfl rfl rfl rfl ?_
            refine ev_ialdT f_X12_write (nx := 30) rfl (hI.wf.s rfl) l5 (by decide) u9 (by decide) rfl (fun w27 e27 => ?_)
            obtain ⟨l27, u27⟩ := hI.abi e27 (by decide +kernel : t_abr 72 0 3 0 3 = true) l5 (by decide) u9 (by decide)
            refine ev_inS2 f_X12_write (nx := 33) (lo2 := [(0, .long ar3), (2, .int w27)]) rfl rfl rfl rfl f_X12_cut rfl rfl rfl rfl ?_
            refine ev_loc f_X12_cut (nx := 1) rfl rfl rfl rfl ?_
            refine ev_if f_X12_cut (t1 := 4) (t2 := 11) rfl rfl rfl (fun h28 => ?_) (fun h28 => ?_)
            · have u29 : w27.toInt ≤ 0 := t_equ h28 (by decide : (0:Int32).toInt ≤ (0:Int))
              refine ev_loc f_X12_cut (nx := 5) rfl rfl rfl rfl ?_
              refine ev_anyIE f_X12_cut (nx := 6) rfl rfl rfl rfl (fun z30 e30 => ?_)
              refine ev_anyIE f_X12_cut (nx := 7) rfl rfl rfl rfl (fun z31 e31 => ?_)
              refine ev_anyLE f_X12_cut (nx := 8) rfl rfl rfl rfl (fun z32 e32 => ?_)
              have i32 : z32.toInt = z31.toInt := by rw [e32]; exact Int32.toInt_toInt64 _
              refine ev_jmp f_X12_cut (nx := 35) rfl rfl rfl ?_
              refine ev_retK1 f_X12_cut rfl rfl rfl ?_
              refine ev_lastT f_X12_write (nx := 34) rfl (hI.wf.s rfl) l26 (by decide) u26 (by decide) rfl (hX.upL (t_inA_ok rfl)) (fun g33 e33 hX => ?_)
              refine ev_loc f_X12_write (nx := 35) rfl rfl rfl rfl ?_
              refine ev_loc f_X12_write (nx := 37) rfl rfl rfl rfl ?_
              refine ev_inV2 f_X12_write (nx := 40) (lo2 := [(0, .ref 69), (1, .int 0)]) rfl rfl rfl rfl f_X12_is (hI.wf.s rfl) rfl rfl rfl rfl rfl ?_
              refine ev_loc f_X12_is (nx := 1) rfl rfl rfl rfl ?_
              refine ev_loc f_X12_is (nx := 2) rfl rfl rfl rfl ?_
              refine ev_putIT f_X12_is (nx := 5) rfl (hI.wf.s rfl) rfl rfl rfl (hI.put0 (hI.wf.s rfl) rfl rfl) (hX.upI rfl) (fun g34 e34 hI hX => ?_)
              refine ev_loc f_X12_is (nx := 6) rfl rfl rfl rfl ?_
              refine ev_t f_X12_is (t1 := 9) (t2 := 13) rfl rfl rfl (by decide) ?_
              refine ev_ic f_X12_is (nx := 10) (v := 1) rfl (by decide) rfl ?_
              refine ev_jmp f_X12_is (nx := 14) rfl rfl rfl ?_
              refine ev_retK1 f_X12_is rfl rfl rfl ?_
              exact ev_ret f_X12_write rfl rfl rfl ⟨_, _, _, rfl, hI, hX, ⟨_, rfl, (Int.le_trans (by decide : (0:Int) ≤ 1) (by decide : (1:Int) ≤ (1:Int32).toInt)), (by decide : (1:Int32).toInt ≤ (1:Int)), (show (¬ (0 ≤ ar1.toInt ∧ ar1.toInt ≤ 3) → (g34 69 2).toInt = 1) ∧ ((0 ≤ ar1.toInt ∧ ar1.toInt ≤ 3) → ((gi 73 ar1.toNatClampNeg).toInt = -1 → (g34 69 2).toInt = 2) ∧ ((gi 73 ar1.toNatClampNeg).toInt ≠ -1 → ¬ (0 ≤ ar2.toInt ∧ ar2.toInt < (gi 73 ar1.toNatClampNeg).toInt) → (g34 69 2).toInt = 3) ∧ ((0 ≤ ar2.toInt ∧ ar2.toInt < (gi 73 ar1.toNatClampNeg).toInt) → (g34 69 2).toInt = 0)) from (by have ffs : (g34 69 2).toInt = 0 := (congrArg Int32.toInt (by rw [e34]; exact x_up2_at _ _ _ _ : g34 69 2 = 0)).trans (by decide); have hfw10 : (gi 73 ar1.toNatClampNeg).toInt = w10.toInt := congrArg Int32.toInt e10.symm; have hfw27 : (gi 72 ar1.toNatClampNeg).toInt = w27.toInt := congrArg Int32.toInt e27.symm; refine ⟨fun h3 => by omega, fun hi1 => ?_⟩; refine ⟨fun h4 => ?_, fun h4 h5 => ?_, fun h4 => ?_⟩ <;> omega))⟩⟩
            · have r35 : w27.toInt ≠ 0 := fun e => h28 (Int32.toInt_inj.mp (e.trans (by decide : (0:Int) = (0 : Int32).toInt)))
              have l36 : 1 ≤ w27.toInt := t_nel h28 l27 rfl rfl
              refine ev_loc f_X12_cut (nx := 12) rfl rfl rfl rfl ?_
              refine ev_ic f_X12_cut (nx := 13) (v := 1) rfl (by decide) rfl ?_
              refine ev_if f_X12_cut (t1 := 16) (t2 := 23) rfl rfl rfl (fun h37 => ?_) (fun h37 => ?_)
              · have u38 : w27.toInt ≤ 1 := t_equ h37 (by decide : (1:Int32).toInt ≤ (1:Int))
                refine ev_loc f_X12_cut (nx := 17) rfl rfl rfl rfl ?_
                refine ev_anyIE f_X12_cut (nx := 18) rfl rfl rfl rfl (fun z39 e39 => ?_)
                refine ev_anyIE f_X12_cut (nx := 19) rfl rfl rfl rfl (fun z40 e40 => ?_)
                refine ev_anyLE f_X12_cut (nx := 20) rfl rfl rfl rfl (fun z41 e41 => ?_)
                have i41 : z41.toInt = z40.toInt := by rw [e41]; exact Int32.toInt_toInt64 _
                refine ev_jmp f_X12_cut (nx := 35) rfl rfl rfl ?_
                refine ev_retK1 f_X12_cut rfl rfl rfl ?_
                refine ev_lastT f_X12_write (nx := 34) rfl (hI.wf.s rfl) l26 (by decide) u26 (by decide) rfl (hX.upL (t_inA_ok rfl)) (fun g42 e42 hX => ?_)
                refine ev_loc f_X12_write (nx := 35) rfl rfl rfl rfl ?_
                refine ev_loc f_X12_write (nx := 37) rfl rfl rfl rfl ?_
                refine ev_inV2 f_X12_write (nx := 40) (lo2 := [(0, .ref 69), (1, .int 0)]) rfl rfl rfl rfl f_X12_is (hI.wf.s rfl) rfl rfl rfl rfl rfl ?_
                refine ev_loc f_X12_is (nx := 1) rfl rfl rfl rfl ?_
                refine ev_loc f_X12_is (nx := 2) rfl rfl rfl rfl ?_
                refine ev_putIT f_X12_is (nx := 5) rfl (hI.wf.s rfl) rfl rfl rfl (hI.put0 (hI.wf.s rfl) rfl rfl) (hX.upI rfl) (fun g43 e43 hI hX => ?_)
                refine ev_loc f_X12_is (nx := 6) rfl rfl rfl rfl ?_
                refine ev_t f_X12_is (t1 := 9) (t2 := 13) rfl rfl rfl (by decide) ?_
                refine ev_ic f_X12_is (nx := 10) (v := 1) rfl (by decide) rfl ?_
                refine ev_jmp f_X12_is (nx := 14) rfl rfl rfl ?_
                refine ev_retK1 f_X12_is rfl rfl rfl ?_
                exact ev_ret f_X12_write rfl rfl rfl ⟨_, _, _, rfl, hI, hX, ⟨_, rfl, (Int.le_trans (by decide : (0:Int) ≤ 1) (by decide : (1:Int) ≤ (1:Int32).toInt)), (by decide : (1:Int32).toInt ≤ (1:Int)), (show (¬ (0 ≤ ar1.toInt ∧ ar1.toInt ≤ 3) → (g43 69 2).toInt = 1) ∧ ((0 ≤ ar1.toInt ∧ ar1.toInt ≤ 3) → ((gi 73 ar1.toNatClampNeg).toInt = -1 → (g43 69 2).toInt = 2) ∧ ((gi 73 ar1.toNatClampNeg).toInt ≠ -1 → ¬ (0 ≤ ar2.toInt ∧ ar2.toInt < (gi 73 ar1.toNatClampNeg).toInt) → (g43 69 2).toInt = 3) ∧ ((0 ≤ ar2.toInt ∧ ar2.toInt < (gi 73 ar1.toNatClampNeg).toInt) → (g43 69 2).toInt = 0)) from (by have ffs : (g43 69 2).toInt = 0 := (congrArg Int32.toInt (by rw [e43]; exact x_up2_at _ _ _ _ : g43 69 2 = 0)).trans (by decide); have hfw10 : (gi 73 ar1.toNatClampNeg).toInt = w10.toInt := congrArg Int32.toInt e10.symm; have hfw27 : (gi 72 ar1.toNatClampNeg).toInt = w27.toInt := congrArg Int32.toInt e27.symm; refine ⟨fun h3 => by omega, fun hi1 => ?_⟩; refine ⟨fun h4 => ?_, fun h4 h5 => ?_, fun h4 => ?_⟩ <;> omega))⟩⟩
              · have r44 : w27.toInt ≠ 1 := fun e => h37 (Int32.toInt_inj.mp (e.trans (by decide : (1:Int) = (1 : Int32).toInt)))
                have l45 : 2 ≤ w27.toInt := t_nel h37 l36 rfl rfl
                refine ev_loc f_X12_cut (nx := 24) rfl rfl rfl rfl ?_
                refine ev_ic f_X12_cut (nx := 25) (v := 2) rfl (by decide) rfl ?_
                refine ev_if f_X12_cut (t1 := 28) (t2 := 34) rfl rfl rfl (fun h46 => ?_) (fun h46 => ?_)
                · have u47 : w27.toInt ≤ 2 := t_equ h46 (by decide : (2:Int32).toInt ≤ (2:Int))
                  refine ev_loc f_X12_cut (nx := 29) rfl rfl rfl rfl ?_
                  refine ev_anyIE f_X12_cut (nx := 30) rfl rfl rfl rfl (fun z48 e48 => ?_)
                  refine ev_anyLE f_X12_cut (nx := 31) rfl rfl rfl rfl (fun z49 e49 => ?_)
                  have i49 : z49.toInt = z48.toInt := by rw [e49]; exact Int32.toInt_toInt64 _
                  refine ev_jmp f_X12_cut (nx := 35) rfl rfl rfl ?_
                  refine ev_retK1 f_X12_cut rfl rfl rfl ?_
                  refine ev_lastT f_X12_write (nx := 34) rfl (hI.wf.s rfl) l26 (by decide) u26 (by decide) rfl (hX.upL (t_inA_ok rfl)) (fun g50 e50 hX => ?_)
                  refine ev_loc f_X12_write (nx := 35) rfl rfl rfl rfl ?_
                  refine ev_loc f_X12_write (nx := 37) rfl rfl rfl rfl ?_
                  refine ev_inV2 f_X12_write (nx := 40) (lo2 := [(0, .ref 69), (1, .int 0)]) rfl rfl rfl rfl f_X12_is (hI.wf.s rfl) rfl rfl rfl rfl rfl ?_
                  refine ev_loc f_X12_is (nx := 1) rfl rfl rfl rfl ?_
                  refine ev_loc f_X12_is (nx := 2) rfl rfl rfl rfl ?_
                  refine ev_putIT f_X12_is (nx := 5) rfl (hI.wf.s rfl) rfl rfl rfl (hI.put0 (hI.wf.s rfl) rfl rfl) (hX.upI rfl) (fun g51 e51 hI hX => ?_)
                  refine ev_loc f_X12_is (nx := 6) rfl rfl rfl rfl ?_
                  refine ev_t f_X12_is (t1 := 9) (t2 := 13) rfl rfl rfl (by decide) ?_
                  refine ev_ic f_X12_is (nx := 10) (v := 1) rfl (by decide) rfl ?_
                  refine ev_jmp f_X12_is (nx := 14) rfl rfl rfl ?_
                  refine ev_retK1 f_X12_is rfl rfl rfl ?_
                  exact ev_ret f_X12_write rfl rfl rfl ⟨_, _, _, rfl, hI, hX, ⟨_, rfl, (Int.le_trans (by decide : (0:Int) ≤ 1) (by decide : (1:Int) ≤ (1:Int32).toInt)), (by decide : (1:Int32).toInt ≤ (1:Int)), (show (¬ (0 ≤ ar1.toInt ∧ ar1.toInt ≤ 3) → (g51 69 2).toInt = 1) ∧ ((0 ≤ ar1.toInt ∧ ar1.toInt ≤ 3) → ((gi 73 ar1.toNatClampNeg).toInt = -1 → (g51 69 2).toInt = 2) ∧ ((gi 73 ar1.toNatClampNeg).toInt ≠ -1 → ¬ (0 ≤ ar2.toInt ∧ ar2.toInt < (gi 73 ar1.toNatClampNeg).toInt) → (g51 69 2).toInt = 3) ∧ ((0 ≤ ar2.toInt ∧ ar2.toInt < (gi 73 ar1.toNatClampNeg).toInt) → (g51 69 2).toInt = 0)) from (by have ffs : (g51 69 2).toInt = 0 := (congrArg Int32.toInt (by rw [e51]; exact x_up2_at _ _ _ _ : g51 69 2 = 0)).trans (by decide); have hfw10 : (gi 73 ar1.toNatClampNeg).toInt = w10.toInt := congrArg Int32.toInt e10.symm; have hfw27 : (gi 72 ar1.toNatClampNeg).toInt = w27.toInt := congrArg Int32.toInt e27.symm; refine ⟨fun h3 => by omega, fun hi1 => ?_⟩; refine ⟨fun h4 => ?_, fun h4 h5 => ?_, fun h4 => ?_⟩ <;> omega))⟩⟩
                · have r52 : w27.toInt ≠ 2 := fun e => h46 (Int32.toInt_inj.mp (e.trans (by decide : (2:Int) = (2 : Int32).toInt)))
                  have l53 : 3 ≤ w27.toInt := t_nel h46 l45 rfl rfl
                  refine ev_loc f_X12_cut (nx := 35) rfl rfl rfl rfl ?_
                  refine ev_retK1 f_X12_cut rfl rfl rfl ?_
                  refine ev_lastT f_X12_write (nx := 34) rfl (hI.wf.s rfl) l26 (by decide) u26 (by decide) rfl (hX.upL (t_inA_ok rfl)) (fun g54 e54 hX => ?_)
                  refine ev_loc f_X12_write (nx := 35) rfl rfl rfl rfl ?_
                  refine ev_loc f_X12_write (nx := 37) rfl rfl rfl rfl ?_
                  refine ev_inV2 f_X12_write (nx := 40) (lo2 := [(0, .ref 69), (1, .int 0)]) rfl rfl rfl rfl f_X12_is (hI.wf.s rfl) rfl rfl rfl rfl rfl ?_
                  refine ev_loc f_X12_is (nx := 1) rfl rfl rfl rfl ?_
                  refine ev_loc f_X12_is (nx := 2) rfl rfl rfl rfl ?_
                  refine ev_putIT f_X12_is (nx := 5) rfl (hI.wf.s rfl) rfl rfl rfl (hI.put0 (hI.wf.s rfl) rfl rfl) (hX.upI rfl) (fun g55 e55 hI hX => ?_)
                  refine ev_loc f_X12_is (nx := 6) rfl rfl rfl rfl ?_
                  refine ev_t f_X12_is (t1 := 9) (t2 := 13) rfl rfl rfl (by decide) ?_
                  refine ev_ic f_X12_is (nx := 10) (v := 1) rfl (by decide) rfl ?_
                  refine ev_jmp f_X12_is (nx := 14) rfl rfl rfl ?_
                  refine ev_retK1 f_X12_is rfl rfl rfl ?_
                  exact ev_ret f_X12_write rfl rfl rfl ⟨_, _, _, rfl, hI, hX, ⟨_, rfl, (Int.le_trans (by decide : (0:Int) ≤ 1) (by decide : (1:Int) ≤ (1:Int32).toInt)), (by decide : (1:Int32).toInt ≤ (1:Int)), (show (¬ (0 ≤ ar1.toInt ∧ ar1.toInt ≤ 3) → (g55 69 2).toInt = 1) ∧ ((0 ≤ ar1.toInt ∧ ar1.toInt ≤ 3) → ((gi 73 ar1.toNatClampNeg).toInt = -1 → (g55 69 2).toInt = 2) ∧ ((gi 73 ar1.toNatClampNeg).toInt ≠ -1 → ¬ (0 ≤ ar2.toInt ∧ ar2.toInt < (gi 73 ar1.toNatClampNeg).toInt) → (g55 69 2).toInt = 3) ∧ ((0 ≤ ar2.toInt ∧ ar2.toInt < (gi 73 ar1.toNatClampNeg).toInt) → (g55 69 2).toInt = 0)) from (by have ffs : (g55 69 2).toInt = 0 := (congrArg Int32.toInt (by rw [e55]; exact x_up2_at _ _ _ _ : g55 69 2 = 0)).trans (by decide); have hfw10 : (gi 73 ar1.toNatClampNeg).toInt = w10.toInt := congrArg Int32.toInt e10.symm; have hfw27 : (gi 72 ar1.toNatClampNeg).toInt = w27.toInt := congrArg Int32.toInt e27.symm; refine ⟨fun h3 => by omega, fun hi1 => ?_⟩; refine ⟨fun h4 => ?_, fun h4 h5 => ?_, fun h4 => ?_⟩ <;> omega))⟩⟩
          · have r56 : w10.toInt ≤ ar2.toInt := Int32.le_iff_toInt_le.mp (t_nlt h21)
            refine ev_ic f_X12_wrongPlace (nx := 40) (v := 3) rfl (by decide) rfl ?_
            refine ev_jmp f_X12_wrongPlace (nx := 44) rfl rfl rfl ?_
            refine ev_retK1 f_X12_wrongPlace rfl rfl rfl ?_
            refine ev_loc f_X12_write (nx := 8) (lo' := [(5, .int 3), (0, .ref 69), (1, .int ar1), (2, .int ar2), (3, .long ar3)]) rfl rfl rfl rfl ?_
            refine ev_loc f_X12_write (nx := 10) rfl rfl rfl rfl ?_
            refine ev_f f_X12_write (t1 := 13) (t2 := 34) rfl rfl rfl (by decide) ?_
            refine ev_loc f_X12_write (nx := 35) rfl rfl rfl rfl ?_
            refine ev_loc f_X12_write (nx := 37) rfl rfl rfl rfl ?_
            refine ev_inV2 f_X12_write (nx := 40) (lo2 := [(0, .ref 69), (1, .int 3)]) rfl rfl rfl rfl f_X12_is (hI.wf.s rfl) rfl rfl rfl rfl rfl ?_
            refine ev_loc f_X12_is (nx := 1) rfl rfl rfl rfl ?_
            refine ev_loc f_X12_is (nx := 2) rfl rfl rfl rfl ?_
            refine ev_putIT f_X12_is (nx := 5) rfl (hI.wf.s rfl) rfl rfl rfl (hI.put0 (hI.wf.s rfl) rfl rfl) (hX.upI rfl) (fun g57 e57 hI hX => ?_)
            refine ev_loc f_X12_is (nx := 6) rfl rfl rfl rfl ?_
            refine ev_f f_X12_is (t1 := 9) (t2 := 13) rfl rfl rfl (by decide) ?_
            refine ev_ic f_X12_is (nx := 14) (v := 0) rfl (by decide) rfl ?_
            refine ev_retK1 f_X12_is rfl rfl rfl ?_
            exact ev_ret f_X12_write rfl rfl rfl ⟨_, _, _, rfl, hI, hX, ⟨_, rfl, (by decide : (0:Int) ≤ (0:Int32).toInt), (Int.le_trans (by decide : (0:Int32).toInt ≤ (0:Int)) (by decide : (0:Int) ≤ 1)), (show (¬ (0 ≤ ar1.toInt ∧ ar1.toInt ≤ 3) → (g57 69 2).toInt = 1) ∧ ((0 ≤ ar1.toInt ∧ ar1.toInt ≤ 3) → ((gi 73 ar1.toNatClampNeg).toInt = -1 → (g57 69 2).toInt = 2) ∧ ((gi 73 ar1.toNatClampNeg).toInt ≠ -1 → ¬ (0 ≤ ar2.toInt ∧ ar2.toInt < (gi 73 ar1.toNatClampNeg).toInt) → (g57 69 2).toInt = 3) ∧ ((0 ≤ ar2.toInt ∧ ar2.toInt < (gi 73 ar1.toNatClampNeg).toInt) → (g57 69 2).toInt = 0)) from (by have ffs : (g57 69 2).toInt = 3 := (congrArg Int32.toInt (by rw [e57]; exact x_up2_at _ _ _ _ : g57 69 2 = 3)).trans (by decide); have hfw10 : (gi 73 ar1.toNatClampNeg).toInt = w10.toInt := congrArg Int32.toInt e10.symm; refine ⟨fun h3 => by omega, fun hi1 => ?_⟩; refine ⟨fun h4 => ?_, fun h4 h5 => ?_, fun h4 => ?_⟩ <;> omega))⟩⟩
noncomputable def wl_g_read : List (Nat × Nat) := [(69, 2)]
noncomputable def Q_g_read (gi : Nat → Nat → Int32) (gl : Nat → Nat → Int64) (gr : Nat → Nat → Value) (ar1 : Int32) (ar2 : Int32) : Int64 → (Nat → Nat → Int32) → (Nat → Nat → Int64) → (Nat → Nat → Value) → Prop := fun (v : Int64) (gi2 : Nat → Nat → Int32) (gl2 : Nat → Nat → Int64) (gr2 : Nat → Nat → Value) => (¬ (0 ≤ ar1.toInt ∧ ar1.toInt ≤ 3) → (gi2 69 2).toInt = 1) ∧ ((0 ≤ ar1.toInt ∧ ar1.toInt ≤ 3) → ((gi 73 ar1.toNatClampNeg).toInt = -1 → (gi2 69 2).toInt = 2) ∧ ((gi 73 ar1.toNatClampNeg).toInt ≠ -1 → ¬ (0 ≤ ar2.toInt ∧ ar2.toInt < (gi 73 ar1.toNatClampNeg).toInt) → (gi2 69 2).toInt = 3) ∧ ((0 ≤ ar2.toInt ∧ ar2.toInt < (gi 73 ar1.toNatClampNeg).toInt) → (gi2 69 2).toInt = 0))
theorem c_g_read {X : x_Ext} {d : Nat} {sh : List (Nat ⊕ (Nat × Nat))} {gi : Nat → Nat → Int32} {gl : Nat → Nat → Int64} {gr : Nat → Nat → Value} (hI : t_I sh gi gr) (ar1 : Int32) (ar2 : Int32) : x_Me X (d + 3) n_X12_read [.ref 69, .int ar1, .int ar2] (sh, gi, gl, gr) (t_PL wl_g_read sh gi gl gr (Q_g_read gi gl gr ar1 ar2)) := by
  have hX : t_X wl_g_read sh gi gl gr gi gl gr := t_X.rf
  refine me_i f_X12_read (hI.wf.s rfl) rfl rfl rfl ?_
  refine ev_loc f_X12_read (nx := 1) rfl rfl rfl rfl ?_
  refine ev_loc f_X12_read (nx := 2) rfl rfl rfl rfl ?_
  refine ev_loc f_X12_read (nx := 3) rfl rfl rfl rfl ?_
  refine ev_loc f_X12_read (nx := 4) rfl rfl rfl rfl ?_
  refine ev_inV3 f_X12_read (nx := 7) (lo2 := [(0, .ref 69), (1, .int ar1), (2, .int ar2)]) rfl rfl rfl rfl f_X12_wrongPlace (hI.wf.s rfl) rfl rfl rfl rfl rfl ?_
  refine ev_loc f_X12_wrongPlace (nx := 1) rfl rfl rfl rfl ?_
  refine ev_inS1 f_X12_wrongPlace (nx := 4) (lo2 := [(0, .int ar1)]) rfl rfl rfl rfl f_X12_isTray rfl rfl rfl rfl ?_
  refine ev_loc f_X12_isTray (nx := 1) rfl rfl rfl rfl ?_
  refine ev_if f_X12_isTray (t1 := 13) (t2 := 4) rfl rfl rfl (fun h2 => ?_) (fun h2 => ?_)
  · have u3 : ar1.toInt ≤ (-1) := t_ltu h2 (by decide : (0:Int32).toInt ≤ (0:Int)) rfl
    refine ev_ic f_X12_isTray (nx := 14) (v := 0) rfl (by decide) rfl ?_
    refine ev_retK1 f_X12_isTray rfl rfl rfl ?_
    refine ev_t f_X12_wrongPlace (t1 := 7) (t2 := 11) rfl rfl rfl (by decide) ?_
    refine ev_ic f_X12_wrongPlace (nx := 8) (v := 1) rfl (by decide) rfl ?_
    refine ev_jmp f_X12_wrongPlace (nx := 44) rfl rfl rfl ?_
    refine ev_retK1 f_X12_wrongPlace rfl rfl rfl ?_
    refine ev_putIT f_X12_read (nx := 10) rfl (hI.wf.s rfl) rfl rfl rfl (hI.put0 (hI.wf.s rfl) rfl rfl) (hX.upI rfl) (fun g4 e4 hI hX => ?_)
    refine ev_loc f_X12_read (nx := 11) rfl rfl rfl rfl ?_
    refine ev_gvI f_X12_read (nx := 14) (w := 1) rfl (hI.wf.s rfl) rfl rfl (by rw [e4]; exact x_up2_at _ _ _ _ : g4 69 2 = 1) rfl ?_
    refine ev_f f_X12_read (t1 := 23) (t2 := 17) rfl rfl rfl (by decide) ?_
    refine ev_ldL f_X12_read (nx := 20) (v := -1) rfl (by decide) rfl ?_
    refine ev_jmp f_X12_read (nx := 34) rfl rfl rfl ?_
    exact ev_ret f_X12_read rfl rfl rfl ⟨_, _, _, rfl, hI, hX, ⟨_, rfl, (show (¬ (0 ≤ ar1.toInt ∧ ar1.toInt ≤ 3) → (g4 69 2).toInt = 1) ∧ ((0 ≤ ar1.toInt ∧ ar1.toInt ≤ 3) → ((gi 73 ar1.toNatClampNeg).toInt = -1 → (g4 69 2).toInt = 2) ∧ ((gi 73 ar1.toNatClampNeg).toInt ≠ -1 → ¬ (0 ≤ ar2.toInt ∧ ar2.toInt < (gi 73 ar1.toNatClampNeg).toInt) → (g4 69 2).toInt = 3) ∧ ((0 ≤ ar2.toInt ∧ ar2.toInt < (gi 73 ar1.toNatClampNeg).toInt) → (g4 69 2).toInt = 0)) from (by have ffs : (g4 69 2).toInt = 1 := (congrArg Int32.toInt (by rw [e4]; exact x_up2_at _ _ _ _ : g4 69 2 = 1)).trans (by decide); refine ⟨fun h3 => by omega, fun hi1 => ?_⟩; refine ⟨fun h4 => ?_, fun h4 h5 => ?_, fun h4 => ?_⟩ <;> omega))⟩⟩
  · have l5 : 0 ≤ ar1.toInt := t_lel (t_nlt h2) (by decide : (0:Int) ≤ (0:Int32).toInt)
    refine ev_loc f_X12_isTray (nx := 5) rfl rfl rfl rfl ?_
    refine ev_ic f_X12_isTray (nx := 6) (v := 4) rfl (by decide) rfl ?_
    refine ev_if f_X12_isTray (t1 := 13) (t2 := 9) rfl rfl rfl (fun h6 => ?_) (fun h6 => ?_)
    · have l7 : 4 ≤ ar1.toInt := t_lel h6 (by decide : (4:Int) ≤ (4:Int32).toInt)
      refine ev_ic f_X12_isTray (nx := 14) (v := 0) rfl (by decide) rfl ?_
      refine ev_retK1 f_X12_isTray rfl rfl rfl ?_
      refine ev_t f_X12_wrongPlace (t1 := 7) (t2 := 11) rfl rfl rfl (by decide) ?_
      refine ev_ic f_X12_wrongPlace (nx := 8) (v := 1) rfl (by decide) rfl ?_
      refine ev_jmp f_X12_wrongPlace (nx := 44) rfl rfl rfl ?_
      refine ev_retK1 f_X12_wrongPlace rfl rfl rfl ?_
      refine ev_putIT f_X12_read (nx := 10) rfl (hI.wf.s rfl) rfl rfl rfl (hI.put0 (hI.wf.s rfl) rfl rfl) (hX.upI rfl) (fun g8 e8 hI hX => ?_)
      refine ev_loc f_X12_read (nx := 11) rfl rfl rfl rfl ?_
      refine ev_gvI f_X12_read (nx := 14) (w := 1) rfl (hI.wf.s rfl) rfl rfl (by rw [e8]; exact x_up2_at _ _ _ _ : g8 69 2 = 1) rfl ?_
      refine ev_f f_X12_read (t1 := 23) (t2 := 17) rfl rfl rfl (by decide) ?_
      refine ev_ldL f_X12_read (nx := 20) (v := -1) rfl (by decide) rfl ?_
      refine ev_jmp f_X12_read (nx := 34) rfl rfl rfl ?_
      exact ev_ret f_X12_read rfl rfl rfl ⟨_, _, _, rfl, hI, hX, ⟨_, rfl, (show (¬ (0 ≤ ar1.toInt ∧ ar1.toInt ≤ 3) → (g8 69 2).toInt = 1) ∧ ((0 ≤ ar1.toInt ∧ ar1.toInt ≤ 3) → ((gi 73 ar1.toNatClampNeg).toInt = -1 → (g8 69 2).toInt = 2) ∧ ((gi 73 ar1.toNatClampNeg).toInt ≠ -1 → ¬ (0 ≤ ar2.toInt ∧ ar2.toInt < (gi 73 ar1.toNatClampNeg).toInt) → (g8 69 2).toInt = 3) ∧ ((0 ≤ ar2.toInt ∧ ar2.toInt < (gi 73 ar1.toNatClampNeg).toInt) → (g8 69 2).toInt = 0)) from (by have ffs : (g8 69 2).toInt = 1 := (congrArg Int32.toInt (by rw [e8]; exact x_up2_at _ _ _ _ : g8 69 2 = 1)).trans (by decide); refine ⟨fun h3 => by omega, fun hi1 => ?_⟩; refine ⟨fun h4 => ?_, fun h4 h5 => ?_, fun h4 => ?_⟩ <;> omega))⟩⟩
    · have u9 : ar1.toInt ≤ 3 := t_ltu (t_nle h6) (by decide : (4:Int32).toInt ≤ (4:Int)) rfl
      refine ev_ic f_X12_isTray (nx := 10) (v := 1) rfl (by decide) rfl ?_
      refine ev_jmp f_X12_isTray (nx := 14) rfl rfl rfl ?_
      refine ev_retK1 f_X12_isTray rfl rfl rfl ?_
      refine ev_f f_X12_wrongPlace (t1 := 7) (t2 := 11) rfl rfl rfl (by decide) ?_
      refine ev_loc f_X12_wrongPlace (nx := 12) rfl rfl rfl rfl ?_
      refine ev_getR f_X12_wrongPlace (nx := 15) rfl (hI.wf.s rfl) rfl rfl (hI.wf.r rfl) rfl rfl ?_
      refine ev_loc f_X12_wrongPlace (nx := 16) rfl rfl rfl rfl ?_
      refine ev_ialdT f_X12_wrongPlace (nx := 17) rfl (hI.wf.s rfl) l5 (by decide) u9 (by decide) rfl (fun w10 e10 => ?_)
      obtain ⟨l10, u10⟩ := hI.abi e10 (by decide +kernel : t_abr 73 0 3 (-1) 60 = true) l5 (by decide) u9 (by decide)
      refine ev_ic f_X12_wrongPlace (nx := 18) (v := -1) rfl (by decide) rfl ?_
      refine ev_if f_X12_wrongPlace (t1 := 21) (t2 := 25) rfl rfl rfl (fun h11 => ?_) (fun h11 => ?_)
      · have u12 : w10.toInt ≤ (-1) := t_equ h11 (by decide : ((-1):Int32).toInt ≤ ((-1):Int))
        refine ev_ic f_X12_wrongPlace (nx := 22) (v := 2) rfl (by decide) rfl ?_
        refine ev_jmp f_X12_wrongPlace (nx := 44) rfl rfl rfl ?_
        refine ev_retK1 f_X12_wrongPlace rfl rfl rfl ?_
        refine ev_putIT f_X12_read (nx := 10) rfl (hI.wf.s rfl) rfl rfl rfl (hI.put0 (hI.wf.s rfl) rfl rfl) (hX.upI rfl) (fun g13 e13 hI hX => ?_)
        refine ev_loc f_X12_read (nx := 11) rfl rfl rfl rfl ?_
        refine ev_gvI f_X12_read (nx := 14) (w := 2) rfl (hI.wf.s rfl) rfl rfl (by rw [e13]; exact x_up2_at _ _ _ _ : g13 69 2 = 2) rfl ?_
        refine ev_f f_X12_read (t1 := 23) (t2 := 17) rfl rfl rfl (by decide) ?_
        refine ev_ldL f_X12_read (nx := 20) (v := -1) rfl (by decide) rfl ?_
        refine ev_jmp f_X12_read (nx := 34) rfl rfl rfl ?_
        exact ev_ret f_X12_read rfl rfl rfl ⟨_, _, _, rfl, hI, hX, ⟨_, rfl, (show (¬ (0 ≤ ar1.toInt ∧ ar1.toInt ≤ 3) → (g13 69 2).toInt = 1) ∧ ((0 ≤ ar1.toInt ∧ ar1.toInt ≤ 3) → ((gi 73 ar1.toNatClampNeg).toInt = -1 → (g13 69 2).toInt = 2) ∧ ((gi 73 ar1.toNatClampNeg).toInt ≠ -1 → ¬ (0 ≤ ar2.toInt ∧ ar2.toInt < (gi 73 ar1.toNatClampNeg).toInt) → (g13 69 2).toInt = 3) ∧ ((0 ≤ ar2.toInt ∧ ar2.toInt < (gi 73 ar1.toNatClampNeg).toInt) → (g13 69 2).toInt = 0)) from (by have ffs : (g13 69 2).toInt = 2 := (congrArg Int32.toInt (by rw [e13]; exact x_up2_at _ _ _ _ : g13 69 2 = 2)).trans (by decide); have hfw10 : (gi 73 ar1.toNatClampNeg).toInt = w10.toInt := congrArg Int32.toInt e10.symm; refine ⟨fun h3 => by omega, fun hi1 => ?_⟩; refine ⟨fun h4 => ?_, fun h4 h5 => ?_, fun h4 => ?_⟩ <;> omega))⟩⟩
      · have r14 : w10.toInt ≠ (-1) := fun e => h11 (Int32.toInt_inj.mp (e.trans (by decide : ((-1):Int) = ((-1) : Int32).toInt)))
        have l15 : 0 ≤ w10.toInt := t_nel h11 l10 rfl rfl
        refine ev_loc f_X12_wrongPlace (nx := 26) rfl rfl rfl rfl ?_
        refine ev_if f_X12_wrongPlace (t1 := 39) (t2 := 29) rfl rfl rfl (fun h16 => ?_) (fun h16 => ?_)
        · have u17 : ar2.toInt ≤ (-1) := t_ltu h16 (by decide : (0:Int32).toInt ≤ (0:Int)) rfl
          refine ev_ic f_X12_wrongPlace (nx := 40) (v := 3) rfl (by decide) rfl ?_
          refine ev_jmp f_X12_wrongPlace (nx := 44) rfl rfl rfl ?_
          refine ev_retK1 f_X12_wrongPlace rfl rfl rfl ?_
          refine ev_putIT f_X12_read (nx := 10) rfl (hI.wf.s rfl) rfl rfl rfl (hI.put0 (hI.wf.s rfl) rfl rfl) (hX.upI rfl) (fun g18 e18 hI hX => ?_)
          refine ev_loc f_X12_read (nx := 11) rfl rfl rfl rfl ?_
          refine ev_gvI f_X12_read (nx := 14) (w := 3) rfl (hI.wf.s rfl) rfl rfl (by rw [e18]; exact x_up2_at _ _ _ _ : g18 69 2 = 3) rfl ?_
          refine ev_f f_X12_read (t1 := 23) (t2 := 17) rfl rfl rfl (by decide) ?_
          refine ev_ldL f_X12_read (nx := 20) (v := -1) rfl (by decide) rfl ?_
          refine ev_jmp f_X12_read (nx := 34) rfl rfl rfl ?_
          exact ev_ret f_X12_read rfl rfl rfl ⟨_, _, _, rfl, hI, hX, ⟨_, rfl, (show (¬ (0 ≤ ar1.toInt ∧ ar1.toInt ≤ 3) → (g18 69 2).toInt = 1) ∧ ((0 ≤ ar1.toInt ∧ ar1.toInt ≤ 3) → ((gi 73 ar1.toNatClampNeg).toInt = -1 → (g18 69 2).toInt = 2) ∧ ((gi 73 ar1.toNatClampNeg).toInt ≠ -1 → ¬ (0 ≤ ar2.toInt ∧ ar2.toInt < (gi 73 ar1.toNatClampNeg).toInt) → (g18 69 2).toInt = 3) ∧ ((0 ≤ ar2.toInt ∧ ar2.toInt < (gi 73 ar1.toNatClampNeg).toInt) → (g18 69 2).toInt = 0)) from (by have ffs : (g18 69 2).toInt = 3 := (congrArg Int32.toInt (by rw [e18]; exact x_up2_at _ _ _ _ : g18 69 2 = 3)).trans (by decide); have hfw10 : (gi 73 ar1.toNatClampNeg).toInt = w10.toInt := congrArg Int32.toInt e10.symm; refine ⟨fun h3 => by omega, fun hi1 => ?_⟩; refine ⟨fun h4 => ?_, fun h4 h5 => ?_, fun h4 => ?_⟩ <;> omega))⟩⟩
        · have l19 : 0 ≤ ar2.toInt := t_lel (t_nlt h16) (by decide : (0:Int) ≤ (0:Int32).toInt)
          refine ev_loc f_X12_wrongPlace (nx := 30) rfl rfl rfl rfl ?_
          refine ev_loc f_X12_wrongPlace (nx := 31) rfl rfl rfl rfl ?_
          refine ev_getR f_X12_wrongPlace (nx := 34) rfl (hI.wf.s rfl) rfl rfl (hI.wf.r rfl) rfl rfl ?_
          refine ev_loc f_X12_wrongPlace (nx := 35) rfl rfl rfl rfl ?_
          refine ev_ialdT f_X12_wrongPlace (nx := 36) rfl (hI.wf.s rfl) l5 (by decide) u9 (by decide) rfl (fun w20 e20 => ?_)
          rw [e20.trans e10.symm]
          refine ev_if f_X12_wrongPlace (t1 := 43) (t2 := 39) rfl rfl rfl (fun h21 => ?_) (fun h21 => ?_)
          · have r22 : ar2.toInt < w10.toInt := Int32.lt_iff_toInt_lt.mp h21
            have u23 : ar2.toInt ≤ 59 := t_ltu h21 u10 rfl
            have l24 : 1 ≤ w10.toInt := t_ltl h21 l19 rfl
            refine ev_ic f_X12_wrongPlace (nx := 44) (v := 0) rfl (by decide) rfl ?_
            refine ev_retK1 f_X12_wrongPlace rfl rfl rfl ?_
            refine ev_putIT f_X12_read (nx := 10) rfl (hI.wf.s rfl) rfl rfl rfl (hI.put0 (hI.wf.s rfl) rfl rfl) (hX.upI rfl) (fun g25 e25 hI hX => ?_)
            refine ev_loc f_X12_read (nx := 11) rfl rfl rfl rfl ?_
            refine ev_gvI f_X12_read (nx := 14) (w := 0) rfl (hI.wf.s rfl) rfl rfl (by rw [e25]; exact x_up2_at _ _ _ _ : g25 69 2 = 0) rfl ?_
            refine ev_t f_X12_read (t1 := 23) (t2 := 17) rfl rfl rfl (by decide) ?_
            refine ev_loc f_X12_read (nx := 24) rfl rfl rfl rfl ?_
            refine ev_getR f_X12_read (nx := 27) rfl (hI.wf.s rfl) rfl rfl (hI.wf.r rfl) rfl rfl ?_
            refine ev_bp f_X12_read (nx := 29) (v := 60) rfl (by decide) rfl ?_
            refine ev_loc f_X12_read (nx := 30) rfl rfl rfl rfl ?_
            refine ev_mulL f_X12_read (nx := 31) (c := 60) (l := 0) (u := 180) rfl (by decide) (by decide) l5 u9 rfl rfl (by decide) (by decide) rfl (fun z26 e26 l26 u26 => ?_)
            refine ev_loc f_X12_read (nx := 32) rfl rfl rfl rfl ?_
            refine ev_addR f_X12_read (nx := 33) (l := 0) (u := 239) rfl l26 u26 l19 u23 rfl rfl (by decide) (by decide) rfl (fun z27 e27 l27 u27 => ?_)
            refine ev_laldT f_X12_read (nx := 34) rfl (hI.wf.s rfl) l27 (by decide) u27 (by decide) rfl (fun w28 e28 => ?_)
            exact ev_ret f_X12_read rfl rfl rfl ⟨_, _, _, rfl, hI, hX, ⟨_, rfl, (show (¬ (0 ≤ ar1.toInt ∧ ar1.toInt ≤ 3) → (g25 69 2).toInt = 1) ∧ ((0 ≤ ar1.toInt ∧ ar1.toInt ≤ 3) → ((gi 73 ar1.toNatClampNeg).toInt = -1 → (g25 69 2).toInt = 2) ∧ ((gi 73 ar1.toNatClampNeg).toInt ≠ -1 → ¬ (0 ≤ ar2.toInt ∧ ar2.toInt < (gi 73 ar1.toNatClampNeg).toInt) → (g25 69 2).toInt = 3) ∧ ((0 ≤ ar2.toInt ∧ ar2.toInt < (gi 73 ar1.toNatClampNeg).toInt) → (g25 69 2).toInt = 0)) from (by have ffs : (g25 69 2).toInt = 0 := (congrArg Int32.toInt (by rw [e25]; exact x_up2_at _ _ _ _ : g25 69 2 = 0)).trans (by decide); have hfw10 : (gi 73 ar1.toNatClampNeg).toInt = w10.toInt := congrArg Int32.toInt e10.symm; refine ⟨fun h3 => by omega, fun hi1 => ?_⟩; refine ⟨fun h4 => ?_, fun h4 h5 => ?_, fun h4 => ?_⟩ <;> omega))⟩⟩
          · have r29 : w10.toInt ≤ ar2.toInt := Int32.le_iff_toInt_le.mp (t_nlt h21)
            refine ev_ic f_X12_wrongPlace (nx := 40) (v := 3) rfl (by decide) rfl ?_
            refine ev_jmp f_X12_wrongPlace (nx := 44) rfl rfl rfl ?_
            refine ev_retK1 f_X12_wrongPlace rfl rfl rfl ?_
            refine ev_putIT f_X12_read (nx := 10) rfl (hI.wf.s rfl) rfl rfl rfl (hI.put0 (hI.wf.s rfl) rfl rfl) (hX.upI rfl) (fun g30 e30 hI hX => ?_)
            refine ev_loc f_X12_read (nx := 11) rfl rfl rfl rfl ?_
            refine ev_gvI f_X12_read (nx := 14) (w := 3) rfl (hI.wf.s rfl) rfl rfl (by rw [e30]; exact x_up2_at _ _ _ _ : g30 69 2 = 3) rfl ?_
            refine ev_f f_X12_read (t1 := 23) (t2 := 17) rfl rfl rfl (by decide) ?_
            refine ev_ldL f_X12_read (nx := 20) (v := -1) rfl (by decide) rfl ?_
            refine ev_jmp f_X12_read (nx := 34) rfl rfl rfl ?_
            exact ev_ret f_X12_read rfl rfl rfl ⟨_, _, _, rfl, hI, hX, ⟨_, rfl, (show (¬ (0 ≤ ar1.toInt ∧ ar1.toInt ≤ 3) → (g30 69 2).toInt = 1) ∧ ((0 ≤ ar1.toInt ∧ ar1.toInt ≤ 3) → ((gi 73 ar1.toNatClampNeg).toInt = -1 → (g30 69 2).toInt = 2) ∧ ((gi 73 ar1.toNatClampNeg).toInt ≠ -1 → ¬ (0 ≤ ar2.toInt ∧ ar2.toInt < (gi 73 ar1.toNatClampNeg).toInt) → (g30 69 2).toInt = 3) ∧ ((0 ≤ ar2.toInt ∧ ar2.toInt < (gi 73 ar1.toNatClampNeg).toInt) → (g30 69 2).toInt = 0)) from (by have ffs : (g30 69 2).toInt = 3 := (congrArg Int32.toInt (by rw [e30]; exact x_up2_at _ _ _ _ : g30 69 2 = 3)).trans (by decide); have hfw10 : (gi 73 ar1.toNatClampNeg).toInt = w10.toInt := congrArg Int32.toInt e10.symm; refine ⟨fun h3 => by omega, fun hi1 => ?_⟩; refine ⟨fun h4 => ?_, fun h4 h5 => ?_, fun h4 => ?_⟩ <;> omega))⟩⟩
