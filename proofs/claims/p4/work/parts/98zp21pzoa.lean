/-! ===== printed by riv.py: odds of the other side ===== -/
noncomputable def wl_e_oddsF : List (Nat × Nat) := [(69, 2), (69, 3), (69, 4), (69, 44), (69, 45), (69, 58), (69, 59), (69, 60), (69, 61), (69, 62), (69, 63), (69, 64), (69, 65), (69, 66), (69, 67), (69, 68), (69, 69), (69, 70), (89, 10005), (89, 610011), (90, 9999), (91, 9999), (99, 9999), (100, 9999)]
noncomputable def Q_e_oddsF (gi : Nat → Nat → Int32) (gl : Nat → Nat → Int64) (gr : Nat → Nat → Value) (ar1 : Int32) (ar2 : Int32) : Int32 → (Nat → Nat → Int32) → (Nat → Nat → Int64) → (Nat → Nat → Value) → Prop := fun (v : Int32) (gi2 : Nat → Nat → Int32) (gl2 : Nat → Nat → Int64) (gr2 : Nat → Nat → Value) => ∀ (D : s_D), t_ME 0 gi D → t_Cb D → s_DB D → (gi 69 46).toInt = -1 → (((0 ≤ ar1.toInt ∧ ar1.toInt ≤ 9999 ∧ 1 ≤ ar2.toInt ∧ ar2.toInt ≤ 20 ∧ ar1.toInt + ar2.toInt ≤ 10000) ∧ (gi 70 8).toInt ≠ 0) → ∀ R : List (List Int × Int), t_MQ (gi 70) R → s_crs R → (gl2 69 3).toInt = (s_gds D R ar1.toInt ar2.toNatClampNeg) / s_gc ar2.toInt (s_gds D R ar1.toInt ar2.toNatClampNeg) ∧ (gl2 69 4).toInt = ar2.toInt / s_gc ar2.toInt (s_gds D R ar1.toInt ar2.toNatClampNeg)) ∧ (¬ ((0 ≤ ar1.toInt ∧ ar1.toInt ≤ 9999 ∧ 1 ≤ ar2.toInt ∧ ar2.toInt ≤ 20 ∧ ar1.toInt + ar2.toInt ≤ 10000) ∧ (gi 70 8).toInt ≠ 0) → gl2 69 3 = gl 69 3 ∧ gl2 69 4 = gl 69 4)
theorem c_e_oddsF {X : x_Ext} {d : Nat} {sh : List (Nat ⊕ (Nat × Nat))} {gi : Nat → Nat → Int32} {gl : Nat → Nat → Int64} {gr : Nat → Nat → Value} (hI : t_I sh gi gr) (ar1 : Int32) (ar2 : Int32) (e_p0 : t_rpn (gi 70) 0) : x_Me X (d + 7) n_X12_odds [.ref 69, .int ar1, .int ar2] (sh, gi, gl, gr) (t_PI wl_e_oddsF sh gi gl gr 0 1 (Q_e_oddsF gi gl gr ar1 ar2)) := by
  have hX : t_X wl_e_oddsF sh gi gl gr gi gl gr := t_X.rf
  refine me_i f_X12_odds (hI.wf.s rfl) rfl rfl rfl ?_
  obtain ⟨l2, u2⟩ := hI.ab (by decide +kernel : t_abr 70 8 8 0 1 = true) (Nat.le_refl _) (Nat.le_refl _)
  refine ev_loc f_X12_odds (nx := 1) rfl rfl rfl rfl ?_
  refine ev_loc f_X12_odds (nx := 2) rfl rfl rfl rfl ?_
  refine ev_loc f_X12_odds (nx := 3) rfl rfl rfl rfl ?_
  refine ev_inV3 f_X12_odds (nx := 6) (lo2 := [(0, .ref 69), (1, .int ar1), (2, .int ar2)]) rfl rfl rfl rfl f_X12_areSeeds (hI.wf.s rfl) rfl rfl rfl rfl rfl ?_
  refine ev_loc f_X12_areSeeds (nx := 1) rfl rfl rfl rfl ?_
  refine ev_anyLE f_X12_areSeeds (nx := 2) rfl rfl rfl rfl (fun z3 e3 => ?_)
  have i3 : z3.toInt = ar1.toInt := by rw [e3]; exact Int32.toInt_toInt64 _
  refine ev_lc f_X12_areSeeds (nx := 3) (v := 0) rfl (by decide) rfl ?_
  refine ev_ldL f_X12_areSeeds (nx := 6) (v := 9999) rfl (by decide) rfl ?_
  refine ev_inS3 f_X12_areSeeds (nx := 9) (lo2 := [(0, .long z3), (2, .long 0), (4, .long 9999)]) rfl rfl rfl rfl f_X12_isFrom rfl rfl rfl rfl ?_
  refine ev_loc f_X12_isFrom (nx := 1) rfl rfl rfl rfl ?_
  refine ev_loc f_X12_isFrom (nx := 2) rfl rfl rfl rfl ?_
  refine ev_anyIE f_X12_isFrom (nx := 3) rfl rfl rfl rfl (fun z4 e4 => ?_)
  refine ev_if f_X12_isFrom (t1 := 17) (t2 := 6) rfl rfl rfl (fun h5 => ?_) (fun h5 => ?_)
  · have u6 : ar1.toInt ≤ ((-1):Int) := Int.le_sub_one_of_lt ((lgc_lt (by decide : (0 : Int64).toInt = 0)).mp (by have hh := h5; rw [e4, e3] at hh; exact hh))
    have u7 : z4.toInt ≤ (-1) := t_ltu h5 (by decide : (0:Int32).toInt ≤ (0:Int)) rfl
    refine ev_ic f_X12_isFrom (nx := 18) (v := 0) rfl (by decide) rfl ?_
    refine ev_retK1 f_X12_isFrom rfl rfl rfl ?_
    refine ev_t f_X12_areSeeds (t1 := 39) (t2 := 12) rfl rfl rfl (by decide) ?_
    refine ev_ic f_X12_areSeeds (nx := 40) (v := 0) rfl (by decide) rfl ?_
    refine ev_retK1 f_X12_areSeeds rfl rfl rfl ?_
    refine ev_t f_X12_odds (t1 := 9) (t2 := 15) rfl rfl rfl (by decide) ?_
    refine ev_loc f_X12_odds (nx := 10) rfl rfl rfl rfl ?_
    refine ev_ic f_X12_odds (nx := 11) (v := 1) rfl (by decide) rfl ?_
    refine ev_inV2 f_X12_odds (nx := 14) (lo2 := [(0, .ref 69), (1, .int 1)]) rfl rfl rfl rfl f_X12_is (hI.wf.s rfl) rfl rfl rfl rfl rfl ?_
    refine ev_loc f_X12_is (nx := 1) rfl rfl rfl rfl ?_
    refine ev_loc f_X12_is (nx := 2) rfl rfl rfl rfl ?_
    refine ev_putIT f_X12_is (nx := 5) rfl (hI.wf.s rfl) rfl rfl rfl (hI.put0 (hI.wf.s rfl) rfl rfl) (hX.upI rfl) (fun g8 e8 hI hX => ?_)
    refine ev_loc f_X12_is (nx := 6) rfl rfl rfl rfl ?_
    refine ev_f f_X12_is (t1 := 9) (t2 := 13) rfl rfl rfl (by decide) ?_
    refine ev_ic f_X12_is (nx := 14) (v := 0) rfl (by decide) rfl ?_
    refine ev_retK1 f_X12_is rfl rfl rfl ?_
    exact ev_ret f_X12_odds rfl rfl rfl ⟨_, _, _, rfl, hI, hX, ⟨_, rfl, (by decide : (0:Int) ≤ (0:Int32).toInt), (Int.le_trans (by decide : (0:Int32).toInt ≤ (0:Int)) (by decide : (0:Int) ≤ 1)), (show ∀ (D : s_D), t_ME 0 gi D → t_Cb D → s_DB D → (gi 69 46).toInt = -1 → (((0 ≤ ar1.toInt ∧ ar1.toInt ≤ 9999 ∧ 1 ≤ ar2.toInt ∧ ar2.toInt ≤ 20 ∧ ar1.toInt + ar2.toInt ≤ 10000) ∧ (gi 70 8).toInt ≠ 0) → ∀ R : List (List Int × Int), t_MQ (gi 70) R → s_crs R → (gl 69 3).toInt = (s_gds D R ar1.toInt ar2.toNatClampNeg) / s_gc ar2.toInt (s_gds D R ar1.toInt ar2.toNatClampNeg) ∧ (gl 69 4).toInt = ar2.toInt / s_gc ar2.toInt (s_gds D R ar1.toInt ar2.toNatClampNeg)) ∧ (¬ ((0 ≤ ar1.toInt ∧ ar1.toInt ≤ 9999 ∧ 1 ≤ ar2.toInt ∧ ar2.toInt ≤ 20 ∧ ar1.toInt + ar2.toInt ≤ 10000) ∧ (gi 70 8).toInt ≠ 0) → gl 69 3 = gl 69 3 ∧ gl 69 4 = gl 69 4) from (fun D hm hb hd h46 => ⟨fun h => absurd h.1 (by omega), fun _ => ⟨rfl, rfl⟩⟩))⟩⟩
  · have l9 : (0:Int) ≤ ar1.toInt := (lgc_ge (by decide : (0 : Int64).toInt = 0)).mp (by have hh := (t_nlt h5); rw [e4, e3] at hh; exact hh)
    have l10 : 0 ≤ z4.toInt := t_lel (t_nlt h5) (by decide : (0:Int) ≤ (0:Int32).toInt)
    refine ev_loc f_X12_isFrom (nx := 7) rfl rfl rfl rfl ?_
    refine ev_loc f_X12_isFrom (nx := 9) rfl rfl rfl rfl ?_
    refine ev_anyIE f_X12_isFrom (nx := 10) rfl rfl rfl rfl (fun z11 e11 => ?_)
    refine ev_if f_X12_isFrom (t1 := 17) (t2 := 13) rfl rfl rfl (fun h12 => ?_) (fun h12 => ?_)
    · have l13 : (10000:Int) ≤ ar1.toInt := Int.add_one_le_of_lt ((lgc_gt (by decide : (9999 : Int64).toInt = 9999)).mp (by have hh := h12; rw [e11, e3] at hh; exact hh))
      have l14 : 1 ≤ z11.toInt := t_ltl h12 (by decide : (0:Int) ≤ (0:Int32).toInt) rfl
      refine ev_ic f_X12_isFrom (nx := 18) (v := 0) rfl (by decide) rfl ?_
      refine ev_retK1 f_X12_isFrom rfl rfl rfl ?_
      refine ev_t f_X12_areSeeds (t1 := 39) (t2 := 12) rfl rfl rfl (by decide) ?_
      refine ev_ic f_X12_areSeeds (nx := 40) (v := 0) rfl (by decide) rfl ?_
      refine ev_retK1 f_X12_areSeeds rfl rfl rfl ?_
      refine ev_t f_X12_odds (t1 := 9) (t2 := 15) rfl rfl rfl (by decide) ?_
      refine ev_loc f_X12_odds (nx := 10) rfl rfl rfl rfl ?_
      refine ev_ic f_X12_odds (nx := 11) (v := 1) rfl (by decide) rfl ?_
      refine ev_inV2 f_X12_odds (nx := 14) (lo2 := [(0, .ref 69), (1, .int 1)]) rfl rfl rfl rfl f_X12_is (hI.wf.s rfl) rfl rfl rfl rfl rfl ?_
      refine ev_loc f_X12_is (nx := 1) rfl rfl rfl rfl ?_
      refine ev_loc f_X12_is (nx := 2) rfl rfl rfl rfl ?_
      refine ev_putIT f_X12_is (nx := 5) rfl (hI.wf.s rfl) rfl rfl rfl (hI.put0 (hI.wf.s rfl) rfl rfl) (hX.upI rfl) (fun g15 e15 hI hX => ?_)
      refine ev_loc f_X12_is (nx := 6) rfl rfl rfl rfl ?_
      refine ev_f f_X12_is (t1 := 9) (t2 := 13) rfl rfl rfl (by decide) ?_
      refine ev_ic f_X12_is (nx := 14) (v := 0) rfl (by decide) rfl ?_
      refine ev_retK1 f_X12_is rfl rfl rfl ?_
      exact ev_ret f_X12_odds rfl rfl rfl ⟨_, _, _, rfl, hI, hX, ⟨_, rfl, (by decide : (0:Int) ≤ (0:Int32).toInt), (Int.le_trans (by decide : (0:Int32).toInt ≤ (0:Int)) (by decide : (0:Int) ≤ 1)), (show ∀ (D : s_D), t_ME 0 gi D → t_Cb D → s_DB D → (gi 69 46).toInt = -1 → (((0 ≤ ar1.toInt ∧ ar1.toInt ≤ 9999 ∧ 1 ≤ ar2.toInt ∧ ar2.toInt ≤ 20 ∧ ar1.toInt + ar2.toInt ≤ 10000) ∧ (gi 70 8).toInt ≠ 0) → ∀ R : List (List Int × Int), t_MQ (gi 70) R → s_crs R → (gl 69 3).toInt = (s_gds D R ar1.toInt ar2.toNatClampNeg) / s_gc ar2.toInt (s_gds D R ar1.toInt ar2.toNatClampNeg) ∧ (gl 69 4).toInt = ar2.toInt / s_gc ar2.toInt (s_gds D R ar1.toInt ar2.toNatClampNeg)) ∧ (¬ ((0 ≤ ar1.toInt ∧ ar1.toInt ≤ 9999 ∧ 1 ≤ ar2.toInt ∧ ar2.toInt ≤ 20 ∧ ar1.toInt + ar2.toInt ≤ 10000) ∧ (gi 70 8).toInt ≠ 0) → gl 69 3 = gl 69 3 ∧ gl 69 4 = gl 69 4) from (fun D hm hb hd h46 => ⟨fun h => absurd h.1 (by omega), fun _ => ⟨rfl, rfl⟩⟩))⟩⟩
    · have u16 : ar1.toInt ≤ (9999:Int) := (lgc_le (by decide : (9999 : Int64).toInt = 9999)).mp (by have hh := (t_nlt h12); rw [e11, e3] at hh; exact hh)
      have u17 : z11.toInt ≤ 0 := t_leu (t_nlt h12) (by decide : (0:Int32).toInt ≤ (0:Int))
      refine ev_ic f_X12_isFrom (nx := 14) (v := 1) rfl (by decide) rfl ?_
      refine ev_jmp f_X12_isFrom (nx := 18) rfl rfl rfl ?_
      refine ev_retK1 f_X12_isFrom rfl rfl rfl ?_
      refine ev_f f_X12_areSeeds (t1 := 39) (t2 := 12) rfl rfl rfl (by decide) ?_
      refine ev_loc f_X12_areSeeds (nx := 13) rfl rfl rfl rfl ?_
      refine ev_anyLE f_X12_areSeeds (nx := 14) rfl rfl rfl rfl (fun z18 e18 => ?_)
      have i18 : z18.toInt = ar2.toInt := by rw [e18]; exact Int32.toInt_toInt64 _
      refine ev_lc f_X12_areSeeds (nx := 15) (v := 1) rfl (by decide) rfl ?_
      refine ev_ldL f_X12_areSeeds (nx := 18) (v := 20) rfl (by decide) rfl ?_
      refine ev_inS3 f_X12_areSeeds (nx := 21) (lo2 := [(0, .long z18), (2, .long 1), (4, .long 20)]) rfl rfl rfl rfl f_X12_isFrom rfl rfl rfl rfl ?_
      refine ev_loc f_X12_isFrom (nx := 1) rfl rfl rfl rfl ?_
      refine ev_loc f_X12_isFrom (nx := 2) rfl rfl rfl rfl ?_
      refine ev_anyIE f_X12_isFrom (nx := 3) rfl rfl rfl rfl (fun z19 e19 => ?_)
      refine ev_if f_X12_isFrom (t1 := 17) (t2 := 6) rfl rfl rfl (fun h20 => ?_) (fun h20 => ?_)
      · have u21 : ar2.toInt ≤ (0:Int) := Int.le_sub_one_of_lt ((lgc_lt (by decide : (1 : Int64).toInt = 1)).mp (by have hh := h20; rw [e19, e18] at hh; exact hh))
        have u22 : z19.toInt ≤ (-1) := t_ltu h20 (by decide : (0:Int32).toInt ≤ (0:Int)) rfl
        refine ev_ic f_X12_isFrom (nx := 18) (v := 0) rfl (by decide) rfl ?_
        refine ev_retK1 f_X12_isFrom rfl rfl rfl ?_
        refine ev_t f_X12_areSeeds (t1 := 39) (t2 := 24) rfl rfl rfl (by decide) ?_
        refine ev_ic f_X12_areSeeds (nx := 40) (v := 0) rfl (by decide) rfl ?_
        refine ev_retK1 f_X12_areSeeds rfl rfl rfl ?_
        refine ev_t f_X12_odds (t1 := 9) (t2 := 15) rfl rfl rfl (by decide) ?_
        refine ev_loc f_X12_odds (nx := 10) rfl rfl rfl rfl ?_
        refine ev_ic f_X12_odds (nx := 11) (v := 1) rfl (by decide) rfl ?_
        refine ev_inV2 f_X12_odds (nx := 14) (lo2 := [(0, .ref 69), (1, .int 1)]) rfl rfl rfl rfl f_X12_is (hI.wf.s rfl) rfl rfl rfl rfl rfl ?_
        refine ev_loc f_X12_is (nx := 1) rfl rfl rfl rfl ?_
        refine ev_loc f_X12_is (nx := 2) rfl rfl rfl rfl ?_
        refine ev_putIT f_X12_is (nx := 5) rfl (hI.wf.s rfl) rfl rfl rfl (hI.put0 (hI.wf.s rfl) rfl rfl) (hX.upI rfl) (fun g23 e23 hI hX => ?_)
        refine ev_loc f_X12_is (nx := 6) rfl rfl rfl rfl ?_
        refine ev_f f_X12_is (t1 := 9) (t2 := 13) rfl rfl rfl (by decide) ?_
        refine ev_ic f_X12_is (nx := 14) (v := 0) rfl (by decide) rfl ?_
        refine ev_retK1 f_X12_is rfl rfl rfl ?_
        exact ev_ret f_X12_odds rfl rfl rfl ⟨_, _, _, rfl, hI, hX, ⟨_, rfl, (by decide : (0:Int) ≤ (0:Int32).toInt), (Int.le_trans (by decide : (0:Int32).toInt ≤ (0:Int)) (by decide : (0:Int) ≤ 1)), (show ∀ (D : s_D), t_ME 0 gi D → t_Cb D → s_DB D → (gi 69 46).toInt = -1 → (((0 ≤ ar1.toInt ∧ ar1.toInt ≤ 9999 ∧ 1 ≤ ar2.toInt ∧ ar2.toInt ≤ 20 ∧ ar1.toInt + ar2.toInt ≤ 10000) ∧ (gi 70 8).toInt ≠ 0) → ∀ R : List (List Int × Int), t_MQ (gi 70) R → s_crs R → (gl 69 3).toInt = (s_gds D R ar1.toInt ar2.toNatClampNeg) / s_gc ar2.toInt (s_gds D R ar1.toInt ar2.toNatClampNeg) ∧ (gl 69 4).toInt = ar2.toInt / s_gc ar2.toInt (s_gds D R ar1.toInt ar2.toNatClampNeg)) ∧ (¬ ((0 ≤ ar1.toInt ∧ ar1.toInt ≤ 9999 ∧ 1 ≤ ar2.toInt ∧ ar2.toInt ≤ 20 ∧ ar1.toInt + ar2.toInt ≤ 10000) ∧ (gi 70 8).toInt ≠ 0) → gl 69 3 = gl 69 3 ∧ gl 69 4 = gl 69 4) from (fun D hm hb hd h46 => ⟨fun h => absurd h.1 (by omega), fun _ => ⟨rfl, rfl⟩⟩))⟩⟩
      · have l24 : (1:Int) ≤ ar2.toInt := (lgc_ge (by decide : (1 : Int64).toInt = 1)).mp (by have hh := (t_nlt h20); rw [e19, e18] at hh; exact hh)
        have l25 : 0 ≤ z19.toInt := t_lel (t_nlt h20) (by decide : (0:Int) ≤ (0:Int32).toInt)
        refine ev_loc f_X12_isFrom (nx := 7) rfl rfl rfl rfl ?_
        refine ev_loc f_X12_isFrom (nx := 9) rfl rfl rfl rfl ?_
        refine ev_anyIE f_X12_isFrom (nx := 10) rfl rfl rfl rfl (fun z26 e26 => ?_)
        refine ev_if f_X12_isFrom (t1 := 17) (t2 := 13) rfl rfl rfl (fun h27 => ?_) (fun h27 => ?_)
        · have l28 : (21:Int) ≤ ar2.toInt := Int.add_one_le_of_lt ((lgc_gt (by decide : (20 : Int64).toInt = 20)).mp (by have hh := h27; rw [e26, e18] at hh; exact hh))
          have l29 : 1 ≤ z26.toInt := t_ltl h27 (by decide : (0:Int) ≤ (0:Int32).toInt) rfl
          refine ev_ic f_X12_isFrom (nx := 18) (v := 0) rfl (by decide) rfl ?_
          refine ev_retK1 f_X12_isFrom rfl rfl rfl ?_
          refine ev_t f_X12_areSeeds (t1 := 39) (t2 := 24) rfl rfl rfl (by decide) ?_
          refine ev_ic f_X12_areSeeds (nx := 40) (v := 0) rfl (by decide) rfl ?_
          refine ev_retK1 f_X12_areSeeds rfl rfl rfl ?_
          refine ev_t f_X12_odds (t1 := 9) (t2 := 15) rfl rfl rfl (by decide) ?_
          refine ev_loc f_X12_odds (nx := 10) rfl rfl rfl rfl ?_
          refine ev_ic f_X12_odds (nx := 11) (v := 1) rfl (by decide) rfl ?_
          refine ev_inV2 f_X12_odds (nx := 14) (lo2 := [(0, .ref 69), (1, .int 1)]) rfl rfl rfl rfl f_X12_is (hI.wf.s rfl) rfl rfl rfl rfl rfl ?_
          refine ev_loc f_X12_is (nx := 1) rfl rfl rfl rfl ?_
          refine ev_loc f_X12_is (nx := 2) rfl rfl rfl rfl ?_
          refine ev_putIT f_X12_is (nx := 5) rfl (hI.wf.s rfl) rfl rfl rfl (hI.put0 (hI.wf.s rfl) rfl rfl) (hX.upI rfl) (fun g30 e30 hI hX => ?_)
          refine ev_loc f_X12_is (nx := 6) rfl rfl rfl rfl ?_
          refine ev_f f_X12_is (t1 := 9) (t2 := 13) rfl rfl rfl (by decide) ?_
          refine ev_ic f_X12_is (nx := 14) (v := 0) rfl (by decide) rfl ?_
          refine ev_retK1 f_X12_is rfl rfl rfl ?_
          exact ev_ret f_X12_odds rfl rfl rfl ⟨_, _, _, rfl, hI, hX, ⟨_, rfl, (by decide : (0:Int) ≤ (0:Int32).toInt), (Int.le_trans (by decide : (0:Int32).toInt ≤ (0:Int)) (by decide : (0:Int) ≤ 1)), (show ∀ (D : s_D), t_ME 0 gi D → t_Cb D → s_DB D → (gi 69 46).toInt = -1 → (((0 ≤ ar1.toInt ∧ ar1.toInt ≤ 9999 ∧ 1 ≤ ar2.toInt ∧ ar2.toInt ≤ 20 ∧ ar1.toInt + ar2.toInt ≤ 10000) ∧ (gi 70 8).toInt ≠ 0) → ∀ R : List (List Int × Int), t_MQ (gi 70) R → s_crs R → (gl 69 3).toInt = (s_gds D R ar1.toInt ar2.toNatClampNeg) / s_gc ar2.toInt (s_gds D R ar1.toInt ar2.toNatClampNeg) ∧ (gl 69 4).toInt = ar2.toInt / s_gc ar2.toInt (s_gds D R ar1.toInt ar2.toNatClampNeg)) ∧ (¬ ((0 ≤ ar1.toInt ∧ ar1.toInt ≤ 9999 ∧ 1 ≤ ar2.toInt ∧ ar2.toInt ≤ 20 ∧ ar1.toInt + ar2.toInt ≤ 10000) ∧ (gi 70 8).toInt ≠ 0) → gl 69 3 = gl 69 3 ∧ gl 69 4 = gl 69 4) from (fun D hm hb hd h46 => ⟨fun h => absurd h.1 (by omega), fun _ => ⟨rfl, rfl⟩⟩))⟩⟩
        · have u31 : ar2.toInt ≤ (20:Int) := (lgc_le (by decide : (20 : Int64).toInt = 20)).mp (by have hh := (t_nlt h27); rw [e26, e18] at hh; exact hh)
          have u32 : z26.toInt ≤ 0 := t_leu (t_nlt h27) (by decide : (0:Int32).toInt ≤ (0:Int))
          refine ev_ic f_X12_isFrom (nx := 14) (v := 1) rfl (by decide) rfl ?_
          refine ev_jmp f_X12_isFrom (nx := 18) rfl rfl rfl ?_
          refine ev_retK1 f_X12_isFrom rfl rfl rfl ?_
          refine ev_f f_X12_areSeeds (t1 := 39) (t2 := 24) rfl rfl rfl (by decide) ?_
          refine ev_loc f_X12_areSeeds (nx := 25) rfl rfl rfl rfl ?_
          refine ev_loc f_X12_areSeeds (nx := 26) rfl rfl rfl rfl ?_
          refine ev_addR f_X12_areSeeds (nx := 27) (l := 1) (u := 10019) rfl l9 u16 l24 u31 rfl rfl (by decide) (by decide) rfl (fun z33 e33 l33 u33 => ?_)
          refine ev_ic f_X12_areSeeds (nx := 28) (v := 1) rfl (by decide) rfl ?_
          refine ev_subC f_X12_areSeeds (nx := 29) (c := 1) (l := 0) (u := 10018) rfl (by decide) l33 u33 rfl rfl (by decide) (by decide) rfl (fun z34 e34 l34 u34 => ?_)
          refine ev_sp f_X12_areSeeds (nx := 32) (v := 9999) rfl (by decide) rfl ?_
          refine ev_if f_X12_areSeeds (t1 := 39) (t2 := 35) rfl rfl rfl (fun h35 => ?_) (fun h35 => ?_)
          · have l36 : 10000 ≤ z34.toInt := t_ltl h35 (by decide : (9999:Int) ≤ (9999:Int32).toInt) rfl
            refine ev_ic f_X12_areSeeds (nx := 40) (v := 0) rfl (by decide) rfl ?_
            refine ev_retK1 f_X12_areSeeds rfl rfl rfl ?_
            refine ev_t f_X12_odds (t1 := 9) (t2 := 15) rfl rfl rfl (by decide) ?_
            refine ev_loc f_X12_odds (nx := 10) rfl rfl rfl rfl ?_
            refine ev_ic f_X12_odds (nx := 11) (v := 1) rfl (by decide) rfl ?_
            refine ev_inV2 f_X12_odds (nx := 14) (lo2 := [(0, .ref 69), (1, .int 1)]) rfl rfl rfl rfl f_X12_is (hI.wf.s rfl) rfl rfl rfl rfl rfl ?_
            refine ev_loc f_X12_is (nx := 1) rfl rfl rfl rfl ?_
            refine ev_loc f_X12_is (nx := 2) rfl rfl rfl rfl ?_
            refine ev_putIT f_X12_is (nx := 5) rfl (hI.wf.s rfl) rfl rfl rfl (hI.put0 (hI.wf.s rfl) rfl rfl) (hX.upI rfl) (fun g37 e37 hI hX => ?_)
            refine ev_loc f_X12_is (nx := 6) rfl rfl rfl rfl ?_
            refine ev_f f_X12_is (t1 := 9) (t2 := 13) rfl rfl rfl (by decide) ?_
            refine ev_ic f_X12_is (nx := 14) (v := 0) rfl (by decide) rfl ?_
            refine ev_retK1 f_X12_is rfl rfl rfl ?_
            exact ev_ret f_X12_odds rfl rfl rfl ⟨_, _, _, rfl, hI, hX, ⟨_, rfl, (by decide : (0:Int) ≤ (0:Int32).toInt), (Int.le_trans (by decide : (0:Int32).toInt ≤ (0:Int)) (by decide : (0:Int) ≤ 1)), (show ∀ (D : s_D), t_ME 0 gi D → t_Cb D → s_DB D → (gi 69 46).toInt = -1 → (((0 ≤ ar1.toInt ∧ ar1.toInt ≤ 9999 ∧ 1 ≤ ar2.toInt ∧ ar2.toInt ≤ 20 ∧ ar1.toInt + ar2.toInt ≤ 10000) ∧ (gi 70 8).toInt ≠ 0) → ∀ R : List (List Int × Int), t_MQ (gi 70) R → s_crs R → (gl 69 3).toInt = (s_gds D R ar1.toInt ar2.toNatClampNeg) / s_gc ar2.toInt (s_gds D R ar1.toInt ar2.toNatClampNeg) ∧ (gl 69 4).toInt = ar2.toInt / s_gc ar2.toInt (s_gds D R ar1.toInt ar2.toNatClampNeg)) ∧ (¬ ((0 ≤ ar1.toInt ∧ ar1.toInt ≤ 9999 ∧ 1 ≤ ar2.toInt ∧ ar2.toInt ≤ 20 ∧ ar1.toInt + ar2.toInt ≤ 10000) ∧ (gi 70 8).toInt ≠ 0) → gl 69 3 = gl 69 3 ∧ gl 69 4 = gl 69 4) from (fun D hm hb hd h46 => ⟨fun h => absurd h.1 (by omega), fun _ => ⟨rfl, rfl⟩⟩))⟩⟩
          · have u38 : z34.toInt ≤ 9999 := t_leu (t_nlt h35) (by decide : (9999:Int32).toInt ≤ (9999:Int))
            refine ev_ic f_X12_areSeeds (nx := 36) (v := 1) rfl (by decide) rfl ?_
            refine ev_jmp f_X12_areSeeds (nx := 40) rfl rfl rfl ?_
            refine ev_retK1 f_X12_areSeeds rfl rfl rfl ?_
            refine ev_f f_X12_odds (t1 := 9) (t2 := 15) rfl rfl rfl (by decide) ?_
            refine ev_loc f_X12_odds (nx := 16) rfl rfl rfl rfl ?_
            refine ev_getR f_X12_odds (nx := 19) rfl (hI.wf.s rfl) rfl rfl (hI.wf.r rfl) rfl rfl ?_
            refine ev_bp f_X12_odds (nx := 21) (v := 8) rfl (by decide) rfl ?_
            refine ev_ialdv f_X12_odds (nx := 22) (w := (gi 70 8)) rfl (hI.wf.s rfl) (by decide) (rfl : (8 : Int32).toNatClampNeg = 8) (by decide) rfl rfl ?_
            refine ev_if f_X12_odds (t1 := 25) (t2 := 32) rfl rfl rfl (fun h40 => ?_) (fun h40 => ?_)
            · have u41 : (gi 70 8).toInt ≤ 0 := t_equ h40 (by decide : (0:Int32).toInt ≤ (0:Int))
              refine ev_loc f_X12_odds (nx := 26) rfl rfl rfl rfl ?_
              refine ev_bp f_X12_odds (nx := 28) (v := 6) rfl (by decide) rfl ?_
              refine ev_inV2 f_X12_odds (nx := 31) (lo2 := [(0, .ref 69), (1, .int 6)]) rfl rfl rfl rfl f_X12_is (hI.wf.s rfl) rfl rfl rfl rfl rfl ?_
              refine ev_loc f_X12_is (nx := 1) rfl rfl rfl rfl ?_
              refine ev_loc f_X12_is (nx := 2) rfl rfl rfl rfl ?_
              refine ev_putIT f_X12_is (nx := 5) rfl (hI.wf.s rfl) rfl rfl rfl (hI.put0 (hI.wf.s rfl) rfl rfl) (hX.upI rfl) (fun g42 e42 hI hX => ?_)
              refine ev_loc f_X12_is (nx := 6) rfl rfl rfl rfl ?_
              refine ev_f f_X12_is (t1 := 9) (t2 := 13) rfl rfl rfl (by decide) ?_
              refine ev_ic f_X12_is (nx := 14) (v := 0) rfl (by decide) rfl ?_
              refine ev_retK1 f_X12_is rfl rfl rfl ?_
              exact ev_ret f_X12_odds rfl rfl rfl ⟨_, _, _, rfl, hI, hX, ⟨_, rfl, (by decide : (0:Int) ≤ (0:Int32).toInt), (Int.le_trans (by decide : (0:Int32).toInt ≤ (0:Int)) (by decide : (0:Int) ≤ 1)), (show ∀ (D : s_D), t_ME 0 gi D → t_Cb D → s_DB D → (gi 69 46).toInt = -1 → (((0 ≤ ar1.toInt ∧ ar1.toInt ≤ 9999 ∧ 1 ≤ ar2.toInt ∧ ar2.toInt ≤ 20 ∧ ar1.toInt + ar2.toInt ≤ 10000) ∧ (gi 70 8).toInt ≠ 0) → ∀ R : List (List Int × Int), t_MQ (gi 70) R → s_crs R → (gl 69 3).toInt = (s_gds D R ar1.toInt ar2.toNatClampNeg) / s_gc ar2.toInt (s_gds D R ar1.toInt ar2.toNatClampNeg) ∧ (gl 69 4).toInt = ar2.toInt / s_gc ar2.toInt (s_gds D R ar1.toInt ar2.toNatClampNeg)) ∧ (¬ ((0 ≤ ar1.toInt ∧ ar1.toInt ≤ 9999 ∧ 1 ≤ ar2.toInt ∧ ar2.toInt ≤ 20 ∧ ar1.toInt + ar2.toInt ≤ 10000) ∧ (gi 70 8).toInt ≠ 0) → gl 69 3 = gl 69 3 ∧ gl 69 4 = gl 69 4) from (fun D hm hb hd h46 => ⟨fun h => absurd h.2 (by omega), fun _ => ⟨rfl, rfl⟩⟩))⟩⟩
            · have r43 : (gi 70 8).toInt ≠ 0 := fun e => h40 (Int32.toInt_inj.mp (e.trans (by decide : (0:Int) = (0 : Int32).toInt)))
              have l44 : 1 ≤ (gi 70 8).toInt := t_nel h40 l2 rfl rfl
              refine ev_ic f_X12_odds (nx := 33) (v := 0) rfl (by decide) rfl ?_
              refine ev_loc f_X12_odds (nx := 34) (lo' := [(3, .int 0), (0, .ref 69), (1, .int ar1), (2, .int ar2)]) rfl rfl rfl rfl ?_
              refine ev_ic f_X12_odds (nx := 35) (v := 0) rfl (by decide) rfl ?_
              refine ev_loc f_X12_odds (nx := 37) (lo' := [(4, .int 0), (3, .int 0), (0, .ref 69), (1, .int ar1), (2, .int ar2)]) rfl rfl rfl rfl ?_
              have L45 : ∀ (m45 : Nat) (gi45 : Nat → Nat → Int32) (gl45 : Nat → Nat → Int64) (gr45 : Nat → Nat → Value) (y45_4 : Int32) (y45_3 : Int32), t_I sh gi45 gr45 → t_X wl_e_oddsF sh gi gl gr gi45 gl45 gr45 → 0 ≤ y45_4.toInt → y45_4.toInt ≤ 20 → 0 ≤ y45_3.toInt → y45_3.toInt ≤ 20 → gi45 69 46 = (gi 69 46) → gi45 70 8 = (gi 70 8) → t_rpn (gi45 70) 0 → 0 ≤ y45_3.toInt → y45_3.toInt ≤ y45_4.toInt → (∀ (D : s_D), t_ME 0 gi D → t_Cb D → s_DB D → (gi 69 46).toInt = -1 → ∀ R : List (List Int × Int), t_MQ (gi 70) R → s_crs R → y45_3.toInt = s_gds D R ar1.toInt y45_4.toNatClampNeg) → y45_4.toInt ≤ ar2.toInt → (20 - y45_4.toInt).toNat = m45 → x_Ev X (d + 7) n_X12_odds 37 [(4, .int y45_4), (3, .int y45_3), (0, .ref 69), (1, .int ar1), (2, .int ar2)] [] (sh, gi45, gl45, gr45) (t_PI wl_e_oddsF sh gi gl gr 0 1 (Q_e_oddsF gi gl gr ar1 ar2)) := by
                intro m45
                induction m45 using Nat.strongRecOn with
                | _ m45 ih45 =>
                intro gi45 gl45 gr45 y45_4 y45_3 hI hX l45_4 u45_4 l45_3 u45_3 c45_0 c45_1 j45_0 j45_1 j45_2 j45_3 j45_4 hm45
                refine ev_loc f_X12_odds (nx := 39) rfl rfl rfl rfl ?_
                have hX37_45 := hX
                refine ev_loc f_X12_odds (nx := 40) rfl rfl rfl rfl ?_
                refine ev_if f_X12_odds (t1 := 79) (t2 := 43) rfl rfl rfl (fun h46 => ?_) (fun h46 => ?_)
                · have r47 : ar2.toInt ≤ y45_4.toInt := Int32.le_iff_toInt_le.mp h46
                  have l48 : 1 ≤ y45_4.toInt := t_lel h46 l24
                  refine ev_loc f_X12_odds (nx := 80) rfl rfl rfl rfl ?_
                  refine ev_loc f_X12_odds (nx := 81) rfl rfl rfl rfl ?_
                  refine ev_anyLE f_X12_odds (nx := 82) rfl rfl rfl rfl (fun z49 e49 => ?_)
                  have i49 : z49.toInt = y45_3.toInt := by rw [e49]; exact Int32.toInt_toInt64 _
                  refine ev_loc f_X12_odds (nx := 83) rfl rfl rfl rfl ?_
                  refine ev_anyLE f_X12_odds (nx := 84) rfl rfl rfl rfl (fun z50 e50 => ?_)
                  have i50 : z50.toInt = ar2.toInt := by rw [e50]; exact Int32.toInt_toInt64 _
                  refine ev_qI f_X12_odds (nx := 87) (r := []) rfl rfl rfl rfl rfl rfl rfl (c_r_tellsBy hI (z49) (z50) (by omega) (by omega)) rfl hX rfl (fun w51 gi51 gl51 gr51 l51 u51 hI hX hC51 q51 => ?_)
                  have q51 : (0 ≤ z49.toInt → z49.toInt ≤ z50.toInt → 1 ≤ z50.toInt → (gl51 69 3).toInt = z49.toInt / s_gc z50.toInt z49.toInt ∧ (gl51 69 4).toInt = z50.toInt / s_gc z50.toInt z49.toInt) := q51
                  exact ev_retZ f_X12_odds rfl (Int.le_trans (by decide : (0:Int) ≤ 1) l51) u51 ⟨_, _, _, rfl, hI, hX, ⟨_, rfl, (Int.le_trans (by decide : (0:Int) ≤ 1) l51), u51, (show ∀ (D : s_D), t_ME 0 gi D → t_Cb D → s_DB D → (gi 69 46).toInt = -1 → (((0 ≤ ar1.toInt ∧ ar1.toInt ≤ 9999 ∧ 1 ≤ ar2.toInt ∧ ar2.toInt ≤ 20 ∧ ar1.toInt + ar2.toInt ≤ 10000) ∧ (gi 70 8).toInt ≠ 0) → ∀ R : List (List Int × Int), t_MQ (gi 70) R → s_crs R → (gl51 69 3).toInt = (s_gds D R ar1.toInt ar2.toNatClampNeg) / s_gc ar2.toInt (s_gds D R ar1.toInt ar2.toNatClampNeg) ∧ (gl51 69 4).toInt = ar2.toInt / s_gc ar2.toInt (s_gds D R ar1.toInt ar2.toNatClampNeg)) ∧ (¬ ((0 ≤ ar1.toInt ∧ ar1.toInt ≤ 9999 ∧ 1 ≤ ar2.toInt ∧ ar2.toInt ≤ 20 ∧ ar1.toInt + ar2.toInt ≤ 10000) ∧ (gi 70 8).toInt ≠ 0) → gl51 69 3 = gl 69 3 ∧ gl51 69 4 = gl 69 4) from (fun D hm hb hd h46 => ⟨fun _ R hQ hcr => (by
                                                            have cy := t_clamp (i := y45_4) (by omega)
                                                            have h := j45_3 D hm hb hd h46 R hQ hcr
                                                            rw [show y45_4.toNatClampNeg = ar2.toNatClampNeg by have := t_clamp (i := ar2) (by omega); omega] at h
                                                            have hq := q51 (by rw [i49]; omega) (by rw [i49, i50]; omega) (by rw [i50]; omega)
                                                            rw [i49, i50, h] at hq
                                                            exact hq), fun h => absurd (show _ from ⟨⟨by omega, by omega, by omega, by omega, by omega⟩, by omega⟩) h⟩))⟩⟩
                · have r52 : y45_4.toInt < ar2.toInt := Int32.lt_iff_toInt_lt.mp (t_nle h46)
                  have u53 : y45_4.toInt ≤ 19 := t_ltu (t_nle h46) u31 rfl
                  refine ev_loc f_X12_odds (nx := 44) rfl rfl rfl rfl ?_
                  refine ev_loc f_X12_odds (nx := 45) rfl rfl rfl rfl ?_
                  refine ev_loc f_X12_odds (nx := 47) rfl rfl rfl rfl ?_
                  refine ev_addR f_X12_odds (nx := 48) (l := 0) (u := 10018) rfl l9 u16 l45_4 u53 rfl rfl (by decide) (by decide) rfl (fun z54 e54 l54 u54 => ?_)
                  refine ev_qN f_X12_odds (nx := 51) (r := []) rfl rfl rfl rfl rfl rfl rfl (c_y_keeps hI (z54) j45_0) rfl hX rfl (fun gi55 gl55 gr55 hI hX hC55 q55 => ?_)
                  have ff56 : (gi45 69 46).toInt = (gi 69 46).toInt := congrArg Int32.toInt c45_0
                  have q55 : (∀ (D : s_D) (R : List (List Int × Int)), t_ME 0 gi45 D → t_Cb D → s_DB D → (gi45 69 46).toInt = -1 → (-1 ≤ z54.toInt ∧ z54.toInt ≤ 9999) → t_MQ (gi45 70) R → s_crs R → s_TP gi55 (gi55 70 4).toInt (s_PY D z54.toInt) ∧ t_YR (s_PY D z54.toInt) (fun F => s_ac F R) gi55) := q55
                  refine ev_loc f_X12_odds (nx := 52) rfl rfl rfl rfl ?_
                  refine ev_loc f_X12_odds (nx := 53) rfl rfl rfl rfl ?_
                  refine ev_getI f_X12_odds (nx := 56) rfl (hI.wf.s rfl) rfl rfl rfl ?_
                  refine ev_if f_X12_odds (t1 := 59) (t2 := 70) rfl rfl rfl (fun h57 => ?_) (fun h57 => ?_)
                  · have u58 : (gi55 69 67).toInt ≤ 0 := t_equ h57 (by decide : (0:Int32).toInt ≤ (0:Int))
                    have l59 : 0 ≤ (gi55 69 67).toInt := t_eql h57 (by decide : (0:Int) ≤ (0:Int32).toInt)
                    refine ev_loc f_X12_odds (nx := 60) rfl rfl rfl rfl ?_
                    refine ev_qI f_X12_odds (nx := 63) (r := [.int y45_3]) rfl rfl rfl rfl rfl rfl rfl (c_y_leftOver hI ) rfl hX rfl (fun w60 gi60 gl60 gr60 l60 u60 hI hX hC60 q60 => ?_)
                    have q60 : (∀ (P : Nat → Nat → Int) (Z : Nat → Int) (q : Int), s_TP gi55 q P → t_YS (P 0 0).toNat Z gi55 → (gi55 69 65).toInt = Z 4 → s_okz P Z → w60.toInt = s_lf P Z) := q60
                    refine ev_if f_X12_odds (t1 := 66) (t2 := 70) rfl rfl rfl (fun h61 => ?_) (fun h61 => ?_)
                    · have u62 : w60.toInt ≤ 0 := t_equ h61 (by decide : (0:Int32).toInt ≤ (0:Int))
                      have l63 : 0 ≤ w60.toInt := t_eql h61 (by decide : (0:Int) ≤ (0:Int32).toInt)
                      refine ev_ic f_X12_odds (nx := 67) (v := 1) rfl (by decide) rfl ?_
                      refine ev_jmp f_X12_odds (nx := 71) rfl rfl rfl ?_
                      refine ev_addC f_X12_odds (nx := 72) (c := 1) (l := 1) (u := 21) rfl (by decide) l45_3 u45_3 rfl rfl (by decide) (by decide) rfl (fun z64 e64 l64 u64 => ?_)
                      refine ev_loc f_X12_odds (nx := 73) (lo' := [(3, .int z64), (4, .int y45_4), (0, .ref 69), (1, .int ar1), (2, .int ar2)]) rfl rfl rfl rfl ?_
                      refine ev_incR f_X12_odds (nx := 76) (c := 1) (l := 1) (u := 20) rfl rfl (by decide) (by decide) l45_4 u53 rfl rfl (by decide) (by decide) rfl (fun z65 e65 l65 u65 => ?_)
                      refine ev_jmp f_X12_odds (nx := 37) rfl rfl rfl ?_
                      refine ev_sub (lo := [(4, .int z65), (3, .int z64), (0, .ref 69), (1, .int ar1), (2, .int ar2)]) rfl (t_sc rfl (t_sc rfl (t_sc rfl (t_sc rfl (t_sc rfl t_sn))))) ?_
                      exact ih45 _ (by omega) gi60 gl60 gr60 (z65) (z64) hI hX  (Int.le_trans (by decide : (0:Int) ≤ 1) l65) u65 (Int.le_trans (by decide : (0:Int) ≤ 1) l64) (by omega : z64.toInt ≤ (20:Int)) ((hC60.1 69 46 rfl).1.trans ((hC55.1 69 46 rfl).1.trans c45_0)) ((hC60.1 70 8 rfl).1.trans ((hC55.1 70 8 rfl).1.trans c45_1)) (by have hq := ((funext (fun j => (hC60.1 70 j rfl).1) : gi60 70 = gi55 70).trans ((funext (fun j => (hC55.1 70 j rfl).1) : gi55 70 = gi45 70))); rw [hq]; exact j45_0) (by omega) (by omega) (fun D hm hb hd h46 R hQ hcr => (by
                                                            have fn := t_F_X hX37_45
                                                            have e70 : gi45 70 = gi 70 := t_F_nc fn rfl (by decide)
                                                            have hmn : t_ME 0 gi45 D := hm.mv hb (fun j _ _ _ => congrFun e70 (0 + j))
                                                            have h46n : (gi45 69 46).toInt = -1 := by rw [(fn 69 46 (by decide) rfl).1]; exact h46
                                                            have cy := t_clamp (i := y45_4) (by omega)
                                                            have hsd : z54.toInt = ar1.toInt + (y45_4.toNatClampNeg : Int) := by omega
                                                            have hq := q55 D R hmn hb hd h46n ⟨by omega, by omega⟩ (by rw [e70]; exact hQ) hcr
                                                            rw [hsd] at hq
                                                            obtain ⟨T, Z, h1, h2, h3, hO, e5, e6, e7⟩ := hq
                                                            have ex : z65.toNatClampNeg = y45_4.toNatClampNeg + 1 := by have := t_clamp (i := z65) (by omega); omega
                                                            have h12 : gi55 69 67 = Int32.ofInt ((s_day D R (ar1.toInt + (y45_4.toNatClampNeg : Int))) 6) := h2.2.trans (congrArg Int32.ofInt e6)
                                                            have z0 : (0 : Int32).toInt = 0 := rfl
                                                            have g1 := j45_3 D hm hb hd h46 R hQ hcr
                                                            have hlf : w60.toInt = s_lf (s_PY D (ar1.toInt + (y45_4.toNatClampNeg : Int))) Z := q60 (s_PY D (ar1.toInt + (y45_4.toNatClampNeg : Int))) Z _ T h1 h3 hO
                                                            have e7b : s_lf (s_PY D (ar1.toInt + (y45_4.toNatClampNeg : Int))) Z = s_lf (s_PY D (ar1.toInt + (y45_4.toNatClampNeg : Int))) (s_day D R (ar1.toInt + (y45_4.toNatClampNeg : Int))) := e7
                                                            have h9 : s_gd1 (s_PY D (ar1.toInt + (y45_4.toNatClampNeg : Int))) (s_day D R (ar1.toInt + (y45_4.toNatClampNeg : Int))) = 1 := if_pos ⟨h12.symm.trans (Int32.toInt_inj.mp ((show (gi55 69 67).toInt = 0 by omega).trans rfl)), by omega⟩
                                                            rw [ex]
                                                            show _ = s_gds D R ar1.toInt y45_4.toNatClampNeg + s_gd1 (s_PY D (ar1.toInt + (y45_4.toNatClampNeg : Int))) (s_day D R (ar1.toInt + (y45_4.toNatClampNeg : Int)))
                                                            omega)) (by omega) rfl
                    · have r66 : w60.toInt ≠ 0 := fun e => h61 (Int32.toInt_inj.mp (e.trans (by decide : (0:Int) = (0 : Int32).toInt)))
                      refine ev_ic f_X12_odds (nx := 71) (v := 0) rfl (by decide) rfl ?_
                      refine ev_addC f_X12_odds (nx := 72) (c := 0) (l := 0) (u := 20) rfl (by decide) l45_3 u45_3 rfl rfl (by decide) (by decide) rfl (fun z67 e67 l67 u67 => ?_)
                      refine ev_loc f_X12_odds (nx := 73) (lo' := [(3, .int z67), (4, .int y45_4), (0, .ref 69), (1, .int ar1), (2, .int ar2)]) rfl rfl rfl rfl ?_
                      refine ev_incR f_X12_odds (nx := 76) (c := 1) (l := 1) (u := 20) rfl rfl (by decide) (by decide) l45_4 u53 rfl rfl (by decide) (by decide) rfl (fun z68 e68 l68 u68 => ?_)
                      refine ev_jmp f_X12_odds (nx := 37) rfl rfl rfl ?_
                      refine ev_sub (lo := [(4, .int z68), (3, .int z67), (0, .ref 69), (1, .int ar1), (2, .int ar2)]) rfl (t_sc rfl (t_sc rfl (t_sc rfl (t_sc rfl (t_sc rfl t_sn))))) ?_
                      exact ih45 _ (by omega) gi60 gl60 gr60 (z68) (z67) hI hX  (Int.le_trans (by decide : (0:Int) ≤ 1) l68) u68 l67 u67 ((hC60.1 69 46 rfl).1.trans ((hC55.1 69 46 rfl).1.trans c45_0)) ((hC60.1 70 8 rfl).1.trans ((hC55.1 70 8 rfl).1.trans c45_1)) (by have hq := ((funext (fun j => (hC60.1 70 j rfl).1) : gi60 70 = gi55 70).trans ((funext (fun j => (hC55.1 70 j rfl).1) : gi55 70 = gi45 70))); rw [hq]; exact j45_0) (by omega) (by omega) (fun D hm hb hd h46 R hQ hcr => (by
                                                            have fn := t_F_X hX37_45
                                                            have e70 : gi45 70 = gi 70 := t_F_nc fn rfl (by decide)
                                                            have hmn : t_ME 0 gi45 D := hm.mv hb (fun j _ _ _ => congrFun e70 (0 + j))
                                                            have h46n : (gi45 69 46).toInt = -1 := by rw [(fn 69 46 (by decide) rfl).1]; exact h46
                                                            have cy := t_clamp (i := y45_4) (by omega)
                                                            have hsd : z54.toInt = ar1.toInt + (y45_4.toNatClampNeg : Int) := by omega
                                                            have hq := q55 D R hmn hb hd h46n ⟨by omega, by omega⟩ (by rw [e70]; exact hQ) hcr
                                                            rw [hsd] at hq
                                                            obtain ⟨T, Z, h1, h2, h3, hO, e5, e6, e7⟩ := hq
                                                            have ex : z68.toNatClampNeg = y45_4.toNatClampNeg + 1 := by have := t_clamp (i := z68) (by omega); omega
                                                            have h12 : gi55 69 67 = Int32.ofInt ((s_day D R (ar1.toInt + (y45_4.toNatClampNeg : Int))) 6) := h2.2.trans (congrArg Int32.ofInt e6)
                                                            have z0 : (0 : Int32).toInt = 0 := rfl
                                                            have g1 := j45_3 D hm hb hd h46 R hQ hcr
                                                            have hlf : w60.toInt = s_lf (s_PY D (ar1.toInt + (y45_4.toNatClampNeg : Int))) Z := q60 (s_PY D (ar1.toInt + (y45_4.toNatClampNeg : Int))) Z _ T h1 h3 hO
                                                            have e7b : s_lf (s_PY D (ar1.toInt + (y45_4.toNatClampNeg : Int))) Z = s_lf (s_PY D (ar1.toInt + (y45_4.toNatClampNeg : Int))) (s_day D R (ar1.toInt + (y45_4.toNatClampNeg : Int))) := e7
                                                            have h9 : s_gd1 (s_PY D (ar1.toInt + (y45_4.toNatClampNeg : Int))) (s_day D R (ar1.toInt + (y45_4.toNatClampNeg : Int))) = 0 := if_neg (fun hh => by have k9 := hh.2; omega)
                                                            rw [ex]
                                                            show _ = s_gds D R ar1.toInt y45_4.toNatClampNeg + s_gd1 (s_PY D (ar1.toInt + (y45_4.toNatClampNeg : Int))) (s_day D R (ar1.toInt + (y45_4.toNatClampNeg : Int)))
                                                            omega)) (by omega) rfl
                  · have r69 : (gi55 69 67).toInt ≠ 0 := fun e => h57 (Int32.toInt_inj.mp (e.trans (by decide : (0:Int) = (0 : Int32).toInt)))
                    refine ev_ic f_X12_odds (nx := 71) (v := 0) rfl (by decide) rfl ?_
                    refine ev_addC f_X12_odds (nx := 72) (c := 0) (l := 0) (u := 20) rfl (by decide) l45_3 u45_3 rfl rfl (by decide) (by decide) rfl (fun z70 e70 l70 u70 => ?_)
                    refine ev_loc f_X12_odds (nx := 73) (lo' := [(3, .int z70), (4, .int y45_4), (0, .ref 69), (1, .int ar1), (2, .int ar2)]) rfl rfl rfl rfl ?_
                    refine ev_incR f_X12_odds (nx := 76) (c := 1) (l := 1) (u := 20) rfl rfl (by decide) (by decide) l45_4 u53 rfl rfl (by decide) (by decide) rfl (fun z71 e71 l71 u71 => ?_)
                    refine ev_jmp f_X12_odds (nx := 37) rfl rfl rfl ?_
                    refine ev_sub (lo := [(4, .int z71), (3, .int z70), (0, .ref 69), (1, .int ar1), (2, .int ar2)]) rfl (t_sc rfl (t_sc rfl (t_sc rfl (t_sc rfl (t_sc rfl t_sn))))) ?_
                    exact ih45 _ (by omega) gi55 gl55 gr55 (z71) (z70) hI hX  (Int.le_trans (by decide : (0:Int) ≤ 1) l71) u71 l70 u70 ((hC55.1 69 46 rfl).1.trans c45_0) ((hC55.1 70 8 rfl).1.trans c45_1) (by have hq := ((funext (fun j => (hC55.1 70 j rfl).1) : gi55 70 = gi45 70)); rw [hq]; exact j45_0) (by omega) (by omega) (fun D hm hb hd h46 R hQ hcr => (by
                                                            have fn := t_F_X hX37_45
                                                            have e70 : gi45 70 = gi 70 := t_F_nc fn rfl (by decide)
                                                            have hmn : t_ME 0 gi45 D := hm.mv hb (fun j _ _ _ => congrFun e70 (0 + j))
                                                            have h46n : (gi45 69 46).toInt = -1 := by rw [(fn 69 46 (by decide) rfl).1]; exact h46
                                                            have cy := t_clamp (i := y45_4) (by omega)
                                                            have hsd : z54.toInt = ar1.toInt + (y45_4.toNatClampNeg : Int) := by omega
                                                            have hq := q55 D R hmn hb hd h46n ⟨by omega, by omega⟩ (by rw [e70]; exact hQ) hcr
                                                            rw [hsd] at hq
                                                            obtain ⟨T, Z, h1, h2, h3, hO, e5, e6, e7⟩ := hq
                                                            have ex : z71.toNatClampNeg = y45_4.toNatClampNeg + 1 := by have := t_clamp (i := z71) (by omega); omega
                                                            have h12 : gi55 69 67 = Int32.ofInt ((s_day D R (ar1.toInt + (y45_4.toNatClampNeg : Int))) 6) := h2.2.trans (congrArg Int32.ofInt e6)
                                                            have z0 : (0 : Int32).toInt = 0 := rfl
                                                            have g1 := j45_3 D hm hb hd h46 R hQ hcr
                                                            have h9 : s_gd1 (s_PY D (ar1.toInt + (y45_4.toNatClampNeg : Int))) (s_day D R (ar1.toInt + (y45_4.toNatClampNeg : Int))) = 0 := if_neg (fun hh => by have k9 := congrArg Int32.toInt (h12.trans hh.1); omega)
                                                            rw [ex]
                                                            show _ = s_gds D R ar1.toInt y45_4.toNatClampNeg + s_gd1 (s_PY D (ar1.toInt + (y45_4.toNatClampNeg : Int))) (s_day D R (ar1.toInt + (y45_4.toNatClampNeg : Int)))
                                                            omega)) (by omega) rfl
              refine ev_sub (lo := [(4, .int 0), (3, .int 0), (0, .ref 69), (1, .int ar1), (2, .int ar2)]) rfl (t_sc rfl (t_sc rfl (t_sc rfl (t_sc rfl (t_sc rfl t_sn))))) ?_
              exact L45 _ gi gl gr (0) (0) hI hX  (by decide : (0:Int) ≤ (0:Int32).toInt) (Int.le_trans (by decide : (0:Int32).toInt ≤ (0:Int)) (by decide : (0:Int) ≤ 20)) (by decide : (0:Int) ≤ (0:Int32).toInt) (Int.le_trans (by decide : (0:Int32).toInt ≤ (0:Int)) (by decide : (0:Int) ≤ 20)) rfl rfl e_p0 (by have kf72 : (0 : Int32).toInt = 0 := (by decide); omega) (by have kf73 : (0 : Int32).toInt = 0 := (by decide); omega) (fun D hm hb hd h46 R hQ hcr => rfl) (by have kf74 : (0 : Int32).toInt = 0 := (by decide); omega) rfl
