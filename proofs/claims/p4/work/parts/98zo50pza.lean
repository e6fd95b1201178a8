/-! ===== printed by riv.py: keep, waits of the other side ===== -/
noncomputable def wl_e_keep : List (Nat × Nat) := [(69, 2), (69, 44), (69, 45), (69, 58), (69, 59), (69, 60), (69, 61), (69, 62), (69, 63), (69, 64), (69, 65), (69, 66), (69, 67), (69, 68), (69, 69), (69, 70), (69, 74), (89, 10005), (89, 610011), (90, 9999), (91, 9999), (99, 9999), (100, 9999), (101, 9999)]
noncomputable def Q_e_keep (gi : Nat → Nat → Int32) (gl : Nat → Nat → Int64) (gr : Nat → Nat → Value) (ar1 : Int32) : Int32 → (Nat → Nat → Int32) → (Nat → Nat → Int64) → (Nat → Nat → Value) → Prop := fun (v : Int32) (gi2 : Nat → Nat → Int32) (gl2 : Nat → Nat → Int64) (gr2 : Nat → Nat → Value) => ∀ (D : s_D), t_ME 0 gi D → t_Cb D → s_DB D → (gi 69 46).toInt = -1 → (((-1 ≤ ar1.toInt ∧ ar1.toInt ≤ 9999) ∧ (gi 70 8).toInt ≠ 0) → ∀ R : List (List Int × Int), t_MQ (gi 70) R → s_crs R → v = Int32.ofInt (s_day D R ar1.toInt 5)) ∧ (¬ ((-1 ≤ ar1.toInt ∧ ar1.toInt ≤ 9999) ∧ (gi 70 8).toInt ≠ 0) → v.toInt = -1)
theorem c_e_keep {X : x_Ext} {d : Nat} {sh : List (Nat ⊕ (Nat × Nat))} {gi : Nat → Nat → Int32} {gl : Nat → Nat → Int64} {gr : Nat → Nat → Value} (hI : t_I sh gi gr) (ar1 : Int32) (e_p0 : t_rpn (gi 70) 0) : x_Me X (d + 7) n_X12_keep [.ref 69, .int ar1] (sh, gi, gl, gr) (t_PI wl_e_keep sh gi gl gr (-2147483648) 2147483647 (Q_e_keep gi gl gr ar1)) := by
  have hX : t_X wl_e_keep sh gi gl gr gi gl gr := t_X.rf
  refine me_i f_X12_keep (hI.wf.s rfl) rfl rfl rfl ?_
  obtain ⟨l2, u2⟩ := hI.ab (by decide +kernel : t_abr 70 8 8 0 1 = true) (Nat.le_refl _) (Nat.le_refl _)
  refine ev_loc f_X12_keep (nx := 1) rfl rfl rfl rfl ?_
  refine ev_ic f_X12_keep (nx := 2) (v := -1) rfl (by decide) rfl ?_
  refine ev_if f_X12_keep (t1 := 23) (t2 := 5) rfl rfl rfl (fun h3 => ?_) (fun h3 => ?_)
  · have u4 : ar1.toInt ≤ (-1) := t_equ h3 (by decide : ((-1):Int32).toInt ≤ ((-1):Int))
    have l5 : (-1) ≤ ar1.toInt := t_eql h3 (by decide : ((-1):Int) ≤ ((-1):Int32).toInt)
    refine ev_loc f_X12_keep (nx := 24) rfl rfl rfl rfl ?_
    refine ev_getR f_X12_keep (nx := 27) rfl (hI.wf.s rfl) rfl rfl (hI.wf.r rfl) rfl rfl ?_
    refine ev_bp f_X12_keep (nx := 29) (v := 8) rfl (by decide) rfl ?_
    refine ev_ialdv f_X12_keep (nx := 30) (w := (gi 70 8)) rfl (hI.wf.s rfl) (by decide) (rfl : (8 : Int32).toNatClampNeg = 8) (by decide) rfl rfl ?_
    refine ev_if f_X12_keep (t1 := 33) (t2 := 40) rfl rfl rfl (fun h7 => ?_) (fun h7 => ?_)
    · have u8 : (gi 70 8).toInt ≤ 0 := t_equ h7 (by decide : (0:Int32).toInt ≤ (0:Int))
      refine ev_loc f_X12_keep (nx := 34) rfl rfl rfl rfl ?_
      refine ev_bp f_X12_keep (nx := 36) (v := 6) rfl (by decide) rfl ?_
      refine ev_inV2 f_X12_keep (nx := 39) (lo2 := [(0, .ref 69), (1, .int 6)]) rfl rfl rfl rfl f_X12_refuse (hI.wf.s rfl) rfl rfl rfl rfl rfl ?_
      refine ev_loc f_X12_refuse (nx := 1) rfl rfl rfl rfl ?_
      refine ev_loc f_X12_refuse (nx := 2) rfl rfl rfl rfl ?_
      refine ev_putIT f_X12_refuse (nx := 5) rfl (hI.wf.s rfl) rfl rfl rfl (hI.put0 (hI.wf.s rfl) rfl rfl) (hX.upI rfl) (fun g9 e9 hI hX => ?_)
      refine ev_ic f_X12_refuse (nx := 6) (v := -1) rfl (by decide) rfl ?_
      refine ev_retK1 f_X12_refuse rfl rfl rfl ?_
      exact ev_ret f_X12_keep rfl rfl rfl ⟨_, _, _, rfl, hI, hX, ⟨_, rfl, (Int.le_trans (by decide : ((-2147483648):Int) ≤ (-1)) (by decide : ((-1):Int) ≤ ((-1):Int32).toInt)), (Int.le_trans (by decide : ((-1):Int32).toInt ≤ ((-1):Int)) (by decide : ((-1):Int) ≤ 2147483647)), (show ∀ (D : s_D), t_ME 0 gi D → t_Cb D → s_DB D → (gi 69 46).toInt = -1 → (((-1 ≤ ar1.toInt ∧ ar1.toInt ≤ 9999) ∧ (gi 70 8).toInt ≠ 0) → ∀ R : List (List Int × Int), t_MQ (gi 70) R → s_crs R → ((-1) : Int32) = Int32.ofInt (s_day D R ar1.toInt 5)) ∧ (¬ ((-1 ≤ ar1.toInt ∧ ar1.toInt ≤ 9999) ∧ (gi 70 8).toInt ≠ 0) → ((-1) : Int) = -1) from (fun D hm hb hd h46 => ⟨fun h => absurd h.2 (by omega), fun _ => rfl⟩))⟩⟩
    · have r10 : (gi 70 8).toInt ≠ 0 := fun e => h7 (Int32.toInt_inj.mp (e.trans (by decide : (0:Int) = (0 : Int32).toInt)))
      have l11 : 1 ≤ (gi 70 8).toInt := t_nel h7 l2 rfl rfl
      refine ev_loc f_X12_keep (nx := 41) rfl rfl rfl rfl ?_
      refine ev_loc f_X12_keep (nx := 42) rfl rfl rfl rfl ?_
      refine ev_qN f_X12_keep (nx := 45) (r := []) rfl rfl rfl rfl rfl rfl rfl (c_y_keeps hI (ar1) e_p0) rfl hX rfl (fun gi12 gl12 gr12 hI hX hC12 q12 => ?_)
      have q12 : (∀ (D : s_D) (R : List (List Int × Int)), t_ME 0 gi D → t_Cb D → s_DB D → (gi 69 46).toInt = -1 → (-1 ≤ ar1.toInt ∧ ar1.toInt ≤ 9999) → t_MQ (gi 70) R → s_crs R → s_TP gi12 (gi12 70 4).toInt (s_PY D ar1.toInt) ∧ t_YR (s_PY D ar1.toInt) (fun F => s_ac F R) gi12) := q12
      refine ev_loc f_X12_keep (nx := 46) rfl rfl rfl rfl ?_
      refine ev_getR f_X12_keep (nx := 49) rfl (hI.wf.s rfl) rfl rfl (hI.wf.r rfl) rfl rfl ?_
      refine ev_ic f_X12_keep (nx := 50) (v := 0) rfl (by decide) rfl ?_
      refine ev_loc f_X12_keep (nx := 51) rfl rfl rfl rfl ?_
      refine ev_getI f_X12_keep (nx := 54) rfl (hI.wf.s rfl) rfl rfl rfl ?_
      refine ev_iastT f_X12_keep (nx := 55) rfl (hI.wf.s rfl) (by decide : (0:Int) ≤ (0:Int32).toInt) (by decide) (by decide : (0:Int32).toInt ≤ (0:Int)) (by decide) rfl (hI.astG (hI.wf.s rfl) (fun lo hi e => absurd e (t_nob (by decide +kernel) _)) (fun k hk e => by have := hk.2.1; omega)) (hX.upI (t_inA_ok rfl)) (fun g13 e13 hI hX => ?_)
      refine ev_loc f_X12_keep (nx := 56) rfl rfl rfl rfl ?_
      refine ev_getR f_X12_keep (nx := 59) rfl (hI.wf.s rfl) rfl rfl (hI.wf.r rfl) rfl rfl ?_
      refine ev_ic f_X12_keep (nx := 60) (v := 1) rfl (by decide) rfl ?_
      refine ev_loc f_X12_keep (nx := 61) rfl rfl rfl rfl ?_
      refine ev_getI f_X12_keep (nx := 64) rfl (hI.wf.s rfl) rfl rfl rfl ?_
      refine ev_iastT f_X12_keep (nx := 65) rfl (hI.wf.s rfl) (by decide : (1:Int) ≤ (1:Int32).toInt) (by decide) (by decide : (1:Int32).toInt ≤ (1:Int)) (by decide) rfl (hI.astG (hI.wf.s rfl) (fun lo hi e => absurd e (t_nob (by decide +kernel) _)) (fun k hk e => by have := hk.2.1; omega)) (hX.upI (t_inA_ok rfl)) (fun g14 e14 hI hX => ?_)
      refine ev_loc f_X12_keep (nx := 66) rfl rfl rfl rfl ?_
      refine ev_getR f_X12_keep (nx := 69) rfl (hI.wf.s rfl) rfl rfl (hI.wf.r rfl) rfl rfl ?_
      refine ev_ic f_X12_keep (nx := 70) (v := 2) rfl (by decide) rfl ?_
      refine ev_loc f_X12_keep (nx := 71) rfl rfl rfl rfl ?_
      refine ev_getI f_X12_keep (nx := 74) rfl (hI.wf.s rfl) rfl rfl rfl ?_
      refine ev_iastT f_X12_keep (nx := 75) rfl (hI.wf.s rfl) (by decide : (2:Int) ≤ (2:Int32).toInt) (by decide) (by decide : (2:Int32).toInt ≤ (2:Int)) (by decide) rfl (hI.astG (hI.wf.s rfl) (fun lo hi e => absurd e (t_nob (by decide +kernel) _)) (fun k hk e => by have := hk.2.1; omega)) (hX.upI (t_inA_ok rfl)) (fun g15 e15 hI hX => ?_)
      refine ev_loc f_X12_keep (nx := 76) rfl rfl rfl rfl ?_
      refine ev_getR f_X12_keep (nx := 79) rfl (hI.wf.s rfl) rfl rfl (hI.wf.r rfl) rfl rfl ?_
      refine ev_ic f_X12_keep (nx := 80) (v := 3) rfl (by decide) rfl ?_
      refine ev_loc f_X12_keep (nx := 81) rfl rfl rfl rfl ?_
      refine ev_qI f_X12_keep (nx := 84) (r := [.int 3, .ref 101]) rfl rfl rfl rfl rfl rfl rfl (c_y_leftOver hI ) rfl hX rfl (fun w16 gi16 gl16 gr16 l16 u16 hI hX hC16 q16 => ?_)
      have q16 : (∀ (P : Nat → Nat → Int) (Z : Nat → Int) (q : Int), s_TP g15 q P → t_YS (P 0 0).toNat Z g15 → (g15 69 65).toInt = Z 4 → s_okz P Z → w16.toInt = s_lf P Z) := q16
      refine ev_iastT f_X12_keep (nx := 85) rfl (hI.wf.s rfl) (by decide : (3:Int) ≤ (3:Int32).toInt) (by decide) (by decide : (3:Int32).toInt ≤ (3:Int)) (by decide) rfl (hI.astG (hI.wf.s rfl) (fun lo hi e => absurd e (t_nob (by decide +kernel) _)) (fun k hk e => by have := hk.2.1; omega)) (hX.upI (t_inA_ok rfl)) (fun g17 e17 hI hX => ?_)
      refine ev_loc f_X12_keep (nx := 86) rfl rfl rfl rfl ?_
      refine ev_getR f_X12_keep (nx := 89) rfl (hI.wf.s rfl) rfl rfl (hI.wf.r rfl) rfl rfl ?_
      refine ev_ic f_X12_keep (nx := 90) (v := 4) rfl (by decide) rfl ?_
      refine ev_loc f_X12_keep (nx := 91) rfl rfl rfl rfl ?_
      refine ev_getI f_X12_keep (nx := 94) rfl (hI.wf.s rfl) rfl rfl rfl ?_
      refine ev_iastT f_X12_keep (nx := 95) rfl (hI.wf.s rfl) (by decide : (4:Int) ≤ (4:Int32).toInt) (by decide) (by decide : (4:Int32).toInt ≤ (4:Int)) (by decide) rfl (hI.astG (hI.wf.s rfl) (fun lo hi e => absurd e (t_nob (by decide +kernel) _)) (fun k hk e => by have := hk.2.1; omega)) (hX.upI (t_inA_ok rfl)) (fun g18 e18 hI hX => ?_)
      refine ev_loc f_X12_keep (nx := 96) rfl rfl rfl rfl ?_
      refine ev_ic f_X12_keep (nx := 97) (v := 1) rfl (by decide) rfl ?_
      refine ev_putZT f_X12_keep (nx := 100) rfl (hI.wf.s rfl) rfl rfl (Int.le_trans (by decide : (0:Int) ≤ 1) (by decide : (1:Int) ≤ (1:Int32).toInt)) (by decide : (1:Int32).toInt ≤ (1:Int)) rfl (hI.put0 (hI.wf.s rfl) rfl rfl) (hX.upI rfl) (fun g19 e19 hI hX => ?_)
      refine ev_loc f_X12_keep (nx := 101) rfl rfl rfl rfl ?_
      refine ev_loc f_X12_keep (nx := 102) rfl rfl rfl rfl ?_
      refine ev_getI f_X12_keep (nx := 105) rfl (hI.wf.s rfl) rfl rfl rfl ?_
      refine ev_inV2 f_X12_keep (nx := 108) (lo2 := [(0, .ref 69), (1, .int (g19 69 66))]) rfl rfl rfl rfl f_X12_gives (hI.wf.s rfl) rfl rfl rfl rfl rfl ?_
      refine ev_loc f_X12_gives (nx := 1) rfl rfl rfl rfl ?_
      refine ev_ic f_X12_gives (nx := 2) (v := 0) rfl (by decide) rfl ?_
      refine ev_putIT f_X12_gives (nx := 5) rfl (hI.wf.s rfl) rfl rfl rfl (hI.put0 (hI.wf.s rfl) rfl rfl) (hX.upI rfl) (fun g20 e20 hI hX => ?_)
      refine ev_loc f_X12_gives (nx := 6) rfl rfl rfl rfl ?_
      refine ev_retK1 f_X12_gives rfl rfl rfl ?_
      exact ev_ret f_X12_keep rfl rfl rfl ⟨_, _, _, rfl, hI, hX, ⟨_, rfl, (t_lo (g19 69 66)), (t_hi (g19 69 66)), (show ∀ (D : s_D), t_ME 0 gi D → t_Cb D → s_DB D → (gi 69 46).toInt = -1 → (((-1 ≤ ar1.toInt ∧ ar1.toInt ≤ 9999) ∧ (gi 70 8).toInt ≠ 0) → ∀ R : List (List Int × Int), t_MQ (gi 70) R → s_crs R → (g19 69 66) = Int32.ofInt (s_day D R ar1.toInt 5)) ∧ (¬ ((-1 ≤ ar1.toInt ∧ ar1.toInt ≤ 9999) ∧ (gi 70 8).toInt ≠ 0) → (g19 69 66).toInt = -1) from (fun D hm hb hd h46 => ⟨fun _ R hQ hcr => (by
                                                            obtain ⟨T, Z, h1, h2, h3, hO, e5, e6, e7⟩ := q12 D R hm hb hd h46 ⟨by omega, by omega⟩ hQ hcr
                                                            have ev : (g19 69 66) = gi12 69 66 := (by rw [e19, x_up2_off (Or.inr (by decide)), e18, x_up2_off (Or.inl (by decide)), e17, x_up2_off (Or.inl (by decide)), (hC16.1 69 66 rfl).1, e15, x_up2_off (Or.inl (by decide)), e14, x_up2_off (Or.inl (by decide)), e13, x_up2_off (Or.inl (by decide))])
                                                            rw [ev, h2.1, e5]; rfl), fun h => absurd (show _ from ⟨⟨by omega, by omega⟩, by omega⟩) h⟩))⟩⟩
  · have r21 : ar1.toInt ≠ (-1) := fun e => h3 (Int32.toInt_inj.mp (e.trans (by decide : ((-1):Int) = ((-1) : Int32).toInt)))
    refine ev_loc f_X12_keep (nx := 6) rfl rfl rfl rfl ?_
    refine ev_anyLE f_X12_keep (nx := 7) rfl rfl rfl rfl (fun z22 e22 => ?_)
    have i22 : z22.toInt = ar1.toInt := by rw [e22]; exact Int32.toInt_toInt64 _
    refine ev_lc f_X12_keep (nx := 8) (v := 0) rfl (by decide) rfl ?_
    refine ev_ldL f_X12_keep (nx := 11) (v := 9999) rfl (by decide) rfl ?_
    refine ev_inS3 f_X12_keep (nx := 14) (lo2 := [(0, .long z22), (2, .long 0), (4, .long 9999)]) rfl rfl rfl rfl f_X12_isFrom rfl rfl rfl rfl ?_
    refine ev_loc f_X12_isFrom (nx := 1) rfl rfl rfl rfl ?_
    refine ev_loc f_X12_isFrom (nx := 2) rfl rfl rfl rfl ?_
    refine ev_anyIE f_X12_isFrom (nx := 3) rfl rfl rfl rfl (fun z23 e23 => ?_)
    refine ev_if f_X12_isFrom (t1 := 17) (t2 := 6) rfl rfl rfl (fun h24 => ?_) (fun h24 => ?_)
    · have u25 : ar1.toInt ≤ ((-1):Int) := Int.le_sub_one_of_lt ((lgc_lt (by decide : (0 : Int64).toInt = 0)).mp (by have hh := h24; rw [e23, e22] at hh; exact hh))
      have u26 : z23.toInt ≤ (-1) := t_ltu h24 (by decide : (0:Int32).toInt ≤ (0:Int)) rfl
      refine ev_ic f_X12_isFrom (nx := 18) (v := 0) rfl (by decide) rfl ?_
      refine ev_retK1 f_X12_isFrom rfl rfl rfl ?_
      refine ev_t f_X12_keep (t1 := 17) (t2 := 23) rfl rfl rfl (by decide) ?_
      refine ev_loc f_X12_keep (nx := 18) rfl rfl rfl rfl ?_
      refine ev_ic f_X12_keep (nx := 19) (v := 1) rfl (by decide) rfl ?_
      refine ev_inV2 f_X12_keep (nx := 22) (lo2 := [(0, .ref 69), (1, .int 1)]) rfl rfl rfl rfl f_X12_refuse (hI.wf.s rfl) rfl rfl rfl rfl rfl ?_
      refine ev_loc f_X12_refuse (nx := 1) rfl rfl rfl rfl ?_
      refine ev_loc f_X12_refuse (nx := 2) rfl rfl rfl rfl ?_
      refine ev_putIT f_X12_refuse (nx := 5) rfl (hI.wf.s rfl) rfl rfl rfl (hI.put0 (hI.wf.s rfl) rfl rfl) (hX.upI rfl) (fun g27 e27 hI hX => ?_)
      refine ev_ic f_X12_refuse (nx := 6) (v := -1) rfl (by decide) rfl ?_
      refine ev_retK1 f_X12_refuse rfl rfl rfl ?_
      exact ev_ret f_X12_keep rfl rfl rfl ⟨_, _, _, rfl, hI, hX, ⟨_, rfl, (Int.le_trans (by decide : ((-2147483648):Int) ≤ (-1)) (by decide : ((-1):Int) ≤ ((-1):Int32).toInt)), (Int.le_trans (by decide : ((-1):Int32).toInt ≤ ((-1):Int)) (by decide : ((-1):Int) ≤ 2147483647)), (show ∀ (D : s_D), t_ME 0 gi D → t_Cb D → s_DB D → (gi 69 46).toInt = -1 → (((-1 ≤ ar1.toInt ∧ ar1.toInt ≤ 9999) ∧ (gi 70 8).toInt ≠ 0) → ∀ R : List (List Int × Int), t_MQ (gi 70) R → s_crs R → ((-1) : Int32) = Int32.ofInt (s_day D R ar1.toInt 5)) ∧ (¬ ((-1 ≤ ar1.toInt ∧ ar1.toInt ≤ 9999) ∧ (gi 70 8).toInt ≠ 0) → ((-1) : Int) = -1) from (fun D hm hb hd h46 => ⟨fun h => absurd h.1 (by omega), fun _ => rfl⟩))⟩⟩
    · have l28 : (0:Int) ≤ ar1.toInt := (lgc_ge (by decide : (0 : Int64).toInt = 0)).mp (by have hh := (t_nlt h24); rw [e23, e22] at hh; exact hh)
      have l29 : 0 ≤ z23.toInt := t_lel (t_nlt h24) (by decide : (0:Int) ≤ (0:Int32).toInt)
      refine ev_loc f_X12_isFrom (nx := 7) rfl rfl rfl rfl ?_
      refine ev_loc f_X12_isFrom (nx := 9) rfl rfl rfl rfl ?_
      refine ev_anyIE f_X12_isFrom (nx := 10) rfl rfl rfl rfl (fun z30 e30 => ?_)
      refine ev_if f_X12_isFrom (t1 := 17) (t2 := 13) rfl rfl rfl (fun h31 => ?_) (fun h31 => ?_)
      · have l32 : (10000:Int) ≤ ar1.toInt := Int.add_one_le_of_lt ((lgc_gt (by decide : (9999 : Int64).toInt = 9999)).mp (by have hh := h31; rw [e30, e22] at hh; exact hh))
        have l33 : 1 ≤ z30.toInt := t_ltl h31 (by decide : (0:Int) ≤ (0:Int32).toInt) rfl
        refine ev_ic f_X12_isFrom (nx := 18) (v := 0) rfl (by decide) rfl ?_
        refine ev_retK1 f_X12_isFrom rfl rfl rfl ?_
        refine ev_t f_X12_keep (t1 := 17) (t2 := 23) rfl rfl rfl (by decide) ?_
        refine ev_loc f_X12_keep (nx := 18) rfl rfl rfl rfl ?_
        refine ev_ic f_X12_keep (nx := 19) (v := 1) rfl (by decide) rfl ?_
        refine ev_inV2 f_X12_keep (nx := 22) (lo2 := [(0, .ref 69), (1, .int 1)]) rfl rfl rfl rfl f_X12_refuse (hI.wf.s rfl) rfl rfl rfl rfl rfl ?_
        refine ev_loc f_X12_refuse (nx := 1) rfl rfl rfl rfl ?_
        refine ev_loc f_X12_refuse (nx := 2) rfl rfl rfl rfl ?_
        refine ev_putIT f_X12_refuse (nx := 5) rfl (hI.wf.s rfl) rfl rfl rfl (hI.put0 (hI.wf.s rfl) rfl rfl) (hX.upI rfl) (fun g34 e34 hI hX => ?_)
        refine ev_ic f_X12_refuse (nx := 6) (v := -1) rfl (by decide) rfl ?_
        refine ev_retK1 f_X12_refuse rfl rfl rfl ?_
        exact ev_ret f_X12_keep rfl rfl rfl ⟨_, _, _, rfl, hI, hX, ⟨_, rfl, (Int.le_trans (by decide : ((-2147483648):Int) ≤ (-1)) (by decide : ((-1):Int) ≤ ((-1):Int32).toInt)), (Int.le_trans (by decide : ((-1):Int32).toInt ≤ ((-1):Int)) (by decide : ((-1):Int) ≤ 2147483647)), (show ∀ (D : s_D), t_ME 0 gi D → t_Cb D → s_DB D → (gi 69 46).toInt = -1 → (((-1 ≤ ar1.toInt ∧ ar1.toInt ≤ 9999) ∧ (gi 70 8).toInt ≠ 0) → ∀ R : List (List Int × Int), t_MQ (gi 70) R → s_crs R → ((-1) : Int32) = Int32.ofInt (s_day D R ar1.toInt 5)) ∧ (¬ ((-1 ≤ ar1.toInt ∧ ar1.toInt ≤ 9999) ∧ (gi 70 8).toInt ≠ 0) → ((-1) : Int) = -1) from (fun D hm hb hd h46 => ⟨fun h => absurd h.1 (by omega), fun _ => rfl⟩))⟩⟩
      · have u35 : ar1.toInt ≤ (9999:Int) := (lgc_le (by decide : (9999 : Int64).toInt = 9999)).mp (by have hh := (t_nlt h31); rw [e30, e22] at hh; exact hh)
        have u36 : z30.toInt ≤ 0 := t_leu (t_nlt h31) (by decide : (0:Int32).toInt ≤ (0:Int))
        refine ev_ic f_X12_isFrom (nx := 14) (v := 1) rfl (by decide) rfl ?_
        refine ev_jmp f_X12_isFrom (nx := 18) rfl rfl rfl ?_
        refine ev_retK1 f_X12_isFrom rfl rfl rfl ?_
        refine ev_f f_X12_keep (t1 := 17) (t2 := 23) rfl rfl rfl (by decide) ?_
        refine ev_loc f_X12_keep (nx := 24) rfl rfl rfl rfl ?_
        refine ev_getR f_X12_keep (nx := 27) rfl (hI.wf.s rfl) rfl rfl (hI.wf.r rfl) rfl rfl ?_
        refine ev_bp f_X12_keep (nx := 29) (v := 8) rfl (by decide) rfl ?_
        refine ev_ialdv f_X12_keep (nx := 30) (w := (gi 70 8)) rfl (hI.wf.s rfl) (by decide) (rfl : (8 : Int32).toNatClampNeg = 8) (by decide) rfl rfl ?_
        refine ev_if f_X12_keep (t1 := 33) (t2 := 40) rfl rfl rfl (fun h38 => ?_) (fun h38 => ?_)
        · have u39 : (gi 70 8).toInt ≤ 0 := t_equ h38 (by decide : (0:Int32).toInt ≤ (0:Int))
          refine ev_loc f_X12_keep (nx := 34) rfl rfl rfl rfl ?_
          refine ev_bp f_X12_keep (nx := 36) (v := 6) rfl (by decide) rfl ?_
          refine ev_inV2 f_X12_keep (nx := 39) (lo2 := [(0, .ref 69), (1, .int 6)]) rfl rfl rfl rfl f_X12_refuse (hI.wf.s rfl) rfl rfl rfl rfl rfl ?_
          refine ev_loc f_X12_refuse (nx := 1) rfl rfl rfl rfl ?_
          refine ev_loc f_X12_refuse (nx := 2) rfl rfl rfl rfl ?_
          refine ev_putIT f_X12_refuse (nx := 5) rfl (hI.wf.s rfl) rfl rfl rfl (hI.put0 (hI.wf.s rfl) rfl rfl) (hX.upI rfl) (fun g40 e40 hI hX => ?_)
          refine ev_ic f_X12_refuse (nx := 6) (v := -1) rfl (by decide) rfl ?_
          refine ev_retK1 f_X12_refuse rfl rfl rfl ?_
          exact ev_ret f_X12_keep rfl rfl rfl ⟨_, _, _, rfl, hI, hX, ⟨_, rfl, (Int.le_trans (by decide : ((-2147483648):Int) ≤ (-1)) (by decide : ((-1):Int) ≤ ((-1):Int32).toInt)), (Int.le_trans (by decide : ((-1):Int32).toInt ≤ ((-1):Int)) (by decide : ((-1):Int) ≤ 2147483647)), (show ∀ (D : s_D), t_ME 0 gi D → t_Cb D → s_DB D → (gi 69 46).toInt = -1 → (((-1 ≤ ar1.toInt ∧ ar1.toInt ≤ 9999) ∧ (gi 70 8).toInt ≠ 0) → ∀ R : List (List Int × Int), t_MQ (gi 70) R → s_crs R → ((-1) : Int32) = Int32.ofInt (s_day D R ar1.toInt 5)) ∧ (¬ ((-1 ≤ ar1.toInt ∧ ar1.toInt ≤ 9999) ∧ (gi 70 8).toInt ≠ 0) → ((-1) : Int) = -1) from (fun D hm hb hd h46 => ⟨fun h => absurd h.2 (by omega), fun _ => rfl⟩))⟩⟩
        · have r41 : (gi 70 8).toInt ≠ 0 := fun e => h38 (Int32.toInt_inj.mp (e.trans (by decide : (0:Int) = (0 : Int32).toInt)))
          have l42 : 1 ≤ (gi 70 8).toInt := t_nel h38 l2 rfl rfl
          refine ev_loc f_X12_keep (nx := 41) rfl rfl rfl rfl ?_
          refine ev_loc f_X12_keep (nx := 42) rfl rfl rfl rfl ?_
          refine ev_qN f_X12_keep (nx := 45) (r := []) rfl rfl rfl rfl rfl rfl rfl (c_y_keeps hI (ar1) e_p0) rfl hX rfl (fun gi43 gl43 gr43 hI hX hC43 q43 => ?_)
          have q43 : (∀ (D : s_D) (R : List (List Int × Int)), t_ME 0 gi D → t_Cb D → s_DB D → (gi 69 46).toInt = -1 → (-1 ≤ ar1.toInt ∧ ar1.toInt ≤ 9999) → t_MQ (gi 70) R → s_crs R → s_TP gi43 (gi43 70 4).toInt (s_PY D ar1.toInt) ∧ t_YR (s_PY D ar1.toInt) (fun F => s_ac F R) gi43) := q43
          refine ev_loc f_X12_keep (nx := 46) rfl rfl rfl rfl ?_
          refine ev_getR f_X12_keep (nx := 49) rfl (hI.wf.s rfl) rfl rfl (hI.wf.r rfl) rfl rfl ?_
          refine ev_ic f_X12_keep (nx := 50) (v := 0) rfl (by decide) rfl ?_
          refine ev_loc f_X12_keep (nx := 51) rfl rfl rfl rfl ?_
          refine ev_getI f_X12_keep (nx := 54) rfl (hI.wf.s rfl) rfl rfl rfl ?_
          refine ev_iastT f_X12_keep (nx := 55) rfl (hI.wf.s rfl) (by decide : (0:Int) ≤ (0:Int32).toInt) (by decide) (by decide : (0:Int32).toInt ≤ (0:Int)) (by decide) rfl (hI.astG (hI.wf.s rfl) (fun lo hi e => absurd e (t_nob (by decide +kernel) _)) (fun k hk e => by have := hk.2.1; omega)) (hX.upI (t_inA_ok rfl)) (fun g44 e44 hI hX => ?_)
          refine ev_loc f_X12_keep (nx := 56) rfl rfl rfl rfl ?_
          refine ev_getR f_X12_keep (nx := 59) rfl (hI.wf.s rfl) rfl rfl (hI.wf.r rfl) rfl rfl ?_
          refine ev_ic f_X12_keep (nx := 60) (v := 1) rfl (by decide) rfl ?_
          refine ev_loc f_X12_keep (nx := 61) rfl rfl rfl rfl ?_
          refine ev_getI f_X12_keep (nx := 64) rfl (hI.wf.s rfl) rfl rfl rfl ?_
          refine ev_iastT f_X12_keep (nx := 65) rfl (hI.wf.s rfl) (by decide : (1:Int) ≤ (1:Int32).toInt) (by decide) (by decide : (1:Int32).toInt ≤ (1:Int)) (by decide) rfl (hI.astG (hI.wf.s rfl) (fun lo hi e => absurd e (t_nob (by decide +kernel) _)) (fun k hk e => by have := hk.2.1; omega)) (hX.upI (t_inA_ok rfl)) (fun g45 e45 hI hX => ?_)
          refine ev_loc f_X12_keep (nx := 66) rfl rfl rfl rfl ?_
          refine ev_getR f_X12_keep (nx := 69) rfl (hI.wf.s rfl) rfl rfl (hI.wf.r rfl) rfl rfl ?_
          refine ev_ic f_X12_keep (nx := 70) (v := 2) rfl (by decide) rfl ?_
          refine ev_loc f_X12_keep (nx := 71) rfl rfl rfl rfl ?_
          refine ev_getI f_X12_keep (nx := 74) rfl (hI.wf.s rfl) rfl rfl rfl ?_
          refine ev_iastT f_X12_keep (nx := 75) rfl (hI.wf.s rfl) (by decide : (2:Int) ≤ (2:Int32).toInt) (by decide) (by decide : (2:Int32).toInt ≤ (2:Int)) (by decide) rfl (hI.astG (hI.wf.s rfl) (fun lo hi e => absurd e (t_nob (by decide +kernel) _)) (fun k hk e => by have := hk.2.1; omega)) (hX.upI (t_inA_ok rfl)) (fun g46 e46 hI hX => ?_)
          refine ev_loc f_X12_keep (nx := 76) rfl rfl rfl rfl ?_
          refine ev_getR f_X12_keep (nx := 79) rfl (hI.wf.s rfl) rfl rfl (hI.wf.r rfl) rfl rfl ?_
          refine ev_ic f_X12_keep (nx := 80) (v := 3) rfl (by decide) rfl ?_
          refine ev_loc f_X12_keep (nx := 81) rfl rfl rfl rfl ?_
          refine ev_qI f_X12_keep (nx := 84) (r := [.int 3, .ref 101]) rfl rfl rfl rfl rfl rfl rfl (c_y_leftOver hI ) rfl hX rfl (fun w47 gi47 gl47 gr47 l47 u47 hI hX hC47 q47 => ?_)
          have q47 : (∀ (P : Nat → Nat → Int) (Z : Nat → Int) (q : Int), s_TP g46 q P → t_YS (P 0 0).toNat Z g46 → (g46 69 65).toInt = Z 4 → s_okz P Z → w47.toInt = s_lf P Z) := q47
          refine ev_iastT f_X12_keep (nx := 85) rfl (hI.wf.s rfl) (by decide : (3:Int) ≤ (3:Int32).toInt) (by decide) (by decide : (3:Int32).toInt ≤ (3:Int)) (by decide) rfl (hI.astG (hI.wf.s rfl) (fun lo hi e => absurd e (t_nob (by decide +kernel) _)) (fun k hk e => by have := hk.2.1; omega)) (hX.upI (t_inA_ok rfl)) (fun g48 e48 hI hX => ?_)
          refine ev_loc f_X12_keep (nx := 86) rfl rfl rfl rfl ?_
          refine ev_getR f_X12_keep (nx := 89) rfl (hI.wf.s rfl) rfl rfl (hI.wf.r rfl) rfl rfl ?_
          refine ev_ic f_X12_keep (nx := 90) (v := 4) rfl (by decide) rfl ?_
          refine ev_loc f_X12_keep (nx := 91) rfl rfl rfl rfl ?_
          refine ev_getI f_X12_keep (nx := 94) rfl (hI.wf.s rfl) rfl rfl rfl ?_
          refine ev_iastT f_X12_keep (nx := 95) rfl (hI.wf.s rfl) (by decide : (4:Int) ≤ (4:Int32).toInt) (by decide) (by decide : (4:Int32).toInt ≤ (4:Int)) (by decide) rfl (hI.astG (hI.wf.s rfl) (fun lo hi e => absurd e (t_nob (by decide +kernel) _)) (fun k hk e => by have := hk.2.1; omega)) (hX.upI (t_inA_ok rfl)) (fun g49 e49 hI hX => ?_)
          refine ev_loc f_X12_keep (nx := 96) rfl rfl rfl rfl ?_
          refine ev_ic f_X12_keep (nx := 97) (v := 1) rfl (by decide) rfl ?_
          refine ev_putZT f_X12_keep (nx := 100) rfl (hI.wf.s rfl) rfl rfl (Int.le_trans (by decide : (0:Int) ≤ 1) (by decide : (1:Int) ≤ (1:Int32).toInt)) (by decide : (1:Int32).toInt ≤ (1:Int)) rfl (hI.put0 (hI.wf.s rfl) rfl rfl) (hX.upI rfl) (fun g50 e50 hI hX => ?_)
          refine ev_loc f_X12_keep (nx := 101) rfl rfl rfl rfl ?_
          refine ev_loc f_X12_keep (nx := 102) rfl rfl rfl rfl ?_
          refine ev_getI f_X12_keep (nx := 105) rfl (hI.wf.s rfl) rfl rfl rfl ?_
          refine ev_inV2 f_X12_keep (nx := 108) (lo2 := [(0, .ref 69), (1, .int (g50 69 66))]) rfl rfl rfl rfl f_X12_gives (hI.wf.s rfl) rfl rfl rfl rfl rfl ?_
          refine ev_loc f_X12_gives (nx := 1) rfl rfl rfl rfl ?_
          refine ev_ic f_X12_gives (nx := 2) (v := 0) rfl (by decide) rfl ?_
          refine ev_putIT f_X12_gives (nx := 5) rfl (hI.wf.s rfl) rfl rfl rfl (hI.put0 (hI.wf.s rfl) rfl rfl) (hX.upI rfl) (fun g51 e51 hI hX => ?_)
          refine ev_loc f_X12_gives (nx := 6) rfl rfl rfl rfl ?_
          refine ev_retK1 f_X12_gives rfl rfl rfl ?_
          exact ev_ret f_X12_keep rfl rfl rfl ⟨_, _, _, rfl, hI, hX, ⟨_, rfl, (t_lo (g50 69 66)), (t_hi (g50 69 66)), (show ∀ (D : s_D), t_ME 0 gi D → t_Cb D → s_DB D → (gi 69 46).toInt = -1 → (((-1 ≤ ar1.toInt ∧ ar1.toInt ≤ 9999) ∧ (gi 70 8).toInt ≠ 0) → ∀ R : List (List Int × Int), t_MQ (gi 70) R → s_crs R → (g50 69 66) = Int32.ofInt (s_day D R ar1.toInt 5)) ∧ (¬ ((-1 ≤ ar1.toInt ∧ ar1.toInt ≤ 9999) ∧ (gi 70 8).toInt ≠ 0) → (g50 69 66).toInt = -1) from (fun D hm hb hd h46 => ⟨fun _ R hQ hcr => (by
                                                            obtain ⟨T, Z, h1, h2, h3, hO, e5, e6, e7⟩ := q43 D R hm hb hd h46 ⟨by omega, by omega⟩ hQ hcr
                                                            have ev : (g50 69 66) = gi43 69 66 := (by rw [e50, x_up2_off (Or.inr (by decide)), e49, x_up2_off (Or.inl (by decide)), e48, x_up2_off (Or.inl (by decide)), (hC47.1 69 66 rfl).1, e46, x_up2_off (Or.inl (by decide)), e45, x_up2_off (Or.inl (by decide)), e44, x_up2_off (Or.inl (by decide))])
                                                            rw [ev, h2.1, e5]; rfl), fun h => absurd (show _ from ⟨⟨by omega, by omega⟩, by omega⟩) h⟩))⟩⟩
noncomputable def wl_e_waits : List (Nat × Nat) := [(69, 2), (69, 44), (69, 45), (69, 58), (69, 59), (69, 60), (69, 61), (69, 62), (69, 63), (69, 64), (69, 65), (69, 66), (69, 67), (69, 68), (69, 69), (69, 70), (89, 10005), (89, 610011), (90, 9999), (91, 9999), (99, 9999), (100, 9999)]
noncomputable def Q_e_waits (gi : Nat → Nat → Int32) (gl : Nat → Nat → Int64) (gr : Nat → Nat → Value) (ar1 : Int32) (ar2 : Int32) : Int32 → (Nat → Nat → Int32) → (Nat → Nat → Int64) → (Nat → Nat → Value) → Prop := fun (v : Int32) (gi2 : Nat → Nat → Int32) (gl2 : Nat → Nat → Int64) (gr2 : Nat → Nat → Value) => ∀ (D : s_D), t_ME 0 gi D → t_Cb D → s_DB D → (gi 69 46).toInt = -1 → (((0 ≤ ar1.toInt ∧ ar1.toInt ≤ 9999 ∧ 1 ≤ ar2.toInt ∧ ar2.toInt ≤ 20 ∧ ar1.toInt + ar2.toInt ≤ 10000) ∧ (gi 70 8).toInt ≠ 0) → ∀ R : List (List Int × Int), t_MQ (gi 70) R → s_crs R → v = Int32.ofInt (s_wsm D R ar1.toInt ar2.toNatClampNeg)) ∧ (¬ ((0 ≤ ar1.toInt ∧ ar1.toInt ≤ 9999 ∧ 1 ≤ ar2.toInt ∧ ar2.toInt ≤ 20 ∧ ar1.toInt + ar2.toInt ≤ 10000) ∧ (gi 70 8).toInt ≠ 0) → v.toInt = -1)
theorem c_e_waits {X : x_Ext} {d : Nat} {sh : List (Nat ⊕ (Nat × Nat))} {gi : Nat → Nat → Int32} {gl : Nat → Nat → Int64} {gr : Nat → Nat → Value} (hI : t_I sh gi gr) (ar1 : Int32) (ar2 : Int32) (e_p0 : t_rpn (gi 70) 0) : x_Me X (d + 7) n_X12_waits [.ref 69, .int ar1, .int ar2] (sh, gi, gl, gr) (t_PI wl_e_waits sh gi gl gr (-2147483648) 2147483647 (Q_e_waits gi gl gr ar1 ar2)) := by
  have hX : t_X wl_e_waits sh gi gl gr gi gl gr := t_X.rf
  refine me_i f_X12_waits (hI.wf.s rfl) rfl rfl rfl ?_
  obtain ⟨l2, u2⟩ := hI.ab (by decide +kernel : t_abr 70 8 8 0 1 = true) (Nat.le_refl _) (Nat.le_refl _)
  refine ev_loc f_X12_waits (nx := 1) rfl rfl rfl rfl ?_
  refine ev_loc f_X12_waits (nx := 2) rfl rfl rfl rfl ?_
  refine ev_loc f_X12_waits (nx := 3) rfl rfl rfl rfl ?_
  refine ev_inV3 f_X12_waits (nx := 6) (lo2 := [(0, .ref 69), (1, .int ar1), (2, .int ar2)]) rfl rfl rfl rfl f_X12_areSeeds (hI.wf.s rfl) rfl rfl rfl rfl rfl ?_
  refine ev_loc f_X12_areSeeds (nx := 1) rfl rfl rfl rfl ?_
  refine ev_anyLE f_X12_areSeeds (nx := 2) rfl rfl rfl rfl (fun z3 e3 => ?_)
  have i3 : z3.toInt = ar1.toInt := by rw [e3]; exact Int32.toInt_toInt64 _
  refine ev_lc f_X12_areSeeds (nx := 3) (v := 0) rfl (by decide) rfl ?_
  refine ev_ldL f_X12_areSeeds (nx := 6) (v := 9999) rfl (by decide) rfl ?_
  refine ev_inS3 f_X12_areSeeds (nx := 9) (lo2 := [(0, .long z3), (2, .long 0), (4, .long 9999)]) rfl rfl rfl rfl f_X12_isFrom rfl rfl rfl rfl ?_
  refine ev_loc f_X12_isFrom (nx := 1) rfl rfl rfl rfl ?_
  refine ev_loc f_X12_isFrom (nx := 2) rfl rfl rfl rfl ?_
  refine ev_anyIE f_X12_isFrom (nx := 3) rfl rfl rfl rfl (fun z4 e4 => ?_)
  refine ev_if f_X12_isFrom (t1 := 17) (t2 := 6) rfl rfl rfl (fun h5 => ?_) (fun h5 => ?_)
  · have u6 : ar1.toInt ≤ ((-1):Int) := Int.le_sub_one_of_lt ((lgc_lt (by decide : (0 : Int64).toInt = 0)).mp (by have hh := h5; rw [e4, e3] at hh; exact hh))
    have u7 : z4.toInt ≤ (-1) := t_ltu h5 (by decide : (0:Int32).toInt ≤ (0:Int)) rfl
    refine ev_ic f_X12_isFrom (nx := 18) (v := 0) rfl (by decide) rfl ?_
    refine ev_retK1 f_X12_isFrom rfl rfl rfl ?_
    refine ev_t f_X12_areSeeds (t1 := 39) (t2 := 12) rfl rfl rfl (by decide) ?_
    refine ev_ic f_X12_areSeeds (nx := 40) (v := 0) rfl (by decide) rfl ?_
    refine ev_retK1 f_X12_areSeeds rfl rfl rfl ?_
    refine ev_t f_X12_waits (t1 := 9) (t2 := 15) rfl rfl rfl (by decide) ?_
    refine ev_loc f_X12_waits (nx := 10) rfl rfl rfl rfl ?_
    refine ev_ic f_X12_waits (nx := 11) (v := 1) rfl (by decide) rfl ?_
    refine ev_inV2 f_X12_waits (nx := 14) (lo2 := [(0, .ref 69), (1, .int 1)]) rfl rfl rfl rfl f_X12_refuse (hI.wf.s rfl) rfl rfl rfl rfl rfl ?_
    refine ev_loc f_X12_refuse (nx := 1) rfl rfl rfl rfl ?_
    refine ev_loc f_X12_refuse (nx := 2) rfl rfl rfl rfl ?_
    refine ev_putIT f_X12_refuse (nx := 5) rfl (hI.wf.s rfl) rfl rfl rfl (hI.put0 (hI.wf.s rfl) rfl rfl) (hX.upI rfl) (fun g8 e8 hI hX => ?_)
    refine ev_ic f_X12_refuse (nx := 6) (v := -1) rfl (by decide) rfl ?_
    refine ev_retK1 f_X12_refuse rfl rfl rfl ?_
    exact ev_ret f_X12_waits rfl rfl rfl ⟨_, _, _, rfl, hI, hX, ⟨_, rfl, (Int.le_trans (by decide : ((-2147483648):Int) ≤ (-1)) (by decide : ((-1):Int) ≤ ((-1):Int32).toInt)), (Int.le_trans (by decide : ((-1):Int32).toInt ≤ ((-1):Int)) (by decide : ((-1):Int) ≤ 2147483647)), (show ∀ (D : s_D), t_ME 0 gi D → t_Cb D → s_DB D → (gi 69 46).toInt = -1 → (((0 ≤ ar1.toInt ∧ ar1.toInt ≤ 9999 ∧ 1 ≤ ar2.toInt ∧ ar2.toInt ≤ 20 ∧ ar1.toInt + ar2.toInt ≤ 10000) ∧ (gi 70 8).toInt ≠ 0) → ∀ R : List (List Int × Int), t_MQ (gi 70) R → s_crs R → ((-1) : Int32) = Int32.ofInt (s_wsm D R ar1.toInt ar2.toNatClampNeg)) ∧ (¬ ((0 ≤ ar1.toInt ∧ ar1.toInt ≤ 9999 ∧ 1 ≤ ar2.toInt ∧ ar2.toInt ≤ 20 ∧ ar1.toInt + ar2.toInt ≤ 10000) ∧ (gi 70 8).toInt ≠ 0) → ((-1) : Int) = -1) from (fun D hm hb hd h46 => ⟨fun h => absurd h.1 (by omega), fun _ => rfl⟩))⟩⟩
  · have l9 : (0:Int) ≤ ar1.toInt := (lgc_ge (by decide : (0 : Int64).toInt = 0)).mp (by have hh := (t_nlt h5); rw [e4, e3] at hh; exact hh)
    have l10 : 0 ≤ z4.toInt := t_lel (t_nlt h5) (by decide : (0:Int) ≤ (0:Int32).toInt)
    refine ev_loc f_X12_isFrom (nx := 7) rfl rfl rfl rfl ?_
    refine ev_loc f_X12_isFrom (nx := 9) rfl rfl rfl rfl ?_
    refine ev_anyIE f_X12_isFrom (nx := 10) rfl rfl rfl rfl (fun z11 e11 => ?_)
    refine ev_if f_X12_isFrom (t1 := 17) (t2 := 13) rfl rfl rfl (fun h12 => ?_) (fun h12 => ?_)
    · have l13 : (10000:Int) ≤ ar1.toInt := Int.add_one_le_of_lt ((lgc_gt (by decide : (9999 : Int64).toInt = 9999)).mp (by have hh := h12; rw [e11, e3] at hh; exact hh))
      have l14 : 1 ≤ z11.toInt := t_ltl h12 (by decide : (0:Int) ≤ (0:Int32).toInt) rfl
      refine ev_ic f_X12_isFrom (nx := 18) (v := 0) rfl (by decide) rfl ?_
      refine ev_retK1 f_X12_isFrom rfl rfl rfl ?_
      refine ev_t f_X12_areSeeds (t1 := 39) (t2 := 12) rfl rfl rfl (by decide) ?_
      refine ev_ic f_X12_areSeeds (nx := 40) (v := 0) rfl (by decide) rfl ?_
      refine ev_retK1 f_X12_areSeeds rfl rfl rfl ?_
      refine ev_t f_X12_waits (t1 := 9) (t2 := 15) rfl rfl rfl (by decide) ?_
      refine ev_loc f_X12_waits (nx := 10) rfl rfl rfl rfl ?_
      refine ev_ic f_X12_waits (nx := 11) (v := 1) rfl (by decide) rfl ?_
      refine ev_inV2 f_X12_waits (nx := 14) (lo2 := [(0, .ref 69), (1, .int 1)]) rfl rfl rfl rfl f_X12_refuse (hI.wf.s rfl) rfl rfl rfl rfl rfl ?_
      refine ev_loc f_X12_refuse (nx := 1) rfl rfl rfl rfl ?_
      refine ev_loc f_X12_refuse (nx := 2) rfl rfl rfl rfl ?_
      refine ev_putIT f_X12_refuse (nx := 5) rfl (hI.wf.s rfl) rfl rfl rfl (hI.put0 (hI.wf.s rfl) rfl rfl) (hX.upI rfl) (fun g15 e15 hI hX => ?_)
      refine ev_ic f_X12_refuse (nx := 6) (v := -1) rfl (by decide) rfl ?_
      refine ev_retK1 f_X12_refuse rfl rfl rfl ?_
      exact ev_ret f_X12_waits rfl rfl rfl ⟨_, _, _, rfl, hI, hX, ⟨_, rfl, (Int.le_trans (by decide : ((-2147483648):Int) ≤ (-1)) (by decide : ((-1):Int) ≤ ((-1):Int32).toInt)), (Int.le_trans (by decide : ((-1):Int32).toInt ≤ ((-1):Int)) (by decide : ((-1):Int) ≤ 2147483647)), (show ∀ (D : s_D), t_ME 0 gi D → t_Cb D → s_DB D → (gi 69 46).toInt = -1 → (((0 ≤ ar1.toInt ∧ ar1.toInt ≤ 9999 ∧ 1 ≤ ar2.toInt ∧ ar2.toInt ≤ 20 ∧ ar1.toInt + ar2.toInt ≤ 10000) ∧ (gi 70 8).toInt ≠ 0) → ∀ R : List (List Int × Int), t_MQ (gi 70) R → s_crs R → ((-1) : Int32) = Int32.ofInt (s_wsm D R ar1.toInt ar2.toNatClampNeg)) ∧ (¬ ((0 ≤ ar1.toInt ∧ ar1.toInt ≤ 9999 ∧ 1 ≤ ar2.toInt ∧ ar2.toInt ≤ 20 ∧ ar1.toInt + ar2.toInt ≤ 10000) ∧ (gi 70 8).toInt ≠ 0) → ((-1) : Int) = -1) from (fun D hm hb hd h46 => ⟨fun h => absurd h.1 (by omega), fun _ => rfl⟩))⟩⟩
    · have u16 : ar1.toInt ≤ (9999:Int) := (lgc_le (by decide : (9999 : Int64).toInt = 9999)).mp (by have hh := (t_nlt h12); rw [e11, e3] at hh; exact hh)
      have u17 : z11.toInt ≤ 0 := t_leu (t_nlt h12) (by decide : (0:Int32).toInt ≤ (0:Int))
      refine ev_ic f_X12_isFrom (nx := 14) (v := 1) rfl (by decide) rfl ?_
      refine ev_jmp f_X12_isFrom (nx := 18) rfl rfl rfl ?_
      refine ev_retK1 f_X12_isFrom rfl rfl rfl ?_
      refine ev_f f_X12_areSeeds (t1 := 39) (t2 := 12) rfl rfl rfl (by decide) ?_
      refine ev_loc f_X12_areSeeds (nx := 13) rfl rfl rfl rfl ?_
      refine ev_anyLE f_X12_areSeeds (nx := 14) rfl rfl rfl rfl (fun z18 e18 => ?_)
      have i18 : z18.toInt = ar2.toInt := by rw [e18]; exact Int32.toInt_toInt64 _
      refine ev_lc f_X12_areSeeds (nx := 15) (v := 1) rfl (by decide) rfl ?_
      refine ev_ldL f_X12_areSeeds (nx := 18) (v := 20) rfl (by decide) rfl ?_
      refine ev_inS3 f_X12_areSeeds (nx := 21) (lo2 := [(0, .long z18), (2, .long 1), (4, .long 20)]) rfl rfl rfl rfl f_X12_isFrom rfl rfl rfl rfl ?_
      refine ev_loc f_X12_isFrom (nx := 1) rfl rfl rfl rfl ?_
      refine ev_loc f_X12_isFrom (nx := 2) rfl rfl rfl rfl ?_
      refine ev_anyIE f_X12_isFrom (nx := 3) rfl rfl rfl rfl (fun z19 e19 => ?_)
      refine ev_if f_X12_isFrom (t1 := 17) (t2 := 6) rfl rfl rfl (fun h20 => ?_) (fun h20 => ?_)
      · have u21 : ar2.toInt ≤ (0:Int) := Int.le_sub_one_of_lt ((lgc_lt (by decide : (1 : Int64).toInt = 1)).mp (by have hh := h20; rw [e19, e18] at hh; exact hh))
        have u22 : z19.toInt ≤ (-1) := t_ltu h20 (by decide : (0:Int32).toInt ≤ (0:Int)) rfl
        refine ev_ic f_X12_isFrom (nx := 18) (v := 0) rfl (by decide) rfl ?_
        refine ev_retK1 f_X12_isFrom rfl rfl rfl ?_
        refine ev_t f_X12_areSeeds (t1 := 39) (t2 := 24) rfl rfl rfl (by decide) ?_
        refine ev_ic f_X12_areSeeds (nx := 40) (v := 0) rfl (by decide) rfl ?_
        refine ev_retK1 f_X12_areSeeds rfl rfl rfl ?_
        refine ev_t f_X12_waits (t1 := 9) (t2 := 15) rfl rfl rfl (by decide) ?_
        refine ev_loc f_X12_waits (nx := 10) rfl rfl rfl rfl ?_
        refine ev_ic f_X12_waits (nx := 11) (v := 1) rfl (by decide) rfl ?_
        refine ev_inV2 f_X12_waits (nx := 14) (lo2 := [(0, .ref 69), (1, .int 1)]) rfl rfl rfl rfl f_X12_refuse (hI.wf.s rfl) rfl rfl rfl rfl rfl ?_
        refine ev_loc f_X12_refuse (nx := 1) rfl rfl rfl rfl ?_
        refine ev_loc f_X12_refuse (nx := 2) rfl rfl rfl rfl ?_
        refine ev_putIT f_X12_refuse (nx := 5) rfl (hI.wf.s rfl) rfl rfl rfl (hI.put0 (hI.wf.s rfl) rfl rfl) (hX.upI rfl) (fun g23 e23 hI hX => ?_)
        refine ev_ic f_X12_refuse (nx := 6) (v := -1) rfl (by decide) rfl ?_
        refine ev_retK1 f_X12_refuse rfl rfl rfl ?_
        exact ev_ret f_X12_waits rfl rfl rfl ⟨_, _, _, rfl, hI, hX, ⟨_, rfl, (Int.le_trans (by decide : ((-2147483648):Int) ≤ (-1)) (by decide : ((-1):Int) ≤ ((-1):Int32).toInt)), (Int.le_trans (by decide : ((-1):Int32).toInt ≤ ((-1):Int)) (by decide : ((-1):Int) ≤ 2147483647)), (show ∀ (D : s_D), t_ME 0 gi D → t_Cb D → s_DB D → (gi 69 46).toInt = -1 → (((0 ≤ ar1.toInt ∧ ar1.toInt ≤ 9999 ∧ 1 ≤ ar2.toInt ∧ ar2.toInt ≤ 20 ∧ ar1.toInt + ar2.toInt ≤ 10000) ∧ (gi 70 8).toInt ≠ 0) → ∀ R : List (List Int × Int), t_MQ (gi 70) R → s_crs R → ((-1) : Int32) = Int32.ofInt (s_wsm D R ar1.toInt ar2.toNatClampNeg)) ∧ (¬ ((0 ≤ ar1.toInt ∧ ar1.toInt ≤ 9999 ∧ 1 ≤ ar2.toInt ∧ ar2.toInt ≤ 20 ∧ ar1.toInt + ar2.toInt ≤ 10000) ∧ (gi 70 8).toInt ≠ 0) → ((-1) : Int) = -1) from (fun D hm hb hd h46 => ⟨fun h => absurd h.1 (by omega), fun _ => rfl⟩))⟩⟩
      · have l24 : (1:Int) ≤ ar2.toInt := (lgc_ge (by decide : (1 : Int64).toInt = 1)).mp (by have hh := (t_nlt h20); rw [e19, e18] at hh; exact hh)
        have l25 : 0 ≤ z19.toInt := t_lel (t_nlt h20) (by decide : (0:Int) ≤ (0:Int32).toInt)
        refine ev_loc f_X12_isFrom (nx := 7) rfl rfl rfl rfl ?_
        refine ev_loc f_X12_isFrom (nx := 9) rfl rfl rfl rfl ?_
        refine ev_anyIE f_X12_isFrom (nx := 10) rfl rfl rfl rfl (fun z26 e26 => ?_)
        refine ev_if f_X12_isFrom (t1 := 17) (t2 := 13) rfl rfl rfl (fun h27 => ?_) (fun h27 => ?_)
        · have l28 : (21:Int) ≤ ar2.toInt := Int.add_one_le_of_lt ((lgc_gt (by decide : (20 : Int64).toInt = 20)).mp (by have hh := h27; rw [e26, e18] at hh; exact hh))
          have l29 : 1 ≤ z26.toInt := t_ltl h27 (by decide : (0:Int) ≤ (0:Int32).toInt) rfl
          refine ev_ic f_X12_isFrom (nx := 18) (v := 0) rfl (by decide) rfl ?_
          refine ev_retK1 f_X12_isFrom rfl rfl rfl ?_
          refine ev_t f_X12_areSeeds (t1 := 39) (t2 := 24) rfl rfl rfl (by decide) ?_
          refine ev_ic f_X12_areSeeds (nx := 40) (v := 0) rfl (by decide) rfl ?_
          refine ev_retK1 f_X12_areSeeds rfl rfl rfl ?_
          refine ev_t f_X12_waits (t1 := 9) (t2 := 15) rfl rfl rfl (by decide) ?_
          refine ev_loc f_X12_waits (nx := 10) rfl rfl rfl rfl ?_
          refine ev_ic f_X12_waits (nx := 11) (v := 1) rfl (by decide) rfl ?_
          refine ev_inV2 f_X12_waits (nx := 14) (lo2 := [(0, .ref 69), (1, .int 1)]) rfl rfl rfl rfl f_X12_refuse (hI.wf.s rfl) rfl rfl rfl rfl rfl ?_
          refine ev_loc f_X12_refuse (nx := 1) rfl rfl rfl rfl ?_
          refine ev_loc f_X12_refuse (nx := 2) rfl rfl rfl rfl ?_
          refine ev_putIT f_X12_refuse (nx := 5) rfl (hI.wf.s rfl) rfl rfl rfl (hI.put0 (hI.wf.s rfl) rfl rfl) (hX.upI rfl) (fun g30 e30 hI hX => ?_)
          refine ev_ic f_X12_refuse (nx := 6) (v := -1) rfl (by decide) rfl ?_
          refine ev_retK1 f_X12_refuse rfl rfl rfl ?_
          exact ev_ret f_X12_waits rfl rfl rfl ⟨_, _, _, rfl, hI, hX, ⟨_, rfl, (Int.le_trans (by decide : ((-2147483648):Int) ≤ (-1)) (by decide : ((-1):Int) ≤ ((-1):Int32).toInt)), (Int.le_trans (by decide : ((-1):Int32).toInt ≤ ((-1):Int)) (by decide : ((-1):Int) ≤ 2147483647)), (show ∀ (D : s_D), t_ME 0 gi D → t_Cb D → s_DB D → (gi 69 46).toInt = -1 → (((0 ≤ ar1.toInt ∧ ar1.toInt ≤ 9999 ∧ 1 ≤ ar2.toInt ∧ ar2.toInt ≤ 20 ∧ ar1.toInt + ar2.toInt ≤ 10000) ∧ (gi 70 8).toInt ≠ 0) → ∀ R : List (List Int × Int), t_MQ (gi 70) R → s_crs R → ((-1) : Int32) = Int32.ofInt (s_wsm D R ar1.toInt ar2.toNatClampNeg)) ∧ (¬ ((0 ≤ ar1.toInt ∧ ar1.toInt ≤ 9999 ∧ 1 ≤ ar2.toInt ∧ ar2.toInt ≤ 20 ∧ ar1.toInt + ar2.toInt ≤ 10000) ∧ (gi 70 8).toInt ≠ 0) → ((-1) : Int) = -1) from (fun D hm hb hd h46 => ⟨fun h => absurd h.1 (by omega), fun _ => rfl⟩))⟩⟩
        · have u31 : ar2.toInt ≤ (20:Int) := (lgc_le (by decide : (20 : Int64).toInt = 20)).mp (by have hh := (t_nlt h27); rw [e26, e18] at hh; exact hh)
          have u32 : z26.toInt ≤ 0 := t_leu (t_nlt h27) (by decide : (0:Int32).toInt ≤ (0:Int))
          refine ev_ic f_X12_isFrom (nx := 14) (v := 1) rfl (by decide) rfl ?_
          refine ev_jmp f_X12_isFrom (nx := 18) rfl rfl rfl ?_
          refine ev_retK1 f_X12_isFrom rfl rfl rfl ?_
          refine ev_f f_X12_areSeeds (t1 := 39) (t2 := 24) rfl rfl rfl (by decide) ?_
          refine ev_loc f_X12_areSeeds (nx := 25) rfl rfl rfl rfl ?_
          refine ev_loc f_X12_areSeeds (nx := 26) rfl rfl rfl rfl ?_
          refine ev_addR f_X12_areSeeds (nx := 27) (l := 1) (u := 10019) rfl l9 u16 l24 u31 rfl rfl (by decide) (by decide) rfl (fun z33 e33 l33 u33 => ?_)
          refine ev_ic f_X12_areSeeds (nx := 28) (v := 1) rfl (by decide) rfl ?_
          refine ev_subC f_X12_areSeeds (nx := 29) (c := 1) (l := 0) (u := 10018) rfl (by decide) l33 u33 rfl rfl (by decide) (by decide) rfl (fun z34 e34 l34 u34 => ?_)
          refine ev_sp f_X12_areSeeds (nx := 32) (v := 9999) rfl (by decide) rfl ?_
          refine ev_if f_X12_areSeeds (t1 := 39) (t2 := 35) rfl rfl rfl (fun h35 => ?_) (fun h35 => ?_)
          · have l36 : 10000 ≤ z34.toInt := t_ltl h35 (by decide : (9999:Int) ≤ (9999:Int32).toInt) rfl
            refine ev_ic f_X12_areSeeds (nx := 40) (v := 0) rfl (by decide) rfl ?_
            refine ev_retK1 f_X12_areSeeds rfl rfl rfl ?_
            refine ev_t f_X12_waits (t1 := 9) (t2 := 15) rfl rfl rfl (by decide) ?_
            refine ev_loc f_X12_waits (nx := 10) rfl rfl rfl rfl ?_
            refine ev_ic f_X12_waits (nx := 11) (v := 1) rfl (by decide) rfl ?_
            refine ev_inV2 f_X12_waits (nx := 14) (lo2 := [(0, .ref 69), (1, .int 1)]) rfl rfl rfl rfl f_X12_refuse (hI.wf.s rfl) rfl rfl rfl rfl rfl ?_
            refine ev_loc f_X12_refuse (nx := 1) rfl rfl rfl rfl ?_
            refine ev_loc f_X12_refuse (nx := 2) rfl rfl rfl rfl ?_
            refine ev_putIT f_X12_refuse (nx := 5) rfl (hI.wf.s rfl) rfl rfl rfl (hI.put0 (hI.wf.s rfl) rfl rfl) (hX.upI rfl) (fun g37 e37 hI hX => ?_)
            refine ev_ic f_X12_refuse (nx := 6) (v := -1) rfl (by decide) rfl ?_
            refine ev_retK1 f_X12_refuse rfl rfl rfl ?_
            exact ev_ret f_X12_waits rfl rfl rfl ⟨_, _, _, rfl, hI, hX, ⟨_, rfl, (Int.le_trans (by decide : ((-2147483648):Int) ≤ (-1)) (by decide : ((-1):Int) ≤ ((-1):Int32).toInt)), (Int.le_trans (by decide : ((-1):Int32).toInt ≤ ((-1):Int)) (by decide : ((-1):Int) ≤ 2147483647)), (show ∀ (D : s_D), t_ME 0 gi D → t_Cb D → s_DB D → (gi 69 46).toInt = -1 → (((0 ≤ ar1.toInt ∧ ar1.toInt ≤ 9999 ∧ 1 ≤ ar2.toInt ∧ ar2.toInt ≤ 20 ∧ ar1.toInt + ar2.toInt ≤ 10000) ∧ (gi 70 8).toInt ≠ 0) → ∀ R : List (List Int × Int), t_MQ (gi 70) R → s_crs R → ((-1) : Int32) = Int32.ofInt (s_wsm D R ar1.toInt ar2.toNatClampNeg)) ∧ (¬ ((0 ≤ ar1.toInt ∧ ar1.toInt ≤ 9999 ∧ 1 ≤ ar2.toInt ∧ ar2.toInt ≤ 20 ∧ ar1.toInt + ar2.toInt ≤ 10000) ∧ (gi 70 8).toInt ≠ 0) → ((-1) : Int) = -1) from (fun D hm hb hd h46 => ⟨fun h => absurd h.1 (by omega), fun _ => rfl⟩))⟩⟩
          · have u38 : z34.toInt ≤ 9999 := t_leu (t_nlt h35) (by decide : (9999:Int32).toInt ≤ (9999:Int))
            refine ev_ic f_X12_areSeeds (nx := 36) (v := 1) rfl (by decide) rfl ?_
            refine ev_jmp f_X12_areSeeds (nx := 40) rfl rfl rfl ?_
            refine ev_retK1 f_X12_areSeeds rfl rfl rfl ?_
            refine ev_f f_X12_waits (t1 := 9) (t2 := 15) rfl rfl rfl (by decide) ?_
            refine ev_loc f_X12_waits (nx := 16) rfl rfl rfl rfl ?_
            refine ev_getR f_X12_waits (nx := 19) rfl (hI.wf.s rfl) rfl rfl (hI.wf.r rfl) rfl rfl ?_
            refine ev_bp f_X12_waits (nx := 21) (v := 8) rfl (by decide) rfl ?_
            refine ev_ialdv f_X12_waits (nx := 22) (w := (gi 70 8)) rfl (hI.wf.s rfl) (by decide) (rfl : (8 : Int32).toNatClampNeg = 8) (by decide) rfl rfl ?_
            refine ev_if f_X12_waits (t1 := 25) (t2 := 32) rfl rfl rfl (fun h40 => ?_) (fun h40 => ?_)
            · have u41 : (gi 70 8).toInt ≤ 0 := t_equ h40 (by decide : (0:Int32).toInt ≤ (0:Int))
              refine ev_loc f_X12_waits (nx := 26) rfl rfl rfl rfl ?_
              refine ev_bp f_X12_waits (nx := 28) (v := 6) rfl (by decide) rfl ?_
              refine ev_inV2 f_X12_waits (nx := 31) (lo2 := [(0, .ref 69), (1, .int 6)]) rfl rfl rfl rfl f_X12_refuse (hI.wf.s rfl) rfl rfl rfl rfl rfl ?_
              refine ev_loc f_X12_refuse (nx := 1) rfl rfl rfl rfl ?_
              refine ev_loc f_X12_refuse (nx := 2) rfl rfl rfl rfl ?_
              refine ev_putIT f_X12_refuse (nx := 5) rfl (hI.wf.s rfl) rfl rfl rfl (hI.put0 (hI.wf.s rfl) rfl rfl) (hX.upI rfl) (fun g42 e42 hI hX => ?_)
              refine ev_ic f_X12_refuse (nx := 6) (v := -1) rfl (by decide) rfl ?_
              refine ev_retK1 f_X12_refuse rfl rfl rfl ?_
              exact ev_ret f_X12_waits rfl rfl rfl ⟨_, _, _, rfl, hI, hX, ⟨_, rfl, (Int.le_trans (by decide : ((-2147483648):Int) ≤ (-1)) (by decide : ((-1):Int) ≤ ((-1):Int32).toInt)), (Int.le_trans (by decide : ((-1):Int32).toInt ≤ ((-1):Int)) (by decide : ((-1):Int) ≤ 2147483647)), (show ∀ (D : s_D), t_ME 0 gi D → t_Cb D → s_DB D → (gi 69 46).toInt = -1 → (((0 ≤ ar1.toInt ∧ ar1.toInt ≤ 9999 ∧ 1 ≤ ar2.toInt ∧ ar2.toInt ≤ 20 ∧ ar1.toInt + ar2.toInt ≤ 10000) ∧ (gi 70 8).toInt ≠ 0) → ∀ R : List (List Int × Int), t_MQ (gi 70) R → s_crs R → ((-1) : Int32) = Int32.ofInt (s_wsm D R ar1.toInt ar2.toNatClampNeg)) ∧ (¬ ((0 ≤ ar1.toInt ∧ ar1.toInt ≤ 9999 ∧ 1 ≤ ar2.toInt ∧ ar2.toInt ≤ 20 ∧ ar1.toInt + ar2.toInt ≤ 10000) ∧ (gi 70 8).toInt ≠ 0) → ((-1) : Int) = -1) from (fun D hm hb hd h46 => ⟨fun h => absurd h.2 (by omega), fun _ => rfl⟩))⟩⟩
            · have r43 : (gi 70 8).toInt ≠ 0 := fun e => h40 (Int32.toInt_inj.mp (e.trans (by decide : (0:Int) = (0 : Int32).toInt)))
              have l44 : 1 ≤ (gi 70 8).toInt := t_nel h40 l2 rfl rfl
              refine ev_ic f_X12_waits (nx := 33) (v := 0) rfl (by decide) rfl ?_
              refine ev_loc f_X12_waits (nx := 34) (lo' := [(3, .int 0), (0, .ref 69), (1, .int ar1), (2, .int ar2)]) rfl rfl rfl rfl ?_
              refine ev_ic f_X12_waits (nx := 35) (v := 0) rfl (by decide) rfl ?_
              refine ev_loc f_X12_waits (nx := 37) (lo' := [(4, .int 0), (3, .int 0), (0, .ref 69), (1, .int ar1), (2, .int ar2)]) rfl rfl rfl rfl ?_
              have L45 : ∀ (m45 : Nat) (gi45 : Nat → Nat → Int32) (gl45 : Nat → Nat → Int64) (gr45 : Nat → Nat → Value) (y45_4 : Int32) (y45_3 : Int32), t_I sh gi45 gr45 → t_X wl_e_waits sh gi gl gr gi45 gl45 gr45 → 0 ≤ y45_4.toInt → y45_4.toInt ≤ 20 → gi45 69 46 = (gi 69 46) → gi45 70 8 = (gi 70 8) → t_rpn (gi45 70) 0 → (∀ (D : s_D), t_ME 0 gi D → t_Cb D → s_DB D → (gi 69 46).toInt = -1 → ∀ R : List (List Int × Int), t_MQ (gi 70) R → s_crs R → y45_3 = Int32.ofInt (s_wsm D R ar1.toInt y45_4.toNatClampNeg)) → y45_4.toInt ≤ ar2.toInt → (20 - y45_4.toInt).toNat = m45 → x_Ev X (d + 7) n_X12_waits 37 [(4, .int y45_4), (3, .int y45_3), (0, .ref 69), (1, .int ar1), (2, .int ar2)] [] (sh, gi45, gl45, gr45) (t_PI wl_e_waits sh gi gl gr (-2147483648) 2147483647 (Q_e_waits gi gl gr ar1 ar2)) := by
                intro m45
                induction m45 using Nat.strongRecOn with
                | _ m45 ih45 =>
                intro gi45 gl45 gr45 y45_4 y45_3 hI hX l45_4 u45_4 c45_0 c45_1 j45_0 j45_1 j45_2 hm45
                refine ev_loc f_X12_waits (nx := 39) rfl rfl rfl rfl ?_
                have hX37_45 := hX
                refine ev_loc f_X12_waits (nx := 40) rfl rfl rfl rfl ?_
                refine ev_if f_X12_waits (t1 := 64) (t2 := 43) rfl rfl rfl (fun h46 => ?_) (fun h46 => ?_)
                · have r47 : ar2.toInt ≤ y45_4.toInt := Int32.le_iff_toInt_le.mp h46
                  have l48 : 1 ≤ y45_4.toInt := t_lel h46 l24
                  refine ev_loc f_X12_waits (nx := 65) rfl rfl rfl rfl ?_
                  refine ev_loc f_X12_waits (nx := 66) rfl rfl rfl rfl ?_
                  refine ev_inV2 f_X12_waits (nx := 69) (lo2 := [(0, .ref 69), (1, .int y45_3)]) rfl rfl rfl rfl f_X12_gives (hI.wf.s rfl) rfl rfl rfl rfl rfl ?_
                  refine ev_loc f_X12_gives (nx := 1) rfl rfl rfl rfl ?_
                  refine ev_ic f_X12_gives (nx := 2) (v := 0) rfl (by decide) rfl ?_
                  refine ev_putIT f_X12_gives (nx := 5) rfl (hI.wf.s rfl) rfl rfl rfl (hI.put0 (hI.wf.s rfl) rfl rfl) (hX.upI rfl) (fun g49 e49 hI hX => ?_)
                  refine ev_loc f_X12_gives (nx := 6) rfl rfl rfl rfl ?_
                  refine ev_retK1 f_X12_gives rfl rfl rfl ?_
                  exact ev_ret f_X12_waits rfl rfl rfl ⟨_, _, _, rfl, hI, hX, ⟨_, rfl, (t_lo y45_3), (t_hi y45_3), (show ∀ (D : s_D), t_ME 0 gi D → t_Cb D → s_DB D → (gi 69 46).toInt = -1 → (((0 ≤ ar1.toInt ∧ ar1.toInt ≤ 9999 ∧ 1 ≤ ar2.toInt ∧ ar2.toInt ≤ 20 ∧ ar1.toInt + ar2.toInt ≤ 10000) ∧ (gi 70 8).toInt ≠ 0) → ∀ R : List (List Int × Int), t_MQ (gi 70) R → s_crs R → y45_3 = Int32.ofInt (s_wsm D R ar1.toInt ar2.toNatClampNeg)) ∧ (¬ ((0 ≤ ar1.toInt ∧ ar1.toInt ≤ 9999 ∧ 1 ≤ ar2.toInt ∧ ar2.toInt ≤ 20 ∧ ar1.toInt + ar2.toInt ≤ 10000) ∧ (gi 70 8).toInt ≠ 0) → y45_3.toInt = -1) from (fun D hm hb hd h46 => ⟨fun _ R hQ hcr => (by
                                                            have cy := t_clamp (i := y45_4) (by omega)
                                                            have h := j45_1 D hm hb hd h46 R hQ hcr
                                                            rw [show y45_4.toNatClampNeg = ar2.toNatClampNeg by have := t_clamp (i := ar2) (by omega); omega] at h
                                                            exact h), fun h => absurd (show _ from ⟨⟨by omega, by omega, by omega, by omega, by omega⟩, by omega⟩) h⟩))⟩⟩
                · have r50 : y45_4.toInt < ar2.toInt := Int32.lt_iff_toInt_lt.mp (t_nle h46)
                  have u51 : y45_4.toInt ≤ 19 := t_ltu (t_nle h46) u31 rfl
                  refine ev_loc f_X12_waits (nx := 44) rfl rfl rfl rfl ?_
                  refine ev_loc f_X12_waits (nx := 45) rfl rfl rfl rfl ?_
                  refine ev_loc f_X12_waits (nx := 47) rfl rfl rfl rfl ?_
                  refine ev_addR f_X12_waits (nx := 48) (l := 0) (u := 10018) rfl l9 u16 l45_4 u51 rfl rfl (by decide) (by decide) rfl (fun z52 e52 l52 u52 => ?_)
                  refine ev_qN f_X12_waits (nx := 51) (r := []) rfl rfl rfl rfl rfl rfl rfl (c_y_keeps hI (z52) j45_0) rfl hX rfl (fun gi53 gl53 gr53 hI hX hC53 q53 => ?_)
                  have ff54 : (gi45 69 46).toInt = (gi 69 46).toInt := congrArg Int32.toInt c45_0
                  have q53 : (∀ (D : s_D) (R : List (List Int × Int)), t_ME 0 gi45 D → t_Cb D → s_DB D → (gi45 69 46).toInt = -1 → (-1 ≤ z52.toInt ∧ z52.toInt ≤ 9999) → t_MQ (gi45 70) R → s_crs R → s_TP gi53 (gi53 70 4).toInt (s_PY D z52.toInt) ∧ t_YR (s_PY D z52.toInt) (fun F => s_ac F R) gi53) := q53
                  refine ev_loc f_X12_waits (nx := 52) rfl rfl rfl rfl ?_
                  refine ev_loc f_X12_waits (nx := 53) rfl rfl rfl rfl ?_
                  refine ev_getI f_X12_waits (nx := 56) rfl (hI.wf.s rfl) rfl rfl rfl ?_
                  refine ev_anyIE f_X12_waits (nx := 57) rfl rfl rfl rfl (fun z55 e55 => ?_)
                  refine ev_loc f_X12_waits (nx := 58) (lo' := [(3, .int z55), (4, .int y45_4), (0, .ref 69), (1, .int ar1), (2, .int ar2)]) rfl rfl rfl rfl ?_
                  refine ev_incR f_X12_waits (nx := 61) (c := 1) (l := 1) (u := 20) rfl rfl (by decide) (by decide) l45_4 u51 rfl rfl (by decide) (by decide) rfl (fun z56 e56 l56 u56 => ?_)
                  refine ev_jmp f_X12_waits (nx := 37) rfl rfl rfl ?_
                  refine ev_sub (lo := [(4, .int z56), (3, .int z55), (0, .ref 69), (1, .int ar1), (2, .int ar2)]) rfl (t_sc rfl (t_sc rfl (t_sc rfl (t_sc rfl (t_sc rfl t_sn))))) ?_
                  exact ih45 _ (by omega) gi53 gl53 gr53 (z56) (z55) hI hX  (Int.le_trans (by decide : (0:Int) ≤ 1) l56) u56 ((hC53.1 69 46 rfl).1.trans c45_0) ((hC53.1 70 8 rfl).1.trans c45_1) (by have hq := ((funext (fun j => (hC53.1 70 j rfl).1) : gi53 70 = gi45 70)); rw [hq]; exact j45_0) (fun D hm hb hd h46 R hQ hcr => (by
                                                            have fn := t_F_X hX37_45
                                                            have e70 : gi45 70 = gi 70 := t_F_nc fn rfl (by decide)
                                                            have hmn : t_ME 0 gi45 D := hm.mv hb (fun j _ _ _ => congrFun e70 (0 + j))
                                                            have h46n : (gi45 69 46).toInt = -1 := by rw [(fn 69 46 (by decide) rfl).1]; exact h46
                                                            have cy := t_clamp (i := y45_4) (by omega)
                                                            have hsd : z52.toInt = ar1.toInt + (y45_4.toNatClampNeg : Int) := by omega
                                                            have hq := q53 D R hmn hb hd h46n ⟨by omega, by omega⟩ (by rw [e70]; exact hQ) hcr
                                                            rw [hsd] at hq
                                                            obtain ⟨T, Z, h1, h2, h3, hO, e5, e6, e7⟩ := hq
                                                            have ex : z56.toNatClampNeg = y45_4.toNatClampNeg + 1 := by have := t_clamp (i := z56) (by omega); omega
                                                            rw [ex]
                                                            exact t_oi_add e55 (j45_1 D hm hb hd h46 R hQ hcr) (h2.1.trans (congrArg Int32.ofInt e5)))) (by omega) rfl
              refine ev_sub (lo := [(4, .int 0), (3, .int 0), (0, .ref 69), (1, .int ar1), (2, .int ar2)]) rfl (t_sc rfl (t_sc rfl (t_sc rfl (t_sc rfl (t_sc rfl t_sn))))) ?_
              exact L45 _ gi gl gr (0) (0) hI hX  (by decide : (0:Int) ≤ (0:Int32).toInt) (Int.le_trans (by decide : (0:Int32).toInt ≤ (0:Int)) (by decide : (0:Int) ≤ 20)) rfl rfl e_p0 (fun D hm hb hd h46 R hQ hcr => rfl) (by have kf57 : (0 : Int32).toInt = 0 := (by decide); omega) rfl
