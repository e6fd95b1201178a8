/-! ===== printed by riv.py: the order of those that come: the other side ===== -/
noncomputable def wl_n_tellsMinutes : List (Nat × Nat) := [(89, 10005), (89, 610011)]
noncomputable def Q_n_tellsMinutes (gi : Nat → Nat → Int32) (gl : Nat → Nat → Int64) (gr : Nat → Nat → Value) : (Nat → Nat → Int32) → (Nat → Nat → Int64) → (Nat → Nat → Value) → Prop := fun (gi2 : Nat → Nat → Int32) (gl2 : Nat → Nat → Int64) (gr2 : Nat → Nat → Value) => (∀ j, gi2 70 j = gi 70 j) ∧ (∀ j : Nat, j < 6 → gi2 89 j = gi 70 (53 + 5 * j)) ∧ (∀ j : Nat, j < 6 → gi2 89 (6 + j) = gi 70 (82 + 3 * j))
theorem c_n_tellsMinutes {X : x_Ext} {d : Nat} {sh : List (Nat ⊕ (Nat × Nat))} {gi : Nat → Nat → Int32} {gl : Nat → Nat → Int64} {gr : Nat → Nat → Value} (hI : t_I sh gi gr) : x_Me X (d + 1) n_X12_tellsMinutes [.ref 69] (sh, gi, gl, gr) (t_PN wl_n_tellsMinutes sh gi gl gr (Q_n_tellsMinutes gi gl gr)) := by
  have hX : t_X wl_n_tellsMinutes sh gi gl gr gi gl gr := t_X.rf
  refine me_i f_X12_tellsMinutes (hI.wf.s rfl) rfl rfl rfl ?_
  refine ev_ic f_X12_tellsMinutes (nx := 1) (v := 0) rfl (by decide) rfl ?_
  refine ev_loc f_X12_tellsMinutes (nx := 2) (lo' := [(1, .int 0), (0, .ref 69)]) rfl rfl rfl rfl ?_
  have L1 : ∀ (m1 : Nat) (gi1 : Nat → Nat → Int32) (gl1 : Nat → Nat → Int64) (gr1 : Nat → Nat → Value) (y1_1 : Int32), t_I sh gi1 gr1 → t_X wl_n_tellsMinutes sh gi gl gr gi1 gl1 gr1 → 0 ≤ y1_1.toInt → y1_1.toInt ≤ 6 → (∀ j, gi1 70 j = gi 70 j) → (∀ j : Nat, (j : Int) < y1_1.toInt → gi1 89 j = gi 70 (53 + 5 * j)) → (6 - y1_1.toInt).toNat = m1 → x_Ev X (d + 1) n_X12_tellsMinutes 2 [(1, .int y1_1), (0, .ref 69)] [] (sh, gi1, gl1, gr1) (t_PN wl_n_tellsMinutes sh gi gl gr (Q_n_tellsMinutes gi gl gr)) := by
    intro m1
    induction m1 using Nat.strongRecOn with
    | _ m1 ih1 =>
    intro gi1 gl1 gr1 y1_1 hI hX l1_1 u1_1 j1_0 j1_1 hm1
    refine ev_loc f_X12_tellsMinutes (nx := 3) rfl rfl rfl rfl ?_
    refine ev_bp f_X12_tellsMinutes (nx := 5) (v := 6) rfl (by decide) rfl ?_
    refine ev_if f_X12_tellsMinutes (t1 := 33) (t2 := 8) rfl rfl rfl (fun h2 => ?_) (fun h2 => ?_)
    · have l3 : 6 ≤ y1_1.toInt := t_lel h2 (by decide : (6:Int) ≤ (6:Int32).toInt)
      refine ev_ic f_X12_tellsMinutes (nx := 34) (v := 0) rfl (by decide) rfl ?_
      refine ev_loc f_X12_tellsMinutes (nx := 35) (lo' := [(1, .int 0), (0, .ref 69)]) rfl rfl rfl rfl ?_
      have L4 : ∀ (m4 : Nat) (gi4 : Nat → Nat → Int32) (gl4 : Nat → Nat → Int64) (gr4 : Nat → Nat → Value) (y4_1 : Int32), t_I sh gi4 gr4 → t_X wl_n_tellsMinutes sh gi gl gr gi4 gl4 gr4 → 0 ≤ y4_1.toInt → y4_1.toInt ≤ 6 → (∀ j, gi4 70 j = gi 70 j) → (∀ j : Nat, (j : Int) < 6 → gi4 89 j = gi 70 (53 + 5 * j)) → (∀ j : Nat, (j : Int) < y4_1.toInt → gi4 89 (6 + j) = gi 70 (82 + 3 * j)) → (6 - y4_1.toInt).toNat = m4 → x_Ev X (d + 1) n_X12_tellsMinutes 35 [(1, .int y4_1), (0, .ref 69)] [] (sh, gi4, gl4, gr4) (t_PN wl_n_tellsMinutes sh gi gl gr (Q_n_tellsMinutes gi gl gr)) := by
        intro m4
        induction m4 using Nat.strongRecOn with
        | _ m4 ih4 =>
        intro gi4 gl4 gr4 y4_1 hI hX l4_1 u4_1 j4_0 j4_1 j4_2 hm4
        refine ev_loc f_X12_tellsMinutes (nx := 36) rfl rfl rfl rfl ?_
        refine ev_bp f_X12_tellsMinutes (nx := 38) (v := 6) rfl (by decide) rfl ?_
        refine ev_if f_X12_tellsMinutes (t1 := 67) (t2 := 41) rfl rfl rfl (fun h5 => ?_) (fun h5 => ?_)
        · have l6 : 6 ≤ y4_1.toInt := t_lel h5 (by decide : (6:Int) ≤ (6:Int32).toInt)
          exact ev_ret f_X12_tellsMinutes rfl rfl rfl ⟨_, _, _, rfl, hI, hX, ⟨rfl, (show (∀ j, gi4 70 j = gi 70 j) ∧ (∀ j : Nat, j < 6 → gi4 89 j = gi 70 (53 + 5 * j)) ∧ (∀ j : Nat, j < 6 → gi4 89 (6 + j) = gi 70 (82 + 3 * j)) from ⟨j4_0, fun j h => j4_1 j (by omega), fun j h => j4_2 j (by omega)⟩)⟩⟩
        · have u7 : y4_1.toInt ≤ 5 := t_ltu (t_nle h5) (by decide : (6:Int32).toInt ≤ (6:Int)) rfl
          refine ev_loc f_X12_tellsMinutes (nx := 42) rfl rfl rfl rfl ?_
          refine ev_getR f_X12_tellsMinutes (nx := 45) rfl (hI.wf.s rfl) rfl rfl (hI.wf.r rfl) rfl rfl ?_
          refine ev_bp f_X12_tellsMinutes (nx := 47) (v := 6) rfl (by decide) rfl ?_
          refine ev_loc f_X12_tellsMinutes (nx := 48) rfl rfl rfl rfl ?_
          refine ev_addK f_X12_tellsMinutes (nx := 49) (c := 6) (l := 6) (u := 11) rfl (by decide) l4_1 u7 rfl rfl (by decide) (by decide) rfl (fun z8 e8 l8 u8 => ?_)
          refine ev_loc f_X12_tellsMinutes (nx := 50) rfl rfl rfl rfl ?_
          refine ev_getR f_X12_tellsMinutes (nx := 53) rfl (hI.wf.s rfl) rfl rfl (hI.wf.r rfl) rfl rfl ?_
          refine ev_bp f_X12_tellsMinutes (nx := 55) (v := 82) rfl (by decide) rfl ?_
          refine ev_ic f_X12_tellsMinutes (nx := 56) (v := 3) rfl (by decide) rfl ?_
          refine ev_loc f_X12_tellsMinutes (nx := 57) rfl rfl rfl rfl ?_
          refine ev_mulL f_X12_tellsMinutes (nx := 58) (c := 3) (l := 0) (u := 15) rfl (by decide) (by decide) l4_1 u7 rfl rfl (by decide) (by decide) rfl (fun z9 e9 l9 u9 => ?_)
          refine ev_addK f_X12_tellsMinutes (nx := 59) (c := 82) (l := 82) (u := 97) rfl (by decide) l9 u9 rfl rfl (by decide) (by decide) rfl (fun z10 e10 l10 u10 => ?_)
          refine ev_ialdT f_X12_tellsMinutes (nx := 60) rfl (hI.wf.s rfl) l10 (by decide) u10 (by decide) rfl (fun w11 e11 => ?_)
          obtain ⟨l11, u11⟩ := hI.abA (x := y4_1) e11 (by decide +kernel : t_aba 70 82 3 0 5 0 120 = true) (by omega) (by omega) (by omega)
          refine ev_iastT f_X12_tellsMinutes (nx := 61) rfl (hI.wf.s rfl) l8 (by decide) u8 (by decide) rfl (hI.astG (hI.wf.s rfl) (fun lo hi e => absurd e (t_nob (by decide +kernel) _)) (fun k hk e => by have := hk.2.1; omega)) (hX.upI (t_inR (p := 6) (m := 11) rfl l8 (by decide) u8 (by decide) (by decide))) (fun g12 e12 hI hX => ?_)
          refine ev_incR f_X12_tellsMinutes (nx := 64) (c := 1) (l := 1) (u := 6) rfl rfl (by decide) (by decide) l4_1 u7 rfl rfl (by decide) (by decide) rfl (fun z13 e13 l13 u13 => ?_)
          refine ev_jmp f_X12_tellsMinutes (nx := 35) rfl rfl rfl ?_
          refine ev_sub (lo := [(1, .int z13), (0, .ref 69)]) rfl (t_sc rfl (t_sc rfl t_sn)) ?_
          exact ih4 _ (by omega) g12 gl4 gr4 (z13) hI hX  (Int.le_trans (by decide : (0:Int) ≤ 1) l13) u13 (fun j => (congrFun ((by rw [e12]; exact x_up2_ne (by decide) : g12 70 = gi4 70)) j).trans (j4_0 j)) (by
                                                            intro j h
                                                            have cs := t_clamp (i := z8) (by omega)
                                                            rw [e12, x_up2_off (Or.inr (by omega))]; exact j4_1 j h) (by
                                                            intro j h
                                                            have cy := t_clamp (i := y4_1) (by omega)
                                                            have ci := t_clamp (i := z10) (by omega)
                                                            have cs := t_clamp (i := z8) (by omega)
                                                            by_cases hj : j = y4_1.toNatClampNeg
                                                            · rw [e12, hj, show 6 + y4_1.toNatClampNeg = z8.toNatClampNeg from (by omega), x_up2_at, e11, j4_0 _, show z10.toNatClampNeg = 82 + 3 * y4_1.toNatClampNeg from (by omega)]
                                                            · rw [e12, x_up2_off (Or.inr (by omega))]; exact j4_2 j (by omega)) rfl
      refine ev_sub (lo := [(1, .int 0), (0, .ref 69)]) rfl (t_sc rfl (t_sc rfl t_sn)) ?_
      exact L4 _ gi1 gl1 gr1 (0) hI hX  (by decide : (0:Int) ≤ (0:Int32).toInt) (Int.le_trans (by decide : (0:Int32).toInt ≤ (0:Int)) (by decide : (0:Int) ≤ 6)) j1_0 (fun j h => j1_1 j (by omega)) (fun j h => absurd h (by have z0 : (0 : Int32).toInt = 0 := rfl; omega)) rfl
    · have u14 : y1_1.toInt ≤ 5 := t_ltu (t_nle h2) (by decide : (6:Int32).toInt ≤ (6:Int)) rfl
      refine ev_loc f_X12_tellsMinutes (nx := 9) rfl rfl rfl rfl ?_
      refine ev_getR f_X12_tellsMinutes (nx := 12) rfl (hI.wf.s rfl) rfl rfl (hI.wf.r rfl) rfl rfl ?_
      refine ev_loc f_X12_tellsMinutes (nx := 13) rfl rfl rfl rfl ?_
      refine ev_loc f_X12_tellsMinutes (nx := 14) rfl rfl rfl rfl ?_
      refine ev_getR f_X12_tellsMinutes (nx := 17) rfl (hI.wf.s rfl) rfl rfl (hI.wf.r rfl) rfl rfl ?_
      refine ev_bp f_X12_tellsMinutes (nx := 19) (v := 52) rfl (by decide) rfl ?_
      refine ev_ic f_X12_tellsMinutes (nx := 20) (v := 5) rfl (by decide) rfl ?_
      refine ev_loc f_X12_tellsMinutes (nx := 21) rfl rfl rfl rfl ?_
      refine ev_mulL f_X12_tellsMinutes (nx := 22) (c := 5) (l := 0) (u := 25) rfl (by decide) (by decide) l1_1 u14 rfl rfl (by decide) (by decide) rfl (fun z15 e15 l15 u15 => ?_)
      refine ev_addK f_X12_tellsMinutes (nx := 23) (c := 52) (l := 52) (u := 77) rfl (by decide) l15 u15 rfl rfl (by decide) (by decide) rfl (fun z16 e16 l16 u16 => ?_)
      refine ev_ic f_X12_tellsMinutes (nx := 24) (v := 1) rfl (by decide) rfl ?_
      refine ev_addC f_X12_tellsMinutes (nx := 25) (c := 1) (l := 53) (u := 78) rfl (by decide) l16 u16 rfl rfl (by decide) (by decide) rfl (fun z17 e17 l17 u17 => ?_)
      refine ev_ialdT f_X12_tellsMinutes (nx := 26) rfl (hI.wf.s rfl) l17 (by decide) u17 (by decide) rfl (fun w18 e18 => ?_)
      obtain ⟨l18, u18⟩ := hI.abA (x := y1_1) e18 (by decide +kernel : t_aba 70 53 5 0 5 0 120 = true) (by omega) (by omega) (by omega)
      refine ev_iastT f_X12_tellsMinutes (nx := 27) rfl (hI.wf.s rfl) l1_1 (by decide) u14 (by decide) rfl (hI.astG (hI.wf.s rfl) (fun lo hi e => absurd e (t_nob (by decide +kernel) _)) (fun k hk e => by have := hk.2.1; omega)) (hX.upI (t_inR (p := 0) (m := 5) rfl l1_1 (by decide) u14 (by decide) (by decide))) (fun g19 e19 hI hX => ?_)
      refine ev_incR f_X12_tellsMinutes (nx := 30) (c := 1) (l := 1) (u := 6) rfl rfl (by decide) (by decide) l1_1 u14 rfl rfl (by decide) (by decide) rfl (fun z20 e20 l20 u20 => ?_)
      refine ev_jmp f_X12_tellsMinutes (nx := 2) rfl rfl rfl ?_
      refine ev_sub (lo := [(1, .int z20), (0, .ref 69)]) rfl (t_sc rfl (t_sc rfl t_sn)) ?_
      exact ih1 _ (by omega) g19 gl1 gr1 (z20) hI hX  (Int.le_trans (by decide : (0:Int) ≤ 1) l20) u20 (fun j => (congrFun ((by rw [e19]; exact x_up2_ne (by decide) : g19 70 = gi1 70)) j).trans (j1_0 j)) (by
                                                            intro j h
                                                            have cy := t_clamp (i := y1_1) (by omega)
                                                            have ci := t_clamp (i := z17) (by omega)
                                                            have cs := t_clamp (i := y1_1) (by omega)
                                                            by_cases hj : j = y1_1.toNatClampNeg
                                                            · rw [e19, hj, x_up2_at, e18, j1_0 _, show z17.toNatClampNeg = 53 + 5 * y1_1.toNatClampNeg from (by omega)]
                                                            · rw [e19, x_up2_off (Or.inr (by omega))]; exact j1_1 j (by omega)) rfl
  refine ev_sub (lo := [(1, .int 0), (0, .ref 69)]) rfl (t_sc rfl (t_sc rfl t_sn)) ?_
  exact L1 _ gi gl gr (0) hI hX  (by decide : (0:Int) ≤ (0:Int32).toInt) (Int.le_trans (by decide : (0:Int32).toInt ≤ (0:Int)) (by decide : (0:Int) ≤ 6)) (fun _ => rfl) (fun j h => absurd h (by have z0 : (0 : Int32).toInt = 0 := rfl; omega)) rfl
noncomputable def wl_n_orders0 : List (Nat × Nat) := [(69, 44), (69, 45), (90, 9999), (91, 9999)]
noncomputable def Q_n_orders0 (gi : Nat → Nat → Int32) (gl : Nat → Nat → Int64) (gr : Nat → Nat → Value) : (Nat → Nat → Int32) → (Nat → Nat → Int64) → (Nat → Nat → Value) → Prop := fun (gi2 : Nat → Nat → Int32) (gl2 : Nat → Nat → Int64) (gr2 : Nat → Nat → Value) => (∀ j, gi2 70 j = gi 70 j) ∧ (∀ j, gi2 89 j = gi 89 j) ∧ (∀ D : s_D, t_ME 0 gi D → t_Cb D → (∀ j : Nat, j < 6 → gi 89 j = gi 70 (53 + 5 * j)) → (gi2 69 44).toInt = D 1 ∧ s_RO (s_A D) (gi2 90) (D 1).toNat) ∧ (∀ D : s_D, t_ME 0 gi D → t_Cb D → (∀ j : Nat, j < 6 → gi 89 (6 + j) = gi 70 (82 + 3 * j)) → (gi 69 46).toInt = -1 → (gi2 69 45).toInt = D 2 ∧ s_RO (s_B D) (gi2 91) (D 2).toNat)
theorem c_n_orders0 {X : x_Ext} {d : Nat} {sh : List (Nat ⊕ (Nat × Nat))} {gi : Nat → Nat → Int32} {gl : Nat → Nat → Int64} {gr : Nat → Nat → Value} (hI : t_I sh gi gr) : x_Me X (d + 1) n_X12_orders [.ref 69, .int 0] (sh, gi, gl, gr) (t_PN wl_n_orders0 sh gi gl gr (Q_n_orders0 gi gl gr)) := by
  have hX : t_X wl_n_orders0 sh gi gl gr gi gl gr := t_X.rf
  refine me_i f_X12_orders (hI.wf.s rfl) rfl rfl rfl ?_
  obtain ⟨l1, u1⟩ := hI.b (hI.wf.s (k := 69) rfl) (t_bdK rfl : t_bd 11 44 = some (0, 6))
  obtain ⟨l2, u2⟩ := hI.b (hI.wf.s (k := 69) rfl) (t_bdK rfl : t_bd 11 45 = some (0, 6))
  refine ev_loc f_X12_orders (nx := 1) rfl rfl rfl rfl ?_
  refine ev_ic f_X12_orders (nx := 2) (v := 0) rfl (by decide) rfl ?_
  refine ev_putIT f_X12_orders (nx := 5) rfl (hI.wf.s rfl) rfl rfl rfl (hI.putB (hI.wf.s rfl) rfl rfl (by decide : (0:Int) ≤ (0:Int32).toInt) (by decide) (by decide : (0:Int32).toInt ≤ (0:Int)) (by decide)) (hX.upI rfl) (fun g4 e4 hI hX => ?_)
  refine ev_loc f_X12_orders (nx := 6) rfl rfl rfl rfl ?_
  refine ev_ic f_X12_orders (nx := 7) (v := 0) rfl (by decide) rfl ?_
  refine ev_putIT f_X12_orders (nx := 10) rfl (hI.wf.s rfl) rfl rfl rfl (hI.putB (hI.wf.s rfl) rfl rfl (by decide : (0:Int) ≤ (0:Int32).toInt) (by decide) (by decide : (0:Int32).toInt ≤ (0:Int)) (by decide)) (hX.upI rfl) (fun g5 e5 hI hX => ?_)
  refine ev_ic f_X12_orders (nx := 11) (v := 0) rfl (by decide) rfl ?_
  refine ev_loc f_X12_orders (nx := 12) (lo' := [(2, .int 0), (0, .ref 69), (1, .int 0)]) rfl rfl rfl rfl ?_
  have L6 : ∀ (m6 : Nat) (gi6 : Nat → Nat → Int32) (gl6 : Nat → Nat → Int64) (gr6 : Nat → Nat → Value) (y6_2 : Int32), t_I sh gi6 gr6 → t_X wl_n_orders0 sh gi gl gr gi6 gl6 gr6 → 0 ≤ y6_2.toInt → y6_2.toInt ≤ 6 → gi6 69 45 = 0 → gi6 69 46 = (gi 69 46) → (gi6 69 44).toInt ≤ y6_2.toInt → (∀ j, gi6 70 j = gi 70 j) → (∀ j, gi6 89 j = gi 89 j) → (∀ D : s_D, t_ME 0 gi D → t_Cb D → (∀ j : Nat, j < 6 → gi 89 j = gi 70 (53 + 5 * j)) → (gi6 69 44).toInt = y6_2.toInt ∧ y6_2.toInt ≤ D 1 ∧ s_RO (s_A D) (gi6 90) y6_2.toNatClampNeg) → (6 - y6_2.toInt).toNat = m6 → x_Ev X (d + 1) n_X12_orders 12 [(2, .int y6_2), (0, .ref 69), (1, .int 0)] [] (sh, gi6, gl6, gr6) (t_PN wl_n_orders0 sh gi gl gr (Q_n_orders0 gi gl gr)) := by
    intro m6
    induction m6 using Nat.strongRecOn with
    | _ m6 ih6 =>
    intro gi6 gl6 gr6 y6_2 hI hX l6_2 u6_2 c6_0 c6_1 j6_0 j6_1 j6_2 j6_3 hm6
    obtain ⟨l7, u7⟩ := hI.b (hI.wf.s (k := 69) rfl) (t_bdK rfl : t_bd 11 44 = some (0, 6))
    refine ev_loc f_X12_orders (nx := 13) rfl rfl rfl rfl ?_
    refine ev_loc f_X12_orders (nx := 14) rfl rfl rfl rfl ?_
    refine ev_getR f_X12_orders (nx := 17) rfl (hI.wf.s rfl) rfl rfl (hI.wf.r rfl) rfl rfl ?_
    refine ev_ic f_X12_orders (nx := 18) (v := 1) rfl (by decide) rfl ?_
    obtain ⟨l8, u8⟩ := hI.ab (by decide +kernel : t_abr 70 1 1 0 6 = true) (Nat.le_refl _) (Nat.le_refl _)
    refine ev_ialdv f_X12_orders (nx := 19) (w := (gi6 70 1)) rfl (hI.wf.s rfl) (by decide) (rfl : (1 : Int32).toNatClampNeg = 1) (by decide) rfl rfl ?_
    refine ev_if f_X12_orders (t1 := 108) (t2 := 22) rfl rfl rfl (fun h9 => ?_) (fun h9 => ?_)
    · have r10 : (gi6 70 1).toInt ≤ y6_2.toInt := Int32.le_iff_toInt_le.mp h9
      refine ev_ic f_X12_orders (nx := 109) (v := 0) rfl (by decide) rfl ?_
      refine ev_loc f_X12_orders (nx := 110) (lo' := [(2, .int 0), (0, .ref 69), (1, .int 0)]) rfl rfl rfl rfl ?_
      have L11 : ∀ (m11 : Nat) (gi11 : Nat → Nat → Int32) (gl11 : Nat → Nat → Int64) (gr11 : Nat → Nat → Value) (y11_2 : Int32), t_I sh gi11 gr11 → t_X wl_n_orders0 sh gi gl gr gi11 gl11 gr11 → 0 ≤ y11_2.toInt → y11_2.toInt ≤ 6 → gi11 69 46 = (gi 69 46) → gi11 70 1 = (gi6 70 1) → (gi11 69 45).toInt ≤ y11_2.toInt → (∀ j, gi11 70 j = gi 70 j) → (∀ j, gi11 89 j = gi 89 j) → (∀ D : s_D, t_ME 0 gi D → t_Cb D → (∀ j : Nat, j < 6 → gi 89 j = gi 70 (53 + 5 * j)) → (gi11 69 44).toInt = D 1 ∧ s_RO (s_A D) (gi11 90) (D 1).toNat) → (∀ D : s_D, t_ME 0 gi D → t_Cb D → (∀ j : Nat, j < 6 → gi 89 (6 + j) = gi 70 (82 + 3 * j)) → (gi 69 46).toInt = -1 → (gi11 69 45).toInt = y11_2.toInt ∧ y11_2.toInt ≤ D 2 ∧ (gi11 69 46).toInt = -1 ∧ s_RO (s_B D) (gi11 91) y11_2.toNatClampNeg) → (6 - y11_2.toInt).toNat = m11 → x_Ev X (d + 1) n_X12_orders 110 [(2, .int y11_2), (0, .ref 69), (1, .int 0)] [] (sh, gi11, gl11, gr11) (t_PN wl_n_orders0 sh gi gl gr (Q_n_orders0 gi gl gr)) := by
        intro m11
        induction m11 using Nat.strongRecOn with
        | _ m11 ih11 =>
        intro gi11 gl11 gr11 y11_2 hI hX l11_2 u11_2 c11_0 c11_1 j11_0 j11_1 j11_2 j11_3 j11_4 hm11
        obtain ⟨l12, u12⟩ := hI.b (hI.wf.s (k := 69) rfl) (t_bdK rfl : t_bd 11 44 = some (0, 6))
        obtain ⟨l13, u13⟩ := hI.b (hI.wf.s (k := 69) rfl) (t_bdK rfl : t_bd 11 45 = some (0, 6))
        refine ev_loc f_X12_orders (nx := 111) rfl rfl rfl rfl ?_
        refine ev_loc f_X12_orders (nx := 112) rfl rfl rfl rfl ?_
        refine ev_getR f_X12_orders (nx := 115) rfl (hI.wf.s rfl) rfl rfl (hI.wf.r rfl) rfl rfl ?_
        refine ev_ic f_X12_orders (nx := 116) (v := 2) rfl (by decide) rfl ?_
        obtain ⟨l14, u14⟩ := hI.ab (by decide +kernel : t_abr 70 2 2 0 6 = true) (Nat.le_refl _) (Nat.le_refl _)
        refine ev_ialdv f_X12_orders (nx := 117) (w := (gi11 70 2)) rfl (hI.wf.s rfl) (by decide) (rfl : (2 : Int32).toNatClampNeg = 2) (by decide) rfl rfl ?_
        refine ev_if f_X12_orders (t1 := 211) (t2 := 120) rfl rfl rfl (fun h15 => ?_) (fun h15 => ?_)
        · have r16 : (gi11 70 2).toInt ≤ y11_2.toInt := Int32.le_iff_toInt_le.mp h15
          exact ev_ret f_X12_orders rfl rfl rfl ⟨_, _, _, rfl, hI, hX, ⟨rfl, (show (∀ j, gi11 70 j = gi 70 j) ∧ (∀ j, gi11 89 j = gi 89 j) ∧ (∀ D : s_D, t_ME 0 gi D → t_Cb D → (∀ j : Nat, j < 6 → gi 89 j = gi 70 (53 + 5 * j)) → (gi11 69 44).toInt = D 1 ∧ s_RO (s_A D) (gi11 90) (D 1).toNat) ∧ (∀ D : s_D, t_ME 0 gi D → t_Cb D → (∀ j : Nat, j < 6 → gi 89 (6 + j) = gi 70 (82 + 3 * j)) → (gi 69 46).toInt = -1 → (gi11 69 45).toInt = D 2 ∧ s_RO (s_B D) (gi11 91) (D 2).toNat) from ⟨j11_1, j11_2, fun D hm hb ht => j11_3 D hm hb ht, (by
                                                            intro D hm hb ht h46
                                                            have b1 := hb.2.2.1
                                                            have b2 := hb.2.2.2
                                                            have z0 : (0 : Int32).toInt = 0 := rfl
                                                            obtain ⟨g1, g2, g3, g4⟩ := j11_4 D hm hb ht h46
                                                            have hd : (gi11 70 2).toInt = D 2 := by rw [j11_1 2]; exact hm.1.1.2.2
                                                            have ci := t_clamp (i := y11_2) (by omega)
                                                            rw [show (D 2).toNat = y11_2.toNatClampNeg from (by omega)]
                                                            exact ⟨by omega, g4⟩)⟩)⟩⟩
        · have r17 : y11_2.toInt < (gi11 70 2).toInt := Int32.lt_iff_toInt_lt.mp (t_nle h15)
          have u18 : y11_2.toInt ≤ 5 := t_ltu (t_nle h15) u14 rfl
          have l19 : 1 ≤ (gi11 70 2).toInt := t_ltl (t_nle h15) l11_2 rfl
          refine ev_loc f_X12_orders (nx := 121) rfl rfl rfl rfl ?_
          refine ev_loc f_X12_orders (nx := 122) rfl rfl rfl rfl ?_
          refine ev_gvI f_X12_orders (nx := 125) (w := (gi 69 46)) rfl (hI.wf.s rfl) rfl rfl c11_0 rfl ?_
          refine ev_if f_X12_orders (t1 := 128) (t2 := 131) rfl rfl rfl (fun h20 => ?_) (fun h20 => ?_)
          · have r21 : y11_2.toInt = (gi 69 46).toInt := t_eqi h20
            have u22 : (gi 69 46).toInt ≤ 5 := t_equ (Eq.symm h20) u18
            have l23 : 0 ≤ (gi 69 46).toInt := t_eql (Eq.symm h20) l11_2
            refine ev_jmp f_X12_orders (nx := 205) rfl rfl rfl ?_
            refine ev_incR f_X12_orders (nx := 208) (c := 1) (l := 1) (u := 6) rfl rfl (by decide) (by decide) l11_2 u18 rfl rfl (by decide) (by decide) rfl (fun z24 e24 l24 u24 => ?_)
            refine ev_jmp f_X12_orders (nx := 110) rfl rfl rfl ?_
            refine ev_sub (lo := [(2, .int z24), (0, .ref 69), (1, .int 0)]) rfl (t_sc rfl (t_sc rfl (t_sc rfl t_sn))) ?_
            exact ih11 _ (by omega) gi11 gl11 gr11 (z24) hI hX  (Int.le_trans (by decide : (0:Int) ≤ 1) l24) u24 c11_0 c11_1 (by omega) j11_1 j11_2 (by
                                                            intro D hm hb ht
                                                            obtain ⟨g1, g2⟩ := j11_3 D hm hb ht
                                                            exact ⟨by omega, g2⟩) (by
                                                            intro D hm hb ht h46
                                                            exfalso
                                                            obtain ⟨g1, g2, g3, g4⟩ := j11_4 D hm hb ht h46
                                                            have ff25 : (gi11 69 46).toInt = (gi 69 46).toInt := congrArg Int32.toInt c11_0
                                                            omega) rfl
          · have r26 : y11_2.toInt ≠ (gi 69 46).toInt := t_nei h20
            refine ev_loc f_X12_orders (nx := 132) rfl rfl rfl rfl ?_
            refine ev_gvI f_X12_orders (nx := 135) (w := (gi11 69 45)) rfl (hI.wf.s rfl) rfl rfl rfl rfl ?_
            refine ev_loc f_X12_orders (nx := 136) (lo' := [(3, .int (gi11 69 45)), (2, .int y11_2), (0, .ref 69), (1, .int 0)]) rfl rfl rfl rfl ?_
            have L27 : ∀ (m27 : Nat) (gi27 : Nat → Nat → Int32) (gl27 : Nat → Nat → Int64) (gr27 : Nat → Nat → Value) (y27_3 : Int32), t_I sh gi27 gr27 → t_X wl_n_orders0 sh gi gl gr gi27 gl27 gr27 → 0 ≤ y27_3.toInt → y27_3.toInt ≤ 6 → gi27 69 46 = (gi 69 46) → gi27 70 1 = (gi6 70 1) → gi27 70 2 = (gi11 70 2) → y27_3.toInt ≤ (gi27 69 45).toInt → (gi27 69 45).toInt ≤ y11_2.toInt → (∀ j, gi27 70 j = gi 70 j) → (∀ j, gi27 89 j = gi 89 j) → (∀ D : s_D, t_ME 0 gi D → t_Cb D → (∀ j : Nat, j < 6 → gi 89 j = gi 70 (53 + 5 * j)) → (gi27 69 44).toInt = D 1 ∧ s_RO (s_A D) (gi27 90) (D 1).toNat) → (∀ D : s_D, t_ME 0 gi D → t_Cb D → (∀ j : Nat, j < 6 → gi 89 (6 + j) = gi 70 (82 + 3 * j)) → (gi 69 46).toInt = -1 → (gi27 69 45).toInt = y11_2.toInt ∧ y11_2.toInt < D 2 ∧ (gi27 69 46).toInt = -1 ∧ ∃ f, s_RO (s_B D) f y11_2.toNatClampNeg ∧ s_J f (gi27 91) (fun j => s_B D (s_or (s_B D) y11_2.toNatClampNeg j)) y11_2.toNatClampNeg (s_B D y11_2.toNatClampNeg) y27_3.toNatClampNeg) → (y27_3.toInt - 0).toNat = m27 → x_Ev X (d + 1) n_X12_orders 136 [(3, .int y27_3), (2, .int y11_2), (0, .ref 69), (1, .int 0)] [] (sh, gi27, gl27, gr27) (t_PN wl_n_orders0 sh gi gl gr (Q_n_orders0 gi gl gr)) := by
              intro m27
              induction m27 using Nat.strongRecOn with
              | _ m27 ih27 =>
              intro gi27 gl27 gr27 y27_3 hI hX l27_3 u27_3 c27_0 c27_1 c27_2 j27_0 j27_1 j27_2 j27_3 j27_4 j27_5 hm27
              obtain ⟨l28, u28⟩ := hI.b (hI.wf.s (k := 69) rfl) (t_bdK rfl : t_bd 11 44 = some (0, 6))
              obtain ⟨l29, u29⟩ := hI.b (hI.wf.s (k := 69) rfl) (t_bdK rfl : t_bd 11 45 = some (0, 6))
              refine ev_loc f_X12_orders (nx := 137) rfl rfl rfl rfl ?_
              refine ev_if f_X12_orders (t1 := 188) (t2 := 140) rfl rfl rfl (fun h30 => ?_) (fun h30 => ?_)
              · have u31 : y27_3.toInt ≤ 0 := t_leu h30 (by decide : (0:Int32).toInt ≤ (0:Int))
                refine ev_loc f_X12_orders (nx := 189) rfl rfl rfl rfl ?_
                refine ev_getR f_X12_orders (nx := 192) rfl (hI.wf.s rfl) rfl rfl (hI.wf.r rfl) rfl rfl ?_
                refine ev_loc f_X12_orders (nx := 193) rfl rfl rfl rfl ?_
                refine ev_loc f_X12_orders (nx := 194) rfl rfl rfl rfl ?_
                refine ev_iastT f_X12_orders (nx := 195) rfl (hI.wf.s rfl) l27_3 (by decide) u31 (by decide) rfl (hI.astL (hI.wf.s rfl) (by decide +kernel : t_abw 91 0 0 0 5 = true) (t_cl1 l27_3 (by decide)) (t_cl2 l27_3 u31 (by decide) (by decide)) l11_2 u18 rfl) (hX.upI (t_inA_ok rfl)) (fun g32 e32 hI hX => ?_)
                refine ev_loc f_X12_orders (nx := 196) rfl rfl rfl rfl ?_
                refine ev_alu f_X12_orders (nx := 197) rfl rfl rfl rfl ?_
                refine ev_gvI f_X12_orders (nx := 200) (w := (gi27 69 45)) rfl (hI.wf.s rfl) rfl rfl ((by rw [e32]; exact x_up2_off (Or.inl (by decide)) : g32 69 45 = gi27 69 45).trans rfl) rfl ?_
                refine ev_ic f_X12_orders (nx := 201) (v := 1) rfl (by decide) rfl ?_
                refine ev_addC f_X12_orders (nx := 202) (c := 1) (l := 1) (u := 7) rfl (by decide) l29 u29 rfl rfl (by decide) (by decide) rfl (fun z33 e33 l33 u33 => ?_)
                have u35 : z33.toInt ≤ (6:Int) := (by omega)
                refine ev_putIT f_X12_orders (nx := 205) rfl (hI.wf.s rfl) rfl rfl rfl (hI.putB (hI.wf.s rfl) rfl rfl l33 (by decide) u35 (by decide)) (hX.upI rfl) (fun g34 e34 hI hX => ?_)
                refine ev_incR f_X12_orders (nx := 208) (c := 1) (l := 1) (u := 6) rfl rfl (by decide) (by decide) l11_2 u18 rfl rfl (by decide) (by decide) rfl (fun z36 e36 l36 u36 => ?_)
                refine ev_jmp f_X12_orders (nx := 110) rfl rfl rfl ?_
                refine ev_sub (lo := [(2, .int z36), (0, .ref 69), (1, .int 0)]) rfl (t_sc rfl (t_sc rfl (t_sc rfl t_sn))) ?_
                exact ih11 _ (by omega) g34 gl27 gr27 (z36) hI hX  (Int.le_trans (by decide : (0:Int) ≤ 1) l36) u36 ((by rw [e34]; exact x_up2_off (Or.inr (by decide)) : g34 69 46 = g32 69 46).trans ((by rw [e32]; exact x_up2_off (Or.inl (by decide)) : g32 69 46 = gi27 69 46).trans c27_0)) ((by rw [e34]; exact x_up2_off (Or.inr (by decide)) : g34 70 1 = g32 70 1).trans ((by rw [e32]; exact x_up2_off (Or.inl (by decide)) : g32 70 1 = gi27 70 1).trans c27_1)) (by have ff37 : (g34 69 45).toInt = z33.toInt := congrArg Int32.toInt (by rw [e34]; exact x_up2_at _ _ _ _ : g34 69 45 = z33); omega) (fun j => (congrFun ((by rw [e34]; exact x_up2_ne (by decide) : g34 70 = g32 70).trans ((by rw [e32]; exact x_up2_ne (by decide) : g32 70 = gi27 70))) j).trans (j27_2 j)) (fun j => (congrFun ((by rw [e34]; exact x_up2_ne (by decide) : g34 89 = g32 89).trans ((by rw [e32]; exact x_up2_ne (by decide) : g32 89 = gi27 89))) j).trans (j27_3 j)) (by
                                                            intro D hm hb ht
                                                            obtain ⟨g1, g2⟩ := j27_4 D hm hb ht
                                                            have ff38 : (g34 69 44).toInt = (gi27 69 44).toInt := congrArg Int32.toInt ((by rw [e34]; exact x_up2_off (Or.inr (by decide)) : g34 69 44 = g32 69 44).trans ((by rw [e32]; exact x_up2_off (Or.inl (by decide)) : g32 69 44 = gi27 69 44).trans rfl))
                                                            rw [show g34 90 = gi27 90 from (funext fun j => by rw [e34, x_up2_off (Or.inl (by decide)), e32, x_up2_off (Or.inl (by decide))])]
                                                            exact ⟨by omega, g2⟩) (by
                                                            intro D hm hb ht h46
                                                            have b1 := hb.2.2.1
                                                            have b2 := hb.2.2.2
                                                            have z0 : (0 : Int32).toInt = 0 := rfl
                                                            obtain ⟨g1, g2, g3, f, hR, hJ⟩ := j27_5 D hm hb ht h46
                                                            have ff39 : (g34 69 45).toInt = z33.toInt := congrArg Int32.toInt (by rw [e34]; exact x_up2_at _ _ _ _ : g34 69 45 = z33)
                                                            have h89 : ∀ j : Nat, (j : Int) < D 2 → (gi27 89 (6 + j)).toInt = s_B D j := fun j hj => by rw [j27_3 (6 + j), ht j (by omega)]; have hh := hm.2.2.2 (82 + 3 * j) (by omega) (by omega); rw [Nat.zero_add] at hh; exact hh
                                                            have hst : ∀ j, g34 91 j = if j = y27_3.toNatClampNeg then y11_2 else gi27 91 j := fun j => by rw [e34, x_up2_off (Or.inl (by decide)), e32]; by_cases hj : j = y27_3.toNatClampNeg; (rw [if_pos hj, hj, x_up2_at]); (rw [if_neg hj, x_up2_off (Or.inr hj)])
                                                            have ci := t_clamp (i := y11_2) (by omega)
                                                            have hs : y27_3.toNatClampNeg = 0 ∨ s_B D (s_or (s_B D) y11_2.toNatClampNeg (y27_3.toNatClampNeg - 1)) ≤ s_B D y11_2.toNatClampNeg := Or.inl (s_c00 (by omega) (by omega))
                                                            rw [s_cp (by omega) e36]
                                                            exact ⟨by omega, by omega, (by rw [e34, x_up2_off (Or.inr (by decide)), e32, x_up2_off (Or.inl (by decide))]; exact g3), s_RO_s hR ci.symm (fun j hj => rfl) rfl (s_J_e hJ hs hst)⟩) rfl
              · have l40 : 1 ≤ y27_3.toInt := t_ltl (t_nle h30) (by decide : (0:Int) ≤ (0:Int32).toInt) rfl
                refine ev_loc f_X12_orders (nx := 141) rfl rfl rfl rfl ?_
                refine ev_getR f_X12_orders (nx := 144) rfl (hI.wf.s rfl) rfl rfl (hI.wf.r rfl) rfl rfl ?_
                refine ev_bp f_X12_orders (nx := 146) (v := 6) rfl (by decide) rfl ?_
                refine ev_loc f_X12_orders (nx := 147) rfl rfl rfl rfl ?_
                refine ev_getR f_X12_orders (nx := 150) rfl (hI.wf.s rfl) rfl rfl (hI.wf.r rfl) rfl rfl ?_
                refine ev_loc f_X12_orders (nx := 151) rfl rfl rfl rfl ?_
                refine ev_ic f_X12_orders (nx := 152) (v := 1) rfl (by decide) rfl ?_
                refine ev_subC f_X12_orders (nx := 153) (c := 1) (l := 0) (u := 5) rfl (by decide) l40 u27_3 rfl rfl (by decide) (by decide) rfl (fun z41 e41 l41 u41 => ?_)
                refine ev_ialdT f_X12_orders (nx := 154) rfl (hI.wf.s rfl) l41 (by decide) u41 (by decide) rfl (fun w42 e42 => ?_)
                obtain ⟨l42, u42⟩ := hI.abi e42 (by decide +kernel : t_abr 91 0 5 0 5 = true) l41 (by decide) u41 (by decide)
                refine ev_addK f_X12_orders (nx := 155) (c := 6) (l := 6) (u := 11) rfl (by decide) l42 u42 rfl rfl (by decide) (by decide) rfl (fun z43 e43 l43 u43 => ?_)
                refine ev_ialdT f_X12_orders (nx := 156) rfl (hI.wf.s rfl) l43 (by decide) u43 (by decide) rfl (fun w44 e44 => ?_)
                refine ev_loc f_X12_orders (nx := 157) rfl rfl rfl rfl ?_
                refine ev_getR f_X12_orders (nx := 160) rfl (hI.wf.s rfl) rfl rfl (hI.wf.r rfl) rfl rfl ?_
                refine ev_bp f_X12_orders (nx := 162) (v := 6) rfl (by decide) rfl ?_
                refine ev_loc f_X12_orders (nx := 163) rfl rfl rfl rfl ?_
                refine ev_addK f_X12_orders (nx := 164) (c := 6) (l := 6) (u := 11) rfl (by decide) l11_2 u18 rfl rfl (by decide) (by decide) rfl (fun z45 e45 l45 u45 => ?_)
                refine ev_ialdT f_X12_orders (nx := 165) rfl (hI.wf.s rfl) l45 (by decide) u45 (by decide) rfl (fun w46 e46 => ?_)
                refine ev_if f_X12_orders (t1 := 188) (t2 := 168) rfl rfl rfl (fun h47 => ?_) (fun h47 => ?_)
                · have r48 : w44.toInt ≤ w46.toInt := Int32.le_iff_toInt_le.mp h47
                  refine ev_loc f_X12_orders (nx := 189) rfl rfl rfl rfl ?_
                  refine ev_getR f_X12_orders (nx := 192) rfl (hI.wf.s rfl) rfl rfl (hI.wf.r rfl) rfl rfl ?_
                  refine ev_loc f_X12_orders (nx := 193) rfl rfl rfl rfl ?_
                  refine ev_loc f_X12_orders (nx := 194) rfl rfl rfl rfl ?_
                  have u50 : y27_3.toInt ≤ (5:Int) := (by omega)
                  refine ev_iastT f_X12_orders (nx := 195) rfl (hI.wf.s rfl) l40 (by decide) u50 (by decide) rfl (hI.astL (hI.wf.s rfl) (by decide +kernel : t_abw 91 1 5 0 5 = true) (t_cl1 l40 (by decide)) (t_cl2 l40 u50 (by decide) (by decide)) l11_2 u18 rfl) (hX.upI (t_inA_ok rfl)) (fun g49 e49 hI hX => ?_)
                  refine ev_loc f_X12_orders (nx := 196) rfl rfl rfl rfl ?_
                  refine ev_alu f_X12_orders (nx := 197) rfl rfl rfl rfl ?_
                  refine ev_gvI f_X12_orders (nx := 200) (w := (gi27 69 45)) rfl (hI.wf.s rfl) rfl rfl ((by rw [e49]; exact x_up2_off (Or.inl (by decide)) : g49 69 45 = gi27 69 45).trans rfl) rfl ?_
                  refine ev_ic f_X12_orders (nx := 201) (v := 1) rfl (by decide) rfl ?_
                  refine ev_addC f_X12_orders (nx := 202) (c := 1) (l := 1) (u := 7) rfl (by decide) l29 u29 rfl rfl (by decide) (by decide) rfl (fun z51 e51 l51 u51 => ?_)
                  have u53 : z51.toInt ≤ (6:Int) := (by omega)
                  refine ev_putIT f_X12_orders (nx := 205) rfl (hI.wf.s rfl) rfl rfl rfl (hI.putB (hI.wf.s rfl) rfl rfl l51 (by decide) u53 (by decide)) (hX.upI rfl) (fun g52 e52 hI hX => ?_)
                  refine ev_incR f_X12_orders (nx := 208) (c := 1) (l := 1) (u := 6) rfl rfl (by decide) (by decide) l11_2 u18 rfl rfl (by decide) (by decide) rfl (fun z54 e54 l54 u54 => ?_)
                  refine ev_jmp f_X12_orders (nx := 110) rfl rfl rfl ?_
                  refine ev_sub (lo := [(2, .int z54), (0, .ref 69), (1, .int 0)]) rfl (t_sc rfl (t_sc rfl (t_sc rfl t_sn))) ?_
                  exact ih11 _ (by omega) g52 gl27 gr27 (z54) hI hX  (Int.le_trans (by decide : (0:Int) ≤ 1) l54) u54 ((by rw [e52]; exact x_up2_off (Or.inr (by decide)) : g52 69 46 = g49 69 46).trans ((by rw [e49]; exact x_up2_off (Or.inl (by decide)) : g49 69 46 = gi27 69 46).trans c27_0)) ((by rw [e52]; exact x_up2_off (Or.inr (by decide)) : g52 70 1 = g49 70 1).trans ((by rw [e49]; exact x_up2_off (Or.inl (by decide)) : g49 70 1 = gi27 70 1).trans c27_1)) (by have ff55 : (g52 69 45).toInt = z51.toInt := congrArg Int32.toInt (by rw [e52]; exact x_up2_at _ _ _ _ : g52 69 45 = z51); omega) (fun j => (congrFun ((by rw [e52]; exact x_up2_ne (by decide) : g52 70 = g49 70).trans ((by rw [e49]; exact x_up2_ne (by decide) : g49 70 = gi27 70))) j).trans (j27_2 j)) (fun j => (congrFun ((by rw [e52]; exact x_up2_ne (by decide) : g52 89 = g49 89).trans ((by rw [e49]; exact x_up2_ne (by decide) : g49 89 = gi27 89))) j).trans (j27_3 j)) (by
                                                            intro D hm hb ht
                                                            obtain ⟨g1, g2⟩ := j27_4 D hm hb ht
                                                            have ff56 : (g52 69 44).toInt = (gi27 69 44).toInt := congrArg Int32.toInt ((by rw [e52]; exact x_up2_off (Or.inr (by decide)) : g52 69 44 = g49 69 44).trans ((by rw [e49]; exact x_up2_off (Or.inl (by decide)) : g49 69 44 = gi27 69 44).trans rfl))
                                                            rw [show g52 90 = gi27 90 from (funext fun j => by rw [e52, x_up2_off (Or.inl (by decide)), e49, x_up2_off (Or.inl (by decide))])]
                                                            exact ⟨by omega, g2⟩) (by
                                                            intro D hm hb ht h46
                                                            have b1 := hb.2.2.1
                                                            have b2 := hb.2.2.2
                                                            have z0 : (0 : Int32).toInt = 0 := rfl
                                                            obtain ⟨g1, g2, g3, f, hR, hJ⟩ := j27_5 D hm hb ht h46
                                                            have ff57 : (g52 69 45).toInt = z51.toInt := congrArg Int32.toInt (by rw [e52]; exact x_up2_at _ _ _ _ : g52 69 45 = z51)
                                                            have h89 : ∀ j : Nat, (j : Int) < D 2 → (gi27 89 (6 + j)).toInt = s_B D j := fun j hj => by rw [j27_3 (6 + j), ht j (by omega)]; have hh := hm.2.2.2 (82 + 3 * j) (by omega) (by omega); rw [Nat.zero_add] at hh; exact hh
                                                            have hst : ∀ j, g52 91 j = if j = y27_3.toNatClampNeg then y11_2 else gi27 91 j := fun j => by rw [e52, x_up2_off (Or.inl (by decide)), e49]; by_cases hj : j = y27_3.toNatClampNeg; (rw [if_pos hj, hj, x_up2_at]); (rw [if_neg hj, x_up2_off (Or.inr hj)])
                                                            have hp : 0 < y27_3.toNatClampNeg := s_c0 (by omega)
                                                            have hv1 : w42.toInt = ((s_or (s_B D) y11_2.toNatClampNeg (y27_3.toNatClampNeg - 1) : Nat) : Int) := by rw [e42, s_cm l41 e41, s_J_at hJ hp]; exact hR _ (by have := hJ.1; omega)
                                                            have hlt := s_or_lt (s_B D) y11_2.toNatClampNeg (y27_3.toNatClampNeg - 1) (by have := hJ.1; omega)
                                                            have ci := t_clamp (i := y11_2) (by omega)
                                                            have hv2 : w44.toInt = s_B D (s_or (s_B D) y11_2.toNatClampNeg (y27_3.toNatClampNeg - 1)) := by rw [e44, s_c5 (x := z43) (k := 6 + s_or (s_B D) y11_2.toNatClampNeg (y27_3.toNatClampNeg - 1)) (show z43.toInt = _ from (by omega))]; exact h89 _ (by omega)
                                                            have hv3 : w46.toInt = s_B D y11_2.toNatClampNeg := by rw [e46, s_c5 (x := z45) (k := 6 + y11_2.toNatClampNeg) (show z45.toInt = _ from (by omega))]; exact h89 _ (by omega)
                                                            have hs : y27_3.toNatClampNeg = 0 ∨ s_B D (s_or (s_B D) y11_2.toNatClampNeg (y27_3.toNatClampNeg - 1)) ≤ s_B D y11_2.toNatClampNeg := Or.inr (by omega)
                                                            rw [s_cp (by omega) e54]
                                                            exact ⟨by omega, by omega, (by rw [e52, x_up2_off (Or.inr (by decide)), e49, x_up2_off (Or.inl (by decide))]; exact g3), s_RO_s hR ci.symm (fun j hj => rfl) rfl (s_J_e hJ hs hst)⟩) rfl
                · have r58 : w46.toInt < w44.toInt := Int32.lt_iff_toInt_lt.mp (t_nle h47)
                  have u59 : w46.toInt ≤ 2147483646 := t_ltu (t_nle h47) (t_hi w44) rfl
                  have l60 : (-2147483647) ≤ w44.toInt := t_ltl (t_nle h47) (t_lo w46) rfl
                  refine ev_loc f_X12_orders (nx := 169) rfl rfl rfl rfl ?_
                  refine ev_getR f_X12_orders (nx := 172) rfl (hI.wf.s rfl) rfl rfl (hI.wf.r rfl) rfl rfl ?_
                  refine ev_loc f_X12_orders (nx := 173) rfl rfl rfl rfl ?_
                  refine ev_loc f_X12_orders (nx := 174) rfl rfl rfl rfl ?_
                  refine ev_getR f_X12_orders (nx := 177) rfl (hI.wf.s rfl) rfl rfl (hI.wf.r rfl) rfl rfl ?_
                  refine ev_loc f_X12_orders (nx := 178) rfl rfl rfl rfl ?_
                  refine ev_ic f_X12_orders (nx := 179) (v := 1) rfl (by decide) rfl ?_
                  refine ev_subC f_X12_orders (nx := 180) (c := 1) (l := 0) (u := 5) rfl (by decide) l40 u27_3 rfl rfl (by decide) (by decide) rfl (fun z61 e61 l61 u61 => ?_)
                  refine ev_ialdT f_X12_orders (nx := 181) rfl (hI.wf.s rfl) l61 (by decide) u61 (by decide) rfl (fun w62 e62 => ?_)
                  obtain ⟨l62, u62⟩ := hI.abi e62 (by decide +kernel : t_abr 91 0 5 0 5 = true) l61 (by decide) u61 (by decide)
                  have u64 : y27_3.toInt ≤ (5:Int) := (by omega)
                  refine ev_iastT f_X12_orders (nx := 182) rfl (hI.wf.s rfl) l40 (by decide) u64 (by decide) rfl (hI.astL (hI.wf.s rfl) (by decide +kernel : t_abw 91 1 5 0 5 = true) (t_cl1 l40 (by decide)) (t_cl2 l40 u64 (by decide) (by decide)) l62 u62 rfl) (hX.upI (t_inA_ok rfl)) (fun g63 e63 hI hX => ?_)
                  refine ev_incR f_X12_orders (nx := 185) (c := (-1)) (l := 0) (u := 4) rfl rfl (by decide) (by decide) l40 u64 rfl rfl (by decide) (by decide) rfl (fun z65 e65 l65 u65 => ?_)
                  refine ev_jmp f_X12_orders (nx := 136) rfl rfl rfl ?_
                  refine ev_sub (lo := [(3, .int z65), (2, .int y11_2), (0, .ref 69), (1, .int 0)]) rfl (t_sc rfl (t_sc rfl (t_sc rfl (t_sc rfl t_sn)))) ?_
                  exact ih27 _ (by omega) g63 gl27 gr27 (z65) hI hX  l65 (Int.le_trans u65 (by decide : (4:Int) ≤ 6)) ((by rw [e63]; exact x_up2_off (Or.inl (by decide)) : g63 69 46 = gi27 69 46).trans c27_0) ((by rw [e63]; exact x_up2_off (Or.inl (by decide)) : g63 70 1 = gi27 70 1).trans c27_1) ((by rw [e63]; exact x_up2_off (Or.inl (by decide)) : g63 70 2 = gi27 70 2).trans c27_2) (by have ff66 : (g63 69 45).toInt = (gi27 69 45).toInt := congrArg Int32.toInt ((by rw [e63]; exact x_up2_off (Or.inl (by decide)) : g63 69 45 = gi27 69 45).trans rfl); omega) (by have ff67 : (g63 69 45).toInt = (gi27 69 45).toInt := congrArg Int32.toInt ((by rw [e63]; exact x_up2_off (Or.inl (by decide)) : g63 69 45 = gi27 69 45).trans rfl); omega) (fun j => (congrFun ((by rw [e63]; exact x_up2_ne (by decide) : g63 70 = gi27 70)) j).trans (j27_2 j)) (fun j => (congrFun ((by rw [e63]; exact x_up2_ne (by decide) : g63 89 = gi27 89)) j).trans (j27_3 j)) (by
                                                            intro D hm hb ht
                                                            obtain ⟨g1, g2⟩ := j27_4 D hm hb ht
                                                            have ff68 : (g63 69 44).toInt = (gi27 69 44).toInt := congrArg Int32.toInt ((by rw [e63]; exact x_up2_off (Or.inl (by decide)) : g63 69 44 = gi27 69 44).trans rfl)
                                                            rw [show g63 90 = gi27 90 from (funext fun j => by rw [e63, x_up2_off (Or.inl (by decide))])]
                                                            exact ⟨by omega, g2⟩) (by
                                                            intro D hm hb ht h46
                                                            have b1 := hb.2.2.1
                                                            have b2 := hb.2.2.2
                                                            have z0 : (0 : Int32).toInt = 0 := rfl
                                                            obtain ⟨g1, g2, g3, f, hR, hJ⟩ := j27_5 D hm hb ht h46
                                                            have ff69 : (g63 69 45).toInt = (gi27 69 45).toInt := congrArg Int32.toInt ((by rw [e63]; exact x_up2_off (Or.inl (by decide)) : g63 69 45 = gi27 69 45).trans rfl)
                                                            have h89 : ∀ j : Nat, (j : Int) < D 2 → (gi27 89 (6 + j)).toInt = s_B D j := fun j hj => by rw [j27_3 (6 + j), ht j (by omega)]; have hh := hm.2.2.2 (82 + 3 * j) (by omega) (by omega); rw [Nat.zero_add] at hh; exact hh
                                                            have hp : 0 < y27_3.toNatClampNeg := s_c0 (by omega)
                                                            have hv1 : w42.toInt = ((s_or (s_B D) y11_2.toNatClampNeg (y27_3.toNatClampNeg - 1) : Nat) : Int) := by rw [e42, s_cm l41 e41, s_J_at hJ hp]; exact hR _ (by have := hJ.1; omega)
                                                            have hlt := s_or_lt (s_B D) y11_2.toNatClampNeg (y27_3.toNatClampNeg - 1) (by have := hJ.1; omega)
                                                            have ci := t_clamp (i := y11_2) (by omega)
                                                            have hv2 : w44.toInt = s_B D (s_or (s_B D) y11_2.toNatClampNeg (y27_3.toNatClampNeg - 1)) := by rw [e44, s_c5 (x := z43) (k := 6 + s_or (s_B D) y11_2.toNatClampNeg (y27_3.toNatClampNeg - 1)) (show z43.toInt = _ from (by omega))]; exact h89 _ (by omega)
                                                            have hv3 : w46.toInt = s_B D y11_2.toNatClampNeg := by rw [e46, s_c5 (x := z45) (k := 6 + y11_2.toNatClampNeg) (show z45.toInt = _ from (by omega))]; exact h89 _ (by omega)
                                                            have hst : ∀ j, g63 91 j = if j = y27_3.toNatClampNeg then w62 else gi27 91 j := fun j => by rw [e63]; by_cases hj : j = y27_3.toNatClampNeg; (rw [if_pos hj, hj, x_up2_at]); (rw [if_neg hj, x_up2_off (Or.inr hj)])
                                                            have hw : w62 = gi27 91 (y27_3.toNatClampNeg - 1) := by rw [e62, s_cm l61 e61]
                                                            rw [s_cm2 l65 e65]
                                                            exact ⟨by omega, g2, (by rw [e63, x_up2_off (Or.inl (by decide))]; exact g3), f, hR, s_J_s hJ hp (show s_B D y11_2.toNatClampNeg < s_B D (s_or (s_B D) y11_2.toNatClampNeg (y27_3.toNatClampNeg - 1)) from (by omega)) hst hw⟩) rfl
            refine ev_sub (lo := [(3, .int (gi11 69 45)), (2, .int y11_2), (0, .ref 69), (1, .int 0)]) rfl (t_sc rfl (t_sc rfl (t_sc rfl (t_sc rfl t_sn)))) ?_
            exact L27 _ gi11 gl11 gr11 ((gi11 69 45)) hI hX  l13 u13 c11_0 c11_1 rfl (by omega) (by omega) j11_1 j11_2 (by
                                                            intro D hm hb ht
                                                            obtain ⟨g1, g2⟩ := j11_3 D hm hb ht
                                                            exact ⟨by omega, g2⟩) (by
                                                            intro D hm hb ht h46
                                                            have b1 := hb.2.2.1
                                                            have b2 := hb.2.2.2
                                                            have z0 : (0 : Int32).toInt = 0 := rfl
                                                            obtain ⟨g0, g1, g3, g2⟩ := j11_4 D hm hb ht h46
                                                            have hd : (gi11 70 2).toInt = D 2 := by rw [j11_1 2]; exact hm.1.1.2.2
                                                            have hx : ((gi11 69 45)).toNatClampNeg = y11_2.toNatClampNeg := by have c1 := t_clamp (i := (gi11 69 45)) (by omega); have c2 := t_clamp (i := y11_2) (by omega); omega
                                                            rw [hx]
                                                            exact ⟨g0, by omega, g3, _, g2, s_J_b (fun j _ => rfl)⟩) rfl
      refine ev_sub (lo := [(2, .int 0), (0, .ref 69), (1, .int 0)]) rfl (t_sc rfl (t_sc rfl (t_sc rfl t_sn))) ?_
      exact L11 _ gi6 gl6 gr6 (0) hI hX  (by decide : (0:Int) ≤ (0:Int32).toInt) (Int.le_trans (by decide : (0:Int32).toInt ≤ (0:Int)) (by decide : (0:Int) ≤ 6)) c6_1 rfl (by have kf70 : (0 : Int32).toInt = 0 := (by decide); have ff71 : (gi6 69 45).toInt = 0 := (congrArg Int32.toInt c6_0).trans (by decide); omega) j6_1 j6_2 (by
                                                            intro D hm hb ht
                                                            have b1 := hb.2.1
                                                            have b2 := hb.2.2
                                                            have z0 : (0 : Int32).toInt = 0 := rfl
                                                            obtain ⟨g0, g1, g2⟩ := j6_3 D hm hb ht
                                                            have ci := t_clamp (i := y6_2) (by omega)
                                                            have hd : (gi6 70 1).toInt = D 1 := by rw [j6_1 1]; exact hm.1.1.2.1
                                                            skip
                                                            rw [show (D 1).toNat = y6_2.toNatClampNeg from (by omega)]
                                                            exact ⟨by omega, g2⟩) (by
                                                            intro D hm hb ht h46
                                                            have b1 := hb.2.2.1
                                                            have b2 := hb.2.2.2
                                                            have z0 : (0 : Int32).toInt = 0 := rfl
                                                            have ff72 : (gi6 69 45).toInt = 0 := (congrArg Int32.toInt c6_0).trans (by decide)
                                                            have hq46 : (gi6 69 46).toInt = -1 := by rw [(hX.1 69 46 rfl).1]; exact h46
                                                            exact ⟨by omega, by omega, hq46, fun j hj => absurd hj (Nat.not_lt_zero _)⟩) rfl
    · have r73 : y6_2.toInt < (gi6 70 1).toInt := Int32.lt_iff_toInt_lt.mp (t_nle h9)
      have u74 : y6_2.toInt ≤ 5 := t_ltu (t_nle h9) u8 rfl
      have l75 : 1 ≤ (gi6 70 1).toInt := t_ltl (t_nle h9) l6_2 rfl
      refine ev_loc f_X12_orders (nx := 23) rfl rfl rfl rfl ?_
      refine ev_loc f_X12_orders (nx := 24) rfl rfl rfl rfl ?_
      refine ev_aluvI f_X12_orders (nx := 25) (w := 0) rfl rfl rfl (t_shr0 _) rfl ?_
      refine ev_ic f_X12_orders (nx := 26) (v := 1) rfl (by decide) rfl ?_
      refine ev_aluvI f_X12_orders (nx := 27) (w := 0) rfl rfl rfl (by decide) rfl ?_
      refine ev_ic f_X12_orders (nx := 28) (v := 1) rfl (by decide) rfl ?_
      refine ev_f f_X12_orders (t1 := 31) (t2 := 34) rfl rfl rfl (by decide) ?_
      refine ev_loc f_X12_orders (nx := 35) rfl rfl rfl rfl ?_
      refine ev_gvI f_X12_orders (nx := 38) (w := (gi6 69 44)) rfl (hI.wf.s rfl) rfl rfl rfl rfl ?_
      refine ev_loc f_X12_orders (nx := 39) (lo' := [(3, .int (gi6 69 44)), (2, .int y6_2), (0, .ref 69), (1, .int 0)]) rfl rfl rfl rfl ?_
      have L76 : ∀ (m76 : Nat) (gi76 : Nat → Nat → Int32) (gl76 : Nat → Nat → Int64) (gr76 : Nat → Nat → Value) (y76_3 : Int32), t_I sh gi76 gr76 → t_X wl_n_orders0 sh gi gl gr gi76 gl76 gr76 → 0 ≤ y76_3.toInt → y76_3.toInt ≤ 6 → gi76 69 45 = 0 → gi76 69 46 = (gi 69 46) → gi76 70 1 = (gi6 70 1) → y76_3.toInt ≤ (gi76 69 44).toInt → (gi76 69 44).toInt ≤ y6_2.toInt → (∀ j, gi76 70 j = gi 70 j) → (∀ j, gi76 89 j = gi 89 j) → (∀ D : s_D, t_ME 0 gi D → t_Cb D → (∀ j : Nat, j < 6 → gi 89 j = gi 70 (53 + 5 * j)) → (gi76 69 44).toInt = y6_2.toInt ∧ y6_2.toInt < D 1 ∧ ∃ f, s_RO (s_A D) f y6_2.toNatClampNeg ∧ s_J f (gi76 90) (fun j => s_A D (s_or (s_A D) y6_2.toNatClampNeg j)) y6_2.toNatClampNeg (s_A D y6_2.toNatClampNeg) y76_3.toNatClampNeg) → (y76_3.toInt - 0).toNat = m76 → x_Ev X (d + 1) n_X12_orders 39 [(3, .int y76_3), (2, .int y6_2), (0, .ref 69), (1, .int 0)] [] (sh, gi76, gl76, gr76) (t_PN wl_n_orders0 sh gi gl gr (Q_n_orders0 gi gl gr)) := by
        intro m76
        induction m76 using Nat.strongRecOn with
        | _ m76 ih76 =>
        intro gi76 gl76 gr76 y76_3 hI hX l76_3 u76_3 c76_0 c76_1 c76_2 j76_0 j76_1 j76_2 j76_3 j76_4 hm76
        obtain ⟨l77, u77⟩ := hI.b (hI.wf.s (k := 69) rfl) (t_bdK rfl : t_bd 11 44 = some (0, 6))
        refine ev_loc f_X12_orders (nx := 40) rfl rfl rfl rfl ?_
        refine ev_if f_X12_orders (t1 := 85) (t2 := 43) rfl rfl rfl (fun h78 => ?_) (fun h78 => ?_)
        · have u79 : y76_3.toInt ≤ 0 := t_leu h78 (by decide : (0:Int32).toInt ≤ (0:Int))
          refine ev_loc f_X12_orders (nx := 86) rfl rfl rfl rfl ?_
          refine ev_getR f_X12_orders (nx := 89) rfl (hI.wf.s rfl) rfl rfl (hI.wf.r rfl) rfl rfl ?_
          refine ev_loc f_X12_orders (nx := 90) rfl rfl rfl rfl ?_
          refine ev_loc f_X12_orders (nx := 91) rfl rfl rfl rfl ?_
          refine ev_iastT f_X12_orders (nx := 92) rfl (hI.wf.s rfl) l76_3 (by decide) u79 (by decide) rfl (hI.astL (hI.wf.s rfl) (by decide +kernel : t_abw 90 0 0 0 5 = true) (t_cl1 l76_3 (by decide)) (t_cl2 l76_3 u79 (by decide) (by decide)) l6_2 u74 rfl) (hX.upI (t_inA_ok rfl)) (fun g80 e80 hI hX => ?_)
          refine ev_loc f_X12_orders (nx := 93) rfl rfl rfl rfl ?_
          refine ev_alu f_X12_orders (nx := 94) rfl rfl rfl rfl ?_
          refine ev_gvI f_X12_orders (nx := 97) (w := (gi76 69 44)) rfl (hI.wf.s rfl) rfl rfl ((by rw [e80]; exact x_up2_off (Or.inl (by decide)) : g80 69 44 = gi76 69 44).trans rfl) rfl ?_
          refine ev_ic f_X12_orders (nx := 98) (v := 1) rfl (by decide) rfl ?_
          refine ev_addC f_X12_orders (nx := 99) (c := 1) (l := 1) (u := 7) rfl (by decide) l77 u77 rfl rfl (by decide) (by decide) rfl (fun z81 e81 l81 u81 => ?_)
          have u83 : z81.toInt ≤ (6:Int) := (by omega)
          refine ev_putIT f_X12_orders (nx := 102) rfl (hI.wf.s rfl) rfl rfl rfl (hI.putB (hI.wf.s rfl) rfl rfl l81 (by decide) u83 (by decide)) (hX.upI rfl) (fun g82 e82 hI hX => ?_)
          refine ev_incR f_X12_orders (nx := 105) (c := 1) (l := 1) (u := 6) rfl rfl (by decide) (by decide) l6_2 u74 rfl rfl (by decide) (by decide) rfl (fun z84 e84 l84 u84 => ?_)
          refine ev_jmp f_X12_orders (nx := 12) rfl rfl rfl ?_
          refine ev_sub (lo := [(2, .int z84), (0, .ref 69), (1, .int 0)]) rfl (t_sc rfl (t_sc rfl (t_sc rfl t_sn))) ?_
          exact ih6 _ (by omega) g82 gl76 gr76 (z84) hI hX  (Int.le_trans (by decide : (0:Int) ≤ 1) l84) u84 ((by rw [e82]; exact x_up2_off (Or.inr (by decide)) : g82 69 45 = g80 69 45).trans ((by rw [e80]; exact x_up2_off (Or.inl (by decide)) : g80 69 45 = gi76 69 45).trans c76_0)) ((by rw [e82]; exact x_up2_off (Or.inr (by decide)) : g82 69 46 = g80 69 46).trans ((by rw [e80]; exact x_up2_off (Or.inl (by decide)) : g80 69 46 = gi76 69 46).trans c76_1)) (by have ff85 : (g82 69 44).toInt = z81.toInt := congrArg Int32.toInt (by rw [e82]; exact x_up2_at _ _ _ _ : g82 69 44 = z81); omega) (fun j => (congrFun ((by rw [e82]; exact x_up2_ne (by decide) : g82 70 = g80 70).trans ((by rw [e80]; exact x_up2_ne (by decide) : g80 70 = gi76 70))) j).trans (j76_2 j)) (fun j => (congrFun ((by rw [e82]; exact x_up2_ne (by decide) : g82 89 = g80 89).trans ((by rw [e80]; exact x_up2_ne (by decide) : g80 89 = gi76 89))) j).trans (j76_3 j)) (by
                                                            intro D hm hb ht
                                                            have b1 := hb.2.1
                                                            have b2 := hb.2.2
                                                            have z0 : (0 : Int32).toInt = 0 := rfl
                                                            obtain ⟨g1, g2, f, hR, hJ⟩ := j76_4 D hm hb ht
                                                            have ff86 : (g82 69 44).toInt = z81.toInt := congrArg Int32.toInt (by rw [e82]; exact x_up2_at _ _ _ _ : g82 69 44 = z81)
                                                            have h89 : ∀ j : Nat, (j : Int) < D 1 → (gi76 89 j).toInt = s_A D j := fun j hj => by rw [j76_3 j, ht j (by omega)]; have hh := hm.2.2.1 (53 + 5 * j) (by omega) (by omega); rw [Nat.zero_add] at hh; exact hh
                                                            have hst : ∀ j, g82 90 j = if j = y76_3.toNatClampNeg then y6_2 else gi76 90 j := fun j => by rw [e82, x_up2_off (Or.inl (by decide)), e80]; by_cases hj : j = y76_3.toNatClampNeg; (rw [if_pos hj, hj, x_up2_at]); (rw [if_neg hj, x_up2_off (Or.inr hj)])
                                                            have ci := t_clamp (i := y6_2) (by omega)
                                                            have hs : y76_3.toNatClampNeg = 0 ∨ s_A D (s_or (s_A D) y6_2.toNatClampNeg (y76_3.toNatClampNeg - 1)) ≤ s_A D y6_2.toNatClampNeg := Or.inl (s_c00 (by omega) (by omega))
                                                            rw [s_cp (by omega) e84]
                                                            exact ⟨by omega, by omega, s_RO_s hR ci.symm (fun j hj => rfl) rfl (s_J_e hJ hs hst)⟩) rfl
        · have l87 : 1 ≤ y76_3.toInt := t_ltl (t_nle h78) (by decide : (0:Int) ≤ (0:Int32).toInt) rfl
          refine ev_loc f_X12_orders (nx := 44) rfl rfl rfl rfl ?_
          refine ev_getR f_X12_orders (nx := 47) rfl (hI.wf.s rfl) rfl rfl (hI.wf.r rfl) rfl rfl ?_
          refine ev_loc f_X12_orders (nx := 48) rfl rfl rfl rfl ?_
          refine ev_getR f_X12_orders (nx := 51) rfl (hI.wf.s rfl) rfl rfl (hI.wf.r rfl) rfl rfl ?_
          refine ev_loc f_X12_orders (nx := 52) rfl rfl rfl rfl ?_
          refine ev_ic f_X12_orders (nx := 53) (v := 1) rfl (by decide) rfl ?_
          refine ev_subC f_X12_orders (nx := 54) (c := 1) (l := 0) (u := 5) rfl (by decide) l87 u76_3 rfl rfl (by decide) (by decide) rfl (fun z88 e88 l88 u88 => ?_)
          refine ev_ialdT f_X12_orders (nx := 55) rfl (hI.wf.s rfl) l88 (by decide) u88 (by decide) rfl (fun w89 e89 => ?_)
          obtain ⟨l89, u89⟩ := hI.abi e89 (by decide +kernel : t_abr 90 0 5 0 5 = true) l88 (by decide) u88 (by decide)
          refine ev_ialdT f_X12_orders (nx := 56) rfl (hI.wf.s rfl) l89 (by decide) u89 (by decide) rfl (fun w90 e90 => ?_)
          refine ev_loc f_X12_orders (nx := 57) rfl rfl rfl rfl ?_
          refine ev_getR f_X12_orders (nx := 60) rfl (hI.wf.s rfl) rfl rfl (hI.wf.r rfl) rfl rfl ?_
          refine ev_loc f_X12_orders (nx := 61) rfl rfl rfl rfl ?_
          refine ev_ialdT f_X12_orders (nx := 62) rfl (hI.wf.s rfl) l6_2 (by decide) u74 (by decide) rfl (fun w91 e91 => ?_)
          refine ev_if f_X12_orders (t1 := 85) (t2 := 65) rfl rfl rfl (fun h92 => ?_) (fun h92 => ?_)
          · have r93 : w90.toInt ≤ w91.toInt := Int32.le_iff_toInt_le.mp h92
            refine ev_loc f_X12_orders (nx := 86) rfl rfl rfl rfl ?_
            refine ev_getR f_X12_orders (nx := 89) rfl (hI.wf.s rfl) rfl rfl (hI.wf.r rfl) rfl rfl ?_
            refine ev_loc f_X12_orders (nx := 90) rfl rfl rfl rfl ?_
            refine ev_loc f_X12_orders (nx := 91) rfl rfl rfl rfl ?_
            have u95 : y76_3.toInt ≤ (5:Int) := (by omega)
            refine ev_iastT f_X12_orders (nx := 92) rfl (hI.wf.s rfl) l87 (by decide) u95 (by decide) rfl (hI.astL (hI.wf.s rfl) (by decide +kernel : t_abw 90 1 5 0 5 = true) (t_cl1 l87 (by decide)) (t_cl2 l87 u95 (by decide) (by decide)) l6_2 u74 rfl) (hX.upI (t_inA_ok rfl)) (fun g94 e94 hI hX => ?_)
            refine ev_loc f_X12_orders (nx := 93) rfl rfl rfl rfl ?_
            refine ev_alu f_X12_orders (nx := 94) rfl rfl rfl rfl ?_
            refine ev_gvI f_X12_orders (nx := 97) (w := (gi76 69 44)) rfl (hI.wf.s rfl) rfl rfl ((by rw [e94]; exact x_up2_off (Or.inl (by decide)) : g94 69 44 = gi76 69 44).trans rfl) rfl ?_
            refine ev_ic f_X12_orders (nx := 98) (v := 1) rfl (by decide) rfl ?_
            refine ev_addC f_X12_orders (nx := 99) (c := 1) (l := 1) (u := 7) rfl (by decide) l77 u77 rfl rfl (by decide) (by decide) rfl (fun z96 e96 l96 u96 => ?_)
            have u98 : z96.toInt ≤ (6:Int) := (by omega)
            refine ev_putIT f_X12_orders (nx := 102) rfl (hI.wf.s rfl) rfl rfl rfl (hI.putB (hI.wf.s rfl) rfl rfl l96 (by decide) u98 (by decide)) (hX.upI rfl) (fun g97 e97 hI hX => ?_)
            refine ev_incR f_X12_orders (nx := 105) (c := 1) (l := 1) (u := 6) rfl rfl (by decide) (by decide) l6_2 u74 rfl rfl (by decide) (by decide) rfl (fun z99 e99 l99 u99 => ?_)
            refine ev_jmp f_X12_orders (nx := 12) rfl rfl rfl ?_
            refine ev_sub (lo := [(2, .int z99), (0, .ref 69), (1, .int 0)]) rfl (t_sc rfl (t_sc rfl (t_sc rfl t_sn))) ?_
            exact ih6 _ (by omega) g97 gl76 gr76 (z99) hI hX  (Int.le_trans (by decide : (0:Int) ≤ 1) l99) u99 ((by rw [e97]; exact x_up2_off (Or.inr (by decide)) : g97 69 45 = g94 69 45).trans ((by rw [e94]; exact x_up2_off (Or.inl (by decide)) : g94 69 45 = gi76 69 45).trans c76_0)) ((by rw [e97]; exact x_up2_off (Or.inr (by decide)) : g97 69 46 = g94 69 46).trans ((by rw [e94]; exact x_up2_off (Or.inl (by decide)) : g94 69 46 = gi76 69 46).trans c76_1)) (by have ff100 : (g97 69 44).toInt = z96.toInt := congrArg Int32.toInt (by rw [e97]; exact x_up2_at _ _ _ _ : g97 69 44 = z96); omega) (fun j => (congrFun ((by rw [e97]; exact x_up2_ne (by decide) : g97 70 = g94 70).trans ((by rw [e94]; exact x_up2_ne (by decide) : g94 70 = gi76 70))) j).trans (j76_2 j)) (fun j => (congrFun ((by rw [e97]; exact x_up2_ne (by decide) : g97 89 = g94 89).trans ((by rw [e94]; exact x_up2_ne (by decide) : g94 89 = gi76 89))) j).trans (j76_3 j)) (by
                                                            intro D hm hb ht
                                                            have b1 := hb.2.1
                                                            have b2 := hb.2.2
                                                            have z0 : (0 : Int32).toInt = 0 := rfl
                                                            obtain ⟨g1, g2, f, hR, hJ⟩ := j76_4 D hm hb ht
                                                            have ff101 : (g97 69 44).toInt = z96.toInt := congrArg Int32.toInt (by rw [e97]; exact x_up2_at _ _ _ _ : g97 69 44 = z96)
                                                            have h89 : ∀ j : Nat, (j : Int) < D 1 → (gi76 89 j).toInt = s_A D j := fun j hj => by rw [j76_3 j, ht j (by omega)]; have hh := hm.2.2.1 (53 + 5 * j) (by omega) (by omega); rw [Nat.zero_add] at hh; exact hh
                                                            have hst : ∀ j, g97 90 j = if j = y76_3.toNatClampNeg then y6_2 else gi76 90 j := fun j => by rw [e97, x_up2_off (Or.inl (by decide)), e94]; by_cases hj : j = y76_3.toNatClampNeg; (rw [if_pos hj, hj, x_up2_at]); (rw [if_neg hj, x_up2_off (Or.inr hj)])
                                                            have hp : 0 < y76_3.toNatClampNeg := s_c0 (by omega)
                                                            have hv1 : w89.toInt = ((s_or (s_A D) y6_2.toNatClampNeg (y76_3.toNatClampNeg - 1) : Nat) : Int) := by rw [e89, s_cm l88 e88, s_J_at hJ hp]; exact hR _ (by have := hJ.1; omega)
                                                            have hlt := s_or_lt (s_A D) y6_2.toNatClampNeg (y76_3.toNatClampNeg - 1) (by have := hJ.1; omega)
                                                            have ci := t_clamp (i := y6_2) (by omega)
                                                            have hv2 : w90.toInt = s_A D (s_or (s_A D) y6_2.toNatClampNeg (y76_3.toNatClampNeg - 1)) := by rw [e90, s_c5 (x := w89) hv1]; exact h89 _ (by omega)
                                                            have hv3 : w91.toInt = s_A D y6_2.toNatClampNeg := by rw [e91]; exact h89 _ (by omega)
                                                            have hs : y76_3.toNatClampNeg = 0 ∨ s_A D (s_or (s_A D) y6_2.toNatClampNeg (y76_3.toNatClampNeg - 1)) ≤ s_A D y6_2.toNatClampNeg := Or.inr (by omega)
                                                            rw [s_cp (by omega) e99]
                                                            exact ⟨by omega, by omega, s_RO_s hR ci.symm (fun j hj => rfl) rfl (s_J_e hJ hs hst)⟩) rfl
          · have r102 : w91.toInt < w90.toInt := Int32.lt_iff_toInt_lt.mp (t_nle h92)
            have u103 : w91.toInt ≤ 2147483646 := t_ltu (t_nle h92) (t_hi w90) rfl
            have l104 : (-2147483647) ≤ w90.toInt := t_ltl (t_nle h92) (t_lo w91) rfl
            refine ev_loc f_X12_orders (nx := 66) rfl rfl rfl rfl ?_
            refine ev_getR f_X12_orders (nx := 69) rfl (hI.wf.s rfl) rfl rfl (hI.wf.r rfl) rfl rfl ?_
            refine ev_loc f_X12_orders (nx := 70) rfl rfl rfl rfl ?_
            refine ev_loc f_X12_orders (nx := 71) rfl rfl rfl rfl ?_
            refine ev_getR f_X12_orders (nx := 74) rfl (hI.wf.s rfl) rfl rfl (hI.wf.r rfl) rfl rfl ?_
            refine ev_loc f_X12_orders (nx := 75) rfl rfl rfl rfl ?_
            refine ev_ic f_X12_orders (nx := 76) (v := 1) rfl (by decide) rfl ?_
            refine ev_subC f_X12_orders (nx := 77) (c := 1) (l := 0) (u := 5) rfl (by decide) l87 u76_3 rfl rfl (by decide) (by decide) rfl (fun z105 e105 l105 u105 => ?_)
            refine ev_ialdT f_X12_orders (nx := 78) rfl (hI.wf.s rfl) l105 (by decide) u105 (by decide) rfl (fun w106 e106 => ?_)
            obtain ⟨l106, u106⟩ := hI.abi e106 (by decide +kernel : t_abr 90 0 5 0 5 = true) l105 (by decide) u105 (by decide)
            have u108 : y76_3.toInt ≤ (5:Int) := (by omega)
            refine ev_iastT f_X12_orders (nx := 79) rfl (hI.wf.s rfl) l87 (by decide) u108 (by decide) rfl (hI.astL (hI.wf.s rfl) (by decide +kernel : t_abw 90 1 5 0 5 = true) (t_cl1 l87 (by decide)) (t_cl2 l87 u108 (by decide) (by decide)) l106 u106 rfl) (hX.upI (t_inA_ok rfl)) (fun g107 e107 hI hX => ?_)
            refine ev_incR f_X12_orders (nx := 82) (c := (-1)) (l := 0) (u := 4) rfl rfl (by decide) (by decide) l87 u108 rfl rfl (by decide) (by decide) rfl (fun z109 e109 l109 u109 => ?_)
            refine ev_jmp f_X12_orders (nx := 39) rfl rfl rfl ?_
            refine ev_sub (lo := [(3, .int z109), (2, .int y6_2), (0, .ref 69), (1, .int 0)]) rfl (t_sc rfl (t_sc rfl (t_sc rfl (t_sc rfl t_sn)))) ?_
            exact ih76 _ (by omega) g107 gl76 gr76 (z109) hI hX  l109 (Int.le_trans u109 (by decide : (4:Int) ≤ 6)) ((by rw [e107]; exact x_up2_off (Or.inl (by decide)) : g107 69 45 = gi76 69 45).trans c76_0) ((by rw [e107]; exact x_up2_off (Or.inl (by decide)) : g107 69 46 = gi76 69 46).trans c76_1) ((by rw [e107]; exact x_up2_off (Or.inl (by decide)) : g107 70 1 = gi76 70 1).trans c76_2) (by have ff110 : (g107 69 44).toInt = (gi76 69 44).toInt := congrArg Int32.toInt ((by rw [e107]; exact x_up2_off (Or.inl (by decide)) : g107 69 44 = gi76 69 44).trans rfl); omega) (by have ff111 : (g107 69 44).toInt = (gi76 69 44).toInt := congrArg Int32.toInt ((by rw [e107]; exact x_up2_off (Or.inl (by decide)) : g107 69 44 = gi76 69 44).trans rfl); omega) (fun j => (congrFun ((by rw [e107]; exact x_up2_ne (by decide) : g107 70 = gi76 70)) j).trans (j76_2 j)) (fun j => (congrFun ((by rw [e107]; exact x_up2_ne (by decide) : g107 89 = gi76 89)) j).trans (j76_3 j)) (by
                                                            intro D hm hb ht
                                                            have b1 := hb.2.1
                                                            have b2 := hb.2.2
                                                            have z0 : (0 : Int32).toInt = 0 := rfl
                                                            obtain ⟨g1, g2, f, hR, hJ⟩ := j76_4 D hm hb ht
                                                            have ff112 : (g107 69 44).toInt = (gi76 69 44).toInt := congrArg Int32.toInt ((by rw [e107]; exact x_up2_off (Or.inl (by decide)) : g107 69 44 = gi76 69 44).trans rfl)
                                                            have h89 : ∀ j : Nat, (j : Int) < D 1 → (gi76 89 j).toInt = s_A D j := fun j hj => by rw [j76_3 j, ht j (by omega)]; have hh := hm.2.2.1 (53 + 5 * j) (by omega) (by omega); rw [Nat.zero_add] at hh; exact hh
                                                            have hp : 0 < y76_3.toNatClampNeg := s_c0 (by omega)
                                                            have hv1 : w89.toInt = ((s_or (s_A D) y6_2.toNatClampNeg (y76_3.toNatClampNeg - 1) : Nat) : Int) := by rw [e89, s_cm l88 e88, s_J_at hJ hp]; exact hR _ (by have := hJ.1; omega)
                                                            have hlt := s_or_lt (s_A D) y6_2.toNatClampNeg (y76_3.toNatClampNeg - 1) (by have := hJ.1; omega)
                                                            have ci := t_clamp (i := y6_2) (by omega)
                                                            have hv2 : w90.toInt = s_A D (s_or (s_A D) y6_2.toNatClampNeg (y76_3.toNatClampNeg - 1)) := by rw [e90, s_c5 (x := w89) hv1]; exact h89 _ (by omega)
                                                            have hv3 : w91.toInt = s_A D y6_2.toNatClampNeg := by rw [e91]; exact h89 _ (by omega)
                                                            have hst : ∀ j, g107 90 j = if j = y76_3.toNatClampNeg then w106 else gi76 90 j := fun j => by rw [e107]; by_cases hj : j = y76_3.toNatClampNeg; (rw [if_pos hj, hj, x_up2_at]); (rw [if_neg hj, x_up2_off (Or.inr hj)])
                                                            have hw : w106 = gi76 90 (y76_3.toNatClampNeg - 1) := by rw [e106, s_cm l105 e105]
                                                            rw [s_cm2 l109 e109]
                                                            exact ⟨by omega, g2, f, hR, s_J_s hJ hp (show s_A D y6_2.toNatClampNeg < s_A D (s_or (s_A D) y6_2.toNatClampNeg (y76_3.toNatClampNeg - 1)) from (by omega)) hst hw⟩) rfl
      refine ev_sub (lo := [(3, .int (gi6 69 44)), (2, .int y6_2), (0, .ref 69), (1, .int 0)]) rfl (t_sc rfl (t_sc rfl (t_sc rfl (t_sc rfl t_sn)))) ?_
      exact L76 _ gi6 gl6 gr6 ((gi6 69 44)) hI hX  l7 u7 c6_0 c6_1 rfl (by omega) (by omega) j6_1 j6_2 (by
                                                            intro D hm hb ht
                                                            have b1 := hb.2.1
                                                            have b2 := hb.2.2
                                                            have z0 : (0 : Int32).toInt = 0 := rfl
                                                            obtain ⟨g0, g1, g2⟩ := j6_3 D hm hb ht
                                                            have hd : (gi6 70 1).toInt = D 1 := by rw [j6_1 1]; exact hm.1.1.2.1
                                                            have hx : ((gi6 69 44)).toNatClampNeg = y6_2.toNatClampNeg := by have c1 := t_clamp (i := (gi6 69 44)) (by omega); have c2 := t_clamp (i := y6_2) (by omega); omega
                                                            rw [hx]
                                                            exact ⟨g0, by omega, _, g2, s_J_b (fun j _ => rfl)⟩) rfl
  refine ev_sub (lo := [(2, .int 0), (0, .ref 69), (1, .int 0)]) rfl (t_sc rfl (t_sc rfl (t_sc rfl t_sn))) ?_
  exact L6 _ g5 gl gr (0) hI hX  (by decide : (0:Int) ≤ (0:Int32).toInt) (Int.le_trans (by decide : (0:Int32).toInt ≤ (0:Int)) (by decide : (0:Int) ≤ 6)) (by rw [e5]; exact x_up2_at _ _ _ _ : g5 69 45 = 0) ((by rw [e5]; exact x_up2_off (Or.inr (by decide)) : g5 69 46 = g4 69 46).trans ((by rw [e4]; exact x_up2_off (Or.inr (by decide)) : g4 69 46 = gi 69 46).trans rfl)) (by have kf113 : (0 : Int32).toInt = 0 := (by decide); have ff114 : (g5 69 44).toInt = 0 := (congrArg Int32.toInt ((by rw [e5]; exact x_up2_off (Or.inr (by decide)) : g5 69 44 = g4 69 44).trans (by rw [e4]; exact x_up2_at _ _ _ _ : g4 69 44 = 0))).trans (by decide); omega) (fun j => (congrFun ((by rw [e5]; exact x_up2_ne (by decide) : g5 70 = g4 70).trans ((by rw [e4]; exact x_up2_ne (by decide) : g4 70 = gi 70))) j).trans ((fun _ => rfl) j)) (fun j => (congrFun ((by rw [e5]; exact x_up2_ne (by decide) : g5 89 = g4 89).trans ((by rw [e4]; exact x_up2_ne (by decide) : g4 89 = gi 89))) j).trans ((fun _ => rfl) j)) (by
                                                            intro D hm hb ht
                                                            have b1 := hb.2.1
                                                            have b2 := hb.2.2
                                                            have z0 : (0 : Int32).toInt = 0 := rfl
                                                            have ff115 : (g5 69 44).toInt = 0 := (congrArg Int32.toInt ((by rw [e5]; exact x_up2_off (Or.inr (by decide)) : g5 69 44 = g4 69 44).trans (by rw [e4]; exact x_up2_at _ _ _ _ : g4 69 44 = 0))).trans (by decide)
                                                            exact ⟨by omega, by omega, fun j hj => absurd hj (Nat.not_lt_zero _)⟩) rfl
noncomputable def wl_e_nextShip : List (Nat × Nat) := [(69, 2), (69, 44), (69, 45), (89, 10005), (89, 610011), (90, 9999), (91, 9999)]
noncomputable def Q_e_nextShip (gi : Nat → Nat → Int32) (gl : Nat → Nat → Int64) (gr : Nat → Nat → Value) (ar1 : Int32) : Int32 → (Nat → Nat → Int32) → (Nat → Nat → Int64) → (Nat → Nat → Value) → Prop := fun (v : Int32) (gi2 : Nat → Nat → Int32) (gl2 : Nat → Nat → Int64) (gr2 : Nat → Nat → Value) => ∀ D : s_D, t_ME 0 gi D → t_Cb D → ((0 ≤ ar1.toInt ∧ ar1.toInt < D 1) → v.toInt = ((s_or (s_A D) (D 1).toNat ar1.toNatClampNeg : Nat) : Int)) ∧ (¬ (0 ≤ ar1.toInt ∧ ar1.toInt < D 1) → v.toInt = -1)
theorem c_e_nextShip {X : x_Ext} {d : Nat} {sh : List (Nat ⊕ (Nat × Nat))} {gi : Nat → Nat → Int32} {gl : Nat → Nat → Int64} {gr : Nat → Nat → Value} (hI : t_I sh gi gr) (ar1 : Int32) : x_Me X (d + 2) n_X12_nextShip [.ref 69, .int ar1] (sh, gi, gl, gr) (t_PI wl_e_nextShip sh gi gl gr (-1) 5 (Q_e_nextShip gi gl gr ar1)) := by
  have hX : t_X wl_e_nextShip sh gi gl gr gi gl gr := t_X.rf
  refine me_i f_X12_nextShip (hI.wf.s rfl) rfl rfl rfl ?_
  refine ev_loc f_X12_nextShip (nx := 1) rfl rfl rfl rfl ?_
  refine ev_qN f_X12_nextShip (nx := 4) (r := []) rfl rfl rfl rfl rfl rfl rfl (c_n_tellsMinutes hI ) rfl hX rfl (fun gi1 gl1 gr1 hI hX hC1 q1 => ?_)
  have q1 : (∀ j, gi1 70 j = gi 70 j) ∧ (∀ j : Nat, j < 6 → gi1 89 j = gi 70 (53 + 5 * j)) ∧ (∀ j : Nat, j < 6 → gi1 89 (6 + j) = gi 70 (82 + 3 * j)) := q1
  refine ev_loc f_X12_nextShip (nx := 5) rfl rfl rfl rfl ?_
  refine ev_ic f_X12_nextShip (nx := 6) (v := 0) rfl (by decide) rfl ?_
  refine ev_qN f_X12_nextShip (nx := 9) (r := []) rfl rfl rfl rfl rfl rfl rfl (c_n_orders0 hI ) rfl hX rfl (fun gi2 gl2 gr2 hI hX hC2 q2 => ?_)
  have q2 : (∀ j, gi2 70 j = gi1 70 j) ∧ (∀ j, gi2 89 j = gi1 89 j) ∧ (∀ D : s_D, t_ME 0 gi1 D → t_Cb D → (∀ j : Nat, j < 6 → gi1 89 j = gi1 70 (53 + 5 * j)) → (gi2 69 44).toInt = D 1 ∧ s_RO (s_A D) (gi2 90) (D 1).toNat) ∧ (∀ D : s_D, t_ME 0 gi1 D → t_Cb D → (∀ j : Nat, j < 6 → gi1 89 (6 + j) = gi1 70 (82 + 3 * j)) → (gi1 69 46).toInt = -1 → (gi2 69 45).toInt = D 2 ∧ s_RO (s_B D) (gi2 91) (D 2).toNat) := q2
  refine ev_loc f_X12_nextShip (nx := 10) rfl rfl rfl rfl ?_
  refine ev_if f_X12_nextShip (t1 := 21) (t2 := 13) rfl rfl rfl (fun h3 => ?_) (fun h3 => ?_)
  · have u4 : ar1.toInt ≤ (-1) := t_ltu h3 (by decide : (0:Int32).toInt ≤ (0:Int)) rfl
    refine ev_loc f_X12_nextShip (nx := 22) rfl rfl rfl rfl ?_
    refine ev_bp f_X12_nextShip (nx := 24) (v := 6) rfl (by decide) rfl ?_
    refine ev_inV2 f_X12_nextShip (nx := 27) (lo2 := [(0, .ref 69), (1, .int 6)]) rfl rfl rfl rfl f_X12_refuse (hI.wf.s rfl) rfl rfl rfl rfl rfl ?_
    refine ev_loc f_X12_refuse (nx := 1) rfl rfl rfl rfl ?_
    refine ev_loc f_X12_refuse (nx := 2) rfl rfl rfl rfl ?_
    refine ev_putIT f_X12_refuse (nx := 5) rfl (hI.wf.s rfl) rfl rfl rfl (hI.put0 (hI.wf.s rfl) rfl rfl) (hX.upI rfl) (fun g5 e5 hI hX => ?_)
    refine ev_ic f_X12_refuse (nx := 6) (v := -1) rfl (by decide) rfl ?_
    refine ev_retK1 f_X12_refuse rfl rfl rfl ?_
    refine ev_jmp f_X12_nextShip (nx := 40) rfl rfl rfl ?_
    exact ev_ret f_X12_nextShip rfl rfl rfl ⟨_, _, _, rfl, hI, hX, ⟨_, rfl, (by decide : ((-1):Int) ≤ ((-1):Int32).toInt), (Int.le_trans (by decide : ((-1):Int32).toInt ≤ ((-1):Int)) (by decide : ((-1):Int) ≤ 5)), (show ∀ D : s_D, t_ME 0 gi D → t_Cb D → ((0 ≤ ar1.toInt ∧ ar1.toInt < D 1) → ((-1) : Int) = ((s_or (s_A D) (D 1).toNat ar1.toNatClampNeg : Nat) : Int)) ∧ (¬ (0 ≤ ar1.toInt ∧ ar1.toInt < D 1) → ((-1) : Int) = -1) from (by
                                                            intro D hm hb
                                                            have hmA : t_ME 0 gi1 D := hm.mv hb (fun j _ _ _ => q1.1 (0 + j))
                                                            have hq := q2.2.2.1 D hmA hb (fun j h => (q1.2.1 j h).trans (q1.1 _).symm)
                                                            exact ⟨fun h => absurd h (by omega), fun _ => rfl⟩))⟩⟩
  · have l6 : 0 ≤ ar1.toInt := t_lel (t_nlt h3) (by decide : (0:Int) ≤ (0:Int32).toInt)
    refine ev_loc f_X12_nextShip (nx := 14) rfl rfl rfl rfl ?_
    refine ev_loc f_X12_nextShip (nx := 15) rfl rfl rfl rfl ?_
    refine ev_getI f_X12_nextShip (nx := 18) rfl (hI.wf.s rfl) rfl rfl rfl ?_
    obtain ⟨l7, u7⟩ := hI.b (hI.wf.s (k := 69) rfl) (t_bdK rfl : t_bd 11 44 = some (0, 6))
    refine ev_if f_X12_nextShip (t1 := 30) (t2 := 21) rfl rfl rfl (fun h8 => ?_) (fun h8 => ?_)
    · have r9 : ar1.toInt < (gi2 69 44).toInt := Int32.lt_iff_toInt_lt.mp h8
      have u10 : ar1.toInt ≤ 5 := t_ltu h8 u7 rfl
      have l11 : 1 ≤ (gi2 69 44).toInt := t_ltl h8 l6 rfl
      refine ev_loc f_X12_nextShip (nx := 31) rfl rfl rfl rfl ?_
      refine ev_loc f_X12_nextShip (nx := 32) rfl rfl rfl rfl ?_
      refine ev_getR f_X12_nextShip (nx := 35) rfl (hI.wf.s rfl) rfl rfl (hI.wf.r rfl) rfl rfl ?_
      refine ev_loc f_X12_nextShip (nx := 36) rfl rfl rfl rfl ?_
      refine ev_ialdT f_X12_nextShip (nx := 37) rfl (hI.wf.s rfl) l6 (by decide) u10 (by decide) rfl (fun w12 e12 => ?_)
      obtain ⟨l12, u12⟩ := hI.abi e12 (by decide +kernel : t_abr 90 0 5 0 5 = true) l6 (by decide) u10 (by decide)
      refine ev_inV2 f_X12_nextShip (nx := 40) (lo2 := [(0, .ref 69), (1, .int w12)]) rfl rfl rfl rfl f_X12_gives (hI.wf.s rfl) rfl rfl rfl rfl rfl ?_
      refine ev_loc f_X12_gives (nx := 1) rfl rfl rfl rfl ?_
      refine ev_ic f_X12_gives (nx := 2) (v := 0) rfl (by decide) rfl ?_
      refine ev_putIT f_X12_gives (nx := 5) rfl (hI.wf.s rfl) rfl rfl rfl (hI.put0 (hI.wf.s rfl) rfl rfl) (hX.upI rfl) (fun g13 e13 hI hX => ?_)
      refine ev_loc f_X12_gives (nx := 6) rfl rfl rfl rfl ?_
      refine ev_retK1 f_X12_gives rfl rfl rfl ?_
      exact ev_ret f_X12_nextShip rfl rfl rfl ⟨_, _, _, rfl, hI, hX, ⟨_, rfl, (Int.le_trans (by decide : ((-1):Int) ≤ 0) l12), u12, (show ∀ D : s_D, t_ME 0 gi D → t_Cb D → ((0 ≤ ar1.toInt ∧ ar1.toInt < D 1) → w12.toInt = ((s_or (s_A D) (D 1).toNat ar1.toNatClampNeg : Nat) : Int)) ∧ (¬ (0 ≤ ar1.toInt ∧ ar1.toInt < D 1) → w12.toInt = -1) from (by
                                                            intro D hm hb
                                                            have hmA : t_ME 0 gi1 D := hm.mv hb (fun j _ _ _ => q1.1 (0 + j))
                                                            have hq := q2.2.2.1 D hmA hb (fun j h => (q1.2.1 j h).trans (q1.1 _).symm)
                                                            have ka := t_clamp (i := ar1) (by omega)
                                                            refine ⟨fun _ => ?_, fun h => absurd (show _ from ⟨by omega, by omega⟩) h⟩
                                                            rw [e12]; exact hq.2 ar1.toNatClampNeg (by omega)))⟩⟩
    · have r14 : (gi2 69 44).toInt ≤ ar1.toInt := Int32.le_iff_toInt_le.mp (t_nlt h8)
      refine ev_loc f_X12_nextShip (nx := 22) rfl rfl rfl rfl ?_
      refine ev_bp f_X12_nextShip (nx := 24) (v := 6) rfl (by decide) rfl ?_
      refine ev_inV2 f_X12_nextShip (nx := 27) (lo2 := [(0, .ref 69), (1, .int 6)]) rfl rfl rfl rfl f_X12_refuse (hI.wf.s rfl) rfl rfl rfl rfl rfl ?_
      refine ev_loc f_X12_refuse (nx := 1) rfl rfl rfl rfl ?_
      refine ev_loc f_X12_refuse (nx := 2) rfl rfl rfl rfl ?_
      refine ev_putIT f_X12_refuse (nx := 5) rfl (hI.wf.s rfl) rfl rfl rfl (hI.put0 (hI.wf.s rfl) rfl rfl) (hX.upI rfl) (fun g15 e15 hI hX => ?_)
      refine ev_ic f_X12_refuse (nx := 6) (v := -1) rfl (by decide) rfl ?_
      refine ev_retK1 f_X12_refuse rfl rfl rfl ?_
      refine ev_jmp f_X12_nextShip (nx := 40) rfl rfl rfl ?_
      exact ev_ret f_X12_nextShip rfl rfl rfl ⟨_, _, _, rfl, hI, hX, ⟨_, rfl, (by decide : ((-1):Int) ≤ ((-1):Int32).toInt), (Int.le_trans (by decide : ((-1):Int32).toInt ≤ ((-1):Int)) (by decide : ((-1):Int) ≤ 5)), (show ∀ D : s_D, t_ME 0 gi D → t_Cb D → ((0 ≤ ar1.toInt ∧ ar1.toInt < D 1) → ((-1) : Int) = ((s_or (s_A D) (D 1).toNat ar1.toNatClampNeg : Nat) : Int)) ∧ (¬ (0 ≤ ar1.toInt ∧ ar1.toInt < D 1) → ((-1) : Int) = -1) from (by
                                                            intro D hm hb
                                                            have hmA : t_ME 0 gi1 D := hm.mv hb (fun j _ _ _ => q1.1 (0 + j))
                                                            have hq := q2.2.2.1 D hmA hb (fun j h => (q1.2.1 j h).trans (q1.1 _).symm)
                                                            exact ⟨fun h => absurd h (by omega), fun _ => rfl⟩))⟩⟩
/-! ===== nextShip: the answers are alike ===== -/
section ORDL
variable {sh : List (Nat ⊕ (Nat × Nat))} {gi g1 g2 : Nat → Nat → Int32} {gl l1 l2 : Nat → Nat → Int64} {gr r1 r2 : Nat → Nat → Value} {w1 : List (Nat × Nat)} {A : Int32} {x1 x2 : Int32}
theorem t_L_nextShip (hI : t_I sh gi gr) (hD : t_DR sh.length gi gl gr) (f1 : t_F w1 gi gl gr g1 l1 r1) (h70 : t_nc w1 70 = true) (q1 : Q_d_nextShip gi gl gr A x1 g1 l1 r1) (q2 : Q_e_nextShip g1 l1 r1 A x2 g2 l2 r2) : x1 = x2 := by
  obtain ⟨u, hu, D, hb, hv, hl, hc, hm⟩ := hD.1
  have r70 : g1 70 = gi 70 := t_F_nc f1 h70 (by decide)
  have hm2 : t_ME 0 g1 D := by unfold t_ME; rw [r70]; exact hm
  have k1 := q1 u D hu hl hc hb hv.1 (t_D_sail hI hb hm)
  have k2 := q2 D hm2 hb
  apply Int32.toInt_inj.mp
  by_cases hin : 0 ≤ A.toInt ∧ A.toInt < D 1
  · rw [k1.1 hin, k2.1 hin]
  · rw [k1.2 hin, k2.2 hin]
end ORDL
