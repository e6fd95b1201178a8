/-! ===== printed by riv.py: the order of those that come: the other side ===== -/
noncomputable def wl_n_tellsMinutes : List (Nat × Nat) := [(89, 10005), (89, 610011)]
noncomputable def Q_n_tellsMinutes (gi : Nat → Nat → Int32) (gl : Nat → Nat → Int64) (gr : Nat → Nat → Value) : (Nat → Nat → Int32) → (Nat → Nat → Int64) → (Nat → Nat → Value) → Prop := fun (gi2 : Nat → Nat → Int32) (gl2 : Nat → Nat → Int64) (gr2 : Nat → Nat → Value) => (∀ j, gi2 70 j = gi 70 j) ∧ (∀ j : Nat, j < 6 → gi2 89 j = gi 70 (53 + 5 * j)) ∧ (∀ j : Nat, j < 6 → gi2 89 (6 + j) = gi 70 (82 + 3 * j))
theorem c_n_tellsMinutes {X : x_Ext} {d : Nat} {sh : List (Nat ⊕ (Nat × Nat))} {gi : Nat → Nat → Int32} {gl : Nat → Nat → Int64} {gr : Nat → Nat → Value} (hI : t_I sh gi gr) : x_Me X (d + 1) n_X12_tellsMinutes [.ref 69] (sh, gi, gl, gr) (t_PN wl_n_tellsMinutes sh gi gl gr (Q_n_tellsMinutes gi gl gr)) := by
  have hX : t_X wl_n_tellsMinutes sh gi gl gr gi gl gr := t_X.rf
  refine me_i f_X12_tellsMinutes (hI.wf.s rfl) rfl rfl rfl ?_
  refine ev_ic f_X12_tellsMinutes (nx := 1) (v := 0) rfl (by decide) rfl ?_
  refine ev_loc f_X12_tellsMinutes (nx := 2) (lo' := [(1, .int 0), (0, .ref 69)]) rfl rfl rfl rfl ?_
  have L1 : ∀ (m1 : Nat) (gi1 : Nat → Nat → Int32) (gl1 : Nat → Nat → Int64) (gr1 : Nat → Nat → Value) (y1_1 : Int32), t_I sh gi1 gr1 → t_X wl_n_tellsMinutes sh gi gl gr gi1 gl1 gr1 → 0 ≤ y1_1.toInt → y1_1.toInt ≤ 6 → (∀ j, gi1 70 j = gi 70 j) → (∀ j : Nat, (j : Int) < y1_1.toInt → gi1 89 j = gi 70 (53 + 5 * j)) → (6 - y1_1.toInt).toNat = m1 → x_Ev X (d + 1) n_X12_tellsMinutes 2 [(1, .int y1_1), (0, .ref 69)] [] (sh, gi1, gl1, gr1) (t_PN wl_n_tellsMinutes sh gi gl gr (Q_n_tellsMinutes gi gl gr)) := by
    intro m1
    induction m1 using Nat.strongRecOn with
    | _ m1 ih1 =>
    intro gi1 gl1 gr1 y1_1 hI hX l1_1 u1_1 j1_0 j1_1 hm1
    refine ev_loc f_X12_tellsMinutes (nx := 3) rfl rfl rfl rfl ?_
    refine ev_bp f_X12_tellsMinutes (nx := 5) (v := 6) rfl (by decide) rfl ?_
    refine ev_if f_X12_tellsMinutes (t1 := 33) (t2 := 8) rfl rfl rfl (fun h2 => ?_) (fun h2 => ?_)
    · have l3 : 6 ≤ y1_1.toInt := t_lel h2 (by decide : (6:Int) ≤ (6:Int32).toInt)
      refine ev_ic f_X12_tellsMinutes (nx := 34) (v := 0) rfl (by decide) rfl ?_
      refine ev_loc f_X12_tellsMinutes (nx := 35) (lo' := [(1, .int 0), (0, .ref 69)]) rfl rfl rfl rfl ?_
      have L4 : ∀ (m4 : Nat) (gi4 : Nat → Nat → Int32) (gl4 : Nat → Nat → Int64) (gr4 : Nat → Nat → Value) (y4_1 : Int32), t_I sh gi4 gr4 → t_X wl_n_tellsMinutes sh gi gl gr gi4 gl4 gr4 → 0 ≤ y4_1.toInt → y4_1.toInt ≤ 6 → (∀ j, gi4 70 j = gi 70 j) → (∀ j : Nat, (j : Int) < 6 → gi4 89 j = gi 70 (53 + 5 * j)) → (∀ j : Nat, (j : Int) < y4_1.toInt → gi4 89 (6 + j) = gi 70 (82 + 3 * j)) → (6 - y4_1.toInt).toNat = m4 → x_Ev X (d + 1) n_X12_tellsMinutes 35 [(1, .int y4_1), (0, .ref 69)] [] (sh, gi4, gl4, gr4) (t_PN wl_n_tellsMinutes sh gi gl gr (Q_n_tellsMinutes gi gl gr)) := by
        intro m4
        induction m4 using Nat.strongRecOn with
        | _ m4 ih4 =>
        intro gi4 gl4 gr4 y4_1 hI hX l4_1 u4_1 j4_0 j4_1 j4_2 hm4
        refine ev_loc f_X12_tellsMinutes (nx := 36) rfl rfl rfl rfl ?_
        refine ev_bp f_X12_tellsMinutes (nx := 38) (v := 6) rfl (by decide) rfl ?_
        refine ev_if f_X12_tellsMinutes (t1 := 67) (t2 := 41) rfl rfl rfl (fun h5 => ?_) (fun h5 => ?_)
        · have l6 : 6 ≤ y4_1.toInt := t_lel h5 (by decide : (6:Int) ≤ (6:Int32).toInt)
          exact ev_ret f_X12_tellsMinutes rfl rfl rfl ⟨_, _, _, rfl, hI, hX, ⟨rfl, (show (∀ j, gi4 70 j = gi 70 j) ∧ (∀ j : Nat, j < 6 → gi4 89 j = gi 70 (53 + 5 * j)) ∧ (∀ j : Nat, j < 6 → gi4 89 (6 + j) = gi 70 (82 + 3 * j)) from ⟨j4_0, fun j h => j4_1 j (by omega), fun j h => j4_2 j (by omega)⟩)⟩⟩
        · have u7 : y4_1.toInt ≤ 5 := t_ltu (t_nle h5) (by decide : (6:Int32).toInt ≤ (6:Int)) rfl
          refine ev_loc f_X12_tellsMinutes (nx := 42) rfl rfl rfl rfl ?_
          refine ev_getR f_X12_tellsMinutes (nx := 45) rfl (hI.wf.s rfl) rfl rfl (hI.wf.r rfl) rfl rfl ?_
          refine ev_bp f_X12_tellsMinutes (nx := 47) (v := 6) rfl (by decide) rfl ?_
          refine ev_loc f_X12_tellsMinutes (nx := 48) rfl rfl rfl rfl ?_
          refine ev_addK f_X12_tellsMinutes (nx := 49) (c := 6) (l := 6) (u := 11) rfl (by decide) l4_1 u7 rfl rfl (by decide) (by decide) rfl (fun z8 e8 l8 u8 => ?_)
          refine ev_loc f_X12_tellsMinutes (nx := 50) rfl rfl rfl rfl ?_
          refine ev_getR f_X12_tellsMinutes (nx := 53) rfl (hI.wf.s rfl) rfl rfl (hI.wf.r rfl) rfl rfl ?_
          refine ev_bp f_X12_tellsMinutes (nx := 55) (v := 82) rfl (by decide) rfl ?_
          refine ev_ic f_X12_tellsMinutes (nx := 56) (v := 3) rfl (by decide) rfl ?_
          refine ev_loc f_X12_tellsMinutes (nx := 57) rfl rfl rfl rfl ?_
          refine ev_mulL f_X12_tellsMinutes (nx := 58) (c := 3) (l := 0) (u := 15) rfl (by decide) (by decide) l4_1 u7 rfl rfl (by decide) (by decide) rfl (fun z9 e9 l9 u9 => ?_)
          refine ev_addK f_X12_tellsMinutes (nx := 59) (c := 82) (l := 82) (u := 97) rfl (by decide) l9 u9 rfl rfl (by decide) (by decide) rfl (fun z10 e10 l10 u10 => ?_)
          refine ev_ialdT f_X12_tellsMinutes (nx := 60) rfl (hI.wf.s rfl) l10 (by decide) u10 (by decide) rfl (fun w11 e11 => ?_)
          obtain ⟨l11, u11⟩ := hI.abA (x := y4_1) e11 (by decide +kernel : t_aba 70 82 3 0 5 0 120 = true) (by omega) (by omega) (by omega)
          refine ev_iastT f_X12_tellsMinutes (nx := 61) rfl (hI.wf.s rfl) l8 (by decide) u8 (by decide) rfl (hI.astG (hI.wf.s rfl) (fun lo hi e => absurd e (t_nob (by decide +kernel) _)) (fun k hk e => by have := hk.2.1; omega)) (hX.upI (t_inR (p := 6) (m := 11) rfl l8 (by decide) u8 (by decide) (by decide))) (fun g12 e12 hI hX => ?_)
          refine ev_incR f_X12_tellsMinutes (nx := 64) (c := 1) (l := 1) (u := 6) rfl rfl (by decide) (by decide) l4_1 u7 rfl rfl (by decide) (by decide) rfl (fun z13 e13 l13 u13 => ?_)
          refine ev_jmp f_X12_tellsMinutes (nx := 35) rfl rfl rfl ?_
          refine ev_sub (lo := [(1, .int z13), (0, .ref 69)]) rfl (t_sc rfl (t_sc rfl t_sn)) ?_
          exact ih4 _ (by omega) g12 gl4 gr4 (z13) hI hX  (Int.le_trans (by decide : (0:Int) ≤ 1) l13) u13 (fun j => (congrFun ((by rw [e12]; exact x_up2_ne (by decide) : g12 70 = gi4 70)) j).trans (j4_0 j)) (by
                                                            intro j h
                                                            have cs := t_clamp (i := z8) (by omega)
                                                            rw [e12, x_up2_off (Or.inr (by omega))]; exact j4_1 j h) (by
                                                            intro j h
                                                            have cy := t_clamp (i := y4_1) (by omega)
                                                            have ci := t_clamp (i := z10) (by omega)
                                                            have cs := t_clamp (i := z8) (by omega)
                                                            by_cases hj : j = y4_1.toNatClampNeg
                                                            · rw [e12, hj, show 6 + y4_1.toNatClampNeg = z8.toNatClampNeg from (by omega), x_up2_at, e11, j4_0 _, show z10.toNatClampNeg = 82 + 3 * y4_1.toNatClampNeg from (by omega)]
                                                            · rw [e12, x_up2_off (Or.inr (by omega))]; exact j4_2 j (by omega)) rfl
      refine ev_sub (lo := [(1, .int 0), (0, .ref 69)]) rfl (t_sc rfl (t_sc rfl t_sn)) ?_
      exact L4 _ gi1 gl1 gr1 (0) hI hX  (by decide : (0:Int) ≤ (0:Int32).toInt) (Int.le_trans (by decide : (0:Int32).toInt ≤ (0:Int)) (by decide : (0:Int) ≤ 6)) j1_0 (fun j h => j1_1 j (by omega)) (fun j h => absurd h (by have z0 : (0 : Int32).toInt = 0 := rfl; omega)) rfl
    · have u14 : y1_1.toInt ≤ 5 := t_ltu (t_nle h2) (by decide : (6:Int32).toInt ≤ (6:Int)) rfl
      refine ev_loc f_X12_tellsMinutes (nx := 9) rfl rfl rfl rfl ?_
      refine ev_getR f_X12_tellsMinutes (nx := 12) rfl (hI.wf.s rfl) rfl rfl (hI.wf.r rfl) rfl rfl ?_
      refine ev_loc f_X12_tellsMinutes (nx := 13) rfl rfl rfl rfl ?_
      refine ev_loc f_X12_tellsMinutes (nx := 14) rfl rfl rfl rfl ?_
      refine ev_getR f_X12_tellsMinutes (nx := 17) rfl (hI.wf.s rfl) rfl rfl (hI.wf.r rfl) rfl rfl ?_
      refine ev_bp f_X12_tellsMinutes (nx := 19) (v := 52) rfl (by decide) rfl ?_
      refine ev_ic f_X12_tellsMinutes (nx := 20) (v := 5) rfl (by decide) rfl ?_
      refine ev_loc f_X12_tellsMinutes (nx := 21) rfl rfl rfl rfl ?_
      refine ev_mulL f_X12_tellsMinutes (nx := 22) (c := 5) (l := 0) (u := 25) rfl (by decide) (by decide) l1_1 u14 rfl rfl (by decide) (by decide) rfl (fun z15 e15 l15 u15 => ?_)
      refine ev_addK f_X12_tellsMinutes (nx := 23) (c := 52) (l := 52) (u := 77) rfl (by decide) l15 u15 rfl rfl (by decide) (by decide) rfl (fun z16 e16 l16 u16 => ?_)
      refine ev_ic f_X12_tellsMinutes (nx := 24) (v := 1) rfl (by decide) rfl ?_
      refine ev_addC f_X12_tellsMinutes (nx := 25) (c := 1) (l := 53) (u := 78) rfl (by decide) l16 u16 rfl rfl (by decide) (by decide) rfl (fun z17 e17 l17 u17 => ?_)
      refine ev_ialdT f_X12_tellsMinutes (nx := 26) rfl (hI.wf.s rfl) l17 (by decide) u17 (by decide) rfl (fun w18 e18 => ?_)
      obtain ⟨l18, u18⟩ := hI.abA (x := y1_1) e18 (by decide +kernel : t_aba 70 53 5 0 5 0 120 = true) (by omega) (by omega) (by omega)
      refine ev_iastT f_X12_tellsMinutes (nx := 27) rfl (hI.wf.s rfl) l1_1 (by decide) u14 (by decide) rfl (hI.astG (hI.wf.s rfl) (fun lo hi e => absurd e (t_nob (by decide +kernel) _)) (fun k hk e => by have := hk.2.1; omega)) (hX.upI (t_inR (p := 0) (m := 5) rfl l1_1 (by decide) u14 (by decide) (by decide))) (fun g19 e19 hI hX => ?_)
      refine ev_incR f_X12_tellsMinutes (nx := 30) (c := 1) (l := 1) (u := 6) rfl rfl (by decide) (by decide) l1_1 u14 rfl rfl (by decide) (by decide) rfl (fun z20 e20 l20 u20 => ?_)
      refine ev_jmp f_X12_tellsMinutes (nx := 2) rfl rfl rfl ?_
      refine ev_sub (lo := [(1, .int z20), (0, .ref 69)]) rfl (t_sc rfl (t_sc rfl t_sn)) ?_
      exact ih1 _ (by omega) g19 gl1 gr1 (z20) hI hX  (Int.le_trans (by decide : (0:Int) ≤ 1) l20) u20 (fun j => (congrFun ((by rw [e19]; exact x_up2_ne (by decide) : g19 70 = gi1 70)) j).trans (j1_0 j)) (by
                                                            intro j h
                                                            have cy := t_clamp (i := y1_1) (by omega)
                                                            have ci := t_clamp (i := z17) (by omega)
                                                            have cs := t_clamp (i := y1_1) (by omega)
                                                            by_cases hj : j = y1_1.toNatClampNeg
                                                            · rw [e19, hj, x_up2_at, e18, j1_0 _, show z17.toNatClampNeg = 53 + 5 * y1_1.toNatClampNeg from (by omega)]
                                                            · rw [e19, x_up2_off (Or.inr (by omega))]; exact j1_1 j (by omega)) rfl
  refine ev_sub (lo := [(1, .int 0), (0, .ref 69)]) rfl (t_sc rfl (t_sc rfl t_sn)) ?_
  exact L1 _ gi gl gr (0) hI hX  (by decide : (0:Int) ≤ (0:Int32).toInt) (Int.le_trans (by decide : (0:Int32).toInt ≤ (0:Int)) (by decide : (0:Int) ≤ 6)) (fun _ => rfl) (fun j h => absurd h (by have z0 : (0 : Int32).toInt = 0 := rfl; omega)) rfl
noncomputable def wl_n_orders0 : List (Nat × Nat) := [(69, 44), (69, 45), (90, 9999), (91, 9999)]
noncomputable def Q_n_orders0 (gi : Nat → Nat → Int32) (gl : Nat → Nat → Int64) (gr : Nat → Nat → Value) : (Nat → Nat → Int32) → (Nat → Nat → Int64) → (Nat → Nat → Value) → Prop := fun (gi2 : Nat → Nat → Int32) (gl2 : Nat → Nat → Int64) (gr2 : Nat → Nat → Value) => (∀ j, gi2 70 j = gi 70 j) ∧ (∀ j, gi2 89 j = gi 89 j) ∧ (∀ D : s_D, t_ME 0 gi D → t_Cb D → (∀ j : Nat, j < 6 → gi 89 j = gi 70 (53 + 5 * j)) → (gi2 69 44).toInt = D 1 ∧ s_RO (s_A D) (gi2 90) (D 1).toNat) ∧ (∀ D : s_D, t_ME 0 gi D → t_Cb D → (∀ j : Nat, j < 6 → gi 89 (6 + j) = gi 70 (82 + 3 * j)) → (gi 69 46).toInt = -1 → (gi2 69 45).toInt = D 2 ∧ s_RO (s_B D) (gi2 91) (D 2).toNat)
theorem c_n_orders0 {X : x_Ext} {d : Nat} {sh : List (Nat ⊕ (Nat × Nat))} {gi : Nat → Nat → Int32} {gl : Nat → Nat → Int64} {gr : Nat → Nat → Value} (hI : t_I sh gi gr) : x_Me X (d + 1) n_X12_orders [.ref 69, .int 0] (sh, gi, gl, gr) (t_PN wl_n_orders0 sh gi gl gr (Q_n_orders0 gi gl gr)) := by
  have hX : t_X wl_n_orders0 sh gi gl gr gi gl gr := t_X.rf
  refine me_i f_X12_orders (hI.wf.s rfl) rfl rfl rfl ?_
  obtain ⟨l1, u1⟩ := hI.b (hI.wf.s (k := 69) rfl) (t_bdK rfl : t_bd 11 44 = some (0, 6))
  obtain ⟨l2, u2⟩ := hI.b (hI.wf.s (k := 69) rfl) (t_bdK rfl : t_bd 11 45 = some (0, 6))
  refine ev_loc f_X12_orders (nx := 1) rfl rfl rfl rfl ?_
  refine ev_ic f_X12_orders (nx := 2) (v := 0) rfl (by decide) rfl ?_
  refine ev_putIT f_X12_orders (nx := 5) rfl (hI.wf.s rfl) rfl rfl rfl (hI.putB (hI.wf.s rfl) rfl rfl (by decide : (0:Int) ≤ (0:Int32).toInt) (by decide) (by decide : (0:Int32).toInt ≤ (0:Int)) (by decide)) (hX.upI rfl) (fun g4 e4 hI hX => ?_)
  refine ev_loc f_X12_orders (nx := 6) rfl rfl rfl rfl ?_
  refine ev_ic f_X12_orders (nx := 7) (v := 0) rfl (by decide) rfl ?_
  refine ev_putIT f_X12_orders (nx := 10) rfl (hI.wf.s rfl) rfl rfl rfl (hI.putB (hI.wf.s rfl) rfl rfl (by decide : (0:Int) ≤ (0:Int32).toInt) (by decide) (by decide : (0:Int32).toInt ≤ (0:Int)) (by decide)) (hX.upI rfl) (fun g5 e5 hI hX => ?_)
  refine ev_ic f_X12_orders (nx := 11) (v := 0) rfl (by decide) rfl ?_
  refine ev_loc f_X12_orders (nx := 12) (lo' := [(2, .int 0), (0, .ref 69), (1, .int 0)]) rfl rfl rfl rfl ?_
  have L6 : ∀ (m6 : Nat) (gi6 : Nat → Nat → Int32) (gl6 : Nat → Nat → Int64) (gr6 : Nat → Nat → Value) (y6_2 : Int32), t_I sh gi6 gr6 → t_X wl_n_orders0 sh gi gl gr gi6 gl6 gr6 → 0 ≤ y6_2.toInt → y6_2.toInt ≤ 6 → gi6 69 45 = 0 → gi6 69 46 = (gi 69 46) → (gi6 69 44).toInt ≤ y6_2.toInt → (∀ j, gi6 70 j = gi 70 j) → (∀ j, gi6 89 j = gi 89 j) → (∀ D : s_D, t_ME 0 gi D → t_Cb D → (∀ j : Nat, j < 6 → gi 89 j = gi 70 (53 + 5 * j)) → (gi6 69 44).toInt = y6_2.toInt ∧ y6_2.toInt ≤ D 1 ∧ s_RO (s_A D) (gi6 90) y6_2.toNatClampNeg) → (6 - y6_2.toInt).toNat = m6 → x_Ev X (d + 1) n_X12_orders 12 [(2, .int y6_2), (0, .ref 69), (1, .int 0)] [] (sh, gi6, gl6, gr6) (t_PN wl_n_orders0 sh gi gl gr (Q_n_orders0 gi gl gr)) := by
    intro m6
    induction m6 using Nat.strongRecOn with
    | _ m6 ih6 =>
    intro gi6 gl6 gr6 y6_2 hI hX l6_2 u6_2 c6_0 c6_1 j6_0 j6_1 j6_2 j6_3 hm6
    obtain ⟨l7, u7⟩ := hI.b (hI.wf.s (k := 69) rfl) (t_bdK rfl : t_bd 11 44 = some (0, 6))
    refine ev_loc f_X12_orders (nx := 13) rfl rfl rfl rfl ?_
    refine ev_loc f_X12_orders (nx := 14) rfl rfl rfl rfl ?_
    refine ev_getR f_X12_orders (nx := 17) rfl (hI.wf.s rfl) rfl rfl (hI.wf.r rfl) rfl rfl ?_
    refine ev_ic f_X12_orders (nx := 18) (v := 1) rfl (by decide) rfl ?_
    obtain ⟨l8, u8⟩ := hI.ab (by decide +kernel : t_abr 70 1 1 0 6 = true) (Nat.le_refl _) (Nat.le_refl _)
    refine ev_ialdv f_X12_orders (nx := 19) (w := (gi6 70 1)) rfl (hI.wf.s rfl) (by decide) (rfl : (1 : Int32).toNatClampNeg = 1) (by decide) rfl rfl ?_
    refine ev_if f_X12_orders (t1 := 108) (t2 := 22) rfl rfl rfl (fun h9 => ?_) (fun h9 => ?_)
    · have r10 : (gi6 70 1).toInt ≤ y6_2.toInt := Int32.le_iff_toInt_le.mp h9
      refine ev_ic f_X12_orders (nx := 109) (v := 0) rfl (by decide) rfl ?_
      refine ev_loc f_X12_orders (nx := 110) (lo' := [(2, .int 0), (0, .ref 69), (1, .int 0)]) rfl rfl rfl rfl ?_
      have L11 : ∀ (m11 : Nat) (gi11 : Nat → Nat → Int32) (gl11 : Nat → Nat → Int64) (gr11 : Nat → Nat → Value) (y11_2 : Int32), t_I sh gi11 gr11 → t_X wl_n_orders0 sh gi gl gr gi11 gl11 gr11 → 0 ≤ y11_2.toInt → y11_2.toInt ≤ 6 → gi11 69 46 = (gi 69 46) → gi11 70 1 = (gi6 70 1) → (gi11 69 45).toInt ≤ y11_2.toInt → (∀ j, gi11 70 j = gi 70 j) → (∀ j, gi11 89 j = gi 89 j) → (∀ D : s_D, t_ME 0 gi D → t_Cb D → (∀ j : Nat, j < 6 → gi 89 j = gi 70 (53 + 5 * j)) → (gi11 69 44).toInt = D 1 ∧ s_RO (s_A D) (gi11 90) (D 1).toNat) → (∀ D : s_D, t_ME 0 gi D → t_Cb D → (∀ j : Nat, j < 6 → gi 89 (6 + j) = gi 70 (82 + 3 * j)) → (gi 69 46).toInt = -1 → (gi11 69 45).toInt = y11_2.toInt ∧ y11_2.toInt ≤ D 2 ∧ (gi11 69 46).toInt = -1 ∧ s_RO (s_B D) (gi11 91) y11_2.toNatClampNeg) → (6 - y11_2.toInt).toNat = m11 → x_Ev X (d + 1) n_X12_orders 110 [(2, .int y11_2), (0, .ref 69), (1, .int 0)] [] (sh, gi11, gl11, gr11) (t_PN wl_n_orders0 sh gi gl gr (Q_n_orders0 gi gl gr)) := by
        intro m11
        induction m11 using Nat.strongRecOn with
        | _ m11 ih11 =>
        intro gi11 gl11 gr11 y11_2 hI hX l11_2 u11_2 c11_0 c11_1 j11_0 j11_1 j11_2 j11_3 j11_4 hm11
        obtain ⟨l12, u12⟩ := hI.b (hI.wf.s (k := 69) rfl) (t_bdK rfl : t_bd 11 44 = some (0, 6))
        obtain ⟨l13, u13⟩ := hI.b (hI.wf.s (k := 69) rfl) (t_bdK rfl : t_bd 11 45 = some (0, 6))
        refine ev_loc f_X12_orders (nx := 111) rfl rfl rfl rfl ?_
        refine ev_loc f_X12_orders (nx := 112) rfl rfl rfl rfl ?_
        refine ev_getR f_X12_orders (nx := 115) rfl (hI.wf.s rfl) rfl rfl (hI.wf.r rfl) rfl rfl ?_
        refine ev_ic f_X12_orders (nx := 116) (v := 2) rfl (by decide) rfl ?_
        obtain ⟨l14, u14⟩ := hI.ab (by decide +kernel : t_abr 70 2 2 0 6 = true) (Nat.le_refl _) (Nat.le_refl _)
        refine ev_ialdv f_X12_orders (nx := 117) (w := (gi11 70 2)) rfl (hI.wf.s rfl) (by decide) (rfl : (2 : Int32).toNatClampNeg = 2) (by decide) rfl rfl ?_
        refine ev_if f_X12_orders (t1 := 211) (t2 := 120) rfl rfl rfl (fun h15 => ?_) (fun h15 => ?_)
        · have r16 : (gi11 70 2).toInt ≤ y11_2.toInt := Int32.le_iff_toInt_le.mp h15
          exact ev_ret f_X12_orders rfl rfl rfl ⟨_, _, _, rfl, hI, hX, ⟨rfl, (show (∀ j, gi11 70 j = gi 70 j) ∧ (∀ j, gi11 89 j = gi 89 j) ∧ (∀ D : s_D, t_ME 0 gi D → t_Cb D → (∀ j : Nat, j < 6 → gi 89 j = gi 70 (53 + 5 * j)) → (gi11 69 44).toInt = D 1 ∧ s_RO (s_A D) (gi11 90) (D 1).toNat) ∧ (∀ D : s_D, t_ME 0 gi D → t_Cb D → (∀ j : Nat, j < 6 → gi 89 (6 + j) = gi 70 (82 + 3 * j)) → (gi 69 46).toInt = -1 → (gi11 69 45).toInt = D 2 ∧ s_RO (s_B D) (gi11 91) (D 2).toNat) from ⟨j11_1, j11_2, fun D hm hb ht => j11_3 D hm hb ht, (by
                                                            intro D hm hb ht h46
                                                            have b1 := hb.2.2.1
                                                            have b2 := hb.2.2.2
                                                            have z0 : (0 : Int32).toInt = 0 := rfl
                                                            obtain ⟨g1, g2, g3, g4⟩ := j11_4 D hm hb ht h46
                                                            have hd : (gi11 70 2).toInt = D 2 := by rw [j11_1 2]; exact hm.1.1.2.2
                                                            have ci := t_clamp (i := y11_2) (by omega)
                                                            rw [show (D 2).toNat = y11_2.toNatClampNeg from (by omega)]
                                                            exact ⟨by omega, g4⟩)⟩)⟩⟩
        · have r17 : y11_2.toInt < (gi11 70 2).toInt := Int32.lt_iff_toInt_lt.mp (t_nle h15)
          have u18 : y11_2.toInt ≤ 5 := t_ltu (t_nle h15) u14 rfl
          have l19 : 1 ≤ (gi11 70 2).toInt := t_ltl (t_nle h15) l11_2 rfl
          refine ev_loc f_X12_orders (nx := 121) rfl rfl rfl rfl ?_
          refine ev_loc f_X12_orders (nx := 122) rfl rfl rfl rfl ?_
          refine ev_gvI f_X12_orders (nx := 125) (w := (gi 69 46)) rfl (hI.wf.s rfl) rfl rfl c11_0 rfl ?_
          refine ev_if f_X12_orders (t1 := 128) (t2 := 131) rfl rfl rfl (fun h20 => ?_) (fun h20 => ?_)
          · have r21 : y11_2.toInt = (gi 69 46).toInt := t_eqi h20
            have u22 : (gi 69 46).toInt ≤ 5 := t_equ (Eq.symm h20) u18
            have l23 : 0 ≤ (gi 69 46).toInt := t_eql (Eq.symm h20) l11_2
            refine ev_jmp f_X12_orders (nx := 205) rfl rfl rfl ?_
            refine ev_incR f_X12_orders (nx := 208) (c := 1) (l := 1) (u := 6) rfl rfl (by decide) (by decide) l11_2 u18 rfl rfl (by decide) (by decide) rfl (fun z24 e24 l24 u24 => ?_)
            refine ev_jmp f_X12_orders (nx := 110) rfl rfl rfl ?_
            refine ev_sub (lo := [(2, .int z24), (0, .ref 69), (1, .int 0)]) rfl (t_sc rfl (t_sc rfl (t_sc rfl t_sn))) ?_
            exact ih11 _ (by omega) gi11 gl11 gr11 (z24) hI hX  (Int.le_trans (by decide : (0:Int) ≤ 1) l24) u24 c11_0 c11_1 (by omega) j11_1 j11_2 (by
                                                            intro D hm hb ht
                                                            obtain ⟨g1, g2⟩ := j11_3 D hm hb ht
                                                            exact ⟨by omega, g2⟩) (by
                                                            intro D hm hb ht h46
                                                            exfalso
                                                            obtain ⟨g1, g2, g3, g4⟩ := j11_4 D hm hb ht h46
                                                            have ff25 : (gi11 69 46).toInt = (gi 69 46).toInt := congrArg Int32.toInt c11_0
                                                            omega) rfl
          · have r26 : y11_2.toInt ≠ (gi 69 46).toInt := t_nei h20
            refine ev_loc f_X12_orders (nx := 132) rfl rfl rfl rfl ?_
            refine ev_gvI f_X12_orders (nx := 135) (w := (gi11 69 45)) rfl (hI.wf.s rfl) rfl rfl rfl rfl ?_
            refine ev_loc f_X12_orders (nx := 136) (lo' := [(3, .int (gi11 69 45)), (2, .int y11_2), (0, .ref 69), (1, .int 0)]) rfl rfl rfl rfl ?_
            have L27 : ∀ (m27 : Nat) (gi27 : Nat → Nat → Int32) (gl27 : Nat → Nat → Int64) (gr27 : Nat → Nat → Value) (y27_3 : Int32), t_I sh gi27 gr27 → t_X wl_n_orders0 sh gi gl gr gi27 gl27 gr27 → 0 ≤ y27_3.toInt → y27_3.toInt ≤ 6 → gi27 69 46 = (gi 69 46) → gi27 70 1 = (gi6 70 1) → gi27 70 2 = (gi11 70 2) → y27_3.toInt ≤ (gi27 69 45).toInt → (gi27 69 45).toInt ≤ y11_2.toInt → (∀ j, gi27 70 j = gi 70 j) → (∀ j, gi27 89 j = gi 89 j) → (∀ D : s_D, t_ME 0 gi D → t_Cb D → (∀ j : Nat, j < 6 → gi 89 j = gi 70 (53 + 5 * j)) → (gi27 69 44).toInt = D 1 ∧ s_RO (s_A D) (gi27 90) (D 1).toNat) → (∀ D : s_D, t_ME 0 gi D → t_Cb D → (∀ j : Nat, j < 6 → gi 89 (6 + j) = gi 70 (82 + 3 * j)) → (gi 69 46).toInt = -1 → (gi27 69 45).toInt = y11_2.toInt ∧ y11_2.toInt < D 2 ∧ (gi27 69 46).toInt = -1 ∧ ∃ f, s_RO (s_B D) f y11_2.toNatClampNeg ∧ s_J f (gi27 91) (fun j => s_B D (s_or (s_B D) y11_2.toNatClampNeg j)) y11_2.toNatClampNeg (s_B D y11_2.toNatClampNeg) y27_3.toNatClampNeg) → (y27_3.toInt - 0).toNat = m27 → x_Ev X (d + 1) n_X12_orders 136 [(3, .int y27_3), (2, .int y11_2), (0, .ref 69), (1, .int 0)] [] (sh, gi27, gl27, gr27) (t_PN wl_n_orders0 sh gi gl gr (Q_n_orders0 gi gl gr)) := by
              intro m27
              induction m27 using Nat.strongRecOn with
              | _ m27 ih27 =>
              intro gi27 gl27 gr27 y27_3 hI hX l27_3 u27_3 c27_0 c27_1 c27_2 j27_0 j27_1 j27_2 j27_3 j27_4 j27_5 hm27
              obtain ⟨l28, u28⟩ := hI.b (hI.wf.s (k := 69) rfl) (t_bdK rfl : t_bd 11 44 = some (0, 6))
              obtain ⟨l29, u29⟩ := hI.b (hI.wf.s (k := 69) rfl) (t_bdK rfl : t_bd 11 45 = some (0, 6))
              refine ev_loc f_X12_orders (nx := 137) rfl rfl rfl rfl ?_
              refine ev_if f_X12_orders (t1 := 188) (t2 := 140) rfl rfl rfl (fun h30 => ?_) (fun h30 => ?_)
              · have u31 : y27_3.toInt ≤ 0 := t_leu h30 (by decide : (0:Int32).toInt ≤ (0:Int))
                refine ev_loc f_X12_orders (nx := 189) rfl rfl rfl rfl ?_
                refine ev_getR f_X12_orders (nx := 192) rfl (hI.wf.s rfl) rfl rfl (hI.wf.r rfl) rfl rfl ?_
                refine ev_loc f_X12_orders (nx := 193) rfl rfl rfl rfl ?_
                refine ev_loc f_X12_orders (nx := 194) rfl rfl rfl rfl ?_
                refine ev_iastT f_X12_orders (nx := 195) rfl (hI.wf.s rfl) l27_3 (by decide) u31 (by decide) rfl (hI.astL (hI.wf.s rfl) (by decide +kernel : t_abw 91 0 0 0 5 = true) (t_cl1 l27_3 (by decide)) (t_cl2 l27_3 u31 (by decide) (by decide)) l11_2 u18 rfl) (hX.upI (t_inA_ok rfl)) (fun g32 e32 hI hX => ?_)
                refine ev_loc f_X12_orders (nx := 196) rfl rfl rfl rfl ?_
                refine ev_alu f_X12_orders (nx := 197) rfl rfl rfl rfl ?_
                refine ev_gvI f_X12_orders (nx := 200) (w := (gi27 69 45)) rfl (hI.wf.s rfl) rfl rfl ((by rw [e32]; exact x_up2_off (Or.inl (by decide)) : g32 69 45 = gi27 69 45).trans rfl) rfl ?_
                refine ev_ic f_X12_orders (nx := 201) (v := 1) rfl (by decide) rfl ?_
                refine ev_addC f_X12_orders (nx := 202) (c := 1) (l := 1) (u := 7) rfl (by decide) l29 u29 rfl rfl (by decide) (by decide) rfl (fun z33 e33 l33 u33 => ?_)
                have u35 : z33.toInt ≤ (6:Int) := (by omega)
                refine ev_putIT f_X12_orders (nx := 205) rfl (hI.wf.s rfl) rfl rfl rfl (hI.putB (hI.wf.s rfl) rfl rfl l33 (by decide) u35 (by decide)) (hX.upI rfl) (fun g34 e34 hI hX => ?_)
                refine ev_incR f_X12_orders (nx := 208) (c := 1) (l := 1) (u := 6) rfl rfl (by decide) (by decide) l11_2 u18 rfl rfl (by decide) (by decide) rfl (fun z36 e36 l36 u36 => ?_)
                refine ev_jmp f_X12_orders (nx := 110) rfl rfl rfl ?_
                refine ev_sub (lo := [(2, .int z36), (0, .ref 69), (1, .int 0)]) rfl (t_sc rfl (t_sc rfl (t_sc rfl t_sn))) ?_
                exact ih11 _ (by omega) g34 gl27 gr27 (z36) hI hX  (Int.le_trans (by decide : (0:Int) ≤ 1) l36) u36 ((by rw [e34]; exact x_up2_off (Or.inr (by decide)) : g34 69 46 = g32 69 46).trans ((by rw [e32]; exact x_up2_off (Or.inl (by decide)) : g32 69 46 = gi27 69 46).trans c27_0)) ((by rw [e34]; exact x_up2_off (Or.inr (by decide)) : g34 70 1 = g32 70 1).trans ((by rw [e32]; exact x_up2_off (Or.inl (by decide)) : g32 70 1 = gi27 70 1).trans c27_1)) (by have ff37 : (g34 69 45).toInt = z33.toInt := congrArg Int32.toInt (by rw [e34]; exact x_up2_at _ _ _ _ : g34 69 45 = z33); omega) (fun j => (congrFun ((by rw [e34]; exact x_up2_ne (by decide) : g34 70 = g32 70).trans ((by rw [e32]; exact x_up2_ne (by decide) : g32 70 = gi27 70))) j).trans (j27_2 j)) (fun j => (congrFun ((by rw [e34]; exact x_up2_ne (by decide) : g34 89 = g32 89).trans ((by rw [e32]; exact x_up2_ne (by decide) : g32 89 = gi27 89))) j).trans (j27_3 j)) (by
                                                            intro D hm hb ht
                                                            obtain ⟨g1, g2⟩ := j27_4 D hm hb ht
                                                            have ff38 : (g34 69 44).toInt = (gi27 69 44).toInt := congrArg Int32.toInt ((by rw [e34]; exact x_up2_off (Or.inr (by decide)) : g34 69 44 = g32 69 44).trans ((by rw [e32]; exact x_up2_off (Or.inl (by decide)) : g32 69 44 = gi27 69 44).trans rfl))
                                                            rw [show g34 90 = gi27 90 from (funext fun j => by rw [e34, x_up2_off (Or.inl (by decide)), e32, x_up2_off (Or.inl (by decide))])]
                                                            exact ⟨by omega, g2⟩) (by
                                                            intro D hm hb ht h46
                                                            have b1 := hb.2.2.1
                                                            have b2 := hb.2.2.2
                                                            have z0 : (0 : Int32).toInt = 0 := rfl
                                                            obtain ⟨g1, g2, g3, f, hR, hJ⟩ := j27_5 D hm hb ht h46
                                                            have ff39 : (g34 69 45).toInt = z33.toInt := congrArg Int32.toInt (by rw [e34]; exact x_up2_at _ _ _ _ : g34 69 45 = z33)
                                                            have h89 : ∀ j : Nat, (j : Int) < D 2 → (gi27 89 (6 + j)).toInt = s_B D j := fun j hj => by rw [j27_3 (6 + j), ht j (by omega)]; have hh := hm.2.2.2 (82 + 3 * j) (by omega) (by omega); rw [Nat.zero_add] at hh; exact hh
                                                            have hst : ∀ j, g34 91 j = if j = y27_3.toNatClampNeg then y11_2 else gi27 91 j := fun j => by rw [e34, x_up2_off (Or.inl (by decide)), e32]; by_cases hj : j = y27_3.toNatClampNeg; (rw [if_pos hj, hj, x_up2_at]); (rw [if_neg hj, x_up2_off (Or.inr hj)])
                                                            have ci := t_clamp (i := y11_2) (by omega)
                                                            have hs : y27_3.toNatClampNeg = 0 ∨ s_B D (s_or (s_B D) y11_2.toNatClampNeg (y27_3.toNatClampNeg - 1)) ≤ s_B D y11_2.toNatClampNeg := Or.inl (s_c00 (by omega) (by omega))
                                                            rw [s_cp (by omega) e36]
                                                            exact ⟨by omega, by omega, (by rw [e34, x_up2_off (Or.inr (by decide)), e32, x_up2_off (Or.inl (by decide))]; exact g3), s_RO_s hR ci.symm (fun j hj => rfl) rfl (s_J_e hJ hs hst)⟩) rfl
              · have l40 : 1 ≤ y27_3.toInt := t_ltl (t_nle h30) (by decide : (0:Int) ≤ (0:Int32).toInt) rfl
                refine ev_loc f_X12_orders (nx := 141) rfl rfl rfl rfl ?_
                refine ev_getR f_X12_orders (nx := 144) rfl (hI.wf.s rfl) rfl rfl (hI.wf.r rfl) rfl rfl ?_
                refine ev_bp f_X12_orders (nx := 146) (v := 6) rfl (by decide) rfl ?_
                refine ev_loc f_X12_orders (nx := 147) rfl rfl rfl rfl ?_
                refine ev_getR f_X12_orders (nx := 150) rfl (hI.wf.s rfl) rfl rfl (hI.wf.r rfl) rfl rfl ?_
                refine ev_loc f_X12_orders (nx := 151) rfl rfl rfl rfl ?_
                refine ev_ic f_X12_orders (nx := 152) (v := 1) rfl (by decide) rfl ?_
                refine ev_subC f_X12_orders (nx := 153) (c := 1) (l := 0) (u := 5) rfl (by decide) l40 u27_3 rfl rfl (by decide) (by decide) rfl (fun z41 e41 l41 u41 => ?_)
                refine ev_ialdT f_X12_orders (nx := 154) rfl (hI.wf.s rfl) l41 (by decide) u41 (by decide) rfl (fun w42 e42 => ?_)
                obtain ⟨l42, u42⟩ := hI.abi e42 (by decide +kernel : t_abr 91 0 5 0 5 = true) l41 (by decide) u41 (by decide)
                refine ev_addK f_X12_orders (nx := 155) (c := 6) (l := 6) (u := 11) rfl (by decide) l42 u42 rfl rfl (by decide) (by decide) rfl (fun z43 e43 l43 u43 => ?_)
                refine ev_ialdT f_X12_orders (nx := 156) rfl (hI.wf.s rfl) l43 (by decide) u43 (by decide) rfl (fun w44 e44 => ?_)
                refine ev_loc f_X12_orders (nx := 157) rfl rfl rfl rfl ?_
                refine ev_getR f_X12_orders (nx := 160) rfl (hI.wf.s rfl) rfl rfl (hI.wf.r rfl) rfl rfl ?_
                refine ev_bp f_X12_orders (nx := 162) (v := 6) rfl (by decide) rfl ?_
                refine ev_loc f_X12_orders (nx := 163) rfl rfl rfl rfl ?_
                refine ev_addK f_X12_orders (nx := 164) (c := 6) (l := 6) (u := 11) rfl (by decide) l11_2 u18 rfl rfl (by decide) (by decide) rfl (fun z45 e45 l45 u45 => ?_)
                refine ev_ialdT f_X12_orders (nx := 165) rfl (hI.wf.s rfl) l45 (by decide) u45 (by decide) rfl (fun w46 e46 => ?_)
                refine ev_if f_X12_orders (t1 := 188) (t2 := 168) rfl rfl rfl (fun h47 => ?_) (fun h47 => ?_)
                · have r48 : w44.toInt ≤ w46.toInt := Int32.le_iff_toInt_le.mp h47
                  refine ev_loc f_X12_orders (nx := 189) rfl rfl rfl rfl ?_
                  refine ev_getR f_X12_orders (nx := 192) rfl (hI.wf.s rfl) rfl rfl (hI.wf.r rfl) rfl rfl ?_
                  refine ev_loc f_X12_orders (nx := 193) rfl rfl rfl rfl ?_
                  refine ev_loc f_X12_orders (nx := 194) rfl rfl rfl rfl ?_
                  have u50 : y27_3.toInt ≤ (5:Int) := (by omega)
                  refine ev_iastT f_X12_orders (nx := 195) rfl (hI.wf.s rfl) l40 (by decide) u50 (by decide) rfl (hI.astL (hI.wf.s rfl) (by decide +kernel : t_abw 91 1 5 0 5 = true) (t_cl1 l40 (by decide)) (t_cl2 l40 u50 (by decide) (by decide)) l11_2 u18 rfl) (hX.upI (t_inA_ok rfl)) (fun g49 e49 hI hX => ?_)
                  refine ev_loc f_X12_orders (nx := 196) rfl rfl rfl rfl ?_
                  refine ev_alu f_X12_orders (nx := 197) rfl rfl rfl rfl ?_
                  refine ev_gvI f_X12_orders (nx := 200) (w := (gi27 69 45)) rfl (hI.wf.s rfl) rfl rfl ((by rw [e49]; exact x_up2_off (Or.inl (by decide)) : g49 69 45 = gi27 69 45).trans rfl) rfl ?_
                  refine ev_ic f_X12_orders (nx := 201) (v := 1) rfl (by decide) rfl ?_
                  refine ev_addC f_X12_orders (nx := 202) (c := 1) (l := 1) (u := 7) rfl (by decide) l29 u29 rfl rfl (by decide) (by decide) rfl (fun z51 e51 l51 u51 => ?_)
                  have u53 : z51.toInt ≤ (6:Int) := (by omega)
                  refine ev_putIT f_X12_orders (nx := 205) rfl (hI.wf.s rfl) rfl rfl rfl (hI.putB (hI.wf.s rfl) rfl rfl l51 (by decide) u53 (by decide)) (hX.upI rfl) (fun g52 e52 hI hX => ?_)
                  refine ev_incR f_X12_orders (nx := 208) (c := 1) (l := 1) (u := 6) rfl rfl (by decide) (by decide) l11_2 u18 rfl rfl (by decide) (by decide) rfl (fun z54 e54 l54 u54 => ?_)
                  refine ev_jmp f_X12_orders (nx := 110) rfl rfl rfl ?_
                  refine ev_sub (lo := [(2, .int z54), (0, .ref 69), (1, .int 0)]) rfl (t_sc rfl (t_sc rfl (t_sc rfl t_sn))) ?_
                  exact ih11 _ (by omega) g52 gl27 gr27 (z54) hI hX  (Int.le_trans (by decide : (0:Int) ≤ 1) l54) u54 ((by rw [e52]; exact x_up2_off (Or.inr (by decide)) : g52 69 46 = g49 69 46).trans ((by rw [e49]; exact x_up2_off (Or.inl (by decide)) : g49 69 46 = gi27 69 46).trans c27_0)) ((by rw [e52]; exact x_up2_off (Or.inr (by decide)) : g52 70 1 = g49 70 1).trans ((by rw [e49]; exact x_up2_off (Or.inl (by decide)) : g49 70 1 = gi27 70 1).trans c27_1)) (by have ff55 : (g52 69 45).toInt = z51.toInt := congrArg Int32.toInt (by rw [e52]; exact x_up2_at _ _ _ _ : g52 69 45 = z51); omega) (fun j => (congrFun ((by rw [e52]; exact x_up2_ne (by decide) : g52 70 = g49 70).trans ((by rw [e49]; exact x_up2_ne (by decide) : g49 70 = gi27 70))) j).trans (j27_2 j)) (fun j => (congrFun ((by rw [e52]; exact x_up2_ne (by decide) : g52 89 = g49 89).trans ((by rw [e49]; exact x_up2_ne (by decide) : g49 89 = gi27 89))) j).trans (j27_3 j)) (by
                                                            intro D hm hb ht
                                                            obtain ⟨g1, g2⟩ := j27_4 D hm hb ht
                                                            have ff56 : (g52 69 44).toInt = (gi27 69 44).toInt := congrArg Int32.toInt ((by rw [e52]; exact x_up2_off (Or.inr (by decide)) : g52 69 44 = g49 69 44).trans ((by rw [e49]; exact x_up2_off (Or.inl (by decide)) : g49 69 44 = gi27 69 44).trans rfl))
                                                            rw [show g52 90 = gi27 90 from (funext fun j => by rw [e52, x_up2_off (Or.inl (by decide)), e49, x_up2_off (Or.inl (by decide))])]
                                                            exact ⟨by omega, g2⟩) (by
                                                            intro D hm hb ht h46
                                                            have b1 := hb.2.2.1
                                                            have b2 := hb.2.2.2
                                                            have z0 : (0 : Int32).toInt = 0 := rfl
                                                            obtain ⟨g1, g2, g3, f, hR, hJ⟩ := j27_5 D hm hb ht h46
                                                            have ff57 : (g52 69 45).toInt = z51.toInt := congrArg Int32.toInt (by rw [e52]; exact x_up2_at _ _ _ _ : g52 69 45 = z51)
                                                            have h89 : ∀ j : Nat, (j : Int) < D 2 → (gi27 89 (6 + j)).toInt = s_B D j := fun j hj => by rw [j27_3 (6 + j), ht j (by omega)]; have hh := hm.2.2.2 (82 + 3 * j) (by omega) (by omega); rw [Nat.zero_add] at hh; exact hh
                                                            have hst : ∀ j, g52 91 j = if j = y27_3.toNatClampNeg then y11_2 else gi27 91 j := fun j => by rw [e52, x_up2_off (Or.inl (by decide)), e49]; by_cases hj : j = y27_3.toNatClampNeg; (rw [if_pos hj, hj, x_up2_at]); (rw [if_neg hj, x_up2_off (Or.inr hj)])
                                                            have hp : 0 < y27_3.toNatClampNeg := s_c0 (by omega)
                                                            have hv1 : w42.toInt = ((s_or (s_B D) y11_2.toNatClampNeg (y27_3.toNatClampNeg - 1) : Nat) : Int) := by rw [e42, s_cm l41 e41, s_J_at hJ hp]; exact hR _ (by have := hJ.1; omega)
                                                            have hlt := s_or_lt (s_B D) y11_2.toNatClampNeg (y27_3.toNatClampNeg - 1) (by have := hJ.1; omega)
                                                            have ci := t_clamp (i := y11_2) (by omega)
                                                            have hv2 : w44.toInt = s_B D (s_or (s_B D) y11_2.toNatClampNeg (y27_3.toNatClampNeg - 1)) := by rw [e44, s_c5 (x := z43) (k := 6 + s_or (s_B D) y11_2.toNatClampNeg (y27_3.toNatClampNeg - 1)) (show z43.toInt = _ from (by omega))]; exact h89 _ (by omega)
                                                            have hv3 : w46.toInt = s_B D y11_2.toNatClampNeg := by rw [e46, s_c5 (x := z45) (k := 6 + y11_2.toNatClampNeg) (show z45.toInt = _ from (by omega))]; exact h89 _ (by omega)
                                                            have hs : y27_3.toNatClampNeg = 0 ∨ s_B D (s_or (s_B D) y11_2.toNatClampNeg (y27_3.toNatClampNeg - 1)) ≤ s_B D y11_2.toNatClampNeg := Or.inr (by omega)
                                                            rw [s_cp (by omega) e54]
                                                            exact ⟨by omega, by omega, (by rw [e52, x_up2_off (Or.inr (by decide)), e49, x_up2_off (Or.inl (by decide))]; exact g3), s_RO_s hR ci.symm (fun j hj => rfl) rfl (s_J_e hJ hs hst)⟩) rfl
                · have r58 : w46.toInt < w44.toInt := Int32.lt_iff_toInt_lt.mp (t_nle h47)
                  have u59 : w46.toInt ≤ 2147483646 := t_ltu (t_nle h47) (t_hi w44) rfl
                  have l60 : (-2147483647) ≤ w44.toInt := t_ltl (t_nle h47) (t_lo w46) rfl
                  refine ev_loc f_X12_orders (nx := 169) rfl rfl rfl rfl ?_
                  refine ev_getR f_X12_orders (nx := 172) rfl (hI.wf.s rfl) rfl rfl (hI.wf.r rfl) rfl rfl ?_
                  refine ev_loc f_X12_orders (nx := 173) rfl rfl rfl rfl ?_
                  refine ev_loc f_X12_orders (nx := 174) rfl rfl rfl rfl ?_
                  refine ev_getR f_X12_orders (nx := 177) rfl (hI.wf.s rfl) rfl rfl (hI.wf.r rfl) rfl rfl ?_
                  refine ev_loc f_X12_orders (nx := 178) rfl rfl rfl rfl ?_
                  refine ev_ic f_X12_orders (nx := 179) (v := 1) rfl (by decide) rfl ?_
                  refine ev_subC f_X12_orders (nx := 180) (c := 1) (l := 0) (u := 5) rfl (by decide) l40 u27_3 rfl rfl (by decide) (by decide) rfl (fun z61 e61 l61 u61 => ?_)
                  refine ev_ialdT f_X12_orders (nx := 181) rfl (hI.wf.s rfl) l61 (by decide) u61 (by decide) rfl (fun w62 e62 => ?_)
                  obtain ⟨l62, u62⟩ := hI.abi e62 (by decide +kernel : t_abr 91 0 5 0 5 = true) l61 (by decide) u61 (by decide)
                  have u64 : y27_3.toInt ≤ (5:Int) := (by omega)
                  refine ev_iastT f_X12_orders (nx := 182) rfl (hI.wf.s rfl) l40 (by decide) u64 (by decide) rfl (hI.astL (hI.wf.s rfl) (by decide +kernel : t_abw 91 1 5 0 5 = true) (t_cl1 l40 (by decide)) (t_cl2 l40 u64 (by decide) (by decide)) l62 u62 rfl) (hX.upI (t_inA_ok rfl)) (fun g63 e63 hI hX => ?_)
                  refine ev_incR f_X12_orders (nx := 185) (c := (-1)) (l := 0) (u := 4) rfl rfl (by decide) (by decide) l40 u64 rfl rfl (by decide) (by decide) rfl (fun z65 e65 l65 u65 => ?_)
                  refine ev_jmp f_X12_orders (nx := 136) rfl rfl rfl ?_
                  refine ev_sub (lo := [(3, .int z65), (2, .int y11_2), (0, .ref 69), (1, .int 0)]) rfl (t_sc rfl (t_sc rfl (t_sc rfl (t_sc rfl t_sn)))) ?_
                  exact ih27 _ (by omega) g63 gl27 gr27 (z65) hI hX  l65 (Int.le_trans u65 (by decide : (4:Int) ≤ 6)) ((by rw [e63]; exact x_up2_off (Or.inl (by decide)) : g63 69 46 = gi27 69 46).trans c27_0) ((by rw [e63]; exact x_up2_off (Or.inl (by decide)) : g63 70 1 = gi27 70 1).trans c27_1) ((by rw [e63]; exact x_up2_off (Or.inl (by decide)) : g63 70 2 = gi27 70 2).trans c27_2) (by have ff66 : (g63 69 45).toInt = (gi27 69 45).toInt := congrArg Int32.toInt ((by rw [e63]; exact x_up2_off (Or.inl (by decide)) : g63 69 45 = gi27 69 45).trans rfl); omega) (by have ff67 : (g63 69 45).toInt = (gi27 69 45).toInt := congrArg Int32.toInt ((by rw [e63]; exact x_up2_off (Or.inl (by decide)) : g63 69 45 = gi27 69 45).trans rfl); omega) (fun j => (congrFun ((by rw [e63]; exact x_up2_ne (by decide) : g63 70 = gi27 70)) j).trans (j27_2 j)) (fun j => (congrFun ((by rw [e63]; exact x_up2_ne (by decide) : g63 89 = gi27 89)) j).trans (j27_3 j)) (by
                                                            intro D hm hb ht
                                                            obtain ⟨g1, g2⟩ := j27_4 D hm hb ht
                                                            have ff68 : (g63 69 44).toInt = (gi27 69 44).toInt := congrArg Int32.toInt ((by rw [e63]; exact x_up2_off (Or.inl (by decide)) : g63 69 44 = gi27 69 44).trans rfl)
                                                            rw [show g63 90 = gi27 90 from (funext fun j => by rw [e63, x_up2_off (Or.inl (by decide))])]
                                                            exact ⟨by omega, g2⟩) (by
                                                            intro D hm hb ht h46
                                                            have b1 := hb.2.2.1
                                                            have b2 := hb.2.2.2
                                                            have z0 : (0 : Int32).toInt = 0 := rfl
                                                            obtain ⟨g1, g2, g3, f, hR, hJ⟩ := j27_5 D hm hb ht h46
                                                            have ff69 : (g63 69 45).toInt = (gi27 69 45).toInt := congrArg Int32.toInt ((by rw [e63]; exact x_up2_off (Or.inl (by decide)) : g63 69 45 = gi27 69 45).trans rfl)
                                                            have h89 : ∀ j : Nat, (j : Int) < D 2 → (gi27 89 (6 + j)).toInt = s_B D j := fun j hj => by rw [j27_3 (6 + j), ht j (by omega)]; have hh := hm.2.2.2 (82 + 3 * j) (by omega) (by omega); rw [Nat.zero_add] at hh; exact hh
                                                            have hp : 0 < y27_3.toNatClampNeg := s_c0 (by omega)
                                                            have hv1 : w42.toInt = ((s_or (s_B D) y11_2.toNatClampNeg (y27_3.toNatClampNeg - 1) : Nat) : Int) := by rw [e42, s_cm l41 e41, s_J_at hJ hp]; exact hR _ (by have := hJ.1; omega)
                                                            have hlt := s_or_lt (s_B D) y11_2.toNatClampNeg (y27_3.toNatClampNeg - 1) (by have := hJ.1; omega)
                                                            have ci := t_clamp (i := y11_2) (by omega)
                                                            have hv2 : w44.toInt = s_B D (s_or (s_B D) y11_2.toNatClampNeg (y27_3.toNatClampNeg - 1)) := by rw [e44, s_c5 (x := z43) (k := 6 + s_or (s_B D) y11_2.toNatClampNeg (y27_3.toNatClampNeg - 1)) (show z43.toInt = _ from (by omega))]; exact h89 _ (by omega)
                                                            have hv3 : w46.toInt = s_B D y11_2.toNatClampNeg := by rw [e46, s_c5 (x := z45) (k := 6 + y11_2.toNatClampNeg) (show z45.toInt = _ from (by omega))]; exact h89 _ (by omega)
                                                            have hst : ∀ j, g63 91 j = if j = y27_3.toNatClampNeg then w62 else gi27 91 j := fun j => by rw [e63]; by_cases hj : j = y27_3.toNatClampNeg; (rw [if_pos hj, hj, x_up2_at]); (rw [if_neg hj, x_up2_off (Or.inr hj)])
                                                            have hw : w62 = gi27 91 (y27_3.toNatClampNeg - 1) := by rw [e62, s_cm l61 e61]
                                                            rw [s_cm2 l65 e65]
                                                            exact ⟨by omega, g2, (by rw [e63, x_up2_off (Or.inl (by decide))]; exact g3), f, hR, s_J_s hJ hp (show s_B D y11_2.toNatClampNeg < s_B D (s_or (s_B D) y11_2.toNatClampNeg (y27_3.toNatClampNeg - 1)) from (by omega)) hst hw⟩) rfl
            refine ev_sub (lo := [(3, .int (gi11 69 45)), (2, .int y11_2), (0, .ref 69), (1, .int 0)]) rfl (t_sc rfl (t_sc rfl (t_sc rfl (t_sc rfl t_sn)))) ?_
            exact L27 _ gi11 gl11 gr11 ((gi11 69 45)) hI hX  l13 u13 c11_0 c11_1 rfl (by omega) (by omega) j11_1 j11_2 (by
                                                            intro D hm hb ht
                                                            obtain ⟨g1, g2⟩ := j11_3 D hm hb ht
                                                            exact ⟨by omega, g2⟩) (by
                                                            intro D hm hb ht h46
                                                            have b1 := hb.2.2.1
                                                            have b2 := hb.2.2.2
                                                            have z0 : (0 : Int32).toInt = 0 := rfl
                                                            obtain ⟨g0, g1, g3, g2⟩ := j11_4 D hm hb ht h46
                                                            have hd : (gi11 70 2).toInt = D 2 := by rw [j11_1 2]; exact hm.1.1.2.2
                                                            have hx : ((gi11 69 45)).toNatClampNeg = y11_2.toNatClampNeg := by have c1 := t_clamp (i := (gi11 69 45)) (by omega); have c2 := t_clamp (i := y11_2) (by omega); omega
                                                            rw [hx]
                                                            exact ⟨g0, by omega, g3, _, g2, s_J_b (fun j _ => rfl)⟩) rfl
      refine ev_sub (lo := [(2, .int 0), (0, .ref 69), (1, .int 0)]) rfl (t_sc rfl (t_sc rfl (t_sc rfl t_sn))) ?_
      exact L11 _ gi6 gl6 gr6 (0) hI hX  (by decide : (0:Int) ≤ (0:Int32).toInt) (Int.le_trans (by decide : (0:Int32).toInt ≤ (0:Int)) (by decide : (0:Int) ≤ 6)) c6_1 rfl (by have kf70 : (0 : Int32).toInt = 0 := (by decide); have ff71 : (gi6 69 45).toInt = 0 := (congrArg Int32.toInt c6_0).trans (by decide); omega) j6_1 j6_2 (by
                                                            intro D hm hb ht
                                                            have b1 := hb.2.1
                                                            have b2 := hb.2.2
                                                            have z0 : (0 : Int32).toInt = 0 := rfl
                                                            obtain ⟨g0, g1, g2⟩ := j6_3 D hm hb ht
                                                            have ci := t_clamp (i := y6_2) (by omega)
                                                            have hd : (gi6 70 1).toInt = D 1 := by rw [j6_1 1]; exact hm.1.1.2.1
                                                            skip
                                                            rw [show (D 1).toNat = y6_2.toNatClampNeg from (by omega)]
                                                            exact ⟨by omega, g2⟩) (by
                                                            intro D hm hb ht h46
                                                            have b1 := hb.2.2.1
                                                            have b2 := hb.2.2.2
                                                            have z0 : (0 : Int32).toInt = 0 := rfl
                                                            have ff72 : (gi6 69 45).toInt = 0 := (congrArg Int32.toInt c6_0).trans (by decide)
                                                            have hq46 : (gi6 69 46).toInt = -1 := by rw [(hX.1 69 46 rfl).1]; exact h46
                                                            exact ⟨by omega, by omega, hq46, fun j hj => absurd hj (Nat.not_lt_zero _)⟩) rfl
    · have r73 : y6_2.toInt < (gi6 70 1).toInt := Int32.lt_iff_toInt_lt.mp (t_nle h9)
      have u74 : y6_2.toInt ≤ 5 := t_ltu (t_nle h9) u8 rfl
      have l75 : 1 ≤ (gi6 70 1).toInt := t_ltl (t_nle h9) l6_2 rfl
      refine ev_loc f_X12_orders (nx := 23) rfl rfl rfl rfl ?_
      refine ev_loc f_X12_orders (nx := 24) rfl rfl rfl rfl ?_
      refine ev_aluvI f_X12_orders (nx := 25) (w := 0) rfl rfl rfl (t_shr0 _) rfl ?_
      refine ev_ic f_X12_orders (nx := 26) (v := 1) rfl (by decide) rfl ?_
      refine ev_aluvI f_X12_orders (nx := 27) (w := 0) rfl rfl rfl (by decide) rfl ?_
      refine ev_ic f_X12_orders (nx := 28) (v := 1) rfl (by decide) rfl ?_
      refine ev_f f_X12_orders (t1 := 31) (t2 := 34) rfl rfl rfl (by decide) ?_
      refine ev_loc f_X12_orders (nx := 35) rfl rfl rfl rfl ?_
      refine ev_gvI f_X12_orders (nx := 38) (w := (gi6 69 44)) rfl (hI.wf.s rfl) rfl rfl rfl rfl ?_
      refine ev_loc f_X12_orders (nx := 39) (lo' := [(3, .int (gi6 69 44)), (2, .int y6_2), (0, .ref 69), (1, .int 0)]) rfl rfl rfl rfl ?_
      have L76 : ∀ (m76 : Nat) (gi76 : Nat → Nat → Int32) (gl76 : Nat → Nat → Int64) (gr76 : Nat → Nat → Value) (y76_3 : Int32), t_I sh gi76 gr76 → t_X wl_n_orders0 sh gi gl gr gi76 gl76 gr76 → 0 ≤ y76_3.toInt → y76_3.toInt ≤ 6 → gi76 69 45 = 0 → gi76 69 46 = (gi 69 46) → gi76 70 1 = (gi6 70 1) → y76_3.toInt ≤ (gi76 69 44).toInt → (gi76 69 44).toInt ≤ y6_2.toInt → (∀ j, gi76 70 j = gi 70 j) → (∀ j, gi76 89 j = gi 89 j) → (∀ D : s_D, t_ME 0 gi D → t_Cb D → (∀ j : Nat, j < 6 → gi 89 j = gi 70 (53 + 5 * j)) → (gi76 69 44).toInt = y6_2.toInt ∧ y6_2.toInt < D 1 ∧ ∃ f, s_RO (s_A D) f y6_2.toNatClampNeg ∧ s_J f (gi76 90) (fun j => s_A D (s_or (s_A D) y6_2.toNatClampNeg j)) y6_2.toNatClampNeg (s_A D y6_2.toNatClampNeg) y76_3.toNatClampNeg) → (y76_3.toInt - 0).toNat = m76 → x_Ev X (d + 1) n_X12_orders 39 [(3, .int y76_3), (2, .int y6_2), (0, .ref 69), (1, .int 0)] [] (sh, gi76, gl76, gr76) (t_PN wl_n_orders0 sh gi gl gr (Q_n_orders0 gi gl gr)) := by
        intro m76
        induction m76 using Nat.strongRecOn with
        | _ m76 ih76 =>
        intro gi76 gl76 gr76 y76_3 hI hX l76_3 u76_3 c76_0 c76_1 c76_2 j76_0 j76_1 j76_2 j76_3 j76_4 hm76
        obtain ⟨l77, u77⟩ := hI.b (hI.wf.s (k := 69) rfl) (t_bdK rfl : t_bd 11 44 = some (0, 6))
        refine ev_loc f_X12_orders (nx := 40) rfl rfl rfl rfl ?_
        refine ev_if f_X12_orders (t1 := 85) (t2 := 43) rfl rfl rfl (fun h78 => ?_) (fun h78 => ?_)
        · have u79 : y76_3.toInt ≤ 0 := t_leu h78 (by decide : (0:Int32).toInt ≤ (0:Int))
          refine ev_loc f_X12_orders (nx := 86) rfl rfl rfl rfl ?_
          refine ev_getR f_X12_orders (nx := 89) rfl (hI.wf.s rfl) rfl rfl (hI.wf.r rfl) rfl rfl ?_
          refine ev_loc f_X12_orders (nx := 90) rfl rfl rfl rfl ?_
          refine ev_loc f_X12_orders (nx := 91) rfl rfl rfl rfl ?_
          refine ev_iastT f_X12_orders (nx := 92) rfl (hI.wf.s rfl) l76_3 (by decide) u79 (by decide) rfl (hI.astL (hI.wf.s rfl) (by decide +kernel : t_abw 90 0 0 0 5 = true) (t_cl1 l76_3 (by decide)) (t_cl2 l76_3 u79 (by decide) (by decide)) l6_2 u74 rfl) (hX.upI (t_inA_ok rfl)) (fun g80 e80 hI hX => ?_)
          refine ev_loc f_X12_orders (nx := 93) rfl rfl rfl rfl ?_
          refine ev_alu f_X12_orders (nx := 94) rfl rfl rfl rfl ?_
          refine ev_gvI f_X12_orders (nx := 97) (w := (gi76 69 44)) rfl (hI.wf.s rfl) rfl rfl ((by rw [e80]; exact x_up2_off (Or.inl (by decide)) : g80 69 44 = gi76 69 44).trans rfl) rfl ?_
          refine ev_ic f_X12_orders (nx := 98) (v := 1) rfl (by decide) rfl ?_
          refine ev_addC f_X12_orders (nx := 99) (c := 1) (l := 1) (u := 7) rfl (by decide) l77 u77 rfl rfl (by decide) (by decide) rfl (fun z81 e81 l81 u81 => ?_)
          have u83 : z81.toInt ≤ (6:Int) := (by omega)
          refine ev_putIT f_X12_orders (nx := 102) rfl (hI.wf.s rfl) rfl rfl rfl (hI.putB (hI.wf.s rfl) rfl rfl l81 (by decide) u83 (by decide)) (hX.upI rfl) (fun g82 e82 hI hX => ?_)
          refine ev_incR f_X12_orders (nx := 105) (c := 1) (l := 1) (u := 6) rfl rfl (by decide) (by decide) l6_2 u74 rfl rfl (by decide) (by decide) rfl (fun z84 e84 l84 u84 => ?_)
          refine ev_jmp f_X12_orders (nx := 12) rfl rfl rfl ?_
          refine ev_sub (lo := [(2, .int z84), (0, .ref 69), (1, .int 0)]) rfl (t_sc rfl (t_sc rfl (t_sc rfl t_sn))) ?_
          exact ih6 _ (by omega) g82 gl76 gr76 (z84) hI hX  (Int.le_trans (by decide : (0:Int) ≤ 1) l84) u84 ((by rw [e82]; exact x_up2_off (Or.inr (by decide)) : g82 69 45 = g80 69 45).trans ((by rw [e80]; exact x_up2_off (Or.inl (by decide)) : g80 69 45 = gi76 69 45).trans c76_0)) ((by rw [e82]; exact x_up2_off (Or.inr (by decide)) : g82 69 46 = g80 69 46).trans ((by rw [e80]; exact x_up2_off (Or.inl (by decide)) : g80 69 46 = gi76 69 46).trans c76_1)) (by have ff85 : (g82 69 44).toInt = z81.toInt := congrArg Int32.toInt (by rw [e82]; exact x_up2_at _ _ _ _ : g82 69 44 = z81); omega) (fun j => (congrFun ((by rw [e82]; exact x_up2_ne (by decide) : g82 70 = g80 70).trans ((by rw [e80]; exact x_up2_ne (by decide) : g80 70 = gi76 70))) j).trans (j76_2 j)) (fun j => (congrFun ((by rw [e82]; exact x_up2_ne (by decide) : g82 89 = g80 89).trans ((by rw [e80]; exact x_up2_ne (by decide) : g80 89 = gi76 89))) j).trans (j76_3 j)) (by
                                                            intro D hm hb ht
                                                            have b1 := hb.2.1
                                                            have b2 := hb.2.2
                                                            have z0 : (0 : Int32).toInt = 0 := rfl
                                                            obtain ⟨g1, g2, f, hR, hJ⟩ := j76_4 D hm hb ht
                                                            have ff86 : (g82 69 44).toInt = z81.toInt := congrArg Int32.toInt (by rw [e82]; exact x_up2_at _ _ _ _ : g82 69 44 = z81)
                                                            have h89 : ∀ j : Nat, (j : Int) < D 1 → (gi76 89 j).toInt = s_A D j := fun j hj => by rw [j76_3 j, ht j (by omega)]; have hh := hm.2.2.1 (53 + 5 * j) (by omega) (by omega); rw [Nat.zero_add] at hh; exact hh
                                                            have hst : ∀ j, g82 90 j = if j = y76_3.toNatClampNeg then y6_2 else gi76 90 j := fun j => by rw [e82, x_up2_off (Or.inl (by decide)), e80]; by_cases hj : j = y76_3.toNatClampNeg; (rw [if_pos hj, hj, x_up2_at]); (rw [if_neg hj, x_up2_off (Or.inr hj)])
                                                            have ci := t_clamp (i := y6_2) (by omega)
                                                            have hs : y76_3.toNatClampNeg = 0 ∨ s_A D (s_or (s_A D) y6_2.toNatClampNeg (y76_3.toNatClampNeg - 1)) ≤ s_A D y6_2.toNatClampNeg := Or.inl (s_c00 (by omega) (by omega))
                                                            rw [s_cp (by omega) e84]
                                                            exact ⟨by omega, by omega, s_RO_s hR ci.symm (fun j hj => rfl) rfl (s_J_e hJ hs hst)⟩) rfl
        · have l87 : 1 ≤ y76_3.toInt := t_ltl (t_nle h78) (by decide : (0:Int) ≤ (0:Int32).toInt) rfl
          refine ev_loc f_X12_orders (nx := 44) rfl rfl rfl rfl ?_
          refine ev_getR f_X12_orders (nx := 47) rfl (hI.wf.s rfl) rfl rfl (hI.wf.r rfl) rfl rfl ?_
          refine ev_loc f_X12_orders (nx := 48) rfl rfl rfl rfl ?_
          refine ev_getR f_X12_orders (nx := 51) rfl (hI.wf.s rfl) rfl rfl (hI.wf.r rfl) rfl rfl ?_
          refine ev_loc f_X12_orders (nx := 52) rfl rfl rfl rfl ?_
          refine ev_ic f_X12_orders (nx := 53) (v := 1) rfl (by decide) rfl ?_
          refine ev_subC f_X12_orders (nx := 54) (c := 1) (l := 0) (u := 5) rfl (by decide) l87 u76_3 rfl rfl (by decide) (by decide) rfl (fun z88 e88 l88 u88 => ?_)
          refine ev_ialdT f_X12_orders (nx := 55) rfl (hI.wf.s rfl) l88 (by decide) u88 (by decide) rfl (fun w89 e89 => ?_)
          obtain ⟨l89, u89⟩ := hI.abi e89 (by decide +kernel : t_abr 90 0 5 0 5 = true) l88 (by decide) u88 (by decide)
          refine ev_ialdT f_X12_orders (nx := 56) rfl (hI.wf.s rfl) l89 (by decide) u89 (by decide) rfl (fun w90 e90 => ?_)
          refine ev_loc f_X12_orders (nx := 57) rfl rfl rfl rfl ?_
          refine ev_getR f_X12_orders (nx := 60) rfl (hI.wf.s rfl) rfl rfl (hI.wf.r rfl) rfl rfl ?_
          refine ev_loc f_X12_orders (nx := 61) rfl rfl rfl rfl ?_
          refine ev_ialdT f_X12_orders (nx := 62) rfl (hI.wf.s rfl) l6_2 (by decide) u74 (by decide) rfl (fun w91 e91 => ?_)
          refine ev_if f_X12_orders (t1 := 85) (t2 := 65) rfl rfl rfl (fun h92 => ?_) (fun h92 => ?_)
          · have r93 : w90.toInt ≤ w91.toInt := Int32.le_iff_toInt_le.mp h92
            refine ev_loc f_X12_orders (nx := 86) rfl rfl rfl rfl ?_
            refine ev_getR f_X12_orders (nx := 89) rfl (hI.wf.s rfl) rfl rfl (hI.wf.r rfl) rfl rfl ?_
            refine ev_loc f_X12_orders (nx := 90) rfl rfl rfl rfl ?_
            refine ev_loc f_X12_orders (nx := 91) rfl rfl rfl rfl ?_
            have u95 : y76_3.toInt ≤ (5:Int) := (by omega)
            refine ev_iastT f_X12_orders (nx := 92) rfl (hI.wf.s rfl) l87 (by decide) u95 (by decide) rfl (hI.astL (hI.wf.s rfl) (by decide +kernel : t_abw 90 1 5 0 5 = true) (t_cl1 l87 (by decide)) (t_cl2 l87 u95 (by decide) (by decide)) l6_2 u74 rfl) (hX.upI (t_inA_ok rfl)) (fun g94 e94 hI hX => ?_)
            refine ev_loc f_X12_orders (nx := 93) rfl rfl rfl rfl ?_
            refine ev_alu f_X12_orders (nx := 94) rfl rfl rfl rfl ?_
            refine ev_gvI f_X12_orders (nx := 97) (w := (gi76 69 44)) rfl (hI.wf.s rfl) rfl rfl ((by rw [e94]; exact x_up2_off (Or.inl (by decide)) : g94 69 44 = gi76 69 44).trans rfl) rfl ?_
            refine ev_ic f_X12_orders (nx := 98) (v := 1) rfl (by decide) rfl ?_
            refine ev_addC f_X12_orders (nx := 99) (c := 1) (l := 1) (u := 7) rfl (by decide) l77 u77 rfl rfl (by decide) (by decide) rfl (fun z96 e96 l96 u96 => ?_)
            have u98 : z96.toInt ≤ (6:Int) := (by omega)
            refine ev_putIT f_X12_orders (nx := 102) rfl (hI.wf.s rfl) rfl rfl rfl (hI.putB (hI.wf.s rfl) rfl rfl l96 (by decide) u98 (by decide)) (hX.upI rfl) (fun g97 e97 hI hX => ?_)
            refine ev_incR f_X12_orders (nx := 105) (c := 1) (l := 1) (u := 6) rfl rfl (by decide) (by decide) l6_2 u74 rfl rfl (by decide) (by decide) rfl (fun z99 e99 l99 u99 => ?_)
            refine ev_jmp f_X12_orders (nx := 12) rfl rfl rfl ?_
            refine ev_sub (lo := [(2, .int z99), (0, .ref 69), (1, .int 0)]) rfl (t_sc rfl (t_sc rfl (t_sc rfl t_sn))) ?_
            exact ih6 _ (by omega) g97 gl76 gr76 (z99) hI hX  (Int.le_trans (by decide : (0:Int) ≤ 1) l99) u99 ((by rw [e97]; exact x_up2_off (Or.inr (by decide)) : g97 69 45 = g94 69 45).trans ((by rw [e94]; exact x_up2_off (Or.inl (by decide)) : g94 69 45 = gi76 69 45).trans c76_0)) ((by rw [e97]; exact x_up2_off (Or.inr (by decide)) : g97 69 46 = g94 69 46).trans ((by rw [e94]; exact x_up2_off (Or.inl (by decide)) : g94 69 46 = gi76 69 46).trans c76_1)) (by have ff100 : (g97 69 44).toInt = z96.toInt := congrArg Int32.toInt (by rw [e97]; exact x_up2_at _ _ _ _ : g97 69 44 = z96); omega) (fun j => (congrFun ((by rw [e97]; exact x_up2_ne (by decide) : g97 70 = g94 70).trans ((by rw [e94]; exact x_up2_ne (by decide) : g94 70 = gi76 70))) j).trans (j76_2 j)) (fun j => (congrFun ((by rw [e97]; exact x_up2_ne (by decide) : g97 89 = g94 89).trans ((by rw [e94]; exact x_up2_ne (by decide) : g94 89 = gi76 89))) j).trans (j76_3 j)) (by
                                                            intro D hm hb ht
                                                            have b1 := hb.2.1
                                                            have b2 := hb.2.2
                                                            have z0 : (0 : Int32).toInt = 0 := rfl
                                                            obtain ⟨g1, g2, f, hR, hJ⟩ := j76_4 D hm hb ht
                                                            have ff101 : (g97 69 44).toInt = z96.toInt := congrArg Int32.toInt (by rw [e97]; exact x_up2_at _ _ _ _ : g97 69 44 = z96)
                                                            have h89 : ∀ j : Nat, (j : Int) < D 1 → (gi76 89 j).toInt = s_A D j := fun j hj => by rw [j76_3 j, ht j (by omega)]; have hh := hm.2.2.1 (53 + 5 * j) (by omega) (by omega); rw [Nat.zero_add] at hh; exact hh
                                                            have hst : ∀ j, g97 90 j = if j = y76_3.toNatClampNeg then y6_2 else gi76 90 j := fun j => by rw [e97, x_up2_off (Or.inl (by decide)), e94]; by_cases hj : j = y76_3.toNatClampNeg; (rw [if_pos hj, hj, x_up2_at]); (rw [if_neg hj, x_up2_off (Or.inr hj)])
                                                            have hp : 0 < y76_3.toNatClampNeg := s_c0 (by omega)
                                                            have hv1 : w89.toInt = ((s_or (s_A D) y6_2.toNatClampNeg (y76_3.toNatClampNeg - 1) : Nat) : Int) := by rw [e89, s_cm l88 e88, s_J_at hJ hp]; exact hR _ (by have := hJ.1; omega)
                                                            have hlt := s_or_lt (s_A D) y6_2.toNatClampNeg (y76_3.toNatClampNeg - 1) (by have := hJ.1; omega)
                                                            have ci := t_clamp (i := y6_2) (by omega)
                                                            have hv2 : w90.toInt = s_A D (s_or (s_A D) y6_2.toNatClampNeg (y76_3.toNatClampNeg - 1)) := by rw [e90, s_c5 (x := w89) hv1]; exact h89 _ (by omega)
                                                            have hv3 : w91.toInt = s_A D y6_2.toNatClampNeg := by rw [e91]; exact h89 _ (by omega)
                                                            have hs : y76_3.toNatClampNeg = 0 ∨ s_A D (s_or (s_A D) y6_2.toNatClampNeg (y76_3.toNatClampNeg - 1)) ≤ s_A D y6_2.toNatClampNeg := Or.inr (by omega)
                                                            rw [s_cp (by omega) e99]
                                                            exact ⟨by omega, by omega, s_RO_s hR ci.symm (fun j hj => rfl) rfl (s_J_e hJ hs hst)⟩) rfl
          · have r102 : w91.toInt < w90.toInt := Int32.lt_iff_toInt_lt.mp (t_nle h92)
            have u103 : w91.toInt ≤ 2147483646 := t_ltu (t_nle h92) (t_hi w90) rfl
            have l104 : (-2147483647) ≤ w90.toInt := t_ltl (t_nle h92) (t_lo w91) rfl
            refine ev_loc f_X12_orders (nx := 66) rfl rfl rfl rfl ?_
            refine ev_getR f_X12_orders (nx := 69) rfl (hI.wf.s rfl) rfl rfl (hI.wf.r rfl) rfl rfl ?_
            refine ev_loc f_X12_orders (nx := 70) rfl rfl rfl rfl ?_
            refine ev_loc f_X12_orders (nx := 71) rfl rfl rfl rfl ?_
            refine ev_getR f_X12_orders (nx := 74) rfl (hI.wf.s rfl) rfl rfl (hI.wf.r rfl) rfl rfl ?_
            refine ev_loc f_X12_orders (nx := 75) rfl rfl rfl rfl ?_
            refine ev_ic f_X12_orders (nx := 76) (v := 1) rfl (by decide) rfl ?_
            refine ev_subC f_X12_orders (nx := 77) (c := 1) (l := 0) (u := 5) rfl (by decide) l87 u76_3 rfl rfl (by decide) (by decide) rfl (fun z105 e105 l105 u105 => ?_)
            refine ev_ialdT f_X12_orders (nx := 78) rfl (hI.wf.s rfl) l105 (by decide) u105 (by decide) rfl (fun w106 e106 => ?_)
            obtain ⟨l106, u106⟩ := hI.abi e106 (by decide +kernel : t_abr 90 0 5 0 5 = true) l105 (by decide) u105 (by decide)
            have u108 : y76_3.toInt ≤ (5:Int) := (by omega)
            refine ev_iastT f_X12_orders (nx := 79) rfl (hI.wf.s rfl) l87 (by decide) u108 (by decide) rfl (hI.astL (hI.wf.s rfl) (by decide +kernel : t_abw 90 1 5 0 5 = true) (t_cl1 l87 (by decide)) (t_cl2 l87 u108 (by decide) (by decide)) l106 u106 rfl) (hX.upI (t_inA_ok rfl)) (fun g107 e107 hI hX => ?_)
            refine ev_incR f_X12_orders (nx := 82) (c := (-1)) (l := 0) (u := 4) rfl rfl (by decide) (by decide) l87 u108 rfl rfl (by decide) (by decide) rfl (fun z109 e109 l109 u109 => ?_)
            refine ev_jmp f_X12_orders (nx := 39) rfl rfl rfl ?_
            refine ev_sub (lo := [(3, .int z109), (2, .int y6_2), (0, .ref 69), (1, .int 0)]) rfl (t_sc rfl (t_sc rfl (t_sc rfl (t_sc rfl t_sn)))) ?_
            exact ih76 _ (by omega) g107 gl76 gr76 (z109) hI hX  l109 (Int.le_trans u109 (by decide : (4:Int) ≤ 6)) ((by rw [e107]; exact x_up2_off (Or.inl (by decide)) : g107 69 45 = gi76 69 45).trans c76_0) ((by rw [e107]; exact x_up2_off (Or.inl (by decide)) : g107 69 46 = gi76 69 46).trans c76_1) ((by rw [e107]; exact x_up2_off (Or.inl (by decide)) : g107 70 1 = gi76 70 1).trans c76_2) (by have ff110 : (g107 69 44).toInt = (gi76 69 44).toInt := congrArg Int32.toInt ((by rw [e107]; exact x_up2_off (Or.inl (by decide)) : g107 69 44 = gi76 69 44).trans rfl); omega) (by have ff111 : (g107 69 44).toInt = (gi76 69 44).toInt := congrArg Int32.toInt ((by rw [e107]; exact x_up2_off (Or.inl (by decide)) : g107 69 44 = gi76 69 44).trans rfl); omega) (fun j => (congrFun ((by rw [e107]; exact x_up2_ne (by decide) : g107 70 = gi76 70)) j).trans (j76_2 j)) (fun j => (congrFun ((by rw [e107]; exact x_up2_ne (by decide) : g107 89 = gi76 89)) j).trans (j76_3 j)) (by
                                                            intro D hm hb ht
                                                            have b1 := hb.2.1
                                                            have b2 := hb.2.2
                                                            have z0 : (0 : Int32).toInt = 0 := rfl
                                                            obtain ⟨g1, g2, f, hR, hJ⟩ := j76_4 D hm hb ht
                                                            have ff112 : (g107 69 44).toInt = (gi76 69 44).toInt := congrArg Int32.toInt ((by rw [e107]; exact x_up2_off (Or.inl (by decide)) : g107 69 44 = gi76 69 44).trans rfl)
                                                            have h89 : ∀ j : Nat, (j : Int) < D 1 → (gi76 89 j).toInt = s_A D j := fun j hj => by rw [j76_3 j, ht j (by omega)]; have hh := hm.2.2.1 (53 + 5 * j) (by omega) (by omega); rw [Nat.zero_add] at hh; exact hh
                                                            have hp : 0 < y76_3.toNatClampNeg := s_c0 (by omega)
                                                            have hv1 : w89.toInt = ((s_or (s_A D) y6_2.toNatClampNeg (y76_3.toNatClampNeg - 1) : Nat) : Int) := by rw [e89, s_cm l88 e88, s_J_at hJ hp]; exact hR _ (by have := hJ.1; omega)
                                                            have hlt := s_or_lt (s_A D) y6_2.toNatClampNeg (y76_3.toNatClampNeg - 1) (by have := hJ.1; omega)
                                                            have ci := t_clamp (i := y6_2) (by omega)
                                                            have hv2 : w90.toInt = s_A D (s_or (s_A D) y6_2.toNatClampNeg (y76_3.toNatClampNeg - 1)) := by rw [e90, s_c5 (x := w89) hv1]; exact h89 _ (by omega)
                                                            have hv3 : w91.toInt = s_A D y6_2.toNatClampNeg := by rw [e91]; exact h89 _ (by omega)
                                                            have hst : ∀ j, g107 90 j = if j = y76_3.toNatClampNeg then w106 else gi76 90 j := fun j => by rw [e107]; by_cases hj : j = y76_3.toNatClampNeg; (rw [if_pos hj, hj, x_up2_at]); (rw [if_neg hj, x_up2_off (Or.inr hj)])
                                                            have hw : w106 = gi76 90 (y76_3.toNatClampNeg - 1) := by rw [e106, s_cm l105 e105]
                                                            rw [s_cm2 l109 e109]
                                                            exact ⟨by omega, g2, f, hR, s_J_s hJ hp (show s_A D y6_2.toNatClampNeg < s_A D (s_or (s_A D) y6_2.toNatClampNeg (y76_3.toNatClampNeg - 1)) from (by omega)) hst hw⟩) rfl
      refine ev_sub (lo := [(3, .int (gi6 69 44)), (2, .int y6_2), (0, .ref 69), (1, .int 0)]) rfl (t_sc rfl (t_sc rfl (t_sc rfl (t_sc rfl t_sn)))) ?_
      exact L76 _ gi6 gl6 gr6 ((gi6 69 44)) hI hX  l7 u7 c6_0 c6_1 rfl (by omega) (by omega) j6_1 j6_2 (by
                                                            intro D hm hb ht
                                                            have b1 := hb.2.1
                                                            have b2 := hb.2.2
                                                            have z0 : (0 : Int32).toInt = 0 := rfl
                                                            obtain ⟨g0, g1, g2⟩ := j6_3 D hm hb ht
                                                            have hd : (gi6 70 1).toInt = D 1 := by rw [j6_1 1]; exact hm.1.1.2.1
                                                            have hx : ((gi6 69 44)).toNatClampNeg = y6_2.toNatClampNeg := by have c1 := t_clamp (i := (gi6 69 44)) (by omega); have c2 := t_clamp (i := y6_2) (by omega); omega
                                                            rw [hx]
                                                            exact ⟨g0, by omega, _, g2, s_J_b (fun j _ => rfl)⟩) rfl
  refine ev_sub (lo := [(2, .int 0), (0, .ref 69), (1, .int 0)]) rfl (t_sc rfl (t_sc rfl (t_sc rfl t_sn))) ?_
  exact L6 _ g5 gl gr (0) hI hX  (by decide : (0:Int) ≤ (0:Int32).toInt) (Int.le_trans (by decide : (0:Int32).toInt ≤ (0:Int)) (by decide : (0:Int) ≤ 6)) (by rw [e5]; exact x_up2_at _ _ _ _ : g5 69 45 = 0) ((by rw [e5]; exact x_up2_off (Or.inr (by decide)) : g5 69 46 = g4 69 46).trans ((by rw [e4]; exact x_up2_off (Or.inr (by decide)) : g4 69 46 = gi 69 46).trans rfl)) (by have kf113 : (0 : Int32).toInt = 0 := (by decide); have ff114 : (g5 69 44).toInt = 0 := (congrArg Int32.toInt ((by rw [e5]; exact x_up2_off (Or.inr (by decide)) : g5 69 44 = g4 69 44).trans (by rw [e4]; exact x_up2_at _ _ _ _ : g4 69 44 = 0))).trans (by decide); omega) (fun j => (congrFun ((by rw [e5]; exact x_up2_ne (by decide) : g5 70 = g4 70).trans ((by rw [e4]; exact x_up2_ne (by decide) : g4 70 = gi 70))) j).trans ((fun _ => rfl) j)) (fun j => (congrFun ((by rw [e5]; exact x_up2_ne (by decide) : g5 89 = g4 89).trans ((by rw [e4]; exact x_up2_ne (by decide) : g4 89 = gi 89))) j).trans ((fun _ => rfl) j)) (by
                                                            intro D hm hb ht
                                                            have b1 := hb.2.1
                                                            have b2 := hb.2.2
                                                            have z0 : (0 : Int32).toInt = 0 := rfl
                                                            have ff115 : (g5 69 44).toInt = 0 := (congrArg Int32.toInt ((by rw [e5]; exact x_up2_off (Or.inr (by decide)) : g5 69 44 = g4 69 44).trans (by rw [e4]; exact x_up2_at _ _ _ _ : g4 69 44 = 0))).trans (by decide)
                                                            exact ⟨by omega, by omega, fun j hj => absurd hj (Nat.not_lt_zero _)⟩) rfl
noncomputable def wl_e_nextShip : List (Nat × Nat) := [(69, 2), (69, 44), (69, 45), (89, 10005), (89, 610011), (90, 9999), (91, 9999)]
noncomputable def Q_e_nextShip (gi : Nat → Nat → Int32) (gl : Nat → Nat → Int64) (gr : Nat → Nat → Value) (ar1 : Int32) : Int32 → (Nat → Nat → Int32) → (Nat → Nat → Int64) → (Nat → Nat → Value) → Prop := fun (v : Int32) (gi2 : Nat → Nat → Int32) (gl2 : Nat → Nat → Int64) (gr2 : Nat → Nat → Value) => ∀ D : s_D, t_ME 0 gi D → t_Cb D → ((0 ≤ ar1.toInt ∧ ar1.toInt < D 1) → v.toInt = ((s_or (s_A D) (D 1).toNat ar1.toNatClampNeg : Nat) : Int)) ∧ (¬ (0 ≤ ar1.toInt ∧ ar1.toInt < D 1) → v.toInt = -1)
theorem c_e_nextShip {X : x_Ext} {d : Nat} {sh : List (Nat ⊕ (Nat × Nat))} {gi : Nat → Nat → Int32} {gl : Nat → Nat → Int64} {gr : Nat → Nat → Value} (hI : t_I sh gi gr) (ar1 : Int32) : x_Me X (d + 2) n_X12_nextShip [.ref 69, .int ar1] (sh, gi, gl, gr) (t_PI wl_e_nextShip sh gi gl gr (-1) 5 (Q_e_nextShip gi gl gr ar1)) := by
  have hX : t_X wl_e_nextShip sh gi gl gr gi gl gr := t_X.rf
  refine me_i f_X12_nextShip (hI.wf.s rfl) rfl rfl rfl ?_
  refine ev_loc f_X12_nextShip (nx := 1) rfl rfl rfl rfl ?_
  refine ev_qN f_X12_nextShip (nx := 4) (r := []) rfl rfl rfl rfl rfl rfl rfl (c_n_tellsMinutes hI ) rfl hX rfl (fun gi1 gl1 gr1 hI hX hC1 q1 => ?_)
  have q1 : (∀ j, gi1 70 j = gi 70 j) ∧ (∀ j : Nat, j < 6 → gi1 89 j = gi 70 (53 + 5 * j)) ∧ (∀ j : Nat, j < 6 → gi1 89 (6 + j) = gi 70 (82 + 3 * j)) := q1
  refine ev_loc f_X12_nextShip (nx := 5) rfl rfl rfl rfl ?_
  refine ev_ic f_X12_nextShip (nx := 6) (v := 0) rfl (by decide) rfl ?_
  refine ev_qN f_X12_nextShip (nx := 9) (r := []) rfl rfl rfl rfl rfl rfl rfl (c_n_orders0 hI ) rfl hX rfl (fun gi2 gl2 gr2 hI hX hC2 q2 => ?_)
  have q2 : (∀ j, gi2 70 j = gi1 70 j) ∧ (∀ j, gi2 89 j = gi1 89 j) ∧ (∀ D : s_D, t_ME 0 gi1 D → t_Cb D → (∀ j : Nat, j < 6 → gi1 89 j = gi1 70 (53 + 5 * j)) → (gi2 69 44).toInt = D 1 ∧ s_RO (s_A D) (gi2 90) (D 1).toNat) ∧ (∀ D : s_D, t_ME 0 gi1 D → t_Cb D → (∀ j : Nat, j < 6 → gi1 89 (6 + j) = gi1 70 (82 + 3 * j)) → (gi1 69 46).toInt = -1 → (gi2 69 45).toInt = D 2 ∧ s_RO (s_B D) (gi2 91) (D 2).toNat) := q2
  refine ev_loc f_X12_nextShip (nx := 10) rfl rfl rfl rfl ?_
  refine ev_if f_X12_nextShip (t1 := 21) (t2 := 13) rfl rfl rfl (fun h3 => ?_) (fun h3 => ?_)
  · have u4 : ar1.toInt ≤ (-1) := t_ltu h3 (by decide : (0:Int32).toInt ≤ (0:Int)) rfl
    refine ev_loc f_X12_nextShip (nx := 22) rfl rfl rfl rfl ?_
    refine ev_bp f_X12_nextShip (nx := 24) (v := 6) rfl (by decide) rfl ?_
    refine ev_inV2 f_X12_nextShip (nx := 27) (lo2 := [(0, .ref 69), (1, .int 6)]) rfl rfl rfl rfl f_X12_refuse (hI.wf.s rfl) rfl rfl rfl rfl rfl ?_
    refine ev_loc f_X12_refuse (nx := 1) rfl rfl rfl rfl ?_
    refine ev_loc f_X12_refuse (nx := 2) rfl rfl rfl rfl ?_
    refine ev_putIT f_X12_refuse (nx := 5) rfl (hI.wf.s rfl) rfl rfl rfl (hI.put0 (hI.wf.s rfl) rfl rfl) (hX.upI rfl) (fun g5 e5 hI hX => ?_)
    refine ev_ic f_X12_refuse (nx := 6) (v := -1) rfl (by decide) rfl ?_
    refine ev_retK1 f_X12_refuse rfl rfl rfl ?_
    refine ev_jmp f_X12_nextShip (nx := 40) rfl rfl rfl ?_
    exact ev_ret f_X12_nextShip rfl rfl rfl ⟨_, _, _, rfl, hI, hX, ⟨_, rfl, (by decide : ((-1):Int) ≤ ((-1):Int32).toInt), (Int.le_trans (by decide : ((-1):Int32).toInt ≤ ((-1):Int)) (by decide : ((-1):Int) ≤ 5)), (show ∀ D : s_D, t_ME 0 gi D → t_Cb D → ((0 ≤ ar1.toInt ∧ ar1.toInt < D 1) → ((-1) : Int) = ((s_or (s_A D) (D 1).toNat ar1.toNatClampNeg : Nat) : Int)) ∧ (¬ (0 ≤ ar1.toInt ∧ ar1.toInt < D 1) → ((-1) : Int) = -1) from (by
                                                            intro D hm hb
                                                            have hmA : t_ME 0 gi1 D := hm.mv hb (fun j _ _ _ => q1.1 (0 + j))
                                                            have hq := q2.2.2.1 D hmA hb (fun j h => (q1.2.1 j h).trans (q1.1 _).symm)
                                                            exact ⟨fun h => absurd h (by omega), fun _ => rfl⟩))⟩⟩
  · have l6 : 0 ≤ ar1.toInt := t_lel (t_nlt h3) (by decide : (0:Int) ≤ (0:Int32).toInt)
    refine ev_loc f_X12_nextShip (nx := 14) rfl rfl rfl rfl ?_
    refine ev_loc f_X12_nextShip (nx := 15) rfl rfl rfl rfl ?_
    refine ev_getI f_X12_nextShip (nx := 18) rfl (hI.wf.s rfl) rfl rfl rfl ?_
    obtain ⟨l7, u7⟩ := hI.b (hI.wf.s (k := 69) rfl) (t_bdK rfl : t_bd 11 44 = some (0, 6))
    refine ev_if f_X12_nextShip (t1 := 30) (t2 := 21) rfl rfl rfl (fun h8 => ?_) (fun h8 => ?_)
    · have r9 : ar1.toInt < (gi2 69 44).toInt := Int32.lt_iff_toInt_lt.mp h8
      have u10 : ar1.toInt ≤ 5 := t_ltu h8 u7 rfl
      have l11 : 1 ≤ (gi2 69 44).toInt := t_ltl h8 l6 rfl
      refine ev_loc f_X12_nextShip (nx := 31) rfl rfl rfl rfl ?_
      refine ev_loc f_X12_nextShip (nx := 32) rfl rfl rfl rfl ?_
      refine ev_getR f_X12_nextShip (nx := 35) rfl (hI.wf.s rfl) rfl rfl (hI.wf.r rfl) rfl rfl ?_
      refine ev_loc f_X12_nextShip (nx := 36) rfl rfl rfl rfl ?_
      refine ev_ialdT f_X12_nextShip (nx := 37) rfl (hI.wf.s rfl) l6 (by decide) u10 (by decide) rfl (fun w12 e12 => ?_)
      obtain ⟨l12, u12⟩ := hI.abi e12 (by decide +kernel : t_abr 90 0 5 0 5 = true) l6 (by decide) u10 (by decide)
      refine ev_inV2 f_X12_nextShip (nx := 40) (lo2 := [(0, .ref 69), (1, .int w12)]) rfl rfl rfl rfl f_X12_gives (hI.wf.s rfl) rfl rfl rfl rfl rfl ?_
      refine ev_loc f_X12_gives (nx := 1) rfl rfl rfl rfl ?_
      refine ev_ic f_X12_gives (nx := 2) (v := 0) rfl (by decide) rfl ?_
      refine ev_putIT f_X12_gives (nx := 5) rfl (hI.wf.s rfl) rfl rfl rfl (hI.put0 (hI.wf.s rfl) rfl rfl) (hX.upI rfl) (fun g13 e13 hI hX => ?_)
      refine ev_loc f_X12_gives (nx := 6) rfl rfl rfl rfl ?_
      refine ev_retK1 f_X12_gives rfl rfl rfl ?_
      exact ev_ret f_X12_nextShip rfl rfl rfl ⟨_, _, _, rfl, hI, hX, ⟨_, rfl, (Int.le_trans (by decide : ((-1):Int) ≤ 0) l12), u12, (show ∀ D : s_D, t_ME 0 gi D → t_Cb D → ((0 ≤ ar1.toInt ∧ ar1.toInt < D 1) → w12.toInt = ((s_or (s_A D) (D 1).toNat ar1.toNatClampNeg : Nat) : Int)) ∧ (¬ (0 ≤ ar1.toInt ∧ ar1.toInt < D 1) → w12.toInt = -1) from (by
                                                            intro D hm hb
                                                            have hmA : t_ME 0 gi1 D := hm.mv hb (fun j _ _ _ => q1.1 (0 + j))
                                                            have hq := q2.2.2.1 D hmA hb (fun j h => (q1.2.1 j h).trans (q1.1 _).symm)
                                                            have ka := t_clamp (i := ar1) (by omega)
                                                            refine ⟨fun _ => ?_, fun h => absurd (show _ from ⟨by omega, by omega⟩) h⟩
                                                            rw [e12]; exact hq.2 ar1.toNatClampNeg (by omega)))⟩⟩
    · have r14 : (gi2 69 44).toInt ≤ ar1.toInt := Int32.le_iff_toInt_le.mp (t_nlt h8)
      refine ev_loc f_X12_nextShip (nx := 22) rfl rfl rfl rfl ?_
      refine ev_bp f_X12_nextShip (nx := 24) (v := 6) rfl (by decide) rfl ?_
      refine ev_inV2 f_X12_nextShip (nx := 27) (lo2 := [(0, .ref 69), (1, .int 6)]) rfl rfl rfl rfl f_X12_refuse (hI.wf.s rfl) rfl rfl rfl rfl rfl ?_
      refine ev_loc f_X12_refuse (nx := 1) rfl rfl rfl rfl ?_
      refine ev_loc f_X12_refuse (nx := 2) rfl rfl rfl rfl ?_
      refine ev_putIT f_X12_refuse (nx := 5) rfl (hI.wf.s rfl) rfl rfl rfl (hI.put0 (hI.wf.s rfl) rfl rfl) (hX.upI rfl) (fun g15 e15 hI hX => ?_)
      refine ev_ic f_X12_refuse (nx := 6) (v := -1) rfl (by decide) rfl ?_
      refine ev_retK1 f_X12_refuse rfl rfl rfl ?_
      refine ev_jmp f_X12_nextShip (nx := 40) rfl rfl rfl ?_
      exact ev_ret f_X12_nextShip rfl rfl rfl ⟨_, _, _, rfl, hI, hX, ⟨_, rfl, (by decide : ((-1):Int) ≤ ((-1):Int32).toInt), (Int.le_trans (by decide : ((-1):Int32).toInt ≤ ((-1):Int)) (by decide : ((-1):Int) ≤ 5)), (show ∀ D : s_D, t_ME 0 gi D → t_Cb D → ((0 ≤ ar1.toInt ∧ ar1.toInt < D 1) → ((-1) : Int) = ((s_or (s_A D) (D 1).toNat ar1.toNatClampNeg : Nat) : Int)) ∧ (¬ (0 ≤ ar1.toInt ∧ ar1.toInt < D 1) → ((-1) : Int) = -1) from (by
                                                            intro D hm hb
                                                            have hmA : t_ME 0 gi1 D := hm.mv hb (fun j _ _ _ => q1.1 (0 + j))
                                                            have hq := q2.2.2.1 D hmA hb (fun j h => (q1.2.1 j h).trans (q1.1 _).symm)
                                                            exact ⟨fun h => absurd h (by omega), fun _ => rfl⟩))⟩⟩
/-! ===== nextShip: the answers are alike ===== -/
section ORDL
variable {sh : List (Nat ⊕ (Nat × Nat))} {gi g1 g2 : Nat → Nat → Int32} {gl l1 l2 : Nat → Nat → Int64} {gr r1 r2 : Nat → Nat → Value} {w1 : List (Nat × Nat)} {A : Int32} {x1 x2 : Int32}
theorem t_L_nextShip (hI : t_I sh gi gr) (hD : t_DR sh.length gi gl gr) (f1 : t_F w1 gi gl gr g1 l1 r1) (h70 : t_nc w1 70 = true) (q1 : Q_d_nextShip gi gl gr A x1 g1 l1 r1) (q2 : Q_e_nextShip g1 l1 r1 A x2 g2 l2 r2) : x1 = x2 := by
  obtain ⟨u, hu, D, hb, hv, hl, hc, hm⟩ := hD.1
  have r70 : g1 70 = gi 70 := t_F_nc f1 h70 (by decide)
  have hm2 : t_ME 0 g1 D := by unfold t_ME; rw [r70]; exact hm
  have k1 := q1 u D hu hl hc hb hv.1 (t_D_sail hI hb hm)
  have k2 := q2 D hm2 hb
  apply Int32.toInt_inj.mp
  by_cases hin : 0 ≤ A.toInt ∧ A.toInt < D 1
  · rw [k1.1 hin, k2.1 hin]
  · rw [k1.2 hin, k2.2 hin]
end ORDL
/-! ===== the least WAITS: as early as may be (the class), by minutes (the other side) ===== -/
/-- P 0: how many SHIPS, CARTS; P 1 to P 4: a SHIP's minute, how long it takes, what it costs, its sail, by the order; P 5 to P 7: a CART's; P 8: how long a turn takes -/
noncomputable def s_bS (P : Nat → Nat → Int) (m : Int) (o s : Nat) : Int := max (P 1 s) (if o = 1 then m else m + P 8 m.toNat)
noncomputable def s_bC (P : Nat → Nat → Int) (m : Int) (o c : Nat) : Int := max (P 5 c) (if o = 1 then m + P 8 m.toNat else m)
/-- by a SHIP that begins in minute b; by a CART -/
noncomputable def s_oS (P : Nat → Nat → Int) (S : Int → Nat → Nat → Nat → Int) (b : Int) (s c : Nat) : Int := if (s : Int) < P 0 0 ∧ b ≤ 240 ∧ (P 4 s = 0 ∨ b = P 1 s) then min ((b - P 1 s) * P 3 s + S (b + P 2 s) 1 (s + 1) c) 1000000000 else 1000000000
noncomputable def s_oC (P : Nat → Nat → Int) (S : Int → Nat → Nat → Nat → Int) (b : Int) (s c : Nat) : Int := if (c : Int) < P 0 1 ∧ b ≤ 240 then min ((b - P 5 c) * P 7 c + S (b + P 6 c) 0 s (c + 1)) 1000000000 else 1000000000
noncomputable def s_ls (P : Nat → Nat → Int) : Nat → Int → Nat → Nat → Nat → Int
  | 0, _, _, s, c => if P 0 0 ≤ (s : Int) ∧ P 0 1 ≤ (c : Int) then 0 else 1000000000
  | k + 1, m, o, s, c => if P 0 0 ≤ (s : Int) ∧ P 0 1 ≤ (c : Int) then 0 else min (s_oS P (s_ls P k) (s_bS P m o s) s c) (s_oC P (s_ls P k) (s_bC P m o c) s c)
/-- what is asked of P -/
noncomputable def s_PO (P : Nat → Nat → Int) : Prop := (∀ s : Nat, (s : Int) < P 0 0 → 0 ≤ P 1 s ∧ 0 ≤ P 2 s ∧ 0 ≤ P 3 s) ∧ (∀ c : Nat, (c : Int) < P 0 1 → 0 ≤ P 5 c ∧ 0 ≤ P 6 c ∧ 0 ≤ P 7 c) ∧ (∀ m : Nat, 1 ≤ P 8 m ∧ P 8 m ≤ P 8 (m + 1))
section LST
variable {P : Nat → Nat → Int} {S S' : Int → Nat → Nat → Nat → Int} {m m' b b' : Int} {o s c k : Nat}
theorem s_PO.te (h : s_PO P) : ∀ a b : Nat, a ≤ b → P 8 a ≤ P 8 b
  | a, 0, hab => by rw [Nat.le_zero.mp hab]; exact Int.le_refl _
  | a, b + 1, hab => by
    by_cases he : a = b + 1
    · rw [he]; exact Int.le_refl _
    · exact Int.le_trans (s_PO.te h a b (by omega)) (h.2.2 b).2
theorem s_PO.tm (h : s_PO P) (h0 : 0 ≤ m) (hm : m ≤ m') : m + P 8 m.toNat ≤ m' + P 8 m'.toNat := by
  have := h.te m.toNat m'.toNat (by omega)
  omega
theorem s_bS_le : P 1 s ≤ s_bS P m o s := Int.le_max_left _ _
theorem s_bC_le : P 5 c ≤ s_bC P m o c := Int.le_max_left _ _
theorem s_bS_m (h : s_PO P) (h0 : 0 ≤ m) : m ≤ s_bS P m o s := by
  have h1 := (h.2.2 m.toNat).1
  unfold s_bS
  split <;> omega
theorem s_bC_m (h : s_PO P) (h0 : 0 ≤ m) : m ≤ s_bC P m o c := by
  have h1 := (h.2.2 m.toNat).1
  unfold s_bC
  split <;> omega
theorem s_bS_mono (h : s_PO P) (h0 : 0 ≤ m) (hm : m ≤ m') : s_bS P m o s ≤ s_bS P m' o s := by
  have h1 := h.tm h0 hm
  unfold s_bS
  split <;> omega
theorem s_bC_mono (h : s_PO P) (h0 : 0 ≤ m) (hm : m ≤ m') : s_bC P m o c ≤ s_bC P m' o c := by
  have h1 := h.tm h0 hm
  unfold s_bC
  split <;> omega
theorem s_oS_hi : s_oS P S b s c ≤ 1000000000 := by unfold s_oS; split <;> omega
theorem s_oC_hi : s_oC P S b s c ≤ 1000000000 := by unfold s_oC; split <;> omega
theorem s_ls_hi : s_ls P k m o s c ≤ 1000000000 := by
  cases k with
  | zero => show (if _ then (0 : Int) else 1000000000) ≤ _; split <;> omega
  | succ k =>
    show (if _ then (0 : Int) else min _ _) ≤ _
    split
    · omega
    · exact Int.le_trans (Int.min_le_left _ _) s_oS_hi
theorem s_oS_lo (h : s_PO P) (hb : P 1 s ≤ b) (hS : 0 ≤ S (b + P 2 s) 1 (s + 1) c) : 0 ≤ s_oS P S b s c := by
  unfold s_oS
  split
  · rename_i h1
    have h2 := Int.mul_nonneg (a := b - P 1 s) (b := P 3 s) (by omega) (h.1 s h1.1).2.2
    omega
  · omega
theorem s_oC_lo (h : s_PO P) (hb : P 5 c ≤ b) (hS : 0 ≤ S (b + P 6 c) 0 s (c + 1)) : 0 ≤ s_oC P S b s c := by
  unfold s_oC
  split
  · rename_i h1
    have h2 := Int.mul_nonneg (a := b - P 5 c) (b := P 7 c) (by omega) (h.2.1 c h1.1).2.2
    omega
  · omega
theorem s_ls_lo (h : s_PO P) : ∀ (k : Nat) (m : Int) (o s c : Nat), 0 ≤ s_ls P k m o s c
  | 0, m, o, s, c => by show 0 ≤ (if _ then (0 : Int) else 1000000000); split <;> omega
  | k + 1, m, o, s, c => by
    show 0 ≤ (if _ then (0 : Int) else min _ _)
    split
    · omega
    · exact Int.le_min.mpr ⟨s_oS_lo h s_bS_le (s_ls_lo h k _ _ _ _), s_oC_lo h s_bC_le (s_ls_lo h k _ _ _ _)⟩
theorem s_oS_mono (h : s_PO P) (hb : P 1 s ≤ b) (hbb : b ≤ b') (hS : (s : Int) < P 0 0 → S (b + P 2 s) 1 (s + 1) c ≤ S (b' + P 2 s) 1 (s + 1) c) : s_oS P S b s c ≤ s_oS P S b' s c := by
  by_cases h2 : (s : Int) < P 0 0 ∧ b' ≤ 240 ∧ (P 4 s = 0 ∨ b' = P 1 s)
  · have h1 : (s : Int) < P 0 0 ∧ b ≤ 240 ∧ (P 4 s = 0 ∨ b = P 1 s) := ⟨h2.1, by omega, h2.2.2.elim Or.inl (fun e => Or.inr (by omega))⟩
    unfold s_oS
    rw [if_pos h1, if_pos h2]
    have h3 := Int.mul_le_mul_of_nonneg_right (a := b - P 1 s) (b := b' - P 1 s) (c := P 3 s) (by omega) (h.1 s h2.1).2.2
    have h4 := hS h2.1
    omega
  · have h3 : s_oS P S b' s c = 1000000000 := by unfold s_oS; rw [if_neg h2]
    rw [h3]; exact s_oS_hi
theorem s_oC_mono (h : s_PO P) (hb : P 5 c ≤ b) (hbb : b ≤ b') (hS : (c : Int) < P 0 1 → S (b + P 6 c) 0 s (c + 1) ≤ S (b' + P 6 c) 0 s (c + 1)) : s_oC P S b s c ≤ s_oC P S b' s c := by
  by_cases h2 : (c : Int) < P 0 1 ∧ b' ≤ 240
  · have h1 : (c : Int) < P 0 1 ∧ b ≤ 240 := ⟨h2.1, by omega⟩
    unfold s_oC
    rw [if_pos h1, if_pos h2]
    have h3 := Int.mul_le_mul_of_nonneg_right (a := b - P 5 c) (b := b' - P 5 c) (c := P 7 c) (by omega) (h.2.1 c h2.1).2.2
    have h4 := hS h2.1
    omega
  · have h3 : s_oC P S b' s c = 1000000000 := by unfold s_oC; rw [if_neg h2]
    rw [h3]; exact s_oC_hi
/-- later is never better -/
theorem s_ls_mono (h : s_PO P) : ∀ (k : Nat) (m m' : Int) (o s c : Nat), 0 ≤ m → m ≤ m' → s_ls P k m o s c ≤ s_ls P k m' o s c
  | 0, m, m', o, s, c, _, _ => Int.le_refl _
  | k + 1, m, m', o, s, c, h0, hm => by
    show (if _ then (0 : Int) else min _ _) ≤ (if _ then (0 : Int) else min _ _)
    split
    · exact Int.le_refl _
    · have g1 : s_oS P (s_ls P k) (s_bS P m o s) s c ≤ s_oS P (s_ls P k) (s_bS P m' o s) s c :=
        s_oS_mono h s_bS_le (s_bS_mono h h0 hm) (fun hs => s_ls_mono h k _ _ _ _ _ (by have := s_bS_m (o := o) (s := s) h h0; have := (h.1 s hs).2.1; omega) (by have := s_bS_mono (o := o) (s := s) h h0 hm; omega))
      have g2 : s_oC P (s_ls P k) (s_bC P m o c) s c ≤ s_oC P (s_ls P k) (s_bC P m' o c) s c :=
        s_oC_mono h s_bC_le (s_bC_mono h h0 hm) (fun hs => s_ls_mono h k _ _ _ _ _ (by have := s_bC_m (o := o) (c := c) h h0; have := (h.2.1 c hs).2.1; omega) (by have := s_bC_mono (o := o) (c := c) h h0 hm; omega))
      exact Int.le_min.mpr ⟨Int.le_trans (Int.min_le_left _ _) g1, Int.le_trans (Int.min_le_right _ _) g2⟩
/-- nor is a turn that comes too early -/
theorem s_ls_turn (h : s_PO P) (h0 : 0 ≤ m) (ho : o ≤ 1) : s_ls P k m o s c ≤ s_ls P k (m + P 8 m.toNat) (1 - o) s c := by
  have h1 := (h.2.2 m.toNat).1
  cases k with
  | zero => exact Int.le_refl _
  | succ k =>
    show (if _ then (0 : Int) else min _ _) ≤ (if _ then (0 : Int) else min _ _)
    split
    · exact Int.le_refl _
    · have e1 : s_bS P m o s ≤ s_bS P (m + P 8 m.toNat) (1 - o) s := by
        have h2 := (h.2.2 (m + P 8 m.toNat).toNat).1
        unfold s_bS
        rcases (show o = 0 ∨ o = 1 by omega) with rfl | rfl
        · rw [if_neg (by omega), if_pos (by omega)]; exact Int.le_refl _
        · rw [if_pos rfl, if_neg (by omega)]; omega
      have e2 : s_bC P m o c ≤ s_bC P (m + P 8 m.toNat) (1 - o) c := by
        have h2 := (h.2.2 (m + P 8 m.toNat).toNat).1
        unfold s_bC
        rcases (show o = 0 ∨ o = 1 by omega) with rfl | rfl
        · rw [if_neg (by omega), if_pos (by omega)]; omega
        · rw [if_pos rfl, if_neg (by omega)]; exact Int.le_refl _
      have g1 : s_oS P (s_ls P k) (s_bS P m o s) s c ≤ s_oS P (s_ls P k) (s_bS P (m + P 8 m.toNat) (1 - o) s) s c :=
        s_oS_mono h s_bS_le e1 (fun hs => s_ls_mono h k _ _ _ _ _ (by have := s_bS_m (o := o) (s := s) h h0; have := (h.1 s hs).2.1; omega) (by omega))
      have g2 : s_oC P (s_ls P k) (s_bC P m o c) s c ≤ s_oC P (s_ls P k) (s_bC P (m + P 8 m.toNat) (1 - o) c) s c :=
        s_oC_mono h s_bC_le e2 (fun hs => s_ls_mono h k _ _ _ _ _ (by have := s_bC_m (o := o) (c := c) h h0; have := (h.2.1 c hs).2.1; omega) (by omega))
      exact Int.le_min.mpr ⟨Int.le_trans (Int.min_le_left _ _) g1, Int.le_trans (Int.min_le_right _ _) g2⟩
end LST
/-! ===== the other side's table holds it ===== -/
/-- the table's own numbers -/
noncomputable def s_TP (g : Nat → Nat → Int32) (q : Int) (P : Nat → Nat → Int) : Prop := (P 0 0 = (t_S g : Nat) ∧ P 0 1 = (t_C g : Nat)) ∧ (∀ s : Nat, s < t_S g → P 1 s = t_sa g s ∧ P 2 s = (t_st g s : Nat) ∧ P 3 s = t_so g s ∧ P 4 s = t_ss g s) ∧ (∀ c : Nat, c < t_C g → P 5 c = t_ca g c ∧ P 6 c = (t_ct g c : Nat) ∧ P 7 c = t_cc g c) ∧ ∀ m : Nat, P 8 m = (t_tt g q m : Nat)
section LTP
variable {P : Nat → Nat → Int} {g : Nat → Nat → Int32} {f : Nat → Int32} {q : Int} {m o s c k b : Nat}
/-- what a state that isn't done comes to, at most -/
theorem s_bel (H : t_pr g f q 23618) (hm : m ≤ 240) (ho : o ≤ 1) (hs : s ≤ t_S g) (hc : c ≤ t_C g) (hS : t_S g ≤ 6) (hC : t_C g ≤ 6) (hd : ¬ (s = t_S g ∧ c = t_C g)) : t_la f (t_S g) (t_C g) m o s c ≤ t_la f (t_S g) (t_C g) (m + t_tt g q m) (1 - o) s c ∧ (t_mayS g m o s → t_la f (t_S g) (t_C g) m o s c ≤ t_bys g f m s c) ∧ (t_mayC g m o c → t_la f (t_S g) (t_C g) m o s c ≤ t_byc g f m s c) := by
  obtain ⟨⟨b1, b2, h1, h2, h3, h4, h5⟩, -, -⟩ := H m o s c hm ho hs hc (by unfold t_ky; omega)
  have e : t_la f (t_S g) (t_C g) m o s c = (f (t_ix m o s c)).toInt := by unfold t_la; rw [if_neg hd, if_neg (by omega)]
  rw [e, h5]
  by_cases hmS : t_mayS g m o s <;> by_cases hmC : t_mayC g m o c
  · have := h1 hmS; have := h3 hmC
    exact ⟨by omega, fun _ => by omega, fun _ => by omega⟩
  · have := h1 hmS; have := h4 hmC
    exact ⟨by omega, fun _ => by omega, fun h => absurd h hmC⟩
  · have := h2 hmS; have := h3 hmC
    exact ⟨by omega, fun h => absurd h hmS, fun _ => by omega⟩
  · have := h2 hmS; have := h4 hmC
    exact ⟨by omega, fun h => absurd h hmS, fun h => absurd h hmC⟩
theorem s_la_hi (H : t_pr g f q 23618) (ho : o ≤ 1) (hs : s ≤ t_S g) (hc : c ≤ t_C g) (hS : t_S g ≤ 6) (hC : t_C g ≤ 6) : 0 ≤ t_la f (t_S g) (t_C g) m o s c ∧ t_la f (t_S g) (t_C g) m o s c ≤ 1000000000 := t_la_b H ho hs hc (fun _ => by unfold t_ky; omega)
/-- the table's is no more: to begin in minute b -/
theorem s_laS (H : t_pr g f q 23618) (hT : s_TP g q P) (hm : m ≤ b) (ho : o ≤ 1) (hs : s < t_S g) (hc : c ≤ t_C g) (hS : t_S g ≤ 6) (hC : t_C g ≤ 6) (hb : (b : Int) = s_bS P (m : Int) o s) (h2 : b ≤ 240) (hsl : P 4 s = 0 ∨ (b : Int) = P 1 s) : t_la f (t_S g) (t_C g) m o s c ≤ t_bys g f b s c := by
  obtain ⟨a1, a2, a3, a4⟩ := hT.2.1 s hs
  have h8 := hT.2.2.2 m
  have hmay : t_mayS g b 1 s := by
    refine ⟨rfl, hs, ?_, ?_⟩
    · rw [← a1, hb]; exact s_bS_le
    · rw [← a1, ← a4]; exact hsl.elim Or.inl (fun e => Or.inr e.symm)
  have h3 := (s_bel (m := b) (o := 1) H h2 (by omega) (Nat.le_of_lt hs) hc hS hC (by omega)).2.1 hmay
  refine Int.le_trans ?_ h3
  rcases (show o = 0 ∨ o = 1 by omega) with rfl | rfl
  · have hb2 : m + t_tt g q m ≤ b := by
      unfold s_bS at hb
      rw [if_neg (by omega), show (m : Int).toNat = m from rfl, h8] at hb
      omega
    have h4 := (s_bel (m := m) (o := 0) H (by omega) (by omega) (Nat.le_of_lt hs) hc hS hC (by omega)).1
    have h5 := t_mono H (o := 1) (s := s) (c := c) (by omega) (Nat.le_of_lt hs) hc hS hC (m := m + t_tt g q m) (b - (m + t_tt g q m))
    rw [show m + t_tt g q m + (b - (m + t_tt g q m)) = b by omega] at h5
    exact Int.le_trans h4 h5
  · have h5 := t_mono H (o := 1) (s := s) (c := c) (by omega) (Nat.le_of_lt hs) hc hS hC (m := m) (b - m)
    rw [show m + (b - m) = b by omega] at h5
    exact h5
theorem s_laC (H : t_pr g f q 23618) (hT : s_TP g q P) (hm : m ≤ b) (ho : o ≤ 1) (hs : s ≤ t_S g) (hc : c < t_C g) (hS : t_S g ≤ 6) (hC : t_C g ≤ 6) (hb : (b : Int) = s_bC P (m : Int) o c) (h2 : b ≤ 240) : t_la f (t_S g) (t_C g) m o s c ≤ t_byc g f b s c := by
  obtain ⟨a1, a2, a3⟩ := hT.2.2.1 c hc
  have h8 := hT.2.2.2 m
  have hmay : t_mayC g b 0 c := by
    refine ⟨rfl, hc, ?_⟩
    rw [← a1, hb]; exact s_bC_le
  have h3 := (s_bel (m := b) (o := 0) H h2 (by omega) hs (Nat.le_of_lt hc) hS hC (by omega)).2.2 hmay
  refine Int.le_trans ?_ h3
  rcases (show o = 0 ∨ o = 1 by omega) with rfl | rfl
  · have h5 := t_mono H (o := 0) (s := s) (c := c) (by omega) hs (Nat.le_of_lt hc) hS hC (m := m) (b - m)
    rw [show m + (b - m) = b by omega] at h5
    exact h5
  · have hb2 : m + t_tt g q m ≤ b := by
      unfold s_bC at hb
      rw [if_pos rfl, show (m : Int).toNat = m from rfl, h8] at hb
      omega
    have h4 := (s_bel (m := m) (o := 1) H (by omega) (by omega) hs (Nat.le_of_lt hc) hS hC (by omega)).1
    have h5 := t_mono H (o := 0) (s := s) (c := c) (by omega) hs (Nat.le_of_lt hc) hS hC (m := m + t_tt g q m) (b - (m + t_tt g q m))
    rw [show m + t_tt g q m + (b - (m + t_tt g q m)) = b by omega] at h5
    exact Int.le_trans h4 h5
theorem s_V_le (H : t_pr g f q 23618) (hT : s_TP g q P) (hP : s_PO P) (hS : t_S g ≤ 6) (hC : t_C g ≤ 6) : ∀ (k m o s c : Nat), o ≤ 1 → s ≤ t_S g → c ≤ t_C g → (t_S g - s) + (t_C g - c) ≤ k → t_la f (t_S g) (t_C g) m o s c ≤ s_ls P k (m : Int) o s c
  | 0, m, o, s, c, ho, hs, hc, hk => by
    have hd : s = t_S g ∧ c = t_C g := by omega
    unfold t_la
    rw [if_pos hd]
    exact s_ls_lo hP 0 _ _ _ _
  | k + 1, m, o, s, c, ho, hs, hc, hk => by
    by_cases hd : s = t_S g ∧ c = t_C g
    · have e : t_la f (t_S g) (t_C g) m o s c = 0 := by unfold t_la; rw [if_pos hd]
      rw [e]; exact s_ls_lo hP _ _ _ _ _
    have hhi := (s_la_hi (m := m) (o := o) H ho hs hc hS hC).2
    have e0 := hT.1.1
    have e1 := hT.1.2
    show _ ≤ (if _ then (0 : Int) else min _ _)
    rw [if_neg (by omega)]
    refine Int.le_min.mpr ⟨?_, ?_⟩
    · unfold s_oS
      split
      · rename_i h1
        have hs2 : s < t_S g := by omega
        obtain ⟨a1, a2, a3, a4⟩ := hT.2.1 s hs2
        have hm0 := s_bS_m (o := o) (s := s) (m := (m : Int)) hP (by omega)
        have hb : ((s_bS P (m : Int) o s).toNat : Int) = s_bS P (m : Int) o s := Int.toNat_of_nonneg (by omega)
        have h3 := s_laS (c := c) (b := (s_bS P (m : Int) o s).toNat) H hT (by omega) ho hs2 hc hS hC hb (by omega) (by rw [hb]; exact h1.2.2)
        have h4 := s_V_le H hT hP hS hC k ((s_bS P (m : Int) o s).toNat + t_st g s) 1 (s + 1) c (by omega) (by omega) hc (by omega)
        refine Int.le_min.mpr ⟨?_, hhi⟩
        refine Int.le_trans h3 ?_
        unfold t_bys
        rw [Int.natCast_add, hb] at h4
        rw [hb, a1, a2, a3]
        omega
      · exact hhi
    · unfold s_oC
      split
      · rename_i h1
        have hc2 : c < t_C g := by omega
        obtain ⟨a1, a2, a3⟩ := hT.2.2.1 c hc2
        have hm0 := s_bC_m (o := o) (c := c) (m := (m : Int)) hP (by omega)
        have hb : ((s_bC P (m : Int) o c).toNat : Int) = s_bC P (m : Int) o c := Int.toNat_of_nonneg (by omega)
        have h3 := s_laC (s := s) (b := (s_bC P (m : Int) o c).toNat) H hT (by omega) ho hs hc2 hS hC hb (by omega)
        have h4 := s_V_le H hT hP hS hC k ((s_bC P (m : Int) o c).toNat + t_ct g c) 0 s (c + 1) (by omega) hs (by omega) (by omega)
        refine Int.le_min.mpr ⟨?_, hhi⟩
        refine Int.le_trans h3 ?_
        unfold t_byc
        rw [Int.natCast_add, hb] at h4
        rw [hb, a1, a2, a3]
        omega
      · exact hhi
end LTP
section LTP2
variable {P : Nat → Nat → Int} {g : Nat → Nat → Int32} {f : Nat → Int32} {q : Int} {m o s c k b : Nat}
theorem s_ls_done (h : P 0 0 ≤ (s : Int) ∧ P 0 1 ≤ (c : Int)) (m : Int) : s_ls P k m o s c = 0 := by
  cases k with
  | zero => exact if_pos h
  | succ k => exact if_pos h
/-- nor is it less -/
theorem s_V_ge (H : t_pr g f q 23618) (hT : s_TP g q P) (hP : s_PO P) (hS : t_S g ≤ 6) (hC : t_C g ≤ 6) : ∀ (n k m o s c : Nat), o ≤ 1 → s ≤ t_S g → c ≤ t_C g → (t_S g - s) + (t_C g - c) ≤ k → (m ≤ 240 → t_ky m o s c < n) → s_ls P k (m : Int) o s c ≤ t_la f (t_S g) (t_C g) m o s c := by
  intro n
  induction n with
  | zero =>
    intro k m o s c ho hs hc hk hn
    have e0 := hT.1.1
    have e1 := hT.1.2
    by_cases hd : s = t_S g ∧ c = t_C g
    · rw [s_ls_done (by omega)]; exact (s_la_hi H ho hs hc hS hC).1
    · have hm : 240 < m := by
        by_cases h : m ≤ 240
        · exact absurd (hn h) (by omega)
        · omega
      have e : t_la f (t_S g) (t_C g) m o s c = 1000000000 := by unfold t_la; rw [if_neg hd, if_pos hm]
      rw [e]; exact s_ls_hi
  | succ n ih =>
    intro k m o s c ho hs hc hk hn
    have e0 := hT.1.1
    have e1 := hT.1.2
    by_cases hd : s = t_S g ∧ c = t_C g
    · rw [s_ls_done (by omega)]; exact (s_la_hi H ho hs hc hS hC).1
    by_cases hm : 240 < m
    · have e : t_la f (t_S g) (t_C g) m o s c = 1000000000 := by unfold t_la; rw [if_neg hd, if_pos hm]
      rw [e]; exact s_ls_hi
    have hky := hn (by omega)
    have e : t_la f (t_S g) (t_C g) m o s c = (f (t_ix m o s c)).toInt := by unfold t_la; rw [if_neg hd, if_neg hm]
    by_cases hx : (f (t_ix m o s c)).toInt < 1000000000
    · have h8 := hT.2.2.2 m
      have h81 := (hP.2.2 m).1
      obtain ⟨-, h2⟩ := t_opt (H m o s c (by omega) ho hs hc (by unfold t_ky; omega)).1 hx
      rw [e]
      rcases h2 with h | h | ⟨hmay, h⟩ | ⟨hmay, h⟩
      · rw [h]
        refine Int.le_trans (s_ls_mono hP k (m : Int) ((m + 1 : Nat) : Int) o s c (by omega) (by omega)) ?_
        exact ih k (m + 1) o s c ho hs hc hk (fun h1 => by have := t_ky2 (o1 := o) (m1 := m + 1) (m := m) (o := o) (s := s) (c := c) rfl (by omega) h1 ho; omega)
      · rw [h]
        have h3 := s_ls_turn (k := k) (s := s) (c := c) (m := (m : Int)) hP (by omega) ho
        rw [show (m : Int) + P 8 (m : Int).toNat = ((m + t_tt g q m : Nat) : Int) by rw [show (m : Int).toNat = m from rfl, h8]; omega] at h3
        refine Int.le_trans h3 ?_
        exact ih k (m + t_tt g q m) (1 - o) s c (by omega) hs hc hk (fun h1 => by have := t_ky2 (o1 := 1 - o) (m1 := m + t_tt g q m) (m := m) (o := o) (s := s) (c := c) rfl (by omega) h1 (by omega); omega)
      · rw [h]
        obtain ⟨m1, m2, m3, m4⟩ := hmay
        subst m1
        obtain ⟨a1, a2, a3, a4⟩ := hT.2.1 s m2
        obtain ⟨k', rfl⟩ : ∃ k', k = k' + 1 := ⟨k - 1, by omega⟩
        have hb : s_bS P (m : Int) 1 s = (m : Int) := by unfold s_bS; rw [if_pos rfl]; omega
        have h4 := ih k' (m + t_st g s) 1 (s + 1) c (by omega) (by omega) hc (by omega) (fun h1 => by have := t_ky3 (o1 := 1) (m1 := m + t_st g s) (m := m) (o := 1) (s := s) (c := c) (s1 := s + 1) (c1 := c) rfl (by omega) h1 (by omega) (by omega) (by omega) (by omega) (by omega) (by omega); omega)
        show (if _ then (0 : Int) else min _ _) ≤ _
        rw [if_neg (by omega)]
        refine Int.le_trans (Int.min_le_left _ _) ?_
        rw [hb]
        unfold s_oS t_bys
        rw [if_pos ⟨by omega, by omega, by rw [a4, a1]; exact m4.elim Or.inl (fun e => Or.inr e.symm)⟩]
        refine Int.le_trans (Int.min_le_left _ _) ?_
        rw [Int.natCast_add] at h4
        rw [a1, a2, a3]
        omega
      · rw [h]
        obtain ⟨m1, m2, m3⟩ := hmay
        subst m1
        obtain ⟨a1, a2, a3⟩ := hT.2.2.1 c m2
        obtain ⟨k', rfl⟩ : ∃ k', k = k' + 1 := ⟨k - 1, by omega⟩
        have hb : s_bC P (m : Int) 0 c = (m : Int) := by unfold s_bC; rw [if_neg (by omega)]; omega
        have h4 := ih k' (m + t_ct g c) 0 s (c + 1) (by omega) hs (by omega) (by omega) (fun h1 => by have := t_ky3 (o1 := 0) (m1 := m + t_ct g c) (m := m) (o := 0) (s := s) (c := c) (s1 := s) (c1 := c + 1) rfl (by omega) h1 (by omega) (by omega) (by omega) (by omega) (by omega) (by omega); omega)
        show (if _ then (0 : Int) else min _ _) ≤ _
        rw [if_neg (by omega)]
        refine Int.le_trans (Int.min_le_right _ _) ?_
        rw [hb]
        unfold s_oC t_byc
        rw [if_pos ⟨by omega, by omega⟩]
        refine Int.le_trans (Int.min_le_left _ _) ?_
        rw [Int.natCast_add] at h4
        rw [a1, a2, a3]
        omega
    · rw [e]; exact Int.le_trans s_ls_hi (by omega)
/-- the least WAITS -/
noncomputable def s_LS (P : Nat → Nat → Int) (m : Int) (o s c : Nat) : Int := s_ls P (((P 0 0).toNat - s) + ((P 0 1).toNat - c)) m o s c
theorem s_VLS (H : t_pr g f q 23618) (hT : s_TP g q P) (hP : s_PO P) (hS : t_S g ≤ 6) (hC : t_C g ≤ 6) (ho : o ≤ 1) (hs : s ≤ t_S g) (hc : c ≤ t_C g) : t_la f (t_S g) (t_C g) m o s c = s_LS P (m : Int) o s c := by
  have e0 := hT.1.1
  have e1 := hT.1.2
  unfold s_LS
  rw [e0, e1]
  exact Int.le_antisymm (s_V_le H hT hP hS hC _ m o s c ho hs hc (Nat.le_refl _)) (s_V_ge H hT hP hS hC _ _ m o s c ho hs hc (Nat.le_refl _) (fun _ => Nat.lt_succ_self _))
end LTP2
/-! ===== the search of the class ===== -/
/-- what a search has found (B0 ahead of it, E: enough, x: what there is to be found) -/
noncomputable def s_BB (B0 E x B : Int) : Prop := (E < min B0 x → B = min B0 x) ∧ (min B0 x ≤ E → B ≤ E ∧ min B0 x ≤ B) ∧ B ≤ B0
/-- the class's numbers -/
noncomputable def s_CP (P : Nat → Nat → Int) (gi : Nat → Nat → Int32) (gr : Nat → Nat → Value) : Prop := ((gi 29 0).toInt = P 0 0 ∧ (gi 35 0).toInt = P 0 1) ∧ (∀ s : Nat, (s : Int) < P 0 0 → (gi 31 s).toInt = P 1 s ∧ (gi 32 s).toInt = P 2 s ∧ (gi 33 s).toInt = P 3 s ∧ (gi 34 s).toInt = P 4 s) ∧ (∀ c : Nat, (c : Int) < P 0 1 → (gi 37 c).toInt = P 5 c ∧ (gi 38 c).toInt = P 6 c ∧ (gi 39 c).toInt = P 7 c ∧ (gi 40 c).toInt = 0) ∧
  ((gr 28 0 = .null ∧ ∀ m : Nat, P 8 m = (gi 28 1).toInt) ∨ ∃ v : Nat, gr 28 0 = .ref v ∧ (v = 3 ∨ 102 ≤ v) ∧ ∀ m : Nat, P 8 m = (gi 28 1).toInt + (if (m : Int) < (gi v 5).toInt then 0 else (gi v 4).toInt))
/-- their bounds -/
noncomputable def s_PB (P : Nat → Nat → Int) : Prop := (0 ≤ P 0 0 ∧ P 0 0 ≤ 6 ∧ 0 ≤ P 0 1 ∧ P 0 1 ≤ 6) ∧ (∀ s : Nat, (s : Int) < P 0 0 → P 1 s ≤ 1000 ∧ P 2 s ≤ 1000 ∧ P 3 s ≤ 1000) ∧ (∀ c : Nat, (c : Int) < P 0 1 → P 5 c ≤ 1000 ∧ P 6 c ≤ 1000 ∧ P 7 c ≤ 1000) ∧ ∀ m : Nat, 0 ≤ P 8 m ∧ P 8 m ≤ 1000
section SEA
variable {P : Nat → Nat → Int} {B0 B1 B E x x1 x2 w : Int} {sh : List (Nat ⊕ (Nat × Nat))} {gi g1 : Nat → Nat → Int32} {gl l1 : Nat → Nat → Int64} {gr r1 : Nat → Nat → Value} {wl : List (Nat × Nat)}
theorem s_BB_0 (h : B0 ≤ x ∨ B0 ≤ E) : s_BB B0 E x B0 := by unfold s_BB; omega
theorem s_BB_1 (h : ¬ B0 ≤ x) (h2 : ¬ B0 ≤ E) : s_BB B0 E x x := by unfold s_BB; omega
theorem s_BB_2 (h1 : s_BB B0 E x1 B1) (h2 : s_BB B1 E x2 B) : s_BB B0 E (min x1 x2) B := by unfold s_BB at *; omega
theorem s_BB_cg (h : s_BB B0 E x1 B) (e : min B0 x1 = min B0 x2) : s_BB B0 E x2 B := by unfold s_BB at *; rw [← e]; exact h
/-- to have found at most so much as is enough -/
theorem s_BB_le (h : s_BB (w + 1) w x B) : B ≤ w ↔ x ≤ w := by unfold s_BB at h; omega
theorem s_CP.fr (h : s_CP P gi gr) (hX : t_X wl sh gi gl gr g1 l1 r1) (hn : t_ndB wl = true) (hw : (t_nc wl 29 && (t_nc wl 31 && (t_nc wl 32 && (t_nc wl 33 && (t_nc wl 34 && (t_nc wl 35 && (t_nc wl 37 && (t_nc wl 38 && (t_nc wl 39 && (t_nc wl 40 && (t_un wl (28, 0) && t_un wl (28, 1)))))))))))) = true) : s_CP P g1 r1 := by
  simp only [Bool.and_eq_true] at hw
  obtain ⟨a1, a2, a3, a4, a5, a6, a7, a8, a9, a10, a11, a12⟩ := hw
  have f := t_F_X hX
  have hK := t_nd_fr hX hn
  obtain ⟨⟨h1, h2⟩, h3, h4, h5⟩ := h
  have c : ∀ {k : Nat}, t_nc wl k = true → k < 102 → g1 k = gi k := fun q q2 => t_F_nc f q q2
  have e1 : g1 28 1 = gi 28 1 := (f 28 1 (by decide) (t_un_ok a12)).1
  have e0 : r1 28 0 = gr 28 0 := (f 28 0 (by decide) (t_un_ok a11)).2.2
  refine ⟨⟨by rw [c a1 (by decide)]; exact h1, by rw [c a6 (by decide)]; exact h2⟩, fun s hs => by rw [c a2 (by decide), c a3 (by decide), c a4 (by decide), c a5 (by decide)]; exact h3 s hs, fun s hs => by rw [c a7 (by decide), c a8 (by decide), c a9 (by decide), c a10 (by decide)]; exact h4 s hs, ?_⟩
  rw [e0, e1]
  rcases h5 with h5 | ⟨v, h6, h7, h8⟩
  · exact Or.inl h5
  · refine Or.inr ⟨v, h6, h7, ?_⟩
    rw [(hK v (by omega)).1]; exact h8
theorem s_add {a b v : Int32} {x y : Int} (e : v = a + b) (ha : a.toInt = x) (hb : b.toInt = y) (h : -1000000000 ≤ x + y ∧ x + y ≤ 1000000000) : v.toInt = x + y := by
  rw [e, Int32.toInt_add, ha, hb, Int.bmod_eq_of_le] <;> omega
theorem s_sub {a b v : Int32} {x y : Int} (e : v = a - b) (ha : a.toInt = x) (hb : b.toInt = y) (h : -1000000000 ≤ x - y ∧ x - y ≤ 1000000000) : v.toInt = x - y := by
  rw [e, Int32.toInt_sub, ha, hb, Int.bmod_eq_of_le] <;> omega
theorem s_mul {a b v : Int32} {x y : Int} (e : v = a * b) (ha : a.toInt = x) (hb : b.toInt = y) (h : 0 ≤ x ∧ x ≤ 1000) (h2 : 0 ≤ y ∧ y ≤ 1000) : v.toInt = x * y ∧ 0 ≤ x * y ∧ x * y ≤ 1000 * x := by
  have h3 := Int.mul_nonneg h.1 h2.1
  have h4 := Int.mul_le_mul_of_nonneg_left (a := y) (b := 1000) (c := x) h2.2 h.1
  refine ⟨?_, h3, by omega⟩
  rw [e, Int32.toInt_mul, ha, hb, Int.bmod_eq_of_le] <;> omega
/-- one stage: it may begin -/
theorem s_oS_y {S : Int → Nat → Nat → Nat → Int} {b : Int} {s c : Nat} (h : (s : Int) < P 0 0 ∧ b ≤ 240 ∧ (P 4 s = 0 ∨ b = P 1 s)) (hw : 0 ≤ w) (hB : B0 ≤ 1000000000) (h2 : s_BB B0 E (w + (b - P 1 s) * P 3 s + S (b + P 2 s) 1 (s + 1) c) B) : s_BB B0 E (w + s_oS P S b s c) B := by
  unfold s_oS
  rw [if_pos h]
  exact s_BB_cg h2 (by omega)
theorem s_oS_n {S : Int → Nat → Nat → Nat → Int} {b : Int} {s c : Nat} (h : ¬ ((s : Int) < P 0 0 ∧ b ≤ 240 ∧ (P 4 s = 0 ∨ b = P 1 s))) (hw : 0 ≤ w) (hB : B0 ≤ 1000000000) (e : B = B0) : s_BB B0 E (w + s_oS P S b s c) B := by
  unfold s_oS
  rw [if_neg h, e]
  exact s_BB_0 (Or.inl (by omega))
theorem s_oC_y {S : Int → Nat → Nat → Nat → Int} {b : Int} {s c : Nat} (h : (c : Int) < P 0 1 ∧ b ≤ 240) (hw : 0 ≤ w) (hB : B0 ≤ 1000000000) (h2 : s_BB B0 E (w + (b - P 5 c) * P 7 c + S (b + P 6 c) 0 s (c + 1)) B) : s_BB B0 E (w + s_oC P S b s c) B := by
  unfold s_oC
  rw [if_pos h]
  exact s_BB_cg h2 (by omega)
theorem s_oC_n {S : Int → Nat → Nat → Nat → Int} {b : Int} {s c : Nat} (h : ¬ ((c : Int) < P 0 1 ∧ b ≤ 240)) (hw : 0 ≤ w) (hB : B0 ≤ 1000000000) (e : B = B0) : s_BB B0 E (w + s_oC P S b s c) B := by
  unfold s_oC
  rw [if_neg h, e]
  exact s_BB_0 (Or.inl (by omega))
/-- both stages -/
theorem s_LS_2 {m : Int} {o s c k : Nat} (hk : ((P 0 0).toNat - s) + ((P 0 1).toNat - c) = k + 1) (hd : ¬ (P 0 0 ≤ (s : Int) ∧ P 0 1 ≤ (c : Int))) (h1 : s_BB B0 E (w + s_oS P (s_ls P k) (s_bS P m o s) s c) B1) (h2 : s_BB B1 E (w + s_oC P (s_ls P k) (s_bC P m o c) s c) B) : s_BB B0 E (w + s_LS P m o s c) B := by
  have e : s_LS P m o s c = min (s_oS P (s_ls P k) (s_bS P m o s) s c) (s_oC P (s_ls P k) (s_bC P m o c) s c) := by
    unfold s_LS
    rw [hk]
    exact if_neg hd
  rw [e]
  have h3 := s_BB_2 h1 h2
  exact s_BB_cg h3 (by omega)
theorem s_LS_k {m : Int} {o s c k : Nat} (hk : ((P 0 0).toNat - s) + ((P 0 1).toNat - c) = k) : s_LS P m o s c = s_ls P k m o s c := by
  unfold s_LS; rw [hk]
theorem s_LS_0 {m : Int} {o s c : Nat} (h : P 0 0 ≤ (s : Int) ∧ P 0 1 ≤ (c : Int)) : s_LS P m o s c = 0 := s_ls_done h m
end SEA
section MMX
variable {X : x_Ext} {d mi pc nx a b q len ml : Nat} {z : Int} {ins : Instr} {lo lo' : x_Lo} {st st' r : List Value} {G : x_G} {P : Option Value → x_G → Prop} {T : List (Nat × x_Row)} {rt : Option FieldType}
theorem ev_mmRE {x y : Int32} {lx ux ly uy l u : Int} (F : x_F mi T ml rt) (hr : x_lk T pc = some (ins, len, a, b, q, z)) (hc : x_cat ins = 4) (ha : (decide (a = 1002) || decide (a = 1003)) = true) (hd : 1 ≤ d) (h8 : Nat.ble (x_words r) 8 = true) (a1 : lx ≤ x.toInt) (a2 : x.toInt ≤ ux) (b1 : ly ≤ y.toInt) (b2 : y.toInt ≤ uy) (hl : (if a = 1002 then max lx ly else min lx ly) = l) (hu : (if a = 1002 then max ux uy else min ux uy) = u) (hn : pc + 3 = nx) (kk : ∀ w : Int32, (a = 1002 → w.toInt = max x.toInt y.toInt) → l ≤ w.toInt → w.toInt ≤ u → x_Ev X d mi nx lo (.int w :: r) G P) : x_Ev X d mi pc lo (.int y :: .int x :: r) G P := by
  refine ev_mm F hr hc ha hd (Nat.le_of_ble_eq_true h8) hn (kk _ (fun h => ?_) ?_ ?_)
  · unfold x_mm
    rw [if_pos h]
    by_cases h2 : x < y
    · rw [if_pos h2]; have := Int32.lt_iff_toInt_lt.mp h2; omega
    · rw [if_neg h2]; have := Int32.le_iff_toInt_le.mp (Int32.not_lt.mp h2); omega
  all_goals
    unfold x_mm
    by_cases h1 : a = 1002
    · rw [if_pos h1] at hl hu
      rw [if_pos h1]
      by_cases h2 : x < y
      · rw [if_pos h2]; have := Int32.lt_iff_toInt_lt.mp h2; omega
      · rw [if_neg h2]; have := Int32.le_iff_toInt_le.mp (Int32.not_lt.mp h2); omega
    · rw [if_neg h1] at hl hu
      rw [if_neg h1]
      by_cases h2 : y < x
      · rw [if_pos h2]; have := Int32.lt_iff_toInt_lt.mp h2; omega
      · rw [if_neg h2]; have := Int32.le_iff_toInt_le.mp (Int32.not_lt.mp h2); omega
end MMX
theorem s_LS_lo {P : Nat → Nat → Int} (h : s_PO P) (m : Int) (o s c : Nat) : 0 ≤ s_LS P m o s c := s_ls_lo h _ m o s c
theorem s_LS_hi (P : Nat → Nat → Int) (m : Int) (o s c : Nat) : s_LS P m o s c ≤ 1000000000 := s_ls_hi
theorem s_rem1 {A B : Int} {s c : Nat} (h : ¬ (A ≤ (s : Int) ∧ B ≤ (c : Int))) : ∃ k, (A.toNat - s) + (B.toNat - c) = k + 1 := ⟨(A.toNat - s) + (B.toNat - c) - 1, by omega⟩
theorem s_rem2 {A B : Int} {s c k : Nat} (hk : (A.toNat - s) + (B.toNat - c) = k + 1) (h : (s : Int) < A) : (A.toNat - (s + 1)) + (B.toNat - c) = k := by omega
theorem s_rem3 {A B : Int} {s c k : Nat} (hk : (A.toNat - s) + (B.toNat - c) = k + 1) (h : (c : Int) < B) : (A.toNat - s) + (B.toNat - (c + 1)) = k := by omega
theorem s_hdS {A B : Int} {s c : Nat} (h : (s : Int) < A) : ¬ (A ≤ (s : Int) ∧ B ≤ (c : Int)) := fun hh => absurd hh.1 (by omega)
theorem s_hdC {A B : Int} {s c : Nat} (h : (c : Int) < B) : ¬ (A ≤ (s : Int) ∧ B ≤ (c : Int)) := fun hh => absurd hh.2 (by omega)
theorem s_lt3 {a b : Int32} {s : Nat} {A : Int} (h : a.toInt < b.toInt) (c : ((s : Nat) : Int) = a.toInt) (e : b.toInt = A) : (s : Int) < A := by omega
/-- what a beginning costs, all told -/
theorem s_cst {b p w x : Int} {n : Int} (h0 : 0 ≤ w) (h1 : w ≤ 240000 * n) (hb : b ≤ 240) (hp : 0 ≤ p) (h2 : 0 ≤ x) (h3 : x ≤ 1000 * (b - p)) : 0 ≤ w + x ∧ w + x ≤ 240000 * (n + 1) ∧ (n ≤ 12 → -1000000000 ≤ w + x ∧ w + x ≤ 1000000000) := by omega
/-- what the small methods tell (a name for it: so that nothing else looks into it) -/
noncomputable def s_may (k n x p l v : Int) : Prop := 0 ≤ k → k < n → (v = 1 ↔ (x ≤ 240 ∧ p ≤ x ∧ (l = 0 ∨ x = p)))
noncomputable def s_wts (k n x p w v : Int) : Prop := 0 ≤ k → k < n → p ≤ x → x ≤ p + 1000 → 0 ≤ w → w ≤ 1000 → v = (x - p) * w ∧ 0 ≤ (x - p) * w ∧ (x - p) * w ≤ 1000 * (x - p)
