/-! ===== printed by riv.py: the PLAN: the other side ===== -/
noncomputable def wl_l_leastBy : List (Nat × Nat) := [(69, 44), (69, 45), (69, 48), (89, 10005), (89, 610011), (90, 9999), (91, 9999), (92, 9999)]
noncomputable def Q_l_leastBy (gi : Nat → Nat → Int32) (gl : Nat → Nat → Int64) (gr : Nat → Nat → Value) (ar2 : Int32) : Int32 → (Nat → Nat → Int32) → (Nat → Nat → Int64) → (Nat → Nat → Value) → Prop := fun (v : Int32) (gi2 : Nat → Nat → Int32) (gl2 : Nat → Nat → Int64) (gr2 : Nat → Nat → Value) => ((t_pr gi2 (gi2 92) (gi2 69 48).toInt 23618 ∧ (v.toInt ≠ -1 → t_la (gi2 92) (t_S gi2) (t_C gi2) 0 0 0 0 < 1000000000)) ∧ (∀ j : Nat, j < 12 → 0 ≤ (gi2 89 j).toInt ∧ (gi2 89 j).toInt ≤ 300) ∧ (gi2 69 48).toInt = ar2.toInt) ∧ (∀ D : s_D, t_ME 0 gi D → t_Cb D → s_DB D → (gi 69 46).toInt = -1 → v.toInt = s_an (s_LS (s_PD D ar2.toInt) 0 0 0 0) ∧ s_TP gi2 ar2.toInt (s_PD D ar2.toInt) ∧ (∀ s : Nat, s < t_S gi2 → (gi2 90 s).toInt = s_WD D 0 s) ∧ ∀ c : Nat, c < t_C gi2 → (gi2 91 c).toInt = s_WD D 1 c)
theorem c_l_leastBy {X : x_Ext} {d : Nat} {sh : List (Nat ⊕ (Nat × Nat))} {gi : Nat → Nat → Int32} {gl : Nat → Nat → Int64} {gr : Nat → Nat → Value} (hI : t_I sh gi gr) (ar2 : Int32) (l_a2 : 0 ≤ ar2.toInt) (u_a2 : ar2.toInt ≤ 20) (e_p0 : 1 ≤ ar2.toInt) : x_Me X (d + 5) n_X12_leastBy [.ref 69, .int 0, .int ar2] (sh, gi, gl, gr) (t_PI wl_l_leastBy sh gi gl gr (-2147483648) 999999999 (Q_l_leastBy gi gl gr ar2)) := by
  have hX : t_X wl_l_leastBy sh gi gl gr gi gl gr := t_X.rf
  refine me_i f_X12_leastBy (hI.wf.s rfl) rfl rfl rfl ?_
  obtain ⟨l2, u2⟩ := hI.b (hI.wf.s (k := 69) rfl) (t_bdK rfl : t_bd 11 48 = some (0, 20))
  have hI0 := hI
  refine ev_loc f_X12_leastBy (nx := 1) rfl rfl rfl rfl ?_
  refine ev_qN f_X12_leastBy (nx := 4) (r := []) rfl rfl rfl rfl rfl rfl rfl (c_n_tellsMinutes hI ) rfl hX rfl (fun gi3 gl3 gr3 hI hX hC3 q3 => ?_)
  have q3 : (∀ j, gi3 70 j = gi 70 j) ∧ (∀ j : Nat, j < 6 → gi3 89 j = gi 70 (53 + 5 * j)) ∧ (∀ j : Nat, j < 6 → gi3 89 (6 + j) = gi 70 (82 + 3 * j)) := q3
  refine ev_loc f_X12_leastBy (nx := 5) rfl rfl rfl rfl ?_
  refine ev_loc f_X12_leastBy (nx := 6) rfl rfl rfl rfl ?_
  refine ev_qN f_X12_leastBy (nx := 9) (r := []) rfl rfl rfl rfl rfl rfl rfl (c_n_orders0 hI ) rfl hX rfl (fun gi4 gl4 gr4 hI hX hC4 q4 => ?_)
  have ff5 : (gi3 69 46).toInt = (gi 69 46).toInt := congrArg Int32.toInt ((hC3.1 69 46 rfl).1.trans rfl)
  have q4 : (∀ j, gi4 70 j = gi3 70 j) ∧ (∀ j, gi4 89 j = gi3 89 j) ∧ (∀ D : s_D, t_ME 0 gi3 D → t_Cb D → (∀ j : Nat, j < 6 → gi3 89 j = gi3 70 (53 + 5 * j)) → (gi4 69 44).toInt = D 1 ∧ s_RO (s_A D) (gi4 90) (D 1).toNat) ∧ (∀ D : s_D, t_ME 0 gi3 D → t_Cb D → (∀ j : Nat, j < 6 → gi3 89 (6 + j) = gi3 70 (82 + 3 * j)) → (gi3 69 46).toInt = -1 → (gi4 69 45).toInt = D 2 ∧ s_RO (s_B D) (gi4 91) (D 2).toNat) := q4
  refine ev_loc f_X12_leastBy (nx := 10) rfl rfl rfl rfl ?_
  refine ev_loc f_X12_leastBy (nx := 11) rfl rfl rfl rfl ?_
  refine ev_putIT f_X12_leastBy (nx := 14) rfl (hI.wf.s rfl) rfl rfl rfl (hI.putB (hI.wf.s rfl) rfl rfl l_a2 (by decide) u_a2 (by decide)) (hX.upI rfl) (fun g6 e6 hI hX => ?_)
  refine ev_loc f_X12_leastBy (nx := 15) rfl rfl rfl rfl ?_
  refine ev_qI f_X12_leastBy (nx := 18) (r := []) rfl rfl rfl rfl rfl rfl rfl (c_m_reckons hI  (by have ff8 : (g6 69 48).toInt = ar2.toInt := congrArg Int32.toInt (by rw [e6]; exact x_up2_at _ _ _ _ : g6 69 48 = ar2); omega) (by
                                                            have h89 : g6 89 = gi3 89 := by rw [show g6 89 = gi4 89 from funext fun j => by rw [e6, x_up2_off (Or.inl (by decide))]]; exact funext fun j => q4.2.1 j
                                                            rw [h89]
                                                            exact s_min12 hI0 q3.2.1 q3.2.2)) rfl hX rfl (fun w7 gi7 gl7 gr7 l7 u7 hI hX hC7 q7 => ?_)
  have q7 : t_pr gi7 (gi7 92) (gi7 69 48).toInt 23618 ∧ t_rk w7.toInt (t_la (gi7 92) (t_S gi7) (t_C gi7) 0 0 0 0) := q7
  exact ev_ret f_X12_leastBy rfl rfl rfl ⟨_, _, _, rfl, hI, hX, ⟨_, rfl, l7, u7, (show ((t_pr gi7 (gi7 92) (gi7 69 48).toInt 23618 ∧ (w7.toInt ≠ -1 → t_la (gi7 92) (t_S gi7) (t_C gi7) 0 0 0 0 < 1000000000)) ∧ (∀ j : Nat, j < 12 → 0 ≤ (gi7 89 j).toInt ∧ (gi7 89 j).toInt ≤ 300) ∧ (gi7 69 48).toInt = ar2.toInt) ∧ (∀ D : s_D, t_ME 0 gi D → t_Cb D → s_DB D → (gi 69 46).toInt = -1 → w7.toInt = s_an (s_LS (s_PD D ar2.toInt) 0 0 0 0) ∧ s_TP gi7 ar2.toInt (s_PD D ar2.toInt) ∧ (∀ s : Nat, s < t_S gi7 → (gi7 90 s).toInt = s_WD D 0 s) ∧ ∀ c : Nat, c < t_C gi7 → (gi7 91 c).toInt = s_WD D 1 c) from (by
                                                            have fd := t_F_X hC7
                                                            have w48 : gi7 69 48 = ar2 := by rw [(fd 69 48 (by decide) rfl).1, e6, x_up2_at]
                                                            have w89 : gi7 89 = gi4 89 := by rw [t_F_nc fd rfl (by decide)]; exact funext fun j => by rw [e6, x_up2_off (Or.inl (by decide))]
                                                            have w90 : gi7 90 = gi4 90 := by rw [t_F_nc fd rfl (by decide)]; exact funext fun j => by rw [e6, x_up2_off (Or.inl (by decide))]
                                                            have w91 : gi7 91 = gi4 91 := by rw [t_F_nc fd rfl (by decide)]; exact funext fun j => by rw [e6, x_up2_off (Or.inl (by decide))]
                                                            have w70 : gi7 70 = gi4 70 := by rw [t_F_nc fd rfl (by decide)]; exact funext fun j => by rw [e6, x_up2_off (Or.inl (by decide))]
                                                            have h89 : gi7 89 = gi3 89 := w89.trans (funext fun j => q4.2.1 j)
                                                            refine ⟨⟨⟨q7.1, q7.2.1⟩, by rw [h89]; exact s_min12 hI0 q3.2.1 q3.2.2, congrArg Int32.toInt w48⟩, ?_⟩
                                                            intro D hm hb hd h46
                                                            have b1 := hb.2.1
                                                            have b2 := hb.2.2
                                                            have fa := t_F_X hC3
                                                            have hmA : t_ME 0 gi3 D := hm.mv hb (fun j _ _ _ => q3.1 (0 + j))
                                                            have k46 : (gi3 69 46).toInt = -1 := by rw [(fa 69 46 (by decide) rfl).1]; exact h46
                                                            have hS := q4.2.2.1 D hmA hb (fun j h => (q3.2.1 j h).trans (q3.1 _).symm)
                                                            have hC := q4.2.2.2 D hmA hb (fun j h => (q3.2.2 j h).trans (q3.1 _).symm) k46
                                                            have w44 : gi7 69 44 = gi4 69 44 := by rw [(fd 69 44 (by decide) rfl).1, e6, x_up2_off (Or.inr (by decide))]
                                                            have w45 : gi7 69 45 = gi4 69 45 := by rw [(fd 69 45 (by decide) rfl).1, e6, x_up2_off (Or.inr (by decide))]
                                                            have e70 : ∀ j, gi7 70 j = gi 70 j := fun j => by rw [w70, q4.1 j, q3.1 j]
                                                            have hmD : t_ME 0 gi7 D := hm.mv hb (fun j _ _ _ => e70 (0 + j))
                                                            have k70 : ∀ j : Nat, (j : Int) < D 1 → (gi 70 (53 + 5 * j)).toInt = s_A D j := fun j hj => by have hh := hm.2.2.1 (53 + 5 * j) (by omega) (by omega); rw [Nat.zero_add] at hh; exact hh
                                                            have c70 : ∀ j : Nat, (j : Int) < D 2 → (gi 70 (82 + 3 * j)).toInt = s_B D j := fun j hj => by have hh := hm.2.2.2 (82 + 3 * j) (by omega) (by omega); rw [Nat.zero_add] at hh; exact hh
                                                            have hT := s_TP_of (q := ar2.toInt) hb hd e_p0 hmD (by rw [w44]; exact hS.1) (by rw [w45]; exact hC.1) (by rw [w90]; exact hS.2) (by rw [w91]; exact hC.2) (fun j hj => by rw [w89, q4.2.1, q3.2.1 j (by omega)]; exact k70 j hj) (fun j hj => by rw [w89, q4.2.1, q3.2.2 j (by omega)]; exact c70 j hj)
                                                            have hP := s_PD_O (q := ar2.toInt) hb hd e_p0
                                                            have hr := q7.1
                                                            rw [w48] at hr
                                                            have eS : t_S gi7 = (D 1).toNat := by unfold t_S; rw [w44, hS.1]
                                                            have eC : t_C gi7 = (D 2).toNat := by unfold t_C; rw [w45, hC.1]
                                                            have hV := s_VLS (m := 0) (o := 0) (s := 0) (c := 0) hr hT hP (by omega) (by omega) (by decide) (Nat.zero_le _) (Nat.zero_le _)
                                                            have hk := s_an_rk q7.2
                                                            rw [hV] at hk
                                                            refine ⟨hk, hT, fun s hs => ?_, fun c hc => ?_⟩
                                                            · rw [w90]; exact hS.2 s (by omega)
                                                            · rw [w91]; exact hC.2 c (by omega)))⟩⟩
noncomputable def wl_l_acts : List (Nat × Nat) := [(69, 55), (93, 9999), (94, 9999), (95, 9999)]
noncomputable def Q_l_acts (gi : Nat → Nat → Int32) (gl : Nat → Nat → Int64) (gr : Nat → Nat → Value) (ar1 : Int32) (ar2 : Int32) (ar3 : Int32) : (Nat → Nat → Int32) → (Nat → Nat → Int64) → (Nat → Nat → Value) → Prop := fun (gi2 : Nat → Nat → Int32) (gl2 : Nat → Nat → Int64) (gr2 : Nat → Nat → Value) => (t_wh (gi2 69 55).toInt (gi2 93) (gi2 95) ∧ (gi2 69 55).toInt = (gi 69 55).toInt + 1) ∧ ∀ (L : s_RL) (t : Int × Int × Int), s_P4 gi L → ar1.toInt = t.1 → ar2.toInt = t.2.1 → ar3.toInt = t.2.2 → s_P4 gi2 (L ++ [t])
theorem c_l_acts {X : x_Ext} {d : Nat} {sh : List (Nat ⊕ (Nat × Nat))} {gi : Nat → Nat → Int32} {gl : Nat → Nat → Int64} {gr : Nat → Nat → Value} (hI : t_I sh gi gr) (ar1 : Int32) (l_a1 : 0 ≤ ar1.toInt) (u_a1 : ar1.toInt ≤ 2) (ar2 : Int32) (ar3 : Int32) (l_a3 : (-1) ≤ ar3.toInt) (u_a3 : ar3.toInt ≤ 5) (e_p0 : t_wh (gi 69 55).toInt (gi 93) (gi 95)) (e_p1 : (gi 69 55).toInt ≤ 99) (e_p2 : (ar1.toInt ≠ 2 → 0 ≤ ar3.toInt)) : x_Me X (d + 1) n_X12_acts [.ref 69, .int ar1, .int ar2, .int ar3] (sh, gi, gl, gr) (t_PN wl_l_acts sh gi gl gr (Q_l_acts gi gl gr ar1 ar2 ar3)) := by
  have hX : t_X wl_l_acts sh gi gl gr gi gl gr := t_X.rf
  refine me_i f_X12_acts (hI.wf.s rfl) rfl rfl rfl ?_
  obtain ⟨l1, u1⟩ := hI.b (hI.wf.s (k := 69) rfl) (t_bdK rfl : t_bd 11 55 = some (0, 100))
  refine ev_loc f_X12_acts (nx := 1) rfl rfl rfl rfl ?_
  refine ev_getR f_X12_acts (nx := 4) rfl (hI.wf.s rfl) rfl rfl (hI.wf.r rfl) rfl rfl ?_
  refine ev_loc f_X12_acts (nx := 5) rfl rfl rfl rfl ?_
  refine ev_gvI f_X12_acts (nx := 8) (w := (gi 69 55)) rfl (hI.wf.s rfl) rfl rfl rfl rfl ?_
  refine ev_loc f_X12_acts (nx := 9) rfl rfl rfl rfl ?_
  have u3 : (gi 69 55).toInt ≤ (99:Int) := (by omega)
  refine ev_iastT f_X12_acts (nx := 10) rfl (hI.wf.s rfl) l1 (by decide) u3 (by decide) rfl (hI.astL (hI.wf.s rfl) (by decide +kernel : t_abw 93 0 99 0 2 = true) (t_cl1 l1 (by decide)) (t_cl2 l1 u3 (by decide) (by decide)) l_a1 u_a1 rfl) (hX.upI (t_inA_ok rfl)) (fun g2 e2 hI hX => ?_)
  refine ev_loc f_X12_acts (nx := 11) rfl rfl rfl rfl ?_
  refine ev_getR f_X12_acts (nx := 14) rfl (hI.wf.s rfl) rfl rfl (hI.wf.r rfl) rfl rfl ?_
  refine ev_loc f_X12_acts (nx := 15) rfl rfl rfl rfl ?_
  refine ev_gvI f_X12_acts (nx := 18) (w := (gi 69 55)) rfl (hI.wf.s rfl) rfl rfl ((by rw [e2]; exact x_up2_off (Or.inl (by decide)) : g2 69 55 = gi 69 55).trans rfl) rfl ?_
  refine ev_loc f_X12_acts (nx := 19) rfl rfl rfl rfl ?_
  refine ev_iastT f_X12_acts (nx := 20) rfl (hI.wf.s rfl) l1 (by decide) u3 (by decide) rfl (hI.astG (hI.wf.s rfl) (fun lo hi e => absurd e (t_nob (by decide +kernel) _)) (fun k hk e => by have := hk.2.1; omega)) (hX.upI (t_inA_ok rfl)) (fun g4 e4 hI hX => ?_)
  refine ev_loc f_X12_acts (nx := 21) rfl rfl rfl rfl ?_
  refine ev_getR f_X12_acts (nx := 24) rfl (hI.wf.s rfl) rfl rfl (hI.wf.r rfl) rfl rfl ?_
  refine ev_loc f_X12_acts (nx := 25) rfl rfl rfl rfl ?_
  refine ev_gvI f_X12_acts (nx := 28) (w := (gi 69 55)) rfl (hI.wf.s rfl) rfl rfl ((by rw [e4]; exact x_up2_off (Or.inl (by decide)) : g4 69 55 = g2 69 55).trans ((by rw [e2]; exact x_up2_off (Or.inl (by decide)) : g2 69 55 = gi 69 55).trans rfl)) rfl ?_
  refine ev_loc f_X12_acts (nx := 29) rfl rfl rfl rfl ?_
  refine ev_iastT f_X12_acts (nx := 30) rfl (hI.wf.s rfl) l1 (by decide) u3 (by decide) rfl (hI.astL (hI.wf.s rfl) (by decide +kernel : t_abw 95 0 99 (-1) 5 = true) (t_cl1 l1 (by decide)) (t_cl2 l1 u3 (by decide) (by decide)) l_a3 u_a3 rfl) (hX.upI (t_inA_ok rfl)) (fun g5 e5 hI hX => ?_)
  refine ev_loc f_X12_acts (nx := 31) rfl rfl rfl rfl ?_
  refine ev_alu f_X12_acts (nx := 32) rfl rfl rfl rfl ?_
  refine ev_gvI f_X12_acts (nx := 35) (w := (gi 69 55)) rfl (hI.wf.s rfl) rfl rfl ((by rw [e5]; exact x_up2_off (Or.inl (by decide)) : g5 69 55 = g4 69 55).trans ((by rw [e4]; exact x_up2_off (Or.inl (by decide)) : g4 69 55 = g2 69 55).trans ((by rw [e2]; exact x_up2_off (Or.inl (by decide)) : g2 69 55 = gi 69 55).trans rfl))) rfl ?_
  refine ev_ic f_X12_acts (nx := 36) (v := 1) rfl (by decide) rfl ?_
  refine ev_addC f_X12_acts (nx := 37) (c := 1) (l := 1) (u := 100) rfl (by decide) l1 u3 rfl rfl (by decide) (by decide) rfl (fun z6 e6 l6 u6 => ?_)
  refine ev_putIT f_X12_acts (nx := 40) rfl (hI.wf.s rfl) rfl rfl rfl (hI.putB (hI.wf.s rfl) rfl rfl l6 (by decide) u6 (by decide)) (hX.upI rfl) (fun g7 e7 hI hX => ?_)
  exact ev_ret f_X12_acts rfl rfl rfl ⟨_, _, _, rfl, hI, hX, ⟨rfl, (show (t_wh (g7 69 55).toInt (g7 93) (g7 95) ∧ (g7 69 55).toInt = (gi 69 55).toInt + 1) ∧ ∀ (L : s_RL) (t : Int × Int × Int), s_P4 gi L → ar1.toInt = t.1 → ar2.toInt = t.2.1 → ar3.toInt = t.2.2 → s_P4 g7 (L ++ [t]) from ⟨(by have ff8 : (g7 69 55).toInt = z6.toInt := congrArg Int32.toInt (by rw [e7]; exact x_up2_at _ _ _ _ : g7 69 55 = z6); have hn : (g7 69 55).toInt = (gi 69 55).toInt + 1 := (by omega); refine ⟨?_, hn⟩; rw [hn]; exact t_wh_s (k := (gi 69 55).toInt.toNat) e_p0 (by omega) (t_onec (c := 93) (g := gi) (p := (gi 69 55).toInt.toNat) rfl e2 ((by rw [e7]; exact x_up2_ne (by decide) : g7 93 = g5 93).trans ((by rw [e5]; exact x_up2_ne (by decide) : g5 93 = g4 93).trans ((by rw [e4]; exact x_up2_ne (by decide) : g4 93 = g2 93)))) (by have hc := t_clamp (i := (gi 69 55)) (by omega); omega)) (t_onec (c := 95) (g := gi) (p := (gi 69 55).toInt.toNat) ((by rw [e4]; exact x_up2_ne (by decide) : g4 95 = g2 95).trans ((by rw [e2]; exact x_up2_ne (by decide) : g2 95 = gi 95))) e5 ((by rw [e7]; exact x_up2_ne (by decide) : g7 95 = g5 95)) (by have hc := t_clamp (i := (gi 69 55)) (by omega); omega)) e_p2), (by
                                                            intro L t h h1 h2 h3
                                                            exact s_P4_add h e2 e4 e5 e7 rfl (by omega) h1 h2 h3)⟩)⟩⟩
noncomputable def wl_l_plans : List (Nat × Nat) := [(69, 44), (69, 45), (69, 48), (69, 55), (69, 57), (89, 10005), (89, 610011), (90, 9999), (91, 9999), (92, 9999), (93, 9999), (94, 9999), (95, 9999)]
noncomputable def Q_l_plans (gi : Nat → Nat → Int32) (gl : Nat → Nat → Int64) (gr : Nat → Nat → Value) : Int32 → (Nat → Nat → Int32) → (Nat → Nat → Int64) → (Nat → Nat → Value) → Prop := fun (v : Int32) (gi2 : Nat → Nat → Int32) (gl2 : Nat → Nat → Int64) (gr2 : Nat → Nat → Value) => (∀ D : s_D, t_ME 0 gi D → t_Cb D → s_DB D → (gi 69 46).toInt = -1 → s_tk D → (v.toInt = 1 ↔ s_LS (s_PD D (D 4)) 0 0 0 0 < 1000000000) ∧ (v.toInt = 1 → s_P4 gi2 (s_PL D) ∧ s_FE D (gi2 69 57).toInt ∧ s_FX gi2 D)) ∧ (v.toInt = 1 → t_wh (gi2 69 55).toInt (gi2 93) (gi2 95))
theorem c_l_plans {X : x_Ext} {d : Nat} {sh : List (Nat ⊕ (Nat × Nat))} {gi : Nat → Nat → Int32} {gl : Nat → Nat → Int64} {gr : Nat → Nat → Value} (hI : t_I sh gi gr) (e_p0 : 1 ≤ (gi 70 4).toInt) : x_Me X (d + 6) n_X12_plans [.ref 69] (sh, gi, gl, gr) (t_PI wl_l_plans sh gi gl gr 0 1 (Q_l_plans gi gl gr)) := by
  have hX : t_X wl_l_plans sh gi gl gr gi gl gr := t_X.rf
  refine me_i f_X12_plans (hI.wf.s rfl) rfl rfl rfl ?_
  obtain ⟨l1, u1⟩ := hI.b (hI.wf.s (k := 69) rfl) (t_bdK rfl : t_bd 11 44 = some (0, 6))
  obtain ⟨l2, u2⟩ := hI.b (hI.wf.s (k := 69) rfl) (t_bdK rfl : t_bd 11 45 = some (0, 6))
  obtain ⟨l4, u4⟩ := hI.b (hI.wf.s (k := 69) rfl) (t_bdK rfl : t_bd 11 48 = some (0, 20))
  obtain ⟨l5, u5⟩ := hI.b (hI.wf.s (k := 69) rfl) (t_bdK rfl : t_bd 11 55 = some (0, 100))
  obtain ⟨l7, u7⟩ := hI.ab (by decide +kernel : t_abr 70 4 4 0 20 = true) (Nat.le_refl _) (Nat.le_refl _)
  refine ev_loc f_X12_plans (nx := 1) rfl rfl rfl rfl ?_
  refine ev_ic f_X12_plans (nx := 2) (v := 0) rfl (by decide) rfl ?_
  refine ev_loc f_X12_plans (nx := 3) rfl rfl rfl rfl ?_
  refine ev_getR f_X12_plans (nx := 6) rfl (hI.wf.s rfl) rfl rfl (hI.wf.r rfl) rfl rfl ?_
  refine ev_ic f_X12_plans (nx := 7) (v := 4) rfl (by decide) rfl ?_
  refine ev_ialdv f_X12_plans (nx := 8) (w := (gi 70 4)) rfl (hI.wf.s rfl) (by decide) (rfl : (4 : Int32).toNatClampNeg = 4) (by decide) rfl rfl ?_
  refine ev_qI f_X12_plans (nx := 11) (r := []) rfl rfl rfl rfl rfl rfl rfl (c_l_leastBy hI ((gi 70 4)) l7 u7 (by omega)) rfl hX rfl (fun w9 gi9 gl9 gr9 l9 u9 hI hX hC9 q9 => ?_)
  have q9 : ((t_pr gi9 (gi9 92) (gi9 69 48).toInt 23618 ∧ (w9.toInt ≠ -1 → t_la (gi9 92) (t_S gi9) (t_C gi9) 0 0 0 0 < 1000000000)) ∧ (∀ j : Nat, j < 12 → 0 ≤ (gi9 89 j).toInt ∧ (gi9 89 j).toInt ≤ 300) ∧ (gi9 69 48).toInt = (gi 70 4).toInt) ∧ (∀ D : s_D, t_ME 0 gi D → t_Cb D → s_DB D → (gi 69 46).toInt = -1 → w9.toInt = s_an (s_LS (s_PD D (gi 70 4).toInt) 0 0 0 0) ∧ s_TP gi9 (gi 70 4).toInt (s_PD D (gi 70 4).toInt) ∧ (∀ s : Nat, s < t_S gi9 → (gi9 90 s).toInt = s_WD D 0 s) ∧ ∀ c : Nat, c < t_C gi9 → (gi9 91 c).toInt = s_WD D 1 c) := q9
  obtain ⟨l10, u10⟩ := hI.b (hI.wf.s (k := 69) rfl) (t_bdK rfl : t_bd 11 44 = some (0, 6))
  obtain ⟨l11, u11⟩ := hI.b (hI.wf.s (k := 69) rfl) (t_bdK rfl : t_bd 11 45 = some (0, 6))
  obtain ⟨l12, u12⟩ := hI.b (hI.wf.s (k := 69) rfl) (t_bdK rfl : t_bd 11 48 = some (0, 20))
  refine ev_ic f_X12_plans (nx := 12) (v := -1) rfl (by decide) rfl ?_
  refine ev_if f_X12_plans (t1 := 15) (t2 := 17) rfl rfl rfl (fun h13 => ?_) (fun h13 => ?_)
  · have u14 : w9.toInt ≤ (-1) := t_equ h13 (by decide : ((-1):Int32).toInt ≤ ((-1):Int))
    have l15 : (-1) ≤ w9.toInt := t_eql h13 (by decide : ((-1):Int) ≤ ((-1):Int32).toInt)
    refine ev_ic f_X12_plans (nx := 16) (v := 0) rfl (by decide) rfl ?_
    exact ev_ret f_X12_plans rfl rfl rfl ⟨_, _, _, rfl, hI, hX, ⟨_, rfl, (by decide : (0:Int) ≤ (0:Int32).toInt), (Int.le_trans (by decide : (0:Int32).toInt ≤ (0:Int)) (by decide : (0:Int) ≤ 1)), (show (∀ D : s_D, t_ME 0 gi D → t_Cb D → s_DB D → (gi 69 46).toInt = -1 → s_tk D → ((0 : Int) = 1 ↔ s_LS (s_PD D (D 4)) 0 0 0 0 < 1000000000) ∧ ((0 : Int) = 1 → s_P4 gi9 (s_PL D) ∧ s_FE D (gi9 69 57).toInt ∧ s_FX gi9 D)) ∧ ((0 : Int) = 1 → t_wh (gi9 69 55).toInt (gi9 93) (gi9 95)) from ⟨(by
                                                            intro D hm hb hd h46 ht
                                                            have h4 : (gi 70 4).toInt = D 4 := hm.1.2.1
                                                            obtain ⟨k1, -⟩ := q9.2 D hm hb hd h46
                                                            rw [h4] at k1
                                                            have z0 : (0 : Int32).toInt = 0 := rfl
                                                            have hno : ¬ s_LS (s_PD D (D 4)) 0 0 0 0 < 1000000000 := by unfold s_an at k1; have hlo := s_LS_lo (s_PD_O (q := D 4) hb hd hd.2.2.1.1) 0 0 0 0; split at k1 <;> omega
                                                            exact ⟨⟨fun h => absurd h (by omega), fun h => absurd h hno⟩, fun h => absurd h (by omega)⟩), (fun h => absurd h (by decide))⟩)⟩⟩
  · have r16 : w9.toInt ≠ (-1) := fun e => h13 (Int32.toInt_inj.mp (e.trans (by decide : ((-1):Int) = ((-1) : Int32).toInt)))
    refine ev_loc f_X12_plans (nx := 18) rfl rfl rfl rfl ?_
    refine ev_ic f_X12_plans (nx := 19) (v := 0) rfl (by decide) rfl ?_
    refine ev_putIT f_X12_plans (nx := 22) rfl (hI.wf.s rfl) rfl rfl rfl (hI.putB (hI.wf.s rfl) rfl rfl (by decide : (0:Int) ≤ (0:Int32).toInt) (by decide) (by decide : (0:Int32).toInt ≤ (0:Int)) (by decide)) (hX.upI rfl) (fun g17 e17 hI hX => ?_)
    refine ev_loc f_X12_plans (nx := 23) rfl rfl rfl rfl ?_
    refine ev_ic f_X12_plans (nx := 24) (v := 0) rfl (by decide) rfl ?_
    refine ev_putIT f_X12_plans (nx := 27) rfl (hI.wf.s rfl) rfl rfl rfl (hI.put0 (hI.wf.s rfl) rfl rfl) (hX.upI rfl) (fun g18 e18 hI hX => ?_)
    refine ev_ic f_X12_plans (nx := 28) (v := 0) rfl (by decide) rfl ?_
    refine ev_loc f_X12_plans (nx := 29) (lo' := [(1, .int 0), (0, .ref 69)]) rfl rfl rfl rfl ?_
    refine ev_ic f_X12_plans (nx := 30) (v := 0) rfl (by decide) rfl ?_
    refine ev_loc f_X12_plans (nx := 31) (lo' := [(2, .int 0), (1, .int 0), (0, .ref 69)]) rfl rfl rfl rfl ?_
    refine ev_ic f_X12_plans (nx := 32) (v := 0) rfl (by decide) rfl ?_
    refine ev_loc f_X12_plans (nx := 33) (lo' := [(3, .int 0), (2, .int 0), (1, .int 0), (0, .ref 69)]) rfl rfl rfl rfl ?_
    refine ev_ic f_X12_plans (nx := 34) (v := 0) rfl (by decide) rfl ?_
    refine ev_loc f_X12_plans (nx := 36) (lo' := [(4, .int 0), (3, .int 0), (2, .int 0), (1, .int 0), (0, .ref 69)]) rfl rfl rfl rfl ?_
    have L19 : ∀ (m19 : Nat) (gi19 : Nat → Nat → Int32) (gl19 : Nat → Nat → Int64) (gr19 : Nat → Nat → Value) (y19_4 : Int32) (y19_3 : Int32) (y19_2 : Int32) (y19_1 : Int32), t_I sh gi19 gr19 → t_X wl_l_plans sh gi gl gr gi19 gl19 gr19 → 0 ≤ y19_4.toInt → y19_4.toInt ≤ 6 → 0 ≤ y19_3.toInt → y19_3.toInt ≤ 6 → 0 ≤ y19_2.toInt → y19_2.toInt ≤ 1 → 0 ≤ y19_1.toInt → y19_1.toInt ≤ 280 → gi19 69 44 = (gi9 69 44) → gi19 69 45 = (gi9 69 45) → gi19 69 46 = (gi 69 46) → gi19 69 48 = (gi9 69 48) → gi19 69 57 = 0 → gi19 70 4 = (gi 70 4) → t_pla gi19 y19_1 y19_2 y19_3 y19_4 → (∀ D : s_D, t_ME 0 gi D → t_Cb D → s_DB D → (gi 69 46).toInt = -1 → s_tk D → s_MQ gi19 D y19_1.toInt y19_2.toInt.toNat y19_3.toInt.toNat y19_4.toInt.toNat) → (∀ D : s_D, t_ME 0 gi D → t_Cb D → s_DB D → (gi 69 46).toInt = -1 → s_LS (s_PD D (D 4)) 0 0 0 0 < 1000000000) → (1000 * (12 - y19_3.toInt - y19_4.toInt) + (300 - y19_1.toInt)).toNat = m19 → x_Ev X (d + 6) n_X12_plans 36 [(4, .int y19_4), (3, .int y19_3), (2, .int y19_2), (1, .int y19_1), (0, .ref 69)] [] (sh, gi19, gl19, gr19) (t_PI wl_l_plans sh gi gl gr 0 1 (Q_l_plans gi gl gr)) := by
      intro m19
      induction m19 using Nat.strongRecOn with
      | _ m19 ih19 =>
      intro gi19 gl19 gr19 y19_4 y19_3 y19_2 y19_1 hI hX l19_4 u19_4 l19_3 u19_3 l19_2 u19_2 l19_1 u19_1 c19_0 c19_1 c19_2 c19_3 c19_4 c19_5 j19_0 j19_1 j19_2 hm19
      obtain ⟨l20, u20⟩ := hI.b (hI.wf.s (k := 69) rfl) (t_bdK rfl : t_bd 11 55 = some (0, 100))
      refine ev_loc f_X12_plans (nx := 37) rfl rfl rfl rfl ?_
      refine ev_loc f_X12_plans (nx := 38) rfl rfl rfl rfl ?_
      refine ev_gvI f_X12_plans (nx := 41) (w := (gi9 69 44)) rfl (hI.wf.s rfl) rfl rfl c19_0 rfl ?_
      refine ev_if f_X12_plans (t1 := 53) (t2 := 44) rfl rfl rfl (fun h21 => ?_) (fun h21 => ?_)
      · have r22 : y19_3.toInt < (gi9 69 44).toInt := Int32.lt_iff_toInt_lt.mp h21
        have u23 : y19_3.toInt ≤ 5 := t_ltu h21 u10 rfl
        have l24 : 1 ≤ (gi9 69 44).toInt := t_ltl h21 l19_3 rfl
        refine ev_loc f_X12_plans (nx := 54) rfl rfl rfl rfl ?_
        refine ev_loc f_X12_plans (nx := 55) rfl rfl rfl rfl ?_
        refine ev_loc f_X12_plans (nx := 56) rfl rfl rfl rfl ?_
        refine ev_loc f_X12_plans (nx := 57) rfl rfl rfl rfl ?_
        refine ev_loc f_X12_plans (nx := 59) rfl rfl rfl rfl ?_
        have u25 : y19_1.toInt ≤ (240:Int) := (by have hh := t_pla_m j19_0 (by omega) (by omega) (by have ff26 : (gi19 69 44).toInt = (gi9 69 44).toInt := congrArg Int32.toInt c19_0; have ff27 : (gi19 69 45).toInt = (gi9 69 45).toInt := congrArg Int32.toInt c19_1; omega); omega)
        refine ev_qI0 f_X12_plans (nx := 62) (r := []) rfl rfl rfl rfl rfl rfl rfl (c_m_leftAt hI (y19_1) l19_1 (Int.le_trans u25 (by decide : (240:Int) ≤ 300)) (y19_2) l19_2 u19_2 (y19_3) l19_3 (Int.le_trans u23 (by decide : (5:Int) ≤ 6)) (y19_4) l19_4 u19_4) rfl (fun w28 l28 u28 q28 => ?_)
        have q28 : w28.toInt = t_la (gi19 92) (t_S gi19) (t_C gi19) y19_1.toInt.toNat y19_2.toInt.toNat y19_3.toInt.toNat y19_4.toInt.toNat := q28
        refine ev_loc f_X12_plans (nx := 64) (lo' := [(5, .int w28), (4, .int y19_4), (3, .int y19_3), (2, .int y19_2), (1, .int y19_1), (0, .ref 69)]) rfl rfl rfl rfl ?_
        refine ev_loc f_X12_plans (nx := 65) rfl rfl rfl rfl ?_
        refine ev_loc f_X12_plans (nx := 66) rfl rfl rfl rfl ?_
        refine ev_loc f_X12_plans (nx := 67) rfl rfl rfl rfl ?_
        refine ev_loc f_X12_plans (nx := 68) rfl rfl rfl rfl ?_
        refine ev_qI0 f_X12_plans (nx := 71) (r := []) rfl rfl rfl rfl rfl rfl rfl (c_m_mayShip hI (y19_1) l19_1 u25 (y19_2) l19_2 u19_2 (y19_3) l19_3 (Int.le_trans u23 (by decide : (5:Int) ≤ 6)) (j19_0.2.2.2.2.1)) rfl (fun w29 l29 u29 q29 => ?_)
        have q29 : (w29.toInt = 1 ↔ t_mayS gi19 y19_1.toInt.toNat y19_2.toInt.toNat y19_3.toInt.toNat) := q29
        refine ev_if f_X12_plans (t1 := 119) (t2 := 74) rfl rfl rfl (fun h30 => ?_) (fun h30 => ?_)
        · have u31 : w29.toInt ≤ 0 := t_equ h30 (by decide : (0:Int32).toInt ≤ (0:Int))
          refine ev_loc f_X12_plans (nx := 120) rfl rfl rfl rfl ?_
          refine ev_loc f_X12_plans (nx := 121) rfl rfl rfl rfl ?_
          refine ev_loc f_X12_plans (nx := 122) rfl rfl rfl rfl ?_
          refine ev_loc f_X12_plans (nx := 124) rfl rfl rfl rfl ?_
          refine ev_qI0 f_X12_plans (nx := 127) (r := []) rfl rfl rfl rfl rfl rfl rfl (c_m_mayCart hI (y19_1) l19_1 u25 (y19_2) l19_2 u19_2 (y19_4) l19_4 u19_4) rfl (fun w32 l32 u32 q32 => ?_)
          have q32 : (w32.toInt = 1 ↔ t_mayC gi19 y19_1.toInt.toNat y19_2.toInt.toNat y19_4.toInt.toNat) := q32
          refine ev_if f_X12_plans (t1 := 177) (t2 := 130) rfl rfl rfl (fun h33 => ?_) (fun h33 => ?_)
          · have u34 : w32.toInt ≤ 0 := t_equ h33 (by decide : (0:Int32).toInt ≤ (0:Int))
            refine ev_loc f_X12_plans (nx := 178) rfl rfl rfl rfl ?_
            refine ev_loc f_X12_plans (nx := 179) rfl rfl rfl rfl ?_
            refine ev_ic f_X12_plans (nx := 180) (v := 1) rfl (by decide) rfl ?_
            refine ev_addC f_X12_plans (nx := 181) (c := 1) (l := 1) (u := 241) rfl (by decide) l19_1 u25 rfl rfl (by decide) (by decide) rfl (fun z35 e35 l35 u35 => ?_)
            refine ev_loc f_X12_plans (nx := 182) rfl rfl rfl rfl ?_
            refine ev_loc f_X12_plans (nx := 183) rfl rfl rfl rfl ?_
            refine ev_loc f_X12_plans (nx := 185) rfl rfl rfl rfl ?_
            refine ev_qI0 f_X12_plans (nx := 188) (r := []) rfl rfl rfl rfl rfl rfl rfl (c_m_leftAt hI (z35) (Int.le_trans (by decide : (0:Int) ≤ 1) l35) (Int.le_trans u35 (by decide : (241:Int) ≤ 300)) (y19_2) l19_2 u19_2 (y19_3) l19_3 (Int.le_trans u23 (by decide : (5:Int) ≤ 6)) (y19_4) l19_4 u19_4) rfl (fun w36 l36 u36 q36 => ?_)
            have q36 : w36.toInt = t_la (gi19 92) (t_S gi19) (t_C gi19) z35.toInt.toNat y19_2.toInt.toNat y19_3.toInt.toNat y19_4.toInt.toNat := q36
            refine ev_loc f_X12_plans (nx := 190) rfl rfl rfl rfl ?_
            refine ev_if f_X12_plans (t1 := 193) (t2 := 199) rfl rfl rfl (fun h37 => ?_) (fun h37 => ?_)
            · have r38 : w36.toInt = w28.toInt := t_eqi h37
              refine ev_incR f_X12_plans (nx := 196) (c := 1) (l := 1) (u := 241) rfl rfl (by decide) (by decide) l19_1 u25 rfl rfl (by decide) (by decide) rfl (fun z39 e39 l39 u39 => ?_)
              refine ev_jmp f_X12_plans (nx := 222) rfl rfl rfl ?_
              refine ev_jmp f_X12_plans (nx := 36) rfl rfl rfl ?_
              refine ev_sub (lo := [(4, .int y19_4), (3, .int y19_3), (2, .int y19_2), (1, .int z39), (0, .ref 69)]) rfl (t_sc rfl (t_sc rfl (t_sc rfl (t_sc rfl (t_sc rfl t_sn))))) ?_
              exact ih19 _ (by omega) gi19 gl19 gr19 (y19_4) (y19_3) (y19_2) (z39) hI hX  l19_4 u19_4 l19_3 (Int.le_trans u23 (by decide : (5:Int) ≤ 6)) l19_2 u19_2 (Int.le_trans (by decide : (0:Int) ≤ 1) l39) (Int.le_trans u39 (by decide : (241:Int) ≤ 280)) c19_0 c19_1 c19_2 c19_3 c19_4 c19_5 (t_pla_rest j19_0 (by omega) (by have h1 := q36; have h2 := q28; rw [show z35.toInt.toNat = y19_1.toInt.toNat + 1 by omega] at h1; omega) (by omega)) (by
                                                            intro D hm hb hd h46 ht
                                                            have hQ := j19_1 D hm hb hd h46 ht
                                                            have kf0 := congrArg Int32.toInt c19_0
                                                            have kf1 := congrArg Int32.toInt c19_1
                                                            have kf2 := congrArg Int32.toInt c19_2
                                                            have kf3 := congrArg Int32.toInt c19_3
                                                            have kf4 := congrArg Int32.toInt c19_4
                                                            have kf5 := congrArg Int32.toInt c19_5
                                                            exact s_MQ_R hQ j19_0 hb hd (by omega) (by omega) (by omega) (by omega) (by omega) (by omega) (by omega) (fun h => absurd (q29.mpr h) (by omega)) (fun h => absurd (q32.mpr h) (by omega)) (by have h1 := q36; have h2 := q28; rw [show z35.toInt.toNat = y19_1.toInt.toNat + 1 by omega] at h1; omega) (by omega)) j19_2 rfl
            · have r40 : w36.toInt ≠ w28.toInt := t_nei h37
              refine ev_loc f_X12_plans (nx := 200) rfl rfl rfl rfl ?_
              refine ev_ic f_X12_plans (nx := 201) (v := 2) rfl (by decide) rfl ?_
              refine ev_loc f_X12_plans (nx := 202) rfl rfl rfl rfl ?_
              refine ev_ic f_X12_plans (nx := 203) (v := -1) rfl (by decide) rfl ?_
              refine ev_qN f_X12_plans (nx := 206) (r := []) rfl rfl rfl rfl rfl rfl rfl (c_l_acts hI (2) (Int.le_trans (by decide : (0:Int) ≤ 2) (by decide : (2:Int) ≤ (2:Int32).toInt)) (by decide : (2:Int32).toInt ≤ (2:Int)) (y19_1) ((-1)) (by decide : ((-1):Int) ≤ ((-1):Int32).toInt) (Int.le_trans (by decide : ((-1):Int32).toInt ≤ ((-1):Int)) (by decide : ((-1):Int) ≤ 5)) (j19_0.2.2.2.1) (by have hn := t_pla_n j19_0 (by omega) (by omega) (hI.b (hI.wf.s (k := 69) rfl) (t_bdK rfl : t_bd 11 44 = some (0, 6))).2 (hI.b (hI.wf.s (k := 69) rfl) (t_bdK rfl : t_bd 11 45 = some (0, 6))).2; omega) (by have kf42 : ((-1) : Int32).toInt = (-1) := (by decide); have kf43 : (2 : Int32).toInt = 2 := (by decide); omega)) rfl hX rfl (fun gi41 gl41 gr41 hI hX hC41 q41 => ?_)
              have q41 : (t_wh (gi41 69 55).toInt (gi41 93) (gi41 95) ∧ (gi41 69 55).toInt = (gi19 69 55).toInt + 1) ∧ ∀ (L : s_RL) (t : Int × Int × Int), s_P4 gi19 L → (2 : Int) = t.1 → y19_1.toInt = t.2.1 → ((-1) : Int) = t.2.2 → s_P4 gi41 (L ++ [t]) := q41
              obtain ⟨l44, u44⟩ := hI.b (hI.wf.s (k := 69) rfl) (t_bdK rfl : t_bd 11 55 = some (0, 100))
              refine ev_loc f_X12_plans (nx := 207) rfl rfl rfl rfl ?_
              refine ev_loc f_X12_plans (nx := 208) rfl rfl rfl rfl ?_
              refine ev_loc f_X12_plans (nx := 209) rfl rfl rfl rfl ?_
              refine ev_loc f_X12_plans (nx := 210) rfl rfl rfl rfl ?_
              refine ev_gvI f_X12_plans (nx := 213) (w := (gi9 69 48)) rfl (hI.wf.s rfl) rfl rfl ((hC41.1 69 48 rfl).1.trans c19_3) rfl ?_
              have l45 : (1:Int) ≤ (gi9 69 48).toInt := (by have h := j19_0.2.2.2.2.2.2.2; rw [c19_3] at h; exact h)
              refine ev_qI0 f_X12_plans (nx := 216) (r := [.int y19_1]) rfl rfl rfl rfl rfl rfl rfl (c_m_turnTime hI (y19_1) l19_1 (Int.le_trans u25 (by decide : (240:Int) ≤ 300)) ((gi9 69 48)) l45 u12) rfl (fun w46 l46 u46 q46 => ?_)
              have q46 : w46.toInt = ((t_tt gi41 (gi9 69 48).toInt y19_1.toInt.toNat : Nat) : Int) := q46
              refine ev_addR f_X12_plans (nx := 217) (l := 1) (u := 280) rfl l19_1 u25 l46 u46 rfl rfl (by decide) (by decide) rfl (fun z47 e47 l47 u47 => ?_)
              refine ev_loc f_X12_plans (nx := 218) (lo' := [(1, .int z47), (5, .int w28), (4, .int y19_4), (3, .int y19_3), (2, .int y19_2), (0, .ref 69)]) rfl rfl rfl rfl ?_
              refine ev_ic f_X12_plans (nx := 219) (v := 1) rfl (by decide) rfl ?_
              refine ev_loc f_X12_plans (nx := 220) rfl rfl rfl rfl ?_
              refine ev_subK f_X12_plans (nx := 221) (c := 1) (l := 0) (u := 1) rfl (by decide) l19_2 u19_2 rfl rfl (by decide) (by decide) rfl (fun z48 e48 l48 u48 => ?_)
              refine ev_loc f_X12_plans (nx := 222) (lo' := [(2, .int z48), (1, .int z47), (5, .int w28), (4, .int y19_4), (3, .int y19_3), (0, .ref 69)]) rfl rfl rfl rfl ?_
              refine ev_jmp f_X12_plans (nx := 36) rfl rfl rfl ?_
              refine ev_sub (lo := [(4, .int y19_4), (3, .int y19_3), (2, .int z48), (1, .int z47), (0, .ref 69)]) rfl (t_sc rfl (t_sc rfl (t_sc rfl (t_sc rfl (t_sc rfl t_sn))))) ?_
              exact ih19 _ (by omega) gi41 gl41 gr41 (y19_4) (y19_3) (z48) (z47) hI hX  l19_4 u19_4 l19_3 (Int.le_trans u23 (by decide : (5:Int) ≤ 6)) l48 u48 (Int.le_trans (by decide : (0:Int) ≤ 1) l47) u47 ((hC41.1 69 44 rfl).1.trans c19_0) ((hC41.1 69 45 rfl).1.trans c19_1) ((hC41.1 69 46 rfl).1.trans c19_2) ((hC41.1 69 48 rfl).1.trans c19_3) ((hC41.1 69 57 rfl).1.trans c19_4) ((hC41.1 70 4 rfl).1.trans c19_5) (by have hsp := (⟨(hC41.1 69 44 rfl).1, (hC41.1 69 45 rfl).1, (hC41.1 69 48 rfl).1, funext (fun j => (hC41.1 70 j rfl).1), funext (fun j => (hC41.1 89 j rfl).1), funext (fun j => (hC41.1 90 j rfl).1), funext (fun j => (hC41.1 91 j rfl).1)⟩ : t_sp gi19 gi41); have e1 := congrArg Int32.toInt hsp.1; have e2 := congrArg Int32.toInt hsp.2.1; have ff49 : (gi41 69 44).toInt = (gi9 69 44).toInt := congrArg Int32.toInt ((hC41.1 69 44 rfl).1.trans c19_0); have ff50 : (gi41 69 45).toInt = (gi9 69 45).toInt := congrArg Int32.toInt ((hC41.1 69 45 rfl).1.trans c19_1); have hb1 := hI.b (hI.wf.s (k := 69) rfl) (t_bdK rfl : t_bd 11 44 = some (0, 6)); have hb2 := hI.b (hI.wf.s (k := 69) rfl) (t_bdK rfl : t_bd 11 45 = some (0, 6)); exact t_pla_turn (w := w46) j19_0 (by omega) (by omega) (by omega) (by omega) (by omega) (by omega) (by omega) (by omega) (by omega) (fun h => absurd (q29.mpr h) (by omega)) (fun h => absurd (q32.mpr h) (by omega)) (by have h1 := q36; have h2 := q28; rw [show z35.toInt.toNat = y19_1.toInt.toNat + 1 by omega] at h1; omega) (by rw [← t_tt_sp hsp, congrArg Int32.toInt c19_3]; exact q46) (by omega) (by omega) hsp (funext (fun j => (hC41.1 92 j rfl).1)) q41.1.2 q41.1.1) (by
                                                            intro D hm hb hd h46 ht
                                                            have hQ := j19_1 D hm hb hd h46 ht
                                                            have hsp := (⟨(hC41.1 69 44 rfl).1, (hC41.1 69 45 rfl).1, (hC41.1 69 48 rfl).1, funext (fun j => (hC41.1 70 j rfl).1), funext (fun j => (hC41.1 89 j rfl).1), funext (fun j => (hC41.1 90 j rfl).1), funext (fun j => (hC41.1 91 j rfl).1)⟩ : t_sp gi19 gi41)
                                                            have kf0 := congrArg Int32.toInt c19_0
                                                            have kf1 := congrArg Int32.toInt c19_1
                                                            have kf2 := congrArg Int32.toInt c19_2
                                                            have kf3 := congrArg Int32.toInt c19_3
                                                            have kf4 := congrArg Int32.toInt c19_4
                                                            have kf5 := congrArg Int32.toInt c19_5
                                                            exact s_MQ_T (w := w46) hQ j19_0 hb hd (by omega) (by omega) (by omega) (by omega) (by omega) (by omega) (by omega) (fun h => absurd (q29.mpr h) (by omega)) (fun h => absurd (q32.mpr h) (by omega)) (fun hh => by have h1 := q36; have h2 := q28; rw [show z35.toInt.toNat = y19_1.toInt.toNat + 1 by omega] at h1; omega) (by rw [← t_tt_sp hsp, congrArg Int32.toInt c19_3]; exact q46) (by omega) (by omega) hsp q41.2) j19_2 rfl
          · have r51 : w32.toInt ≠ 0 := fun e => h33 (Int32.toInt_inj.mp (e.trans (by decide : (0:Int) = (0 : Int32).toInt)))
            have l52 : 1 ≤ w32.toInt := t_nel h33 l32 rfl rfl
            refine ev_loc f_X12_plans (nx := 131) rfl rfl rfl rfl ?_
            refine ev_loc f_X12_plans (nx := 132) rfl rfl rfl rfl ?_
            refine ev_loc f_X12_plans (nx := 133) rfl rfl rfl rfl ?_
            refine ev_loc f_X12_plans (nx := 135) rfl rfl rfl rfl ?_
            have u53 : y19_4.toInt ≤ (5:Int) := (by have ff54 : (gi19 69 45).toInt = (gi9 69 45).toInt := congrArg Int32.toInt c19_1; have hm := q32.mp (by omega); unfold t_mayC t_C at hm; omega)
            refine ev_qI0 f_X12_plans (nx := 138) (r := []) rfl rfl rfl rfl rfl rfl rfl (c_m_byCart hI (y19_1) l19_1 u25 (y19_3) l19_3 (Int.le_trans u23 (by decide : (5:Int) ≤ 6)) (y19_4) l19_4 u53 (j19_0.2.2.2.2.2.2.1) (by have hm := q32.mp (by omega); unfold t_mayC at hm; omega) (by have hm := q32.mp (by omega); unfold t_mayC at hm; have h1 := j19_0.2.2.2.2.1; have h2 := j19_0.2.2.2.2.2.1; exact t_pla_la j19_0 (by omega) (by first | omega | (unfold t_S; omega)) (by first | omega | (unfold t_C; omega)))) rfl (fun w55 l55 u55 q55 => ?_)
            have q55 : w55.toInt = t_byc gi19 (gi19 92) y19_1.toInt.toNat y19_3.toInt.toNat y19_4.toInt.toNat := q55
            refine ev_loc f_X12_plans (nx := 140) rfl rfl rfl rfl ?_
            refine ev_if f_X12_plans (t1 := 143) (t2 := 177) rfl rfl rfl (fun h56 => ?_) (fun h56 => ?_)
            · have r57 : w55.toInt = w28.toInt := t_eqi h56
              have u58 : w28.toInt ≤ 1000023760 := t_equ (Eq.symm h56) u55
              have l59 : 0 ≤ w28.toInt := t_eql (Eq.symm h56) l55
              refine ev_loc f_X12_plans (nx := 144) rfl rfl rfl rfl ?_
              refine ev_ic f_X12_plans (nx := 145) (v := 1) rfl (by decide) rfl ?_
              refine ev_loc f_X12_plans (nx := 146) rfl rfl rfl rfl ?_
              refine ev_loc f_X12_plans (nx := 147) rfl rfl rfl rfl ?_
              refine ev_getR f_X12_plans (nx := 150) rfl (hI.wf.s rfl) rfl rfl (hI.wf.r rfl) rfl rfl ?_
              refine ev_loc f_X12_plans (nx := 152) rfl rfl rfl rfl ?_
              refine ev_ialdT f_X12_plans (nx := 153) rfl (hI.wf.s rfl) l19_4 (by decide) u53 (by decide) rfl (fun w60 e60 => ?_)
              obtain ⟨l60, u60⟩ := hI.abi e60 (by decide +kernel : t_abr 91 0 5 0 5 = true) l19_4 (by decide) u53 (by decide)
              refine ev_qN f_X12_plans (nx := 156) (r := []) rfl rfl rfl rfl rfl rfl rfl (c_l_acts hI (1) (Int.le_trans (by decide : (0:Int) ≤ 1) (by decide : (1:Int) ≤ (1:Int32).toInt)) (Int.le_trans (by decide : (1:Int32).toInt ≤ (1:Int)) (by decide : (1:Int) ≤ 2)) (y19_1) (w60) (Int.le_trans (by decide : ((-1):Int) ≤ 0) l60) u60 (j19_0.2.2.2.1) (by have hn := t_pla_n j19_0 (by omega) (by omega) (hI.b (hI.wf.s (k := 69) rfl) (t_bdK rfl : t_bd 11 44 = some (0, 6))).2 (hI.b (hI.wf.s (k := 69) rfl) (t_bdK rfl : t_bd 11 45 = some (0, 6))).2; omega) (by have kf62 : (1 : Int32).toInt = 1 := (by decide); omega)) rfl hX rfl (fun gi61 gl61 gr61 hI hX hC61 q61 => ?_)
              have q61 : (t_wh (gi61 69 55).toInt (gi61 93) (gi61 95) ∧ (gi61 69 55).toInt = (gi19 69 55).toInt + 1) ∧ ∀ (L : s_RL) (t : Int × Int × Int), s_P4 gi19 L → (1 : Int) = t.1 → y19_1.toInt = t.2.1 → w60.toInt = t.2.2 → s_P4 gi61 (L ++ [t]) := q61
              obtain ⟨l63, u63⟩ := hI.b (hI.wf.s (k := 69) rfl) (t_bdK rfl : t_bd 11 55 = some (0, 100))
              refine ev_loc f_X12_plans (nx := 157) rfl rfl rfl rfl ?_
              refine ev_loc f_X12_plans (nx := 158) rfl rfl rfl rfl ?_
              refine ev_loc f_X12_plans (nx := 159) rfl rfl rfl rfl ?_
              refine ev_getR f_X12_plans (nx := 162) rfl (hI.wf.s rfl) rfl rfl (hI.wf.r rfl) rfl rfl ?_
              refine ev_loc f_X12_plans (nx := 164) rfl rfl rfl rfl ?_
              refine ev_ialdT f_X12_plans (nx := 165) rfl (hI.wf.s rfl) l19_4 (by decide) u53 (by decide) rfl (fun w64 e64 => ?_)
              rw [e64.trans ((hC61.1 91 y19_4.toNatClampNeg rfl).1.trans e60.symm)]
              refine ev_ic f_X12_plans (nx := 166) (v := 1) rfl (by decide) rfl ?_
              refine ev_inV3 f_X12_plans (nx := 169) (lo2 := [(0, .ref 69), (1, .int w60), (2, .int 1)]) rfl rfl rfl rfl f_X12_ofCart (hI.wf.s rfl) rfl rfl rfl rfl rfl ?_
              refine ev_loc f_X12_ofCart (nx := 1) rfl rfl rfl rfl ?_
              refine ev_getR f_X12_ofCart (nx := 4) rfl (hI.wf.s rfl) rfl rfl (hI.wf.r rfl) rfl rfl ?_
              refine ev_bp f_X12_ofCart (nx := 6) (v := 82) rfl (by decide) rfl ?_
              refine ev_ic f_X12_ofCart (nx := 7) (v := 3) rfl (by decide) rfl ?_
              refine ev_loc f_X12_ofCart (nx := 8) rfl rfl rfl rfl ?_
              refine ev_mulL f_X12_ofCart (nx := 9) (c := 3) (l := 0) (u := 15) rfl (by decide) (by decide) l60 u60 rfl rfl (by decide) (by decide) rfl (fun z65 e65 l65 u65 => ?_)
              refine ev_addK f_X12_ofCart (nx := 10) (c := 82) (l := 82) (u := 97) rfl (by decide) l65 u65 rfl rfl (by decide) (by decide) rfl (fun z66 e66 l66 u66 => ?_)
              refine ev_loc f_X12_ofCart (nx := 11) rfl rfl rfl rfl ?_
              refine ev_addC f_X12_ofCart (nx := 12) (c := 1) (l := 83) (u := 98) rfl (by decide) l66 u66 rfl rfl (by decide) (by decide) rfl (fun z67 e67 l67 u67 => ?_)
              refine ev_ialdT f_X12_ofCart (nx := 13) rfl (hI.wf.s rfl) l67 (by decide) u67 (by decide) rfl (fun w68 e68 => ?_)
              obtain ⟨l68, u68⟩ := hI.abA (x := w60) e68 (by decide +kernel : t_aba 70 83 3 0 5 0 20 = true) (by omega) (by omega) (by omega)
              refine ev_retK1 f_X12_ofCart rfl rfl rfl ?_
              refine ev_addR f_X12_plans (nx := 170) (l := 0) (u := 260) rfl l19_1 u25 l68 u68 rfl rfl (by decide) (by decide) rfl (fun z69 e69 l69 u69 => ?_)
              refine ev_loc f_X12_plans (nx := 171) (lo' := [(1, .int z69), (5, .int w28), (4, .int y19_4), (3, .int y19_3), (2, .int y19_2), (0, .ref 69)]) rfl rfl rfl rfl ?_
              refine ev_incR f_X12_plans (nx := 174) (c := 1) (l := 1) (u := 6) rfl rfl (by decide) (by decide) l19_4 u53 rfl rfl (by decide) (by decide) rfl (fun z70 e70 l70 u70 => ?_)
              refine ev_jmp f_X12_plans (nx := 222) rfl rfl rfl ?_
              refine ev_jmp f_X12_plans (nx := 36) rfl rfl rfl ?_
              refine ev_sub (lo := [(4, .int z70), (3, .int y19_3), (2, .int y19_2), (1, .int z69), (0, .ref 69)]) rfl (t_sc rfl (t_sc rfl (t_sc rfl (t_sc rfl (t_sc rfl t_sn))))) ?_
              exact ih19 _ (by omega) gi61 gl61 gr61 (z70) (y19_3) (y19_2) (z69) hI hX  (Int.le_trans (by decide : (0:Int) ≤ 1) l70) u70 l19_3 (Int.le_trans u23 (by decide : (5:Int) ≤ 6)) l19_2 u19_2 l69 (Int.le_trans u69 (by decide : (260:Int) ≤ 280)) ((hC61.1 69 44 rfl).1.trans c19_0) ((hC61.1 69 45 rfl).1.trans c19_1) ((hC61.1 69 46 rfl).1.trans c19_2) ((hC61.1 69 48 rfl).1.trans c19_3) ((hC61.1 69 57 rfl).1.trans c19_4) ((hC61.1 70 4 rfl).1.trans c19_5) (by have hsp := (⟨(hC61.1 69 44 rfl).1, (hC61.1 69 45 rfl).1, (hC61.1 69 48 rfl).1, funext (fun j => (hC61.1 70 j rfl).1), funext (fun j => (hC61.1 89 j rfl).1), funext (fun j => (hC61.1 90 j rfl).1), funext (fun j => (hC61.1 91 j rfl).1)⟩ : t_sp gi19 gi61); have htk : t_ct gi61 y19_4.toInt.toNat = w68.toInt.toNat := (by unfold t_ct; rw [t_of_eq (p := gi61) (a := 83) (b := 3) t_sp.rf (t_ci_eq t_sp.rf (i := y19_4) (((hC61.1 91 y19_4.toNatClampNeg rfl).1.trans e60.symm)).symm (by omega)) (e68.symm).symm (by omega) (by omega)]); exact t_pla_cart (w := w68) j19_0 (by omega) (by omega) (by omega) (q32.mp (by omega)) (by have h1 := q55; have h2 := q28; omega) (by rw [← t_ct_sp hsp]; exact htk) (by omega) (by omega) (by omega) (by rw [← t_cc_sp hsp]; exact t_cc0 hI (by omega)) hsp (funext (fun j => (hC61.1 92 j rfl).1)) q61.1.2 q61.1.1) (by
                                                            intro D hm hb hd h46 ht
                                                            have hQ := j19_1 D hm hb hd h46 ht
                                                            have hsp := (⟨(hC61.1 69 44 rfl).1, (hC61.1 69 45 rfl).1, (hC61.1 69 48 rfl).1, funext (fun j => (hC61.1 70 j rfl).1), funext (fun j => (hC61.1 89 j rfl).1), funext (fun j => (hC61.1 90 j rfl).1), funext (fun j => (hC61.1 91 j rfl).1)⟩ : t_sp gi19 gi61)
                                                            have htk : t_ct gi61 y19_4.toInt.toNat = w68.toInt.toNat := (by unfold t_ct; rw [t_of_eq (p := gi61) (a := 83) (b := 3) t_sp.rf (t_ci_eq t_sp.rf (i := y19_4) (((hC61.1 91 y19_4.toNatClampNeg rfl).1.trans e60.symm)).symm (by omega)) (e68.symm).symm (by omega) (by omega)])
                                                            have cw := t_clamp (i := y19_4) (by omega)
                                                            exact s_MQ_C (w := w68) (who := w60) hQ j19_0 hb hd ht (by omega) (by omega) (by omega) (by omega) (by omega) (by omega) (q32.mp (by omega)) (by have h1 := q55; have h2 := q28; omega) (by rw [← t_ct_sp hsp]; exact htk) (by omega) (by omega) (by omega) hsp (by rw [e60, show y19_4.toNatClampNeg = y19_4.toInt.toNat by omega]) q61.2) j19_2 rfl
            · have r71 : w55.toInt ≠ w28.toInt := t_nei h56
              refine ev_loc f_X12_plans (nx := 178) rfl rfl rfl rfl ?_
              refine ev_loc f_X12_plans (nx := 179) rfl rfl rfl rfl ?_
              refine ev_ic f_X12_plans (nx := 180) (v := 1) rfl (by decide) rfl ?_
              refine ev_addC f_X12_plans (nx := 181) (c := 1) (l := 1) (u := 241) rfl (by decide) l19_1 u25 rfl rfl (by decide) (by decide) rfl (fun z72 e72 l72 u72 => ?_)
              refine ev_loc f_X12_plans (nx := 182) rfl rfl rfl rfl ?_
              refine ev_loc f_X12_plans (nx := 183) rfl rfl rfl rfl ?_
              refine ev_loc f_X12_plans (nx := 185) rfl rfl rfl rfl ?_
              refine ev_qI0 f_X12_plans (nx := 188) (r := []) rfl rfl rfl rfl rfl rfl rfl (c_m_leftAt hI (z72) (Int.le_trans (by decide : (0:Int) ≤ 1) l72) (Int.le_trans u72 (by decide : (241:Int) ≤ 300)) (y19_2) l19_2 u19_2 (y19_3) l19_3 (Int.le_trans u23 (by decide : (5:Int) ≤ 6)) (y19_4) l19_4 (Int.le_trans u53 (by decide : (5:Int) ≤ 6))) rfl (fun w73 l73 u73 q73 => ?_)
              have q73 : w73.toInt = t_la (gi19 92) (t_S gi19) (t_C gi19) z72.toInt.toNat y19_2.toInt.toNat y19_3.toInt.toNat y19_4.toInt.toNat := q73
              refine ev_loc f_X12_plans (nx := 190) rfl rfl rfl rfl ?_
              refine ev_if f_X12_plans (t1 := 193) (t2 := 199) rfl rfl rfl (fun h74 => ?_) (fun h74 => ?_)
              · have r75 : w73.toInt = w28.toInt := t_eqi h74
                refine ev_incR f_X12_plans (nx := 196) (c := 1) (l := 1) (u := 241) rfl rfl (by decide) (by decide) l19_1 u25 rfl rfl (by decide) (by decide) rfl (fun z76 e76 l76 u76 => ?_)
                refine ev_jmp f_X12_plans (nx := 222) rfl rfl rfl ?_
                refine ev_jmp f_X12_plans (nx := 36) rfl rfl rfl ?_
                refine ev_sub (lo := [(4, .int y19_4), (3, .int y19_3), (2, .int y19_2), (1, .int z76), (0, .ref 69)]) rfl (t_sc rfl (t_sc rfl (t_sc rfl (t_sc rfl (t_sc rfl t_sn))))) ?_
                exact ih19 _ (by omega) gi19 gl19 gr19 (y19_4) (y19_3) (y19_2) (z76) hI hX  l19_4 (Int.le_trans u53 (by decide : (5:Int) ≤ 6)) l19_3 (Int.le_trans u23 (by decide : (5:Int) ≤ 6)) l19_2 u19_2 (Int.le_trans (by decide : (0:Int) ≤ 1) l76) (Int.le_trans u76 (by decide : (241:Int) ≤ 280)) c19_0 c19_1 c19_2 c19_3 c19_4 c19_5 (t_pla_rest j19_0 (by omega) (by have h1 := q73; have h2 := q28; rw [show z72.toInt.toNat = y19_1.toInt.toNat + 1 by omega] at h1; omega) (by omega)) (by
                                                            intro D hm hb hd h46 ht
                                                            have hQ := j19_1 D hm hb hd h46 ht
                                                            have kf0 := congrArg Int32.toInt c19_0
                                                            have kf1 := congrArg Int32.toInt c19_1
                                                            have kf2 := congrArg Int32.toInt c19_2
                                                            have kf3 := congrArg Int32.toInt c19_3
                                                            have kf4 := congrArg Int32.toInt c19_4
                                                            have kf5 := congrArg Int32.toInt c19_5
                                                            exact s_MQ_R hQ j19_0 hb hd (by omega) (by omega) (by omega) (by omega) (by omega) (by omega) (by omega) (fun h => absurd (q29.mpr h) (by omega)) (fun _ hh => by have h1 := q55; have h2 := q28; omega) (by have h1 := q73; have h2 := q28; rw [show z72.toInt.toNat = y19_1.toInt.toNat + 1 by omega] at h1; omega) (by omega)) j19_2 rfl
              · have r77 : w73.toInt ≠ w28.toInt := t_nei h74
                refine ev_loc f_X12_plans (nx := 200) rfl rfl rfl rfl ?_
                refine ev_ic f_X12_plans (nx := 201) (v := 2) rfl (by decide) rfl ?_
                refine ev_loc f_X12_plans (nx := 202) rfl rfl rfl rfl ?_
                refine ev_ic f_X12_plans (nx := 203) (v := -1) rfl (by decide) rfl ?_
                refine ev_qN f_X12_plans (nx := 206) (r := []) rfl rfl rfl rfl rfl rfl rfl (c_l_acts hI (2) (Int.le_trans (by decide : (0:Int) ≤ 2) (by decide : (2:Int) ≤ (2:Int32).toInt)) (by decide : (2:Int32).toInt ≤ (2:Int)) (y19_1) ((-1)) (by decide : ((-1):Int) ≤ ((-1):Int32).toInt) (Int.le_trans (by decide : ((-1):Int32).toInt ≤ ((-1):Int)) (by decide : ((-1):Int) ≤ 5)) (j19_0.2.2.2.1) (by have hn := t_pla_n j19_0 (by omega) (by omega) (hI.b (hI.wf.s (k := 69) rfl) (t_bdK rfl : t_bd 11 44 = some (0, 6))).2 (hI.b (hI.wf.s (k := 69) rfl) (t_bdK rfl : t_bd 11 45 = some (0, 6))).2; omega) (by have kf79 : ((-1) : Int32).toInt = (-1) := (by decide); have kf80 : (2 : Int32).toInt = 2 := (by decide); omega)) rfl hX rfl (fun gi78 gl78 gr78 hI hX hC78 q78 => ?_)
                have q78 : (t_wh (gi78 69 55).toInt (gi78 93) (gi78 95) ∧ (gi78 69 55).toInt = (gi19 69 55).toInt + 1) ∧ ∀ (L : s_RL) (t : Int × Int × Int), s_P4 gi19 L → (2 : Int) = t.1 → y19_1.toInt = t.2.1 → ((-1) : Int) = t.2.2 → s_P4 gi78 (L ++ [t]) := q78
                obtain ⟨l81, u81⟩ := hI.b (hI.wf.s (k := 69) rfl) (t_bdK rfl : t_bd 11 55 = some (0, 100))
                refine ev_loc f_X12_plans (nx := 207) rfl rfl rfl rfl ?_
                refine ev_loc f_X12_plans (nx := 208) rfl rfl rfl rfl ?_
                refine ev_loc f_X12_plans (nx := 209) rfl rfl rfl rfl ?_
                refine ev_loc f_X12_plans (nx := 210) rfl rfl rfl rfl ?_
                refine ev_gvI f_X12_plans (nx := 213) (w := (gi9 69 48)) rfl (hI.wf.s rfl) rfl rfl ((hC78.1 69 48 rfl).1.trans c19_3) rfl ?_
                have l82 : (1:Int) ≤ (gi9 69 48).toInt := (by have h := j19_0.2.2.2.2.2.2.2; rw [c19_3] at h; exact h)
                refine ev_qI0 f_X12_plans (nx := 216) (r := [.int y19_1]) rfl rfl rfl rfl rfl rfl rfl (c_m_turnTime hI (y19_1) l19_1 (Int.le_trans u25 (by decide : (240:Int) ≤ 300)) ((gi9 69 48)) l82 u12) rfl (fun w83 l83 u83 q83 => ?_)
                have q83 : w83.toInt = ((t_tt gi78 (gi9 69 48).toInt y19_1.toInt.toNat : Nat) : Int) := q83
                refine ev_addR f_X12_plans (nx := 217) (l := 1) (u := 280) rfl l19_1 u25 l83 u83 rfl rfl (by decide) (by decide) rfl (fun z84 e84 l84 u84 => ?_)
                refine ev_loc f_X12_plans (nx := 218) (lo' := [(1, .int z84), (5, .int w28), (4, .int y19_4), (3, .int y19_3), (2, .int y19_2), (0, .ref 69)]) rfl rfl rfl rfl ?_
                refine ev_ic f_X12_plans (nx := 219) (v := 1) rfl (by decide) rfl ?_
                refine ev_loc f_X12_plans (nx := 220) rfl rfl rfl rfl ?_
                refine ev_subK f_X12_plans (nx := 221) (c := 1) (l := 0) (u := 1) rfl (by decide) l19_2 u19_2 rfl rfl (by decide) (by decide) rfl (fun z85 e85 l85 u85 => ?_)
                refine ev_loc f_X12_plans (nx := 222) (lo' := [(2, .int z85), (1, .int z84), (5, .int w28), (4, .int y19_4), (3, .int y19_3), (0, .ref 69)]) rfl rfl rfl rfl ?_
                refine ev_jmp f_X12_plans (nx := 36) rfl rfl rfl ?_
                refine ev_sub (lo := [(4, .int y19_4), (3, .int y19_3), (2, .int z85), (1, .int z84), (0, .ref 69)]) rfl (t_sc rfl (t_sc rfl (t_sc rfl (t_sc rfl (t_sc rfl t_sn))))) ?_
                exact ih19 _ (by omega) gi78 gl78 gr78 (y19_4) (y19_3) (z85) (z84) hI hX  l19_4 (Int.le_trans u53 (by decide : (5:Int) ≤ 6)) l19_3 (Int.le_trans u23 (by decide : (5:Int) ≤ 6)) l85 u85 (Int.le_trans (by decide : (0:Int) ≤ 1) l84) u84 ((hC78.1 69 44 rfl).1.trans c19_0) ((hC78.1 69 45 rfl).1.trans c19_1) ((hC78.1 69 46 rfl).1.trans c19_2) ((hC78.1 69 48 rfl).1.trans c19_3) ((hC78.1 69 57 rfl).1.trans c19_4) ((hC78.1 70 4 rfl).1.trans c19_5) (by have hsp := (⟨(hC78.1 69 44 rfl).1, (hC78.1 69 45 rfl).1, (hC78.1 69 48 rfl).1, funext (fun j => (hC78.1 70 j rfl).1), funext (fun j => (hC78.1 89 j rfl).1), funext (fun j => (hC78.1 90 j rfl).1), funext (fun j => (hC78.1 91 j rfl).1)⟩ : t_sp gi19 gi78); have e1 := congrArg Int32.toInt hsp.1; have e2 := congrArg Int32.toInt hsp.2.1; have ff86 : (gi78 69 44).toInt = (gi9 69 44).toInt := congrArg Int32.toInt ((hC78.1 69 44 rfl).1.trans c19_0); have ff87 : (gi78 69 45).toInt = (gi9 69 45).toInt := congrArg Int32.toInt ((hC78.1 69 45 rfl).1.trans c19_1); have hb1 := hI.b (hI.wf.s (k := 69) rfl) (t_bdK rfl : t_bd 11 44 = some (0, 6)); have hb2 := hI.b (hI.wf.s (k := 69) rfl) (t_bdK rfl : t_bd 11 45 = some (0, 6)); exact t_pla_turn (w := w83) j19_0 (by omega) (by omega) (by omega) (by omega) (by omega) (by omega) (by omega) (by omega) (by omega) (fun h => absurd (q29.mpr h) (by omega)) (fun _ => by have h1 := q55; have h2 := q28; omega) (by have h1 := q73; have h2 := q28; rw [show z72.toInt.toNat = y19_1.toInt.toNat + 1 by omega] at h1; omega) (by rw [← t_tt_sp hsp, congrArg Int32.toInt c19_3]; exact q83) (by omega) (by omega) hsp (funext (fun j => (hC78.1 92 j rfl).1)) q78.1.2 q78.1.1) (by
                                                            intro D hm hb hd h46 ht
                                                            have hQ := j19_1 D hm hb hd h46 ht
                                                            have hsp := (⟨(hC78.1 69 44 rfl).1, (hC78.1 69 45 rfl).1, (hC78.1 69 48 rfl).1, funext (fun j => (hC78.1 70 j rfl).1), funext (fun j => (hC78.1 89 j rfl).1), funext (fun j => (hC78.1 90 j rfl).1), funext (fun j => (hC78.1 91 j rfl).1)⟩ : t_sp gi19 gi78)
                                                            have kf0 := congrArg Int32.toInt c19_0
                                                            have kf1 := congrArg Int32.toInt c19_1
                                                            have kf2 := congrArg Int32.toInt c19_2
                                                            have kf3 := congrArg Int32.toInt c19_3
                                                            have kf4 := congrArg Int32.toInt c19_4
                                                            have kf5 := congrArg Int32.toInt c19_5
                                                            exact s_MQ_T (w := w83) hQ j19_0 hb hd (by omega) (by omega) (by omega) (by omega) (by omega) (by omega) (by omega) (fun h => absurd (q29.mpr h) (by omega)) (fun _ hh => by have h1 := q55; have h2 := q28; omega) (fun hh => by have h1 := q73; have h2 := q28; rw [show z72.toInt.toNat = y19_1.toInt.toNat + 1 by omega] at h1; omega) (by rw [← t_tt_sp hsp, congrArg Int32.toInt c19_3]; exact q83) (by omega) (by omega) hsp q78.2) j19_2 rfl
        · have r88 : w29.toInt ≠ 0 := fun e => h30 (Int32.toInt_inj.mp (e.trans (by decide : (0:Int) = (0 : Int32).toInt)))
          have l89 : 1 ≤ w29.toInt := t_nel h30 l29 rfl rfl
          refine ev_loc f_X12_plans (nx := 75) rfl rfl rfl rfl ?_
          refine ev_loc f_X12_plans (nx := 76) rfl rfl rfl rfl ?_
          refine ev_loc f_X12_plans (nx := 77) rfl rfl rfl rfl ?_
          refine ev_loc f_X12_plans (nx := 79) rfl rfl rfl rfl ?_
          refine ev_qI0 f_X12_plans (nx := 82) (r := []) rfl rfl rfl rfl rfl rfl rfl (c_m_byShip hI (y19_1) l19_1 u25 (y19_3) l19_3 u23 (y19_4) l19_4 u19_4 (j19_0.2.2.2.2.2.2.1) (by have hm := q29.mp (by omega); unfold t_mayS at hm; omega) (by have hm := q29.mp (by omega); unfold t_mayS at hm; have h1 := j19_0.2.2.2.2.1; have h2 := j19_0.2.2.2.2.2.1; exact t_pla_la j19_0 (by omega) (by first | omega | (unfold t_S; omega)) (by first | omega | (unfold t_C; omega)))) rfl (fun w90 l90 u90 q90 => ?_)
          have q90 : w90.toInt = t_bys gi19 (gi19 92) y19_1.toInt.toNat y19_3.toInt.toNat y19_4.toInt.toNat := q90
          refine ev_loc f_X12_plans (nx := 84) rfl rfl rfl rfl ?_
          refine ev_if f_X12_plans (t1 := 87) (t2 := 119) rfl rfl rfl (fun h91 => ?_) (fun h91 => ?_)
          · have r92 : w90.toInt = w28.toInt := t_eqi h91
            have u93 : w28.toInt ≤ 1000023760 := t_equ (Eq.symm h91) u90
            have l94 : 0 ≤ w28.toInt := t_eql (Eq.symm h91) l90
            refine ev_loc f_X12_plans (nx := 88) rfl rfl rfl rfl ?_
            refine ev_ic f_X12_plans (nx := 89) (v := 0) rfl (by decide) rfl ?_
            refine ev_loc f_X12_plans (nx := 90) rfl rfl rfl rfl ?_
            refine ev_loc f_X12_plans (nx := 91) rfl rfl rfl rfl ?_
            refine ev_getR f_X12_plans (nx := 94) rfl (hI.wf.s rfl) rfl rfl (hI.wf.r rfl) rfl rfl ?_
            refine ev_loc f_X12_plans (nx := 95) rfl rfl rfl rfl ?_
            refine ev_ialdT f_X12_plans (nx := 96) rfl (hI.wf.s rfl) l19_3 (by decide) u23 (by decide) rfl (fun w95 e95 => ?_)
            obtain ⟨l95, u95⟩ := hI.abi e95 (by decide +kernel : t_abr 90 0 5 0 5 = true) l19_3 (by decide) u23 (by decide)
            refine ev_qN f_X12_plans (nx := 99) (r := []) rfl rfl rfl rfl rfl rfl rfl (c_l_acts hI (0) (by decide : (0:Int) ≤ (0:Int32).toInt) (Int.le_trans (by decide : (0:Int32).toInt ≤ (0:Int)) (by decide : (0:Int) ≤ 2)) (y19_1) (w95) (Int.le_trans (by decide : ((-1):Int) ≤ 0) l95) u95 (j19_0.2.2.2.1) (by have hn := t_pla_n j19_0 (by omega) (by omega) (hI.b (hI.wf.s (k := 69) rfl) (t_bdK rfl : t_bd 11 44 = some (0, 6))).2 (hI.b (hI.wf.s (k := 69) rfl) (t_bdK rfl : t_bd 11 45 = some (0, 6))).2; omega) (by have kf97 : (0 : Int32).toInt = 0 := (by decide); omega)) rfl hX rfl (fun gi96 gl96 gr96 hI hX hC96 q96 => ?_)
            have q96 : (t_wh (gi96 69 55).toInt (gi96 93) (gi96 95) ∧ (gi96 69 55).toInt = (gi19 69 55).toInt + 1) ∧ ∀ (L : s_RL) (t : Int × Int × Int), s_P4 gi19 L → (0 : Int) = t.1 → y19_1.toInt = t.2.1 → w95.toInt = t.2.2 → s_P4 gi96 (L ++ [t]) := q96
            obtain ⟨l98, u98⟩ := hI.b (hI.wf.s (k := 69) rfl) (t_bdK rfl : t_bd 11 55 = some (0, 100))
            refine ev_loc f_X12_plans (nx := 100) rfl rfl rfl rfl ?_
            refine ev_loc f_X12_plans (nx := 101) rfl rfl rfl rfl ?_
            refine ev_loc f_X12_plans (nx := 102) rfl rfl rfl rfl ?_
            refine ev_getR f_X12_plans (nx := 105) rfl (hI.wf.s rfl) rfl rfl (hI.wf.r rfl) rfl rfl ?_
            refine ev_loc f_X12_plans (nx := 106) rfl rfl rfl rfl ?_
            refine ev_ialdT f_X12_plans (nx := 107) rfl (hI.wf.s rfl) l19_3 (by decide) u23 (by decide) rfl (fun w99 e99 => ?_)
            rw [e99.trans ((hC96.1 90 y19_3.toNatClampNeg rfl).1.trans e95.symm)]
            refine ev_ic f_X12_plans (nx := 108) (v := 2) rfl (by decide) rfl ?_
            refine ev_inV3 f_X12_plans (nx := 111) (lo2 := [(0, .ref 69), (1, .int w95), (2, .int 2)]) rfl rfl rfl rfl f_X12_ofShip (hI.wf.s rfl) rfl rfl rfl rfl rfl ?_
            refine ev_loc f_X12_ofShip (nx := 1) rfl rfl rfl rfl ?_
            refine ev_getR f_X12_ofShip (nx := 4) rfl (hI.wf.s rfl) rfl rfl (hI.wf.r rfl) rfl rfl ?_
            refine ev_bp f_X12_ofShip (nx := 6) (v := 52) rfl (by decide) rfl ?_
            refine ev_ic f_X12_ofShip (nx := 7) (v := 5) rfl (by decide) rfl ?_
            refine ev_loc f_X12_ofShip (nx := 8) rfl rfl rfl rfl ?_
            refine ev_mulL f_X12_ofShip (nx := 9) (c := 5) (l := 0) (u := 25) rfl (by decide) (by decide) l95 u95 rfl rfl (by decide) (by decide) rfl (fun z100 e100 l100 u100 => ?_)
            refine ev_addK f_X12_ofShip (nx := 10) (c := 52) (l := 52) (u := 77) rfl (by decide) l100 u100 rfl rfl (by decide) (by decide) rfl (fun z101 e101 l101 u101 => ?_)
            refine ev_loc f_X12_ofShip (nx := 11) rfl rfl rfl rfl ?_
            refine ev_addC f_X12_ofShip (nx := 12) (c := 2) (l := 54) (u := 79) rfl (by decide) l101 u101 rfl rfl (by decide) (by decide) rfl (fun z102 e102 l102 u102 => ?_)
            refine ev_ialdT f_X12_ofShip (nx := 13) rfl (hI.wf.s rfl) l102 (by decide) u102 (by decide) rfl (fun w103 e103 => ?_)
            obtain ⟨l103, u103⟩ := hI.abA (x := w95) e103 (by decide +kernel : t_aba 70 54 5 0 5 0 20 = true) (by omega) (by omega) (by omega)
            refine ev_retK1 f_X12_ofShip rfl rfl rfl ?_
            refine ev_addR f_X12_plans (nx := 112) (l := 0) (u := 260) rfl l19_1 u25 l103 u103 rfl rfl (by decide) (by decide) rfl (fun z104 e104 l104 u104 => ?_)
            refine ev_loc f_X12_plans (nx := 113) (lo' := [(1, .int z104), (5, .int w28), (4, .int y19_4), (3, .int y19_3), (2, .int y19_2), (0, .ref 69)]) rfl rfl rfl rfl ?_
            refine ev_incR f_X12_plans (nx := 116) (c := 1) (l := 1) (u := 6) rfl rfl (by decide) (by decide) l19_3 u23 rfl rfl (by decide) (by decide) rfl (fun z105 e105 l105 u105 => ?_)
            refine ev_jmp f_X12_plans (nx := 222) rfl rfl rfl ?_
            refine ev_jmp f_X12_plans (nx := 36) rfl rfl rfl ?_
            refine ev_sub (lo := [(4, .int y19_4), (3, .int z105), (2, .int y19_2), (1, .int z104), (0, .ref 69)]) rfl (t_sc rfl (t_sc rfl (t_sc rfl (t_sc rfl (t_sc rfl t_sn))))) ?_
            exact ih19 _ (by omega) gi96 gl96 gr96 (y19_4) (z105) (y19_2) (z104) hI hX  l19_4 u19_4 (Int.le_trans (by decide : (0:Int) ≤ 1) l105) u105 l19_2 u19_2 l104 (Int.le_trans u104 (by decide : (260:Int) ≤ 280)) ((hC96.1 69 44 rfl).1.trans c19_0) ((hC96.1 69 45 rfl).1.trans c19_1) ((hC96.1 69 46 rfl).1.trans c19_2) ((hC96.1 69 48 rfl).1.trans c19_3) ((hC96.1 69 57 rfl).1.trans c19_4) ((hC96.1 70 4 rfl).1.trans c19_5) (by have hsp := (⟨(hC96.1 69 44 rfl).1, (hC96.1 69 45 rfl).1, (hC96.1 69 48 rfl).1, funext (fun j => (hC96.1 70 j rfl).1), funext (fun j => (hC96.1 89 j rfl).1), funext (fun j => (hC96.1 90 j rfl).1), funext (fun j => (hC96.1 91 j rfl).1)⟩ : t_sp gi19 gi96); have htk : t_st gi96 y19_3.toInt.toNat = w103.toInt.toNat := (by unfold t_st; rw [t_of_eq (p := gi96) (a := 54) (b := 5) t_sp.rf (t_si_eq t_sp.rf (i := y19_3) (((hC96.1 90 y19_3.toNatClampNeg rfl).1.trans e95.symm)).symm (by omega)) (e103.symm).symm (by omega) (by omega)]); exact t_pla_ship (w := w103) j19_0 (by omega) (by omega) (by omega) (q29.mp (by omega)) (by have h1 := q90; have h2 := q28; omega) (by rw [← t_st_sp hsp]; exact htk) (by omega) (by omega) (by omega) (by rw [← t_so_sp hsp]; exact t_so0 hI (by omega)) hsp (funext (fun j => (hC96.1 92 j rfl).1)) q96.1.2 q96.1.1) (by
                                                            intro D hm hb hd h46 ht
                                                            have hQ := j19_1 D hm hb hd h46 ht
                                                            have hsp := (⟨(hC96.1 69 44 rfl).1, (hC96.1 69 45 rfl).1, (hC96.1 69 48 rfl).1, funext (fun j => (hC96.1 70 j rfl).1), funext (fun j => (hC96.1 89 j rfl).1), funext (fun j => (hC96.1 90 j rfl).1), funext (fun j => (hC96.1 91 j rfl).1)⟩ : t_sp gi19 gi96)
                                                            have htk : t_st gi96 y19_3.toInt.toNat = w103.toInt.toNat := (by unfold t_st; rw [t_of_eq (p := gi96) (a := 54) (b := 5) t_sp.rf (t_si_eq t_sp.rf (i := y19_3) (((hC96.1 90 y19_3.toNatClampNeg rfl).1.trans e95.symm)).symm (by omega)) (e103.symm).symm (by omega) (by omega)])
                                                            have cw := t_clamp (i := y19_3) (by omega)
                                                            exact s_MQ_S (w := w103) (who := w95) hQ j19_0 hb hd ht (by omega) (by omega) (by omega) (by omega) (by omega) (by omega) (q29.mp (by omega)) (by have h1 := q90; have h2 := q28; omega) (by rw [← t_st_sp hsp]; exact htk) (by omega) (by omega) (by omega) hsp (by rw [e95, show y19_3.toNatClampNeg = y19_3.toInt.toNat by omega]) q96.2) j19_2 rfl
          · have r106 : w90.toInt ≠ w28.toInt := t_nei h91
            refine ev_loc f_X12_plans (nx := 120) rfl rfl rfl rfl ?_
            refine ev_loc f_X12_plans (nx := 121) rfl rfl rfl rfl ?_
            refine ev_loc f_X12_plans (nx := 122) rfl rfl rfl rfl ?_
            refine ev_loc f_X12_plans (nx := 124) rfl rfl rfl rfl ?_
            refine ev_qI0 f_X12_plans (nx := 127) (r := []) rfl rfl rfl rfl rfl rfl rfl (c_m_mayCart hI (y19_1) l19_1 u25 (y19_2) l19_2 u19_2 (y19_4) l19_4 u19_4) rfl (fun w107 l107 u107 q107 => ?_)
            have q107 : (w107.toInt = 1 ↔ t_mayC gi19 y19_1.toInt.toNat y19_2.toInt.toNat y19_4.toInt.toNat) := q107
            refine ev_if f_X12_plans (t1 := 177) (t2 := 130) rfl rfl rfl (fun h108 => ?_) (fun h108 => ?_)
            · have u109 : w107.toInt ≤ 0 := t_equ h108 (by decide : (0:Int32).toInt ≤ (0:Int))
              refine ev_loc f_X12_plans (nx := 178) rfl rfl rfl rfl ?_
              refine ev_loc f_X12_plans (nx := 179) rfl rfl rfl rfl ?_
              refine ev_ic f_X12_plans (nx := 180) (v := 1) rfl (by decide) rfl ?_
              refine ev_addC f_X12_plans (nx := 181) (c := 1) (l := 1) (u := 241) rfl (by decide) l19_1 u25 rfl rfl (by decide) (by decide) rfl (fun z110 e110 l110 u110 => ?_)
              refine ev_loc f_X12_plans (nx := 182) rfl rfl rfl rfl ?_
              refine ev_loc f_X12_plans (nx := 183) rfl rfl rfl rfl ?_
              refine ev_loc f_X12_plans (nx := 185) rfl rfl rfl rfl ?_
              refine ev_qI0 f_X12_plans (nx := 188) (r := []) rfl rfl rfl rfl rfl rfl rfl (c_m_leftAt hI (z110) (Int.le_trans (by decide : (0:Int) ≤ 1) l110) (Int.le_trans u110 (by decide : (241:Int) ≤ 300)) (y19_2) l19_2 u19_2 (y19_3) l19_3 (Int.le_trans u23 (by decide : (5:Int) ≤ 6)) (y19_4) l19_4 u19_4) rfl (fun w111 l111 u111 q111 => ?_)
              have q111 : w111.toInt = t_la (gi19 92) (t_S gi19) (t_C gi19) z110.toInt.toNat y19_2.toInt.toNat y19_3.toInt.toNat y19_4.toInt.toNat := q111
              refine ev_loc f_X12_plans (nx := 190) rfl rfl rfl rfl ?_
              refine ev_if f_X12_plans (t1 := 193) (t2 := 199) rfl rfl rfl (fun h112 => ?_) (fun h112 => ?_)
              · have r113 : w111.toInt = w28.toInt := t_eqi h112
                refine ev_incR f_X12_plans (nx := 196) (c := 1) (l := 1) (u := 241) rfl rfl (by decide) (by decide) l19_1 u25 rfl rfl (by decide) (by decide) rfl (fun z114 e114 l114 u114 => ?_)
                refine ev_jmp f_X12_plans (nx := 222) rfl rfl rfl ?_
                refine ev_jmp f_X12_plans (nx := 36) rfl rfl rfl ?_
                refine ev_sub (lo := [(4, .int y19_4), (3, .int y19_3), (2, .int y19_2), (1, .int z114), (0, .ref 69)]) rfl (t_sc rfl (t_sc rfl (t_sc rfl (t_sc rfl (t_sc rfl t_sn))))) ?_
                exact ih19 _ (by omega) gi19 gl19 gr19 (y19_4) (y19_3) (y19_2) (z114) hI hX  l19_4 u19_4 l19_3 (Int.le_trans u23 (by decide : (5:Int) ≤ 6)) l19_2 u19_2 (Int.le_trans (by decide : (0:Int) ≤ 1) l114) (Int.le_trans u114 (by decide : (241:Int) ≤ 280)) c19_0 c19_1 c19_2 c19_3 c19_4 c19_5 (t_pla_rest j19_0 (by omega) (by have h1 := q111; have h2 := q28; rw [show z110.toInt.toNat = y19_1.toInt.toNat + 1 by omega] at h1; omega) (by omega)) (by
                                                            intro D hm hb hd h46 ht
                                                            have hQ := j19_1 D hm hb hd h46 ht
                                                            have kf0 := congrArg Int32.toInt c19_0
                                                            have kf1 := congrArg Int32.toInt c19_1
                                                            have kf2 := congrArg Int32.toInt c19_2
                                                            have kf3 := congrArg Int32.toInt c19_3
                                                            have kf4 := congrArg Int32.toInt c19_4
                                                            have kf5 := congrArg Int32.toInt c19_5
                                                            exact s_MQ_R hQ j19_0 hb hd (by omega) (by omega) (by omega) (by omega) (by omega) (by omega) (by omega) (fun _ hh => by have h1 := q90; have h2 := q28; omega) (fun h => absurd (q107.mpr h) (by omega)) (by have h1 := q111; have h2 := q28; rw [show z110.toInt.toNat = y19_1.toInt.toNat + 1 by omega] at h1; omega) (by omega)) j19_2 rfl
              · have r115 : w111.toInt ≠ w28.toInt := t_nei h112
                refine ev_loc f_X12_plans (nx := 200) rfl rfl rfl rfl ?_
                refine ev_ic f_X12_plans (nx := 201) (v := 2) rfl (by decide) rfl ?_
                refine ev_loc f_X12_plans (nx := 202) rfl rfl rfl rfl ?_
                refine ev_ic f_X12_plans (nx := 203) (v := -1) rfl (by decide) rfl ?_
                refine ev_qN f_X12_plans (nx := 206) (r := []) rfl rfl rfl rfl rfl rfl rfl (c_l_acts hI (2) (Int.le_trans (by decide : (0:Int) ≤ 2) (by decide : (2:Int) ≤ (2:Int32).toInt)) (by decide : (2:Int32).toInt ≤ (2:Int)) (y19_1) ((-1)) (by decide : ((-1):Int) ≤ ((-1):Int32).toInt) (Int.le_trans (by decide : ((-1):Int32).toInt ≤ ((-1):Int)) (by decide : ((-1):Int) ≤ 5)) (j19_0.2.2.2.1) (by have hn := t_pla_n j19_0 (by omega) (by omega) (hI.b (hI.wf.s (k := 69) rfl) (t_bdK rfl : t_bd 11 44 = some (0, 6))).2 (hI.b (hI.wf.s (k := 69) rfl) (t_bdK rfl : t_bd 11 45 = some (0, 6))).2; omega) (by have kf117 : ((-1) : Int32).toInt = (-1) := (by decide); have kf118 : (2 : Int32).toInt = 2 := (by decide); omega)) rfl hX rfl (fun gi116 gl116 gr116 hI hX hC116 q116 => ?_)
                have q116 : (t_wh (gi116 69 55).toInt (gi116 93) (gi116 95) ∧ (gi116 69 55).toInt = (gi19 69 55).toInt + 1) ∧ ∀ (L : s_RL) (t : Int × Int × Int), s_P4 gi19 L → (2 : Int) = t.1 → y19_1.toInt = t.2.1 → ((-1) : Int) = t.2.2 → s_P4 gi116 (L ++ [t]) := q116
                obtain ⟨l119, u119⟩ := hI.b (hI.wf.s (k := 69) rfl) (t_bdK rfl : t_bd 11 55 = some (0, 100))
                refine ev_loc f_X12_plans (nx := 207) rfl rfl rfl rfl ?_
                refine ev_loc f_X12_plans (nx := 208) rfl rfl rfl rfl ?_
                refine ev_loc f_X12_plans (nx := 209) rfl rfl rfl rfl ?_
                refine ev_loc f_X12_plans (nx := 210) rfl rfl rfl rfl ?_
                refine ev_gvI f_X12_plans (nx := 213) (w := (gi9 69 48)) rfl (hI.wf.s rfl) rfl rfl ((hC116.1 69 48 rfl).1.trans c19_3) rfl ?_
                have l120 : (1:Int) ≤ (gi9 69 48).toInt := (by have h := j19_0.2.2.2.2.2.2.2; rw [c19_3] at h; exact h)
                refine ev_qI0 f_X12_plans (nx := 216) (r := [.int y19_1]) rfl rfl rfl rfl rfl rfl rfl (c_m_turnTime hI (y19_1) l19_1 (Int.le_trans u25 (by decide : (240:Int) ≤ 300)) ((gi9 69 48)) l120 u12) rfl (fun w121 l121 u121 q121 => ?_)
                have q121 : w121.toInt = ((t_tt gi116 (gi9 69 48).toInt y19_1.toInt.toNat : Nat) : Int) := q121
                refine ev_addR f_X12_plans (nx := 217) (l := 1) (u := 280) rfl l19_1 u25 l121 u121 rfl rfl (by decide) (by decide) rfl (fun z122 e122 l122 u122 => ?_)
                refine ev_loc f_X12_plans (nx := 218) (lo' := [(1, .int z122), (5, .int w28), (4, .int y19_4), (3, .int y19_3), (2, .int y19_2), (0, .ref 69)]) rfl rfl rfl rfl ?_
                refine ev_ic f_X12_plans (nx := 219) (v := 1) rfl (by decide) rfl ?_
                refine ev_loc f_X12_plans (nx := 220) rfl rfl rfl rfl ?_
                refine ev_subK f_X12_plans (nx := 221) (c := 1) (l := 0) (u := 1) rfl (by decide) l19_2 u19_2 rfl rfl (by decide) (by decide) rfl (fun z123 e123 l123 u123 => ?_)
                refine ev_loc f_X12_plans (nx := 222) (lo' := [(2, .int z123), (1, .int z122), (5, .int w28), (4, .int y19_4), (3, .int y19_3), (0, .ref 69)]) rfl rfl rfl rfl ?_
                refine ev_jmp f_X12_plans (nx := 36) rfl rfl rfl ?_
                refine ev_sub (lo := [(4, .int y19_4), (3, .int y19_3), (2, .int z123), (1, .int z122), (0, .ref 69)]) rfl (t_sc rfl (t_sc rfl (t_sc rfl (t_sc rfl (t_sc rfl t_sn))))) ?_
                exact ih19 _ (by omega) gi116 gl116 gr116 (y19_4) (y19_3) (z123) (z122) hI hX  l19_4 u19_4 l19_3 (Int.le_trans u23 (by decide : (5:Int) ≤ 6)) l123 u123 (Int.le_trans (by decide : (0:Int) ≤ 1) l122) u122 ((hC116.1 69 44 rfl).1.trans c19_0) ((hC116.1 69 45 rfl).1.trans c19_1) ((hC116.1 69 46 rfl).1.trans c19_2) ((hC116.1 69 48 rfl).1.trans c19_3) ((hC116.1 69 57 rfl).1.trans c19_4) ((hC116.1 70 4 rfl).1.trans c19_5) (by have hsp := (⟨(hC116.1 69 44 rfl).1, (hC116.1 69 45 rfl).1, (hC116.1 69 48 rfl).1, funext (fun j => (hC116.1 70 j rfl).1), funext (fun j => (hC116.1 89 j rfl).1), funext (fun j => (hC116.1 90 j rfl).1), funext (fun j => (hC116.1 91 j rfl).1)⟩ : t_sp gi19 gi116); have e1 := congrArg Int32.toInt hsp.1; have e2 := congrArg Int32.toInt hsp.2.1; have ff124 : (gi116 69 44).toInt = (gi9 69 44).toInt := congrArg Int32.toInt ((hC116.1 69 44 rfl).1.trans c19_0); have ff125 : (gi116 69 45).toInt = (gi9 69 45).toInt := congrArg Int32.toInt ((hC116.1 69 45 rfl).1.trans c19_1); have hb1 := hI.b (hI.wf.s (k := 69) rfl) (t_bdK rfl : t_bd 11 44 = some (0, 6)); have hb2 := hI.b (hI.wf.s (k := 69) rfl) (t_bdK rfl : t_bd 11 45 = some (0, 6)); exact t_pla_turn (w := w121) j19_0 (by omega) (by omega) (by omega) (by omega) (by omega) (by omega) (by omega) (by omega) (by omega) (fun _ => by have h1 := q90; have h2 := q28; omega) (fun h => absurd (q107.mpr h) (by omega)) (by have h1 := q111; have h2 := q28; rw [show z110.toInt.toNat = y19_1.toInt.toNat + 1 by omega] at h1; omega) (by rw [← t_tt_sp hsp, congrArg Int32.toInt c19_3]; exact q121) (by omega) (by omega) hsp (funext (fun j => (hC116.1 92 j rfl).1)) q116.1.2 q116.1.1) (by
                                                            intro D hm hb hd h46 ht
                                                            have hQ := j19_1 D hm hb hd h46 ht
                                                            have hsp := (⟨(hC116.1 69 44 rfl).1, (hC116.1 69 45 rfl).1, (hC116.1 69 48 rfl).1, funext (fun j => (hC116.1 70 j rfl).1), funext (fun j => (hC116.1 89 j rfl).1), funext (fun j => (hC116.1 90 j rfl).1), funext (fun j => (hC116.1 91 j rfl).1)⟩ : t_sp gi19 gi116)
                                                            have kf0 := congrArg Int32.toInt c19_0
                                                            have kf1 := congrArg Int32.toInt c19_1
                                                            have kf2 := congrArg Int32.toInt c19_2
                                                            have kf3 := congrArg Int32.toInt c19_3
                                                            have kf4 := congrArg Int32.toInt c19_4
                                                            have kf5 := congrArg Int32.toInt c19_5
                                                            exact s_MQ_T (w := w121) hQ j19_0 hb hd (by omega) (by omega) (by omega) (by omega) (by omega) (by omega) (by omega) (fun _ hh => by have h1 := q90; have h2 := q28; omega) (fun h => absurd (q107.mpr h) (by omega)) (fun hh => by have h1 := q111; have h2 := q28; rw [show z110.toInt.toNat = y19_1.toInt.toNat + 1 by omega] at h1; omega) (by rw [← t_tt_sp hsp, congrArg Int32.toInt c19_3]; exact q121) (by omega) (by omega) hsp q116.2) j19_2 rfl
            · have r126 : w107.toInt ≠ 0 := fun e => h108 (Int32.toInt_inj.mp (e.trans (by decide : (0:Int) = (0 : Int32).toInt)))
              have l127 : 1 ≤ w107.toInt := t_nel h108 l107 rfl rfl
              refine ev_loc f_X12_plans (nx := 131) rfl rfl rfl rfl ?_
              refine ev_loc f_X12_plans (nx := 132) rfl rfl rfl rfl ?_
              refine ev_loc f_X12_plans (nx := 133) rfl rfl rfl rfl ?_
              refine ev_loc f_X12_plans (nx := 135) rfl rfl rfl rfl ?_
              have u128 : y19_4.toInt ≤ (5:Int) := (by have ff129 : (gi19 69 45).toInt = (gi9 69 45).toInt := congrArg Int32.toInt c19_1; have hm := q107.mp (by omega); unfold t_mayC t_C at hm; omega)
              refine ev_qI0 f_X12_plans (nx := 138) (r := []) rfl rfl rfl rfl rfl rfl rfl (c_m_byCart hI (y19_1) l19_1 u25 (y19_3) l19_3 (Int.le_trans u23 (by decide : (5:Int) ≤ 6)) (y19_4) l19_4 u128 (j19_0.2.2.2.2.2.2.1) (by have hm := q107.mp (by omega); unfold t_mayC at hm; omega) (by have hm := q107.mp (by omega); unfold t_mayC at hm; have h1 := j19_0.2.2.2.2.1; have h2 := j19_0.2.2.2.2.2.1; exact t_pla_la j19_0 (by omega) (by first | omega | (unfold t_S; omega)) (by first | omega | (unfold t_C; omega)))) rfl (fun w130 l130 u130 q130 => ?_)
              have q130 : w130.toInt = t_byc gi19 (gi19 92) y19_1.toInt.toNat y19_3.toInt.toNat y19_4.toInt.toNat := q130
              refine ev_loc f_X12_plans (nx := 140) rfl rfl rfl rfl ?_
              refine ev_if f_X12_plans (t1 := 143) (t2 := 177) rfl rfl rfl (fun h131 => ?_) (fun h131 => ?_)
              · have r132 : w130.toInt = w28.toInt := t_eqi h131
                have u133 : w28.toInt ≤ 1000023760 := t_equ (Eq.symm h131) u130
                have l134 : 0 ≤ w28.toInt := t_eql (Eq.symm h131) l130
                refine ev_loc f_X12_plans (nx := 144) rfl rfl rfl rfl ?_
                refine ev_ic f_X12_plans (nx := 145) (v := 1) rfl (by decide) rfl ?_
                refine ev_loc f_X12_plans (nx := 146) rfl rfl rfl rfl ?_
                refine ev_loc f_X12_plans (nx := 147) rfl rfl rfl rfl ?_
                refine ev_getR f_X12_plans (nx := 150) rfl (hI.wf.s rfl) rfl rfl (hI.wf.r rfl) rfl rfl ?_
                refine ev_loc f_X12_plans (nx := 152) rfl rfl rfl rfl ?_
                refine ev_ialdT f_X12_plans (nx := 153) rfl (hI.wf.s rfl) l19_4 (by decide) u128 (by decide) rfl (fun w135 e135 => ?_)
                obtain ⟨l135, u135⟩ := hI.abi e135 (by decide +kernel : t_abr 91 0 5 0 5 = true) l19_4 (by decide) u128 (by decide)
                refine ev_qN f_X12_plans (nx := 156) (r := []) rfl rfl rfl rfl rfl rfl rfl (c_l_acts hI (1) (Int.le_trans (by decide : (0:Int) ≤ 1) (by decide : (1:Int) ≤ (1:Int32).toInt)) (Int.le_trans (by decide : (1:Int32).toInt ≤ (1:Int)) (by decide : (1:Int) ≤ 2)) (y19_1) (w135) (Int.le_trans (by decide : ((-1):Int) ≤ 0) l135) u135 (j19_0.2.2.2.1) (by have hn := t_pla_n j19_0 (by omega) (by omega) (hI.b (hI.wf.s (k := 69) rfl) (t_bdK rfl : t_bd 11 44 = some (0, 6))).2 (hI.b (hI.wf.s (k := 69) rfl) (t_bdK rfl : t_bd 11 45 = some (0, 6))).2; omega) (by have kf137 : (1 : Int32).toInt = 1 := (by decide); omega)) rfl hX rfl (fun gi136 gl136 gr136 hI hX hC136 q136 => ?_)
                have q136 : (t_wh (gi136 69 55).toInt (gi136 93) (gi136 95) ∧ (gi136 69 55).toInt = (gi19 69 55).toInt + 1) ∧ ∀ (L : s_RL) (t : Int × Int × Int), s_P4 gi19 L → (1 : Int) = t.1 → y19_1.toInt = t.2.1 → w135.toInt = t.2.2 → s_P4 gi136 (L ++ [t]) := q136
                obtain ⟨l138, u138⟩ := hI.b (hI.wf.s (k := 69) rfl) (t_bdK rfl : t_bd 11 55 = some (0, 100))
                refine ev_loc f_X12_plans (nx := 157) rfl rfl rfl rfl ?_
                refine ev_loc f_X12_plans (nx := 158) rfl rfl rfl rfl ?_
                refine ev_loc f_X12_plans (nx := 159) rfl rfl rfl rfl ?_
                refine ev_getR f_X12_plans (nx := 162) rfl (hI.wf.s rfl) rfl rfl (hI.wf.r rfl) rfl rfl ?_
                refine ev_loc f_X12_plans (nx := 164) rfl rfl rfl rfl ?_
                refine ev_ialdT f_X12_plans (nx := 165) rfl (hI.wf.s rfl) l19_4 (by decide) u128 (by decide) rfl (fun w139 e139 => ?_)
                rw [e139.trans ((hC136.1 91 y19_4.toNatClampNeg rfl).1.trans e135.symm)]
                refine ev_ic f_X12_plans (nx := 166) (v := 1) rfl (by decide) rfl ?_
                refine ev_inV3 f_X12_plans (nx := 169) (lo2 := [(0, .ref 69), (1, .int w135), (2, .int 1)]) rfl rfl rfl rfl f_X12_ofCart (hI.wf.s rfl) rfl rfl rfl rfl rfl ?_
                refine ev_loc f_X12_ofCart (nx := 1) rfl rfl rfl rfl ?_
                refine ev_getR f_X12_ofCart (nx := 4) rfl (hI.wf.s rfl) rfl rfl (hI.wf.r rfl) rfl rfl ?_
                refine ev_bp f_X12_ofCart (nx := 6) (v := 82) rfl (by decide) rfl ?_
                refine ev_ic f_X12_ofCart (nx := 7) (v := 3) rfl (by decide) rfl ?_
                refine ev_loc f_X12_ofCart (nx := 8) rfl rfl rfl rfl ?_
                refine ev_mulL f_X12_ofCart (nx := 9) (c := 3) (l := 0) (u := 15) rfl (by decide) (by decide) l135 u135 rfl rfl (by decide) (by decide) rfl (fun z140 e140 l140 u140 => ?_)
                refine ev_addK f_X12_ofCart (nx := 10) (c := 82) (l := 82) (u := 97) rfl (by decide) l140 u140 rfl rfl (by decide) (by decide) rfl (fun z141 e141 l141 u141 => ?_)
                refine ev_loc f_X12_ofCart (nx := 11) rfl rfl rfl rfl ?_
                refine ev_addC f_X12_ofCart (nx := 12) (c := 1) (l := 83) (u := 98) rfl (by decide) l141 u141 rfl rfl (by decide) (by decide) rfl (fun z142 e142 l142 u142 => ?_)
                refine ev_ialdT f_X12_ofCart (nx := 13) rfl (hI.wf.s rfl) l142 (by decide) u142 (by decide) rfl (fun w143 e143 => ?_)
                obtain ⟨l143, u143⟩ := hI.abA (x := w135) e143 (by decide +kernel : t_aba 70 83 3 0 5 0 20 = true) (by omega) (by omega) (by omega)
                refine ev_retK1 f_X12_ofCart rfl rfl rfl ?_
                refine ev_addR f_X12_plans (nx := 170) (l := 0) (u := 260) rfl l19_1 u25 l143 u143 rfl rfl (by decide) (by decide) rfl (fun z144 e144 l144 u144 => ?_)
                refine ev_loc f_X12_plans (nx := 171) (lo' := [(1, .int z144), (5, .int w28), (4, .int y19_4), (3, .int y19_3), (2, .int y19_2), (0, .ref 69)]) rfl rfl rfl rfl ?_
                refine ev_incR f_X12_plans (nx := 174) (c := 1) (l := 1) (u := 6) rfl rfl (by decide) (by decide) l19_4 u128 rfl rfl (by decide) (by decide) rfl (fun z145 e145 l145 u145 => ?_)
                refine ev_jmp f_X12_plans (nx := 222) rfl rfl rfl ?_
                refine ev_jmp f_X12_plans (nx := 36) rfl rfl rfl ?_
                refine ev_sub (lo := [(4, .int z145), (3, .int y19_3), (2, .int y19_2), (1, .int z144), (0, .ref 69)]) rfl (t_sc rfl (t_sc rfl (t_sc rfl (t_sc rfl (t_sc rfl t_sn))))) ?_
                exact ih19 _ (by omega) gi136 gl136 gr136 (z145) (y19_3) (y19_2) (z144) hI hX  (Int.le_trans (by decide : (0:Int) ≤ 1) l145) u145 l19_3 (Int.le_trans u23 (by decide : (5:Int) ≤ 6)) l19_2 u19_2 l144 (Int.le_trans u144 (by decide : (260:Int) ≤ 280)) ((hC136.1 69 44 rfl).1.trans c19_0) ((hC136.1 69 45 rfl).1.trans c19_1) ((hC136.1 69 46 rfl).1.trans c19_2) ((hC136.1 69 48 rfl).1.trans c19_3) ((hC136.1 69 57 rfl).1.trans c19_4) ((hC136.1 70 4 rfl).1.trans c19_5) (by have hsp := (⟨(hC136.1 69 44 rfl).1, (hC136.1 69 45 rfl).1, (hC136.1 69 48 rfl).1, funext (fun j => (hC136.1 70 j rfl).1), funext (fun j => (hC136.1 89 j rfl).1), funext (fun j => (hC136.1 90 j rfl).1), funext (fun j => (hC136.1 91 j rfl).1)⟩ : t_sp gi19 gi136); have htk : t_ct gi136 y19_4.toInt.toNat = w143.toInt.toNat := (by unfold t_ct; rw [t_of_eq (p := gi136) (a := 83) (b := 3) t_sp.rf (t_ci_eq t_sp.rf (i := y19_4) (((hC136.1 91 y19_4.toNatClampNeg rfl).1.trans e135.symm)).symm (by omega)) (e143.symm).symm (by omega) (by omega)]); exact t_pla_cart (w := w143) j19_0 (by omega) (by omega) (by omega) (q107.mp (by omega)) (by have h1 := q130; have h2 := q28; omega) (by rw [← t_ct_sp hsp]; exact htk) (by omega) (by omega) (by omega) (by rw [← t_cc_sp hsp]; exact t_cc0 hI (by omega)) hsp (funext (fun j => (hC136.1 92 j rfl).1)) q136.1.2 q136.1.1) (by
                                                            intro D hm hb hd h46 ht
                                                            have hQ := j19_1 D hm hb hd h46 ht
                                                            have hsp := (⟨(hC136.1 69 44 rfl).1, (hC136.1 69 45 rfl).1, (hC136.1 69 48 rfl).1, funext (fun j => (hC136.1 70 j rfl).1), funext (fun j => (hC136.1 89 j rfl).1), funext (fun j => (hC136.1 90 j rfl).1), funext (fun j => (hC136.1 91 j rfl).1)⟩ : t_sp gi19 gi136)
                                                            have htk : t_ct gi136 y19_4.toInt.toNat = w143.toInt.toNat := (by unfold t_ct; rw [t_of_eq (p := gi136) (a := 83) (b := 3) t_sp.rf (t_ci_eq t_sp.rf (i := y19_4) (((hC136.1 91 y19_4.toNatClampNeg rfl).1.trans e135.symm)).symm (by omega)) (e143.symm).symm (by omega) (by omega)])
                                                            have cw := t_clamp (i := y19_4) (by omega)
                                                            exact s_MQ_C (w := w143) (who := w135) hQ j19_0 hb hd ht (by omega) (by omega) (by omega) (by omega) (by omega) (by omega) (q107.mp (by omega)) (by have h1 := q130; have h2 := q28; omega) (by rw [← t_ct_sp hsp]; exact htk) (by omega) (by omega) (by omega) hsp (by rw [e135, show y19_4.toNatClampNeg = y19_4.toInt.toNat by omega]) q136.2) j19_2 rfl
              · have r146 : w130.toInt ≠ w28.toInt := t_nei h131
                refine ev_loc f_X12_plans (nx := 178) rfl rfl rfl rfl ?_
                refine ev_loc f_X12_plans (nx := 179) rfl rfl rfl rfl ?_
                refine ev_ic f_X12_plans (nx := 180) (v := 1) rfl (by decide) rfl ?_
                refine ev_addC f_X12_plans (nx := 181) (c := 1) (l := 1) (u := 241) rfl (by decide) l19_1 u25 rfl rfl (by decide) (by decide) rfl (fun z147 e147 l147 u147 => ?_)
                refine ev_loc f_X12_plans (nx := 182) rfl rfl rfl rfl ?_
                refine ev_loc f_X12_plans (nx := 183) rfl rfl rfl rfl ?_
                refine ev_loc f_X12_plans (nx := 185) rfl rfl rfl rfl ?_
                refine ev_qI0 f_X12_plans (nx := 188) (r := []) rfl rfl rfl rfl rfl rfl rfl (c_m_leftAt hI (z147) (Int.le_trans (by decide : (0:Int) ≤ 1) l147) (Int.le_trans u147 (by decide : (241:Int) ≤ 300)) (y19_2) l19_2 u19_2 (y19_3) l19_3 (Int.le_trans u23 (by decide : (5:Int) ≤ 6)) (y19_4) l19_4 (Int.le_trans u128 (by decide : (5:Int) ≤ 6))) rfl (fun w148 l148 u148 q148 => ?_)
                have q148 : w148.toInt = t_la (gi19 92) (t_S gi19) (t_C gi19) z147.toInt.toNat y19_2.toInt.toNat y19_3.toInt.toNat y19_4.toInt.toNat := q148
                refine ev_loc f_X12_plans (nx := 190) rfl rfl rfl rfl ?_
                refine ev_if f_X12_plans (t1 := 193) (t2 := 199) rfl rfl rfl (fun h149 => ?_) (fun h149 => ?_)
                · have r150 : w148.toInt = w28.toInt := t_eqi h149
                  refine ev_incR f_X12_plans (nx := 196) (c := 1) (l := 1) (u := 241) rfl rfl (by decide) (by decide) l19_1 u25 rfl rfl (by decide) (by decide) rfl (fun z151 e151 l151 u151 => ?_)
                  refine ev_jmp f_X12_plans (nx := 222) rfl rfl rfl ?_
                  refine ev_jmp f_X12_plans (nx := 36) rfl rfl rfl ?_
                  refine ev_sub (lo := [(4, .int y19_4), (3, .int y19_3), (2, .int y19_2), (1, .int z151), (0, .ref 69)]) rfl (t_sc rfl (t_sc rfl (t_sc rfl (t_sc rfl (t_sc rfl t_sn))))) ?_
                  exact ih19 _ (by omega) gi19 gl19 gr19 (y19_4) (y19_3) (y19_2) (z151) hI hX  l19_4 (Int.le_trans u128 (by decide : (5:Int) ≤ 6)) l19_3 (Int.le_trans u23 (by decide : (5:Int) ≤ 6)) l19_2 u19_2 (Int.le_trans (by decide : (0:Int) ≤ 1) l151) (Int.le_trans u151 (by decide : (241:Int) ≤ 280)) c19_0 c19_1 c19_2 c19_3 c19_4 c19_5 (t_pla_rest j19_0 (by omega) (by have h1 := q148; have h2 := q28; rw [show z147.toInt.toNat = y19_1.toInt.toNat + 1 by omega] at h1; omega) (by omega)) (by
                                                            intro D hm hb hd h46 ht
                                                            have hQ := j19_1 D hm hb hd h46 ht
                                                            have kf0 := congrArg Int32.toInt c19_0
                                                            have kf1 := congrArg Int32.toInt c19_1
                                                            have kf2 := congrArg Int32.toInt c19_2
                                                            have kf3 := congrArg Int32.toInt c19_3
                                                            have kf4 := congrArg Int32.toInt c19_4
                                                            have kf5 := congrArg Int32.toInt c19_5
                                                            exact s_MQ_R hQ j19_0 hb hd (by omega) (by omega) (by omega) (by omega) (by omega) (by omega) (by omega) (fun _ hh => by have h1 := q90; have h2 := q28; omega) (fun _ hh => by have h1 := q130; have h2 := q28; omega) (by have h1 := q148; have h2 := q28; rw [show z147.toInt.toNat = y19_1.toInt.toNat + 1 by omega] at h1; omega) (by omega)) j19_2 rfl
                · have r152 : w148.toInt ≠ w28.toInt := t_nei h149
                  refine ev_loc f_X12_plans (nx := 200) rfl rfl rfl rfl ?_
                  refine ev_ic f_X12_plans (nx := 201) (v := 2) rfl (by decide) rfl ?_
                  refine ev_loc f_X12_plans (nx := 202) rfl rfl rfl rfl ?_
                  refine ev_ic f_X12_plans (nx := 203) (v := -1) rfl (by decide) rfl ?_
                  refine ev_qN f_X12_plans (nx := 206) (r := []) rfl rfl rfl rfl rfl rfl rfl (c_l_acts hI (2) (Int.le_trans (by decide : (0:Int) ≤ 2) (by decide : (2:Int) ≤ (2:Int32).toInt)) (by decide : (2:Int32).toInt ≤ (2:Int)) (y19_1) ((-1)) (by decide : ((-1):Int) ≤ ((-1):Int32).toInt) (Int.le_trans (by decide : ((-1):Int32).toInt ≤ ((-1):Int)) (by decide : ((-1):Int) ≤ 5)) (j19_0.2.2.2.1) (by have hn := t_pla_n j19_0 (by omega) (by omega) (hI.b (hI.wf.s (k := 69) rfl) (t_bdK rfl : t_bd 11 44 = some (0, 6))).2 (hI.b (hI.wf.s (k := 69) rfl) (t_bdK rfl : t_bd 11 45 = some (0, 6))).2; omega) (by have kf154 : ((-1) : Int32).toInt = (-1) := (by decide); have kf155 : (2 : Int32).toInt = 2 := (by decide); omega)) rfl hX rfl (fun gi153 gl153 gr153 hI hX hC153 q153 => ?_)
                  have q153 : (t_wh (gi153 69 55).toInt (gi153 93) (gi153 95) ∧ (gi153 69 55).toInt = (gi19 69 55).toInt + 1) ∧ ∀ (L : s_RL) (t : Int × Int × Int), s_P4 gi19 L → (2 : Int) = t.1 → y19_1.toInt = t.2.1 → ((-1) : Int) = t.2.2 → s_P4 gi153 (L ++ [t]) := q153
                  obtain ⟨l156, u156⟩ := hI.b (hI.wf.s (k := 69) rfl) (t_bdK rfl : t_bd 11 55 = some (0, 100))
                  refine ev_loc f_X12_plans (nx := 207) rfl rfl rfl rfl ?_
                  refine ev_loc f_X12_plans (nx := 208) rfl rfl rfl rfl ?_
                  refine ev_loc f_X12_plans (nx := 209) rfl rfl rfl rfl ?_
                  refine ev_loc f_X12_plans (nx := 210) rfl rfl rfl rfl ?_
                  refine ev_gvI f_X12_plans (nx := 213) (w := (gi9 69 48)) rfl (hI.wf.s rfl) rfl rfl ((hC153.1 69 48 rfl).1.trans c19_3) rfl ?_
                  have l157 : (1:Int) ≤ (gi9 69 48).toInt := (by have h := j19_0.2.2.2.2.2.2.2; rw [c19_3] at h; exact h)
                  refine ev_qI0 f_X12_plans (nx := 216) (r := [.int y19_1]) rfl rfl rfl rfl rfl rfl rfl (c_m_turnTime hI (y19_1) l19_1 (Int.le_trans u25 (by decide : (240:Int) ≤ 300)) ((gi9 69 48)) l157 u12) rfl (fun w158 l158 u158 q158 => ?_)
                  have q158 : w158.toInt = ((t_tt gi153 (gi9 69 48).toInt y19_1.toInt.toNat : Nat) : Int) := q158
                  refine ev_addR f_X12_plans (nx := 217) (l := 1) (u := 280) rfl l19_1 u25 l158 u158 rfl rfl (by decide) (by decide) rfl (fun z159 e159 l159 u159 => ?_)
                  refine ev_loc f_X12_plans (nx := 218) (lo' := [(1, .int z159), (5, .int w28), (4, .int y19_4), (3, .int y19_3), (2, .int y19_2), (0, .ref 69)]) rfl rfl rfl rfl ?_
                  refine ev_ic f_X12_plans (nx := 219) (v := 1) rfl (by decide) rfl ?_
                  refine ev_loc f_X12_plans (nx := 220) rfl rfl rfl rfl ?_
                  refine ev_subK f_X12_plans (nx := 221) (c := 1) (l := 0) (u := 1) rfl (by decide) l19_2 u19_2 rfl rfl (by decide) (by decide) rfl (fun z160 e160 l160 u160 => ?_)
                  refine ev_loc f_X12_plans (nx := 222) (lo' := [(2, .int z160), (1, .int z159), (5, .int w28), (4, .int y19_4), (3, .int y19_3), (0, .ref 69)]) rfl rfl rfl rfl ?_
                  refine ev_jmp f_X12_plans (nx := 36) rfl rfl rfl ?_
                  refine ev_sub (lo := [(4, .int y19_4), (3, .int y19_3), (2, .int z160), (1, .int z159), (0, .ref 69)]) rfl (t_sc rfl (t_sc rfl (t_sc rfl (t_sc rfl (t_sc rfl t_sn))))) ?_
                  exact ih19 _ (by omega) gi153 gl153 gr153 (y19_4) (y19_3) (z160) (z159) hI hX  l19_4 (Int.le_trans u128 (by decide : (5:Int) ≤ 6)) l19_3 (Int.le_trans u23 (by decide : (5:Int) ≤ 6)) l160 u160 (Int.le_trans (by decide : (0:Int) ≤ 1) l159) u159 ((hC153.1 69 44 rfl).1.trans c19_0) ((hC153.1 69 45 rfl).1.trans c19_1) ((hC153.1 69 46 rfl).1.trans c19_2) ((hC153.1 69 48 rfl).1.trans c19_3) ((hC153.1 69 57 rfl).1.trans c19_4) ((hC153.1 70 4 rfl).1.trans c19_5) (by have hsp := (⟨(hC153.1 69 44 rfl).1, (hC153.1 69 45 rfl).1, (hC153.1 69 48 rfl).1, funext (fun j => (hC153.1 70 j rfl).1), funext (fun j => (hC153.1 89 j rfl).1), funext (fun j => (hC153.1 90 j rfl).1), funext (fun j => (hC153.1 91 j rfl).1)⟩ : t_sp gi19 gi153); have e1 := congrArg Int32.toInt hsp.1; have e2 := congrArg Int32.toInt hsp.2.1; have ff161 : (gi153 69 44).toInt = (gi9 69 44).toInt := congrArg Int32.toInt ((hC153.1 69 44 rfl).1.trans c19_0); have ff162 : (gi153 69 45).toInt = (gi9 69 45).toInt := congrArg Int32.toInt ((hC153.1 69 45 rfl).1.trans c19_1); have hb1 := hI.b (hI.wf.s (k := 69) rfl) (t_bdK rfl : t_bd 11 44 = some (0, 6)); have hb2 := hI.b (hI.wf.s (k := 69) rfl) (t_bdK rfl : t_bd 11 45 = some (0, 6)); exact t_pla_turn (w := w158) j19_0 (by omega) (by omega) (by omega) (by omega) (by omega) (by omega) (by omega) (by omega) (by omega) (fun _ => by have h1 := q90; have h2 := q28; omega) (fun _ => by have h1 := q130; have h2 := q28; omega) (by have h1 := q148; have h2 := q28; rw [show z147.toInt.toNat = y19_1.toInt.toNat + 1 by omega] at h1; omega) (by rw [← t_tt_sp hsp, congrArg Int32.toInt c19_3]; exact q158) (by omega) (by omega) hsp (funext (fun j => (hC153.1 92 j rfl).1)) q153.1.2 q153.1.1) (by
                                                            intro D hm hb hd h46 ht
                                                            have hQ := j19_1 D hm hb hd h46 ht
                                                            have hsp := (⟨(hC153.1 69 44 rfl).1, (hC153.1 69 45 rfl).1, (hC153.1 69 48 rfl).1, funext (fun j => (hC153.1 70 j rfl).1), funext (fun j => (hC153.1 89 j rfl).1), funext (fun j => (hC153.1 90 j rfl).1), funext (fun j => (hC153.1 91 j rfl).1)⟩ : t_sp gi19 gi153)
                                                            have kf0 := congrArg Int32.toInt c19_0
                                                            have kf1 := congrArg Int32.toInt c19_1
                                                            have kf2 := congrArg Int32.toInt c19_2
                                                            have kf3 := congrArg Int32.toInt c19_3
                                                            have kf4 := congrArg Int32.toInt c19_4
                                                            have kf5 := congrArg Int32.toInt c19_5
                                                            exact s_MQ_T (w := w158) hQ j19_0 hb hd (by omega) (by omega) (by omega) (by omega) (by omega) (by omega) (by omega) (fun _ hh => by have h1 := q90; have h2 := q28; omega) (fun _ hh => by have h1 := q130; have h2 := q28; omega) (fun hh => by have h1 := q148; have h2 := q28; rw [show z147.toInt.toNat = y19_1.toInt.toNat + 1 by omega] at h1; omega) (by rw [← t_tt_sp hsp, congrArg Int32.toInt c19_3]; exact q158) (by omega) (by omega) hsp q153.2) j19_2 rfl
      · have r163 : (gi9 69 44).toInt ≤ y19_3.toInt := Int32.le_iff_toInt_le.mp (t_nlt h21)
        refine ev_loc f_X12_plans (nx := 46) rfl rfl rfl rfl ?_
        refine ev_loc f_X12_plans (nx := 47) rfl rfl rfl rfl ?_
        refine ev_gvI f_X12_plans (nx := 50) (w := (gi9 69 45)) rfl (hI.wf.s rfl) rfl rfl c19_1 rfl ?_
        refine ev_if f_X12_plans (t1 := 225) (t2 := 53) rfl rfl rfl (fun h164 => ?_) (fun h164 => ?_)
        · have r165 : (gi9 69 45).toInt ≤ y19_4.toInt := Int32.le_iff_toInt_le.mp h164
          refine ev_loc f_X12_plans (nx := 226) rfl rfl rfl rfl ?_
          refine ev_loc f_X12_plans (nx := 227) rfl rfl rfl rfl ?_
          refine ev_putIT f_X12_plans (nx := 230) rfl (hI.wf.s rfl) rfl rfl rfl (hI.put0 (hI.wf.s rfl) rfl rfl) (hX.upI rfl) (fun g166 e166 hI hX => ?_)
          refine ev_ic f_X12_plans (nx := 231) (v := 1) rfl (by decide) rfl ?_
          exact ev_ret f_X12_plans rfl rfl rfl ⟨_, _, _, rfl, hI, hX, ⟨_, rfl, (Int.le_trans (by decide : (0:Int) ≤ 1) (by decide : (1:Int) ≤ (1:Int32).toInt)), (by decide : (1:Int32).toInt ≤ (1:Int)), (show (∀ D : s_D, t_ME 0 gi D → t_Cb D → s_DB D → (gi 69 46).toInt = -1 → s_tk D → ((1 : Int) = 1 ↔ s_LS (s_PD D (D 4)) 0 0 0 0 < 1000000000) ∧ ((1 : Int) = 1 → s_P4 g166 (s_PL D) ∧ s_FE D (g166 69 57).toInt ∧ s_FX g166 D)) ∧ ((1 : Int) = 1 → t_wh (g166 69 55).toInt (g166 93) (g166 95)) from ⟨(by
                                                            intro D hm hb hd h46 ht
                                                            have hQ := j19_1 D hm hb hd h46 ht
                                                            have kf0 := congrArg Int32.toInt c19_0
                                                            have kf1 := congrArg Int32.toInt c19_1
                                                            have kf2 := congrArg Int32.toInt c19_2
                                                            have kf3 := congrArg Int32.toInt c19_3
                                                            have kf4 := congrArg Int32.toInt c19_4
                                                            have kf5 := congrArg Int32.toInt c19_5
                                                            obtain ⟨hE, hF, hX9⟩ := s_MQ_E hQ (by omega) (by omega) (by omega) (by omega) hb
                                                            exact ⟨⟨fun _ => j19_2 D hm hb hd h46, fun _ => rfl⟩, fun _ => ⟨hE.cg (by rw [e166]; exact x_up2_off (Or.inr (by decide))) (by rw [e166]; exact x_up2_ne (by decide)) (by rw [e166]; exact x_up2_ne (by decide)) (by rw [e166]; exact x_up2_ne (by decide)), by rw [e166, x_up2_at]; exact hF, hX9.sp ⟨by rw [e166]; exact x_up2_off (Or.inr (by decide)), by rw [e166]; exact x_up2_off (Or.inr (by decide)), by rw [e166]; exact x_up2_off (Or.inr (by decide)), by rw [e166]; exact x_up2_ne (by decide), by rw [e166]; exact x_up2_ne (by decide), by rw [e166]; exact x_up2_ne (by decide), by rw [e166]; exact x_up2_ne (by decide)⟩⟩⟩), (fun _ => by rw [(((by rw [e166]; exact x_up2_off (Or.inr (by decide)) : g166 69 55 = gi19 69 55).trans rfl) : g166 69 55 = (gi19 69 55)), (((by rw [e166]; exact x_up2_ne (by decide) : g166 93 = gi19 93)) : g166 93 = gi19 93), (((by rw [e166]; exact x_up2_ne (by decide) : g166 95 = gi19 95)) : g166 95 = gi19 95)]; exact j19_0.2.2.2.1)⟩)⟩⟩
        · have r167 : y19_4.toInt < (gi9 69 45).toInt := Int32.lt_iff_toInt_lt.mp (t_nle h164)
          have u168 : y19_4.toInt ≤ 5 := t_ltu (t_nle h164) u11 rfl
          have l169 : 1 ≤ (gi9 69 45).toInt := t_ltl (t_nle h164) l19_4 rfl
          refine ev_loc f_X12_plans (nx := 54) rfl rfl rfl rfl ?_
          refine ev_loc f_X12_plans (nx := 55) rfl rfl rfl rfl ?_
          refine ev_loc f_X12_plans (nx := 56) rfl rfl rfl rfl ?_
          refine ev_loc f_X12_plans (nx := 57) rfl rfl rfl rfl ?_
          refine ev_loc f_X12_plans (nx := 59) rfl rfl rfl rfl ?_
          have u170 : y19_1.toInt ≤ (240:Int) := (by have hh := t_pla_m j19_0 (by omega) (by omega) (by have ff171 : (gi19 69 44).toInt = (gi9 69 44).toInt := congrArg Int32.toInt c19_0; have ff172 : (gi19 69 45).toInt = (gi9 69 45).toInt := congrArg Int32.toInt c19_1; omega); omega)
          refine ev_qI0 f_X12_plans (nx := 62) (r := []) rfl rfl rfl rfl rfl rfl rfl (c_m_leftAt hI (y19_1) l19_1 (Int.le_trans u170 (by decide : (240:Int) ≤ 300)) (y19_2) l19_2 u19_2 (y19_3) l19_3 u19_3 (y19_4) l19_4 (Int.le_trans u168 (by decide : (5:Int) ≤ 6))) rfl (fun w173 l173 u173 q173 => ?_)
          have q173 : w173.toInt = t_la (gi19 92) (t_S gi19) (t_C gi19) y19_1.toInt.toNat y19_2.toInt.toNat y19_3.toInt.toNat y19_4.toInt.toNat := q173
          refine ev_loc f_X12_plans (nx := 64) (lo' := [(5, .int w173), (4, .int y19_4), (3, .int y19_3), (2, .int y19_2), (1, .int y19_1), (0, .ref 69)]) rfl rfl rfl rfl ?_
          refine ev_loc f_X12_plans (nx := 65) rfl rfl rfl rfl ?_
          refine ev_loc f_X12_plans (nx := 66) rfl rfl rfl rfl ?_
          refine ev_loc f_X12_plans (nx := 67) rfl rfl rfl rfl ?_
          refine ev_loc f_X12_plans (nx := 68) rfl rfl rfl rfl ?_
          refine ev_qI0 f_X12_plans (nx := 71) (r := []) rfl rfl rfl rfl rfl rfl rfl (c_m_mayShip hI (y19_1) l19_1 u170 (y19_2) l19_2 u19_2 (y19_3) l19_3 u19_3 (j19_0.2.2.2.2.1)) rfl (fun w174 l174 u174 q174 => ?_)
          have q174 : (w174.toInt = 1 ↔ t_mayS gi19 y19_1.toInt.toNat y19_2.toInt.toNat y19_3.toInt.toNat) := q174
          refine ev_if f_X12_plans (t1 := 119) (t2 := 74) rfl rfl rfl (fun h175 => ?_) (fun h175 => ?_)
          · have u176 : w174.toInt ≤ 0 := t_equ h175 (by decide : (0:Int32).toInt ≤ (0:Int))
            refine ev_loc f_X12_plans (nx := 120) rfl rfl rfl rfl ?_
            refine ev_loc f_X12_plans (nx := 121) rfl rfl rfl rfl ?_
            refine ev_loc f_X12_plans (nx := 122) rfl rfl rfl rfl ?_
            refine ev_loc f_X12_plans (nx := 124) rfl rfl rfl rfl ?_
            refine ev_qI0 f_X12_plans (nx := 127) (r := []) rfl rfl rfl rfl rfl rfl rfl (c_m_mayCart hI (y19_1) l19_1 u170 (y19_2) l19_2 u19_2 (y19_4) l19_4 (Int.le_trans u168 (by decide : (5:Int) ≤ 6))) rfl (fun w177 l177 u177 q177 => ?_)
            have q177 : (w177.toInt = 1 ↔ t_mayC gi19 y19_1.toInt.toNat y19_2.toInt.toNat y19_4.toInt.toNat) := q177
            refine ev_if f_X12_plans (t1 := 177) (t2 := 130) rfl rfl rfl (fun h178 => ?_) (fun h178 => ?_)
            · have u179 : w177.toInt ≤ 0 := t_equ h178 (by decide : (0:Int32).toInt ≤ (0:Int))
              refine ev_loc f_X12_plans (nx := 178) rfl rfl rfl rfl ?_
              refine ev_loc f_X12_plans (nx := 179) rfl rfl rfl rfl ?_
              refine ev_ic f_X12_plans (nx := 180) (v := 1) rfl (by decide) rfl ?_
              refine ev_addC f_X12_plans (nx := 181) (c := 1) (l := 1) (u := 241) rfl (by decide) l19_1 u170 rfl rfl (by decide) (by decide) rfl (fun z180 e180 l180 u180 => ?_)
              refine ev_loc f_X12_plans (nx := 182) rfl rfl rfl rfl ?_
              refine ev_loc f_X12_plans (nx := 183) rfl rfl rfl rfl ?_
              refine ev_loc f_X12_plans (nx := 185) rfl rfl rfl rfl ?_
              refine ev_qI0 f_X12_plans (nx := 188) (r := []) rfl rfl rfl rfl rfl rfl rfl (c_m_leftAt hI (z180) (Int.le_trans (by decide : (0:Int) ≤ 1) l180) (Int.le_trans u180 (by decide : (241:Int) ≤ 300)) (y19_2) l19_2 u19_2 (y19_3) l19_3 u19_3 (y19_4) l19_4 (Int.le_trans u168 (by decide : (5:Int) ≤ 6))) rfl (fun w181 l181 u181 q181 => ?_)
              have q181 : w181.toInt = t_la (gi19 92) (t_S gi19) (t_C gi19) z180.toInt.toNat y19_2.toInt.toNat y19_3.toInt.toNat y19_4.toInt.toNat := q181
              refine ev_loc f_X12_plans (nx := 190) rfl rfl rfl rfl ?_
              refine ev_if f_X12_plans (t1 := 193) (t2 := 199) rfl rfl rfl (fun h182 => ?_) (fun h182 => ?_)
              · have r183 : w181.toInt = w173.toInt := t_eqi h182
                refine ev_incR f_X12_plans (nx := 196) (c := 1) (l := 1) (u := 241) rfl rfl (by decide) (by decide) l19_1 u170 rfl rfl (by decide) (by decide) rfl (fun z184 e184 l184 u184 => ?_)
                refine ev_jmp f_X12_plans (nx := 222) rfl rfl rfl ?_
                refine ev_jmp f_X12_plans (nx := 36) rfl rfl rfl ?_
                refine ev_sub (lo := [(4, .int y19_4), (3, .int y19_3), (2, .int y19_2), (1, .int z184), (0, .ref 69)]) rfl (t_sc rfl (t_sc rfl (t_sc rfl (t_sc rfl (t_sc rfl t_sn))))) ?_
                exact ih19 _ (by omega) gi19 gl19 gr19 (y19_4) (y19_3) (y19_2) (z184) hI hX  l19_4 (Int.le_trans u168 (by decide : (5:Int) ≤ 6)) l19_3 u19_3 l19_2 u19_2 (Int.le_trans (by decide : (0:Int) ≤ 1) l184) (Int.le_trans u184 (by decide : (241:Int) ≤ 280)) c19_0 c19_1 c19_2 c19_3 c19_4 c19_5 (t_pla_rest j19_0 (by omega) (by have h1 := q181; have h2 := q173; rw [show z180.toInt.toNat = y19_1.toInt.toNat + 1 by omega] at h1; omega) (by omega)) (by
                                                            intro D hm hb hd h46 ht
                                                            have hQ := j19_1 D hm hb hd h46 ht
                                                            have kf0 := congrArg Int32.toInt c19_0
                                                            have kf1 := congrArg Int32.toInt c19_1
                                                            have kf2 := congrArg Int32.toInt c19_2
                                                            have kf3 := congrArg Int32.toInt c19_3
                                                            have kf4 := congrArg Int32.toInt c19_4
                                                            have kf5 := congrArg Int32.toInt c19_5
                                                            exact s_MQ_R hQ j19_0 hb hd (by omega) (by omega) (by omega) (by omega) (by omega) (by omega) (by omega) (fun h => absurd (q174.mpr h) (by omega)) (fun h => absurd (q177.mpr h) (by omega)) (by have h1 := q181; have h2 := q173; rw [show z180.toInt.toNat = y19_1.toInt.toNat + 1 by omega] at h1; omega) (by omega)) j19_2 rfl
              · have r185 : w181.toInt ≠ w173.toInt := t_nei h182
                refine ev_loc f_X12_plans (nx := 200) rfl rfl rfl rfl ?_
                refine ev_ic f_X12_plans (nx := 201) (v := 2) rfl (by decide) rfl ?_
                refine ev_loc f_X12_plans (nx := 202) rfl rfl rfl rfl ?_
                refine ev_ic f_X12_plans (nx := 203) (v := -1) rfl (by decide) rfl ?_
                refine ev_qN f_X12_plans (nx := 206) (r := []) rfl rfl rfl rfl rfl rfl rfl (c_l_acts hI (2) (Int.le_trans (by decide : (0:Int) ≤ 2) (by decide : (2:Int) ≤ (2:Int32).toInt)) (by decide : (2:Int32).toInt ≤ (2:Int)) (y19_1) ((-1)) (by decide : ((-1):Int) ≤ ((-1):Int32).toInt) (Int.le_trans (by decide : ((-1):Int32).toInt ≤ ((-1):Int)) (by decide : ((-1):Int) ≤ 5)) (j19_0.2.2.2.1) (by have hn := t_pla_n j19_0 (by omega) (by omega) (hI.b (hI.wf.s (k := 69) rfl) (t_bdK rfl : t_bd 11 44 = some (0, 6))).2 (hI.b (hI.wf.s (k := 69) rfl) (t_bdK rfl : t_bd 11 45 = some (0, 6))).2; omega) (by have kf187 : ((-1) : Int32).toInt = (-1) := (by decide); have kf188 : (2 : Int32).toInt = 2 := (by decide); omega)) rfl hX rfl (fun gi186 gl186 gr186 hI hX hC186 q186 => ?_)
                have q186 : (t_wh (gi186 69 55).toInt (gi186 93) (gi186 95) ∧ (gi186 69 55).toInt = (gi19 69 55).toInt + 1) ∧ ∀ (L : s_RL) (t : Int × Int × Int), s_P4 gi19 L → (2 : Int) = t.1 → y19_1.toInt = t.2.1 → ((-1) : Int) = t.2.2 → s_P4 gi186 (L ++ [t]) := q186
                obtain ⟨l189, u189⟩ := hI.b (hI.wf.s (k := 69) rfl) (t_bdK rfl : t_bd 11 55 = some (0, 100))
                refine ev_loc f_X12_plans (nx := 207) rfl rfl rfl rfl ?_
                refine ev_loc f_X12_plans (nx := 208) rfl rfl rfl rfl ?_
                refine ev_loc f_X12_plans (nx := 209) rfl rfl rfl rfl ?_
                refine ev_loc f_X12_plans (nx := 210) rfl rfl rfl rfl ?_
                refine ev_gvI f_X12_plans (nx := 213) (w := (gi9 69 48)) rfl (hI.wf.s rfl) rfl rfl ((hC186.1 69 48 rfl).1.trans c19_3) rfl ?_
                have l190 : (1:Int) ≤ (gi9 69 48).toInt := (by have h := j19_0.2.2.2.2.2.2.2; rw [c19_3] at h; exact h)
                refine ev_qI0 f_X12_plans (nx := 216) (r := [.int y19_1]) rfl rfl rfl rfl rfl rfl rfl (c_m_turnTime hI (y19_1) l19_1 (Int.le_trans u170 (by decide : (240:Int) ≤ 300)) ((gi9 69 48)) l190 u12) rfl (fun w191 l191 u191 q191 => ?_)
                have q191 : w191.toInt = ((t_tt gi186 (gi9 69 48).toInt y19_1.toInt.toNat : Nat) : Int) := q191
                refine ev_addR f_X12_plans (nx := 217) (l := 1) (u := 280) rfl l19_1 u170 l191 u191 rfl rfl (by decide) (by decide) rfl (fun z192 e192 l192 u192 => ?_)
                refine ev_loc f_X12_plans (nx := 218) (lo' := [(1, .int z192), (5, .int w173), (4, .int y19_4), (3, .int y19_3), (2, .int y19_2), (0, .ref 69)]) rfl rfl rfl rfl ?_
                refine ev_ic f_X12_plans (nx := 219) (v := 1) rfl (by decide) rfl ?_
                refine ev_loc f_X12_plans (nx := 220) rfl rfl rfl rfl ?_
                refine ev_subK f_X12_plans (nx := 221) (c := 1) (l := 0) (u := 1) rfl (by decide) l19_2 u19_2 rfl rfl (by decide) (by decide) rfl (fun z193 e193 l193 u193 => ?_)
                refine ev_loc f_X12_plans (nx := 222) (lo' := [(2, .int z193), (1, .int z192), (5, .int w173), (4, .int y19_4), (3, .int y19_3), (0, .ref 69)]) rfl rfl rfl rfl ?_
                refine ev_jmp f_X12_plans (nx := 36) rfl rfl rfl ?_
                refine ev_sub (lo := [(4, .int y19_4), (3, .int y19_3), (2, .int z193), (1, .int z192), (0, .ref 69)]) rfl (t_sc rfl (t_sc rfl (t_sc rfl (t_sc rfl (t_sc rfl t_sn))))) ?_
                exact ih19 _ (by omega) gi186 gl186 gr186 (y19_4) (y19_3) (z193) (z192) hI hX  l19_4 (Int.le_trans u168 (by decide : (5:Int) ≤ 6)) l19_3 u19_3 l193 u193 (Int.le_trans (by decide : (0:Int) ≤ 1) l192) u192 ((hC186.1 69 44 rfl).1.trans c19_0) ((hC186.1 69 45 rfl).1.trans c19_1) ((hC186.1 69 46 rfl).1.trans c19_2) ((hC186.1 69 48 rfl).1.trans c19_3) ((hC186.1 69 57 rfl).1.trans c19_4) ((hC186.1 70 4 rfl).1.trans c19_5) (by have hsp := (⟨(hC186.1 69 44 rfl).1, (hC186.1 69 45 rfl).1, (hC186.1 69 48 rfl).1, funext (fun j => (hC186.1 70 j rfl).1), funext (fun j => (hC186.1 89 j rfl).1), funext (fun j => (hC186.1 90 j rfl).1), funext (fun j => (hC186.1 91 j rfl).1)⟩ : t_sp gi19 gi186); have e1 := congrArg Int32.toInt hsp.1; have e2 := congrArg Int32.toInt hsp.2.1; have ff194 : (gi186 69 44).toInt = (gi9 69 44).toInt := congrArg Int32.toInt ((hC186.1 69 44 rfl).1.trans c19_0); have ff195 : (gi186 69 45).toInt = (gi9 69 45).toInt := congrArg Int32.toInt ((hC186.1 69 45 rfl).1.trans c19_1); have hb1 := hI.b (hI.wf.s (k := 69) rfl) (t_bdK rfl : t_bd 11 44 = some (0, 6)); have hb2 := hI.b (hI.wf.s (k := 69) rfl) (t_bdK rfl : t_bd 11 45 = some (0, 6)); exact t_pla_turn (w := w191) j19_0 (by omega) (by omega) (by omega) (by omega) (by omega) (by omega) (by omega) (by omega) (by omega) (fun h => absurd (q174.mpr h) (by omega)) (fun h => absurd (q177.mpr h) (by omega)) (by have h1 := q181; have h2 := q173; rw [show z180.toInt.toNat = y19_1.toInt.toNat + 1 by omega] at h1; omega) (by rw [← t_tt_sp hsp, congrArg Int32.toInt c19_3]; exact q191) (by omega) (by omega) hsp (funext (fun j => (hC186.1 92 j rfl).1)) q186.1.2 q186.1.1) (by
                                                            intro D hm hb hd h46 ht
                                                            have hQ := j19_1 D hm hb hd h46 ht
                                                            have hsp := (⟨(hC186.1 69 44 rfl).1, (hC186.1 69 45 rfl).1, (hC186.1 69 48 rfl).1, funext (fun j => (hC186.1 70 j rfl).1), funext (fun j => (hC186.1 89 j rfl).1), funext (fun j => (hC186.1 90 j rfl).1), funext (fun j => (hC186.1 91 j rfl).1)⟩ : t_sp gi19 gi186)
                                                            have kf0 := congrArg Int32.toInt c19_0
                                                            have kf1 := congrArg Int32.toInt c19_1
                                                            have kf2 := congrArg Int32.toInt c19_2
                                                            have kf3 := congrArg Int32.toInt c19_3
                                                            have kf4 := congrArg Int32.toInt c19_4
                                                            have kf5 := congrArg Int32.toInt c19_5
                                                            exact s_MQ_T (w := w191) hQ j19_0 hb hd (by omega) (by omega) (by omega) (by omega) (by omega) (by omega) (by omega) (fun h => absurd (q174.mpr h) (by omega)) (fun h => absurd (q177.mpr h) (by omega)) (fun hh => by have h1 := q181; have h2 := q173; rw [show z180.toInt.toNat = y19_1.toInt.toNat + 1 by omega] at h1; omega) (by rw [← t_tt_sp hsp, congrArg Int32.toInt c19_3]; exact q191) (by omega) (by omega) hsp q186.2) j19_2 rfl
            · have r196 : w177.toInt ≠ 0 := fun e => h178 (Int32.toInt_inj.mp (e.trans (by decide : (0:Int) = (0 : Int32).toInt)))
              have l197 : 1 ≤ w177.toInt := t_nel h178 l177 rfl rfl
              refine ev_loc f_X12_plans (nx := 131) rfl rfl rfl rfl ?_
              refine ev_loc f_X12_plans (nx := 132) rfl rfl rfl rfl ?_
              refine ev_loc f_X12_plans (nx := 133) rfl rfl rfl rfl ?_
              refine ev_loc f_X12_plans (nx := 135) rfl rfl rfl rfl ?_
              refine ev_qI0 f_X12_plans (nx := 138) (r := []) rfl rfl rfl rfl rfl rfl rfl (c_m_byCart hI (y19_1) l19_1 u170 (y19_3) l19_3 u19_3 (y19_4) l19_4 u168 (j19_0.2.2.2.2.2.2.1) (by have hm := q177.mp (by omega); unfold t_mayC at hm; omega) (by have hm := q177.mp (by omega); unfold t_mayC at hm; have h1 := j19_0.2.2.2.2.1; have h2 := j19_0.2.2.2.2.2.1; exact t_pla_la j19_0 (by omega) (by first | omega | (unfold t_S; omega)) (by first | omega | (unfold t_C; omega)))) rfl (fun w198 l198 u198 q198 => ?_)
              have q198 : w198.toInt = t_byc gi19 (gi19 92) y19_1.toInt.toNat y19_3.toInt.toNat y19_4.toInt.toNat := q198
              refine ev_loc f_X12_plans (nx := 140) rfl rfl rfl rfl ?_
              refine ev_if f_X12_plans (t1 := 143) (t2 := 177) rfl rfl rfl (fun h199 => ?_) (fun h199 => ?_)
              · have r200 : w198.toInt = w173.toInt := t_eqi h199
                have u201 : w173.toInt ≤ 1000023760 := t_equ (Eq.symm h199) u198
                have l202 : 0 ≤ w173.toInt := t_eql (Eq.symm h199) l198
                refine ev_loc f_X12_plans (nx := 144) rfl rfl rfl rfl ?_
                refine ev_ic f_X12_plans (nx := 145) (v := 1) rfl (by decide) rfl ?_
                refine ev_loc f_X12_plans (nx := 146) rfl rfl rfl rfl ?_
                refine ev_loc f_X12_plans (nx := 147) rfl rfl rfl rfl ?_
                refine ev_getR f_X12_plans (nx := 150) rfl (hI.wf.s rfl) rfl rfl (hI.wf.r rfl) rfl rfl ?_
                refine ev_loc f_X12_plans (nx := 152) rfl rfl rfl rfl ?_
                refine ev_ialdT f_X12_plans (nx := 153) rfl (hI.wf.s rfl) l19_4 (by decide) u168 (by decide) rfl (fun w203 e203 => ?_)
                obtain ⟨l203, u203⟩ := hI.abi e203 (by decide +kernel : t_abr 91 0 5 0 5 = true) l19_4 (by decide) u168 (by decide)
                refine ev_qN f_X12_plans (nx := 156) (r := []) rfl rfl rfl rfl rfl rfl rfl (c_l_acts hI (1) (Int.le_trans (by decide : (0:Int) ≤ 1) (by decide : (1:Int) ≤ (1:Int32).toInt)) (Int.le_trans (by decide : (1:Int32).toInt ≤ (1:Int)) (by decide : (1:Int) ≤ 2)) (y19_1) (w203) (Int.le_trans (by decide : ((-1):Int) ≤ 0) l203) u203 (j19_0.2.2.2.1) (by have hn := t_pla_n j19_0 (by omega) (by omega) (hI.b (hI.wf.s (k := 69) rfl) (t_bdK rfl : t_bd 11 44 = some (0, 6))).2 (hI.b (hI.wf.s (k := 69) rfl) (t_bdK rfl : t_bd 11 45 = some (0, 6))).2; omega) (by have kf205 : (1 : Int32).toInt = 1 := (by decide); omega)) rfl hX rfl (fun gi204 gl204 gr204 hI hX hC204 q204 => ?_)
                have q204 : (t_wh (gi204 69 55).toInt (gi204 93) (gi204 95) ∧ (gi204 69 55).toInt = (gi19 69 55).toInt + 1) ∧ ∀ (L : s_RL) (t : Int × Int × Int), s_P4 gi19 L → (1 : Int) = t.1 → y19_1.toInt = t.2.1 → w203.toInt = t.2.2 → s_P4 gi204 (L ++ [t]) := q204
                obtain ⟨l206, u206⟩ := hI.b (hI.wf.s (k := 69) rfl) (t_bdK rfl : t_bd 11 55 = some (0, 100))
                refine ev_loc f_X12_plans (nx := 157) rfl rfl rfl rfl ?_
                refine ev_loc f_X12_plans (nx := 158) rfl rfl rfl rfl ?_
                refine ev_loc f_X12_plans (nx := 159) rfl rfl rfl rfl ?_
                refine ev_getR f_X12_plans (nx := 162) rfl (hI.wf.s rfl) rfl rfl (hI.wf.r rfl) rfl rfl ?_
                refine ev_loc f_X12_plans (nx := 164) rfl rfl rfl rfl ?_
                refine ev_ialdT f_X12_plans (nx := 165) rfl (hI.wf.s rfl) l19_4 (by decide) u168 (by decide) rfl (fun w207 e207 => ?_)
                rw [e207.trans ((hC204.1 91 y19_4.toNatClampNeg rfl).1.trans e203.symm)]
                refine ev_ic f_X12_plans (nx := 166) (v := 1) rfl (by decide) rfl ?_
                refine ev_inV3 f_X12_plans (nx := 169) (lo2 := [(0, .ref 69), (1, .int w203), (2, .int 1)]) rfl rfl rfl rfl f_X12_ofCart (hI.wf.s rfl) rfl rfl rfl rfl rfl ?_
                refine ev_loc f_X12_ofCart (nx := 1) rfl rfl rfl rfl ?_
                refine ev_getR f_X12_ofCart (nx := 4) rfl (hI.wf.s rfl) rfl rfl (hI.wf.r rfl) rfl rfl ?_
                refine ev_bp f_X12_ofCart (nx := 6) (v := 82) rfl (by decide) rfl ?_
                refine ev_ic f_X12_ofCart (nx := 7) (v := 3) rfl (by decide) rfl ?_
                refine ev_loc f_X12_ofCart (nx := 8) rfl rfl rfl rfl ?_
                refine ev_mulL f_X12_ofCart (nx := 9) (c := 3) (l := 0) (u := 15) rfl (by decide) (by decide) l203 u203 rfl rfl (by decide) (by decide) rfl (fun z208 e208 l208 u208 => ?_)
                refine ev_addK f_X12_ofCart (nx := 10) (c := 82) (l := 82) (u := 97) rfl (by decide) l208 u208 rfl rfl (by decide) (by decide) rfl (fun z209 e209 l209 u209 => ?_)
                refine ev_loc f_X12_ofCart (nx := 11) rfl rfl rfl rfl ?_
                refine ev_addC f_X12_ofCart (nx := 12) (c := 1) (l := 83) (u := 98) rfl (by decide) l209 u209 rfl rfl (by decide) (by decide) rfl (fun z210 e210 l210 u210 => ?_)
                refine ev_ialdT f_X12_ofCart (nx := 13) rfl (hI.wf.s rfl) l210 (by decide) u210 (by decide) rfl (fun w211 e211 => ?_)
                obtain ⟨l211, u211⟩ := hI.abA (x := w203) e211 (by decide +kernel : t_aba 70 83 3 0 5 0 20 = true) (by omega) (by omega) (by omega)
                refine ev_retK1 f_X12_ofCart rfl rfl rfl ?_
                refine ev_addR f_X12_plans (nx := 170) (l := 0) (u := 260) rfl l19_1 u170 l211 u211 rfl rfl (by decide) (by decide) rfl (fun z212 e212 l212 u212 => ?_)
                refine ev_loc f_X12_plans (nx := 171) (lo' := [(1, .int z212), (5, .int w173), (4, .int y19_4), (3, .int y19_3), (2, .int y19_2), (0, .ref 69)]) rfl rfl rfl rfl ?_
                refine ev_incR f_X12_plans (nx := 174) (c := 1) (l := 1) (u := 6) rfl rfl (by decide) (by decide) l19_4 u168 rfl rfl (by decide) (by decide) rfl (fun z213 e213 l213 u213 => ?_)
                refine ev_jmp f_X12_plans (nx := 222) rfl rfl rfl ?_
                refine ev_jmp f_X12_plans (nx := 36) rfl rfl rfl ?_
                refine ev_sub (lo := [(4, .int z213), (3, .int y19_3), (2, .int y19_2), (1, .int z212), (0, .ref 69)]) rfl (t_sc rfl (t_sc rfl (t_sc rfl (t_sc rfl (t_sc rfl t_sn))))) ?_
                exact ih19 _ (by omega) gi204 gl204 gr204 (z213) (y19_3) (y19_2) (z212) hI hX  (Int.le_trans (by decide : (0:Int) ≤ 1) l213) u213 l19_3 u19_3 l19_2 u19_2 l212 (Int.le_trans u212 (by decide : (260:Int) ≤ 280)) ((hC204.1 69 44 rfl).1.trans c19_0) ((hC204.1 69 45 rfl).1.trans c19_1) ((hC204.1 69 46 rfl).1.trans c19_2) ((hC204.1 69 48 rfl).1.trans c19_3) ((hC204.1 69 57 rfl).1.trans c19_4) ((hC204.1 70 4 rfl).1.trans c19_5) (by have hsp := (⟨(hC204.1 69 44 rfl).1, (hC204.1 69 45 rfl).1, (hC204.1 69 48 rfl).1, funext (fun j => (hC204.1 70 j rfl).1), funext (fun j => (hC204.1 89 j rfl).1), funext (fun j => (hC204.1 90 j rfl).1), funext (fun j => (hC204.1 91 j rfl).1)⟩ : t_sp gi19 gi204); have htk : t_ct gi204 y19_4.toInt.toNat = w211.toInt.toNat := (by unfold t_ct; rw [t_of_eq (p := gi204) (a := 83) (b := 3) t_sp.rf (t_ci_eq t_sp.rf (i := y19_4) (((hC204.1 91 y19_4.toNatClampNeg rfl).1.trans e203.symm)).symm (by omega)) (e211.symm).symm (by omega) (by omega)]); exact t_pla_cart (w := w211) j19_0 (by omega) (by omega) (by omega) (q177.mp (by omega)) (by have h1 := q198; have h2 := q173; omega) (by rw [← t_ct_sp hsp]; exact htk) (by omega) (by omega) (by omega) (by rw [← t_cc_sp hsp]; exact t_cc0 hI (by omega)) hsp (funext (fun j => (hC204.1 92 j rfl).1)) q204.1.2 q204.1.1) (by
                                                            intro D hm hb hd h46 ht
                                                            have hQ := j19_1 D hm hb hd h46 ht
                                                            have hsp := (⟨(hC204.1 69 44 rfl).1, (hC204.1 69 45 rfl).1, (hC204.1 69 48 rfl).1, funext (fun j => (hC204.1 70 j rfl).1), funext (fun j => (hC204.1 89 j rfl).1), funext (fun j => (hC204.1 90 j rfl).1), funext (fun j => (hC204.1 91 j rfl).1)⟩ : t_sp gi19 gi204)
                                                            have htk : t_ct gi204 y19_4.toInt.toNat = w211.toInt.toNat := (by unfold t_ct; rw [t_of_eq (p := gi204) (a := 83) (b := 3) t_sp.rf (t_ci_eq t_sp.rf (i := y19_4) (((hC204.1 91 y19_4.toNatClampNeg rfl).1.trans e203.symm)).symm (by omega)) (e211.symm).symm (by omega) (by omega)])
                                                            have cw := t_clamp (i := y19_4) (by omega)
                                                            exact s_MQ_C (w := w211) (who := w203) hQ j19_0 hb hd ht (by omega) (by omega) (by omega) (by omega) (by omega) (by omega) (q177.mp (by omega)) (by have h1 := q198; have h2 := q173; omega) (by rw [← t_ct_sp hsp]; exact htk) (by omega) (by omega) (by omega) hsp (by rw [e203, show y19_4.toNatClampNeg = y19_4.toInt.toNat by omega]) q204.2) j19_2 rfl
              · have r214 : w198.toInt ≠ w173.toInt := t_nei h199
                refine ev_loc f_X12_plans (nx := 178) rfl rfl rfl rfl ?_
                refine ev_loc f_X12_plans (nx := 179) rfl rfl rfl rfl ?_
                refine ev_ic f_X12_plans (nx := 180) (v := 1) rfl (by decide) rfl ?_
                refine ev_addC f_X12_plans (nx := 181) (c := 1) (l := 1) (u := 241) rfl (by decide) l19_1 u170 rfl rfl (by decide) (by decide) rfl (fun z215 e215 l215 u215 => ?_)
                refine ev_loc f_X12_plans (nx := 182) rfl rfl rfl rfl ?_
                refine ev_loc f_X12_plans (nx := 183) rfl rfl rfl rfl ?_
                refine ev_loc f_X12_plans (nx := 185) rfl rfl rfl rfl ?_
                refine ev_qI0 f_X12_plans (nx := 188) (r := []) rfl rfl rfl rfl rfl rfl rfl (c_m_leftAt hI (z215) (Int.le_trans (by decide : (0:Int) ≤ 1) l215) (Int.le_trans u215 (by decide : (241:Int) ≤ 300)) (y19_2) l19_2 u19_2 (y19_3) l19_3 u19_3 (y19_4) l19_4 (Int.le_trans u168 (by decide : (5:Int) ≤ 6))) rfl (fun w216 l216 u216 q216 => ?_)
                have q216 : w216.toInt = t_la (gi19 92) (t_S gi19) (t_C gi19) z215.toInt.toNat y19_2.toInt.toNat y19_3.toInt.toNat y19_4.toInt.toNat := q216
                refine ev_loc f_X12_plans (nx := 190) rfl rfl rfl rfl ?_
                refine ev_if f_X12_plans (t1 := 193) (t2 := 199) rfl rfl rfl (fun h217 => ?_) (fun h217 => ?_)
                · have r218 : w216.toInt = w173.toInt := t_eqi h217
                  refine ev_incR f_X12_plans (nx := 196) (c := 1) (l := 1) (u := 241) rfl rfl (by decide) (by decide) l19_1 u170 rfl rfl (by decide) (by decide) rfl (fun z219 e219 l219 u219 => ?_)
                  refine ev_jmp f_X12_plans (nx := 222) rfl rfl rfl ?_
                  refine ev_jmp f_X12_plans (nx := 36) rfl rfl rfl ?_
                  refine ev_sub (lo := [(4, .int y19_4), (3, .int y19_3), (2, .int y19_2), (1, .int z219), (0, .ref 69)]) rfl (t_sc rfl (t_sc rfl (t_sc rfl (t_sc rfl (t_sc rfl t_sn))))) ?_
                  exact ih19 _ (by omega) gi19 gl19 gr19 (y19_4) (y19_3) (y19_2) (z219) hI hX  l19_4 (Int.le_trans u168 (by decide : (5:Int) ≤ 6)) l19_3 u19_3 l19_2 u19_2 (Int.le_trans (by decide : (0:Int) ≤ 1) l219) (Int.le_trans u219 (by decide : (241:Int) ≤ 280)) c19_0 c19_1 c19_2 c19_3 c19_4 c19_5 (t_pla_rest j19_0 (by omega) (by have h1 := q216; have h2 := q173; rw [show z215.toInt.toNat = y19_1.toInt.toNat + 1 by omega] at h1; omega) (by omega)) (by
                                                            intro D hm hb hd h46 ht
                                                            have hQ := j19_1 D hm hb hd h46 ht
                                                            have kf0 := congrArg Int32.toInt c19_0
                                                            have kf1 := congrArg Int32.toInt c19_1
                                                            have kf2 := congrArg Int32.toInt c19_2
                                                            have kf3 := congrArg Int32.toInt c19_3
                                                            have kf4 := congrArg Int32.toInt c19_4
                                                            have kf5 := congrArg Int32.toInt c19_5
                                                            exact s_MQ_R hQ j19_0 hb hd (by omega) (by omega) (by omega) (by omega) (by omega) (by omega) (by omega) (fun h => absurd (q174.mpr h) (by omega)) (fun _ hh => by have h1 := q198; have h2 := q173; omega) (by have h1 := q216; have h2 := q173; rw [show z215.toInt.toNat = y19_1.toInt.toNat + 1 by omega] at h1; omega) (by omega)) j19_2 rfl
                · have r220 : w216.toInt ≠ w173.toInt := t_nei h217
                  refine ev_loc f_X12_plans (nx := 200) rfl rfl rfl rfl ?_
                  refine ev_ic f_X12_plans (nx := 201) (v := 2) rfl (by decide) rfl ?_
                  refine ev_loc f_X12_plans (nx := 202) rfl rfl rfl rfl ?_
                  refine ev_ic f_X12_plans (nx := 203) (v := -1) rfl (by decide) rfl ?_
                  refine ev_qN f_X12_plans (nx := 206) (r := []) rfl rfl rfl rfl rfl rfl rfl (c_l_acts hI (2) (Int.le_trans (by decide : (0:Int) ≤ 2) (by decide : (2:Int) ≤ (2:Int32).toInt)) (by decide : (2:Int32).toInt ≤ (2:Int)) (y19_1) ((-1)) (by decide : ((-1):Int) ≤ ((-1):Int32).toInt) (Int.le_trans (by decide : ((-1):Int32).toInt ≤ ((-1):Int)) (by decide : ((-1):Int) ≤ 5)) (j19_0.2.2.2.1) (by have hn := t_pla_n j19_0 (by omega) (by omega) (hI.b (hI.wf.s (k := 69) rfl) (t_bdK rfl : t_bd 11 44 = some (0, 6))).2 (hI.b (hI.wf.s (k := 69) rfl) (t_bdK rfl : t_bd 11 45 = some (0, 6))).2; omega) (by have kf222 : ((-1) : Int32).toInt = (-1) := (by decide); have kf223 : (2 : Int32).toInt = 2 := (by decide); omega)) rfl hX rfl (fun gi221 gl221 gr221 hI hX hC221 q221 => ?_)
                  have q221 : (t_wh (gi221 69 55).toInt (gi221 93) (gi221 95) ∧ (gi221 69 55).toInt = (gi19 69 55).toInt + 1) ∧ ∀ (L : s_RL) (t : Int × Int × Int), s_P4 gi19 L → (2 : Int) = t.1 → y19_1.toInt = t.2.1 → ((-1) : Int) = t.2.2 → s_P4 gi221 (L ++ [t]) := q221
                  obtain ⟨l224, u224⟩ := hI.b (hI.wf.s (k := 69) rfl) (t_bdK rfl : t_bd 11 55 = some (0, 100))
                  refine ev_loc f_X12_plans (nx := 207) rfl rfl rfl rfl ?_
                  refine ev_loc f_X12_plans (nx := 208) rfl rfl rfl rfl ?_
                  refine ev_loc f_X12_plans (nx := 209) rfl rfl rfl rfl ?_
                  refine ev_loc f_X12_plans (nx := 210) rfl rfl rfl rfl ?_
                  refine ev_gvI f_X12_plans (nx := 213) (w := (gi9 69 48)) rfl (hI.wf.s rfl) rfl rfl ((hC221.1 69 48 rfl).1.trans c19_3) rfl ?_
                  have l225 : (1:Int) ≤ (gi9 69 48).toInt := (by have h := j19_0.2.2.2.2.2.2.2; rw [c19_3] at h; exact h)
                  refine ev_qI0 f_X12_plans (nx := 216) (r := [.int y19_1]) rfl rfl rfl rfl rfl rfl rfl (c_m_turnTime hI (y19_1) l19_1 (Int.le_trans u170 (by decide : (240:Int) ≤ 300)) ((gi9 69 48)) l225 u12) rfl (fun w226 l226 u226 q226 => ?_)
                  have q226 : w226.toInt = ((t_tt gi221 (gi9 69 48).toInt y19_1.toInt.toNat : Nat) : Int) := q226
                  refine ev_addR f_X12_plans (nx := 217) (l := 1) (u := 280) rfl l19_1 u170 l226 u226 rfl rfl (by decide) (by decide) rfl (fun z227 e227 l227 u227 => ?_)
                  refine ev_loc f_X12_plans (nx := 218) (lo' := [(1, .int z227), (5, .int w173), (4, .int y19_4), (3, .int y19_3), (2, .int y19_2), (0, .ref 69)]) rfl rfl rfl rfl ?_
                  refine ev_ic f_X12_plans (nx := 219) (v := 1) rfl (by decide) rfl ?_
                  refine ev_loc f_X12_plans (nx := 220) rfl rfl rfl rfl ?_
                  refine ev_subK f_X12_plans (nx := 221) (c := 1) (l := 0) (u := 1) rfl (by decide) l19_2 u19_2 rfl rfl (by decide) (by decide) rfl (fun z228 e228 l228 u228 => ?_)
                  refine ev_loc f_X12_plans (nx := 222) (lo' := [(2, .int z228), (1, .int z227), (5, .int w173), (4, .int y19_4), (3, .int y19_3), (0, .ref 69)]) rfl rfl rfl rfl ?_
                  refine ev_jmp f_X12_plans (nx := 36) rfl rfl rfl ?_
                  refine ev_sub (lo := [(4, .int y19_4), (3, .int y19_3), (2, .int z228), (1, .int z227), (0, .ref 69)]) rfl (t_sc rfl (t_sc rfl (t_sc rfl (t_sc rfl (t_sc rfl t_sn))))) ?_
                  exact ih19 _ (by omega) gi221 gl221 gr221 (y19_4) (y19_3) (z228) (z227) hI hX  l19_4 (Int.le_trans u168 (by decide : (5:Int) ≤ 6)) l19_3 u19_3 l228 u228 (Int.le_trans (by decide : (0:Int) ≤ 1) l227) u227 ((hC221.1 69 44 rfl).1.trans c19_0) ((hC221.1 69 45 rfl).1.trans c19_1) ((hC221.1 69 46 rfl).1.trans c19_2) ((hC221.1 69 48 rfl).1.trans c19_3) ((hC221.1 69 57 rfl).1.trans c19_4) ((hC221.1 70 4 rfl).1.trans c19_5) (by have hsp := (⟨(hC221.1 69 44 rfl).1, (hC221.1 69 45 rfl).1, (hC221.1 69 48 rfl).1, funext (fun j => (hC221.1 70 j rfl).1), funext (fun j => (hC221.1 89 j rfl).1), funext (fun j => (hC221.1 90 j rfl).1), funext (fun j => (hC221.1 91 j rfl).1)⟩ : t_sp gi19 gi221); have e1 := congrArg Int32.toInt hsp.1; have e2 := congrArg Int32.toInt hsp.2.1; have ff229 : (gi221 69 44).toInt = (gi9 69 44).toInt := congrArg Int32.toInt ((hC221.1 69 44 rfl).1.trans c19_0); have ff230 : (gi221 69 45).toInt = (gi9 69 45).toInt := congrArg Int32.toInt ((hC221.1 69 45 rfl).1.trans c19_1); have hb1 := hI.b (hI.wf.s (k := 69) rfl) (t_bdK rfl : t_bd 11 44 = some (0, 6)); have hb2 := hI.b (hI.wf.s (k := 69) rfl) (t_bdK rfl : t_bd 11 45 = some (0, 6)); exact t_pla_turn (w := w226) j19_0 (by omega) (by omega) (by omega) (by omega) (by omega) (by omega) (by omega) (by omega) (by omega) (fun h => absurd (q174.mpr h) (by omega)) (fun _ => by have h1 := q198; have h2 := q173; omega) (by have h1 := q216; have h2 := q173; rw [show z215.toInt.toNat = y19_1.toInt.toNat + 1 by omega] at h1; omega) (by rw [← t_tt_sp hsp, congrArg Int32.toInt c19_3]; exact q226) (by omega) (by omega) hsp (funext (fun j => (hC221.1 92 j rfl).1)) q221.1.2 q221.1.1) (by
                                                            intro D hm hb hd h46 ht
                                                            have hQ := j19_1 D hm hb hd h46 ht
                                                            have hsp := (⟨(hC221.1 69 44 rfl).1, (hC221.1 69 45 rfl).1, (hC221.1 69 48 rfl).1, funext (fun j => (hC221.1 70 j rfl).1), funext (fun j => (hC221.1 89 j rfl).1), funext (fun j => (hC221.1 90 j rfl).1), funext (fun j => (hC221.1 91 j rfl).1)⟩ : t_sp gi19 gi221)
                                                            have kf0 := congrArg Int32.toInt c19_0
                                                            have kf1 := congrArg Int32.toInt c19_1
                                                            have kf2 := congrArg Int32.toInt c19_2
                                                            have kf3 := congrArg Int32.toInt c19_3
                                                            have kf4 := congrArg Int32.toInt c19_4
                                                            have kf5 := congrArg Int32.toInt c19_5
                                                            exact s_MQ_T (w := w226) hQ j19_0 hb hd (by omega) (by omega) (by omega) (by omega) (by omega) (by omega) (by omega) (fun h => absurd (q174.mpr h) (by omega)) (fun _ hh => by have h1 := q198; have h2 := q173; omega) (fun hh => by have h1 := q216; have h2 := q173; rw [show z215.toInt.toNat = y19_1.toInt.toNat + 1 by omega] at h1; omega) (by rw [← t_tt_sp hsp, congrArg Int32.toInt c19_3]; exact q226) (by omega) (by omega) hsp q221.2) j19_2 rfl
          · have r231 : w174.toInt ≠ 0 := fun e => h175 (Int32.toInt_inj.mp (e.trans (by decide : (0:Int) = (0 : Int32).toInt)))
            have l232 : 1 ≤ w174.toInt := t_nel h175 l174 rfl rfl
            refine ev_loc f_X12_plans (nx := 75) rfl rfl rfl rfl ?_
            refine ev_loc f_X12_plans (nx := 76) rfl rfl rfl rfl ?_
            refine ev_loc f_X12_plans (nx := 77) rfl rfl rfl rfl ?_
            refine ev_loc f_X12_plans (nx := 79) rfl rfl rfl rfl ?_
            have u233 : y19_3.toInt ≤ (5:Int) := (by have ff234 : (gi19 69 44).toInt = (gi9 69 44).toInt := congrArg Int32.toInt c19_0; have hm := q174.mp (by omega); unfold t_mayS t_S at hm; omega)
            refine ev_qI0 f_X12_plans (nx := 82) (r := []) rfl rfl rfl rfl rfl rfl rfl (c_m_byShip hI (y19_1) l19_1 u170 (y19_3) l19_3 u233 (y19_4) l19_4 (Int.le_trans u168 (by decide : (5:Int) ≤ 6)) (j19_0.2.2.2.2.2.2.1) (by have hm := q174.mp (by omega); unfold t_mayS at hm; omega) (by have hm := q174.mp (by omega); unfold t_mayS at hm; have h1 := j19_0.2.2.2.2.1; have h2 := j19_0.2.2.2.2.2.1; exact t_pla_la j19_0 (by omega) (by first | omega | (unfold t_S; omega)) (by first | omega | (unfold t_C; omega)))) rfl (fun w235 l235 u235 q235 => ?_)
            have q235 : w235.toInt = t_bys gi19 (gi19 92) y19_1.toInt.toNat y19_3.toInt.toNat y19_4.toInt.toNat := q235
            refine ev_loc f_X12_plans (nx := 84) rfl rfl rfl rfl ?_
            refine ev_if f_X12_plans (t1 := 87) (t2 := 119) rfl rfl rfl (fun h236 => ?_) (fun h236 => ?_)
            · have r237 : w235.toInt = w173.toInt := t_eqi h236
              have u238 : w173.toInt ≤ 1000023760 := t_equ (Eq.symm h236) u235
              have l239 : 0 ≤ w173.toInt := t_eql (Eq.symm h236) l235
              refine ev_loc f_X12_plans (nx := 88) rfl rfl rfl rfl ?_
              refine ev_ic f_X12_plans (nx := 89) (v := 0) rfl (by decide) rfl ?_
              refine ev_loc f_X12_plans (nx := 90) rfl rfl rfl rfl ?_
              refine ev_loc f_X12_plans (nx := 91) rfl rfl rfl rfl ?_
              refine ev_getR f_X12_plans (nx := 94) rfl (hI.wf.s rfl) rfl rfl (hI.wf.r rfl) rfl rfl ?_
              refine ev_loc f_X12_plans (nx := 95) rfl rfl rfl rfl ?_
              refine ev_ialdT f_X12_plans (nx := 96) rfl (hI.wf.s rfl) l19_3 (by decide) u233 (by decide) rfl (fun w240 e240 => ?_)
              obtain ⟨l240, u240⟩ := hI.abi e240 (by decide +kernel : t_abr 90 0 5 0 5 = true) l19_3 (by decide) u233 (by decide)
              refine ev_qN f_X12_plans (nx := 99) (r := []) rfl rfl rfl rfl rfl rfl rfl (c_l_acts hI (0) (by decide : (0:Int) ≤ (0:Int32).toInt) (Int.le_trans (by decide : (0:Int32).toInt ≤ (0:Int)) (by decide : (0:Int) ≤ 2)) (y19_1) (w240) (Int.le_trans (by decide : ((-1):Int) ≤ 0) l240) u240 (j19_0.2.2.2.1) (by have hn := t_pla_n j19_0 (by omega) (by omega) (hI.b (hI.wf.s (k := 69) rfl) (t_bdK rfl : t_bd 11 44 = some (0, 6))).2 (hI.b (hI.wf.s (k := 69) rfl) (t_bdK rfl : t_bd 11 45 = some (0, 6))).2; omega) (by have kf242 : (0 : Int32).toInt = 0 := (by decide); omega)) rfl hX rfl (fun gi241 gl241 gr241 hI hX hC241 q241 => ?_)
              have q241 : (t_wh (gi241 69 55).toInt (gi241 93) (gi241 95) ∧ (gi241 69 55).toInt = (gi19 69 55).toInt + 1) ∧ ∀ (L : s_RL) (t : Int × Int × Int), s_P4 gi19 L → (0 : Int) = t.1 → y19_1.toInt = t.2.1 → w240.toInt = t.2.2 → s_P4 gi241 (L ++ [t]) := q241
              obtain ⟨l243, u243⟩ := hI.b (hI.wf.s (k := 69) rfl) (t_bdK rfl : t_bd 11 55 = some (0, 100))
              refine ev_loc f_X12_plans (nx := 100) rfl rfl rfl rfl ?_
              refine ev_loc f_X12_plans (nx := 101) rfl rfl rfl rfl ?_
              refine ev_loc f_X12_plans (nx := 102) rfl rfl rfl rfl ?_
              refine ev_getR f_X12_plans (nx := 105) rfl (hI.wf.s rfl) rfl rfl (hI.wf.r rfl) rfl rfl ?_
              refine ev_loc f_X12_plans (nx := 106) rfl rfl rfl rfl ?_
              refine ev_ialdT f_X12_plans (nx := 107) rfl (hI.wf.s rfl) l19_3 (by decide) u233 (by decide) rfl (fun w244 e244 => ?_)
              rw [e244.trans ((hC241.1 90 y19_3.toNatClampNeg rfl).1.trans e240.symm)]
              refine ev_ic f_X12_plans (nx := 108) (v := 2) rfl (by decide) rfl ?_
              refine ev_inV3 f_X12_plans (nx := 111) (lo2 := [(0, .ref 69), (1, .int w240), (2, .int 2)]) rfl rfl rfl rfl f_X12_ofShip (hI.wf.s rfl) rfl rfl rfl rfl rfl ?_
              refine ev_loc f_X12_ofShip (nx := 1) rfl rfl rfl rfl ?_
              refine ev_getR f_X12_ofShip (nx := 4) rfl (hI.wf.s rfl) rfl rfl (hI.wf.r rfl) rfl rfl ?_
              refine ev_bp f_X12_ofShip (nx := 6) (v := 52) rfl (by decide) rfl ?_
              refine ev_ic f_X12_ofShip (nx := 7) (v := 5) rfl (by decide) rfl ?_
              refine ev_loc f_X12_ofShip (nx := 8) rfl rfl rfl rfl ?_
              refine ev_mulL f_X12_ofShip (nx := 9) (c := 5) (l := 0) (u := 25) rfl (by decide) (by decide) l240 u240 rfl rfl (by decide) (by decide) rfl (fun z245 e245 l245 u245 => ?_)
              refine ev_addK f_X12_ofShip (nx := 10) (c := 52) (l := 52) (u := 77) rfl (by decide) l245 u245 rfl rfl (by decide) (by decide) rfl (fun z246 e246 l246 u246 => ?_)
              refine ev_loc f_X12_ofShip (nx := 11) rfl rfl rfl rfl ?_
              refine ev_addC f_X12_ofShip (nx := 12) (c := 2) (l := 54) (u := 79) rfl (by decide) l246 u246 rfl rfl (by decide) (by decide) rfl (fun z247 e247 l247 u247 => ?_)
              refine ev_ialdT f_X12_ofShip (nx := 13) rfl (hI.wf.s rfl) l247 (by decide) u247 (by decide) rfl (fun w248 e248 => ?_)
              obtain ⟨l248, u248⟩ := hI.abA (x := w240) e248 (by decide +kernel : t_aba 70 54 5 0 5 0 20 = true) (by omega) (by omega) (by omega)
              refine ev_retK1 f_X12_ofShip rfl rfl rfl ?_
              refine ev_addR f_X12_plans (nx := 112) (l := 0) (u := 260) rfl l19_1 u170 l248 u248 rfl rfl (by decide) (by decide) rfl (fun z249 e249 l249 u249 => ?_)
              refine ev_loc f_X12_plans (nx := 113) (lo' := [(1, .int z249), (5, .int w173), (4, .int y19_4), (3, .int y19_3), (2, .int y19_2), (0, .ref 69)]) rfl rfl rfl rfl ?_
              refine ev_incR f_X12_plans (nx := 116) (c := 1) (l := 1) (u := 6) rfl rfl (by decide) (by decide) l19_3 u233 rfl rfl (by decide) (by decide) rfl (fun z250 e250 l250 u250 => ?_)
              refine ev_jmp f_X12_plans (nx := 222) rfl rfl rfl ?_
              refine ev_jmp f_X12_plans (nx := 36) rfl rfl rfl ?_
              refine ev_sub (lo := [(4, .int y19_4), (3, .int z250), (2, .int y19_2), (1, .int z249), (0, .ref 69)]) rfl (t_sc rfl (t_sc rfl (t_sc rfl (t_sc rfl (t_sc rfl t_sn))))) ?_
              exact ih19 _ (by omega) gi241 gl241 gr241 (y19_4) (z250) (y19_2) (z249) hI hX  l19_4 (Int.le_trans u168 (by decide : (5:Int) ≤ 6)) (Int.le_trans (by decide : (0:Int) ≤ 1) l250) u250 l19_2 u19_2 l249 (Int.le_trans u249 (by decide : (260:Int) ≤ 280)) ((hC241.1 69 44 rfl).1.trans c19_0) ((hC241.1 69 45 rfl).1.trans c19_1) ((hC241.1 69 46 rfl).1.trans c19_2) ((hC241.1 69 48 rfl).1.trans c19_3) ((hC241.1 69 57 rfl).1.trans c19_4) ((hC241.1 70 4 rfl).1.trans c19_5) (by have hsp := (⟨(hC241.1 69 44 rfl).1, (hC241.1 69 45 rfl).1, (hC241.1 69 48 rfl).1, funext (fun j => (hC241.1 70 j rfl).1), funext (fun j => (hC241.1 89 j rfl).1), funext (fun j => (hC241.1 90 j rfl).1), funext (fun j => (hC241.1 91 j rfl).1)⟩ : t_sp gi19 gi241); have htk : t_st gi241 y19_3.toInt.toNat = w248.toInt.toNat := (by unfold t_st; rw [t_of_eq (p := gi241) (a := 54) (b := 5) t_sp.rf (t_si_eq t_sp.rf (i := y19_3) (((hC241.1 90 y19_3.toNatClampNeg rfl).1.trans e240.symm)).symm (by omega)) (e248.symm).symm (by omega) (by omega)]); exact t_pla_ship (w := w248) j19_0 (by omega) (by omega) (by omega) (q174.mp (by omega)) (by have h1 := q235; have h2 := q173; omega) (by rw [← t_st_sp hsp]; exact htk) (by omega) (by omega) (by omega) (by rw [← t_so_sp hsp]; exact t_so0 hI (by omega)) hsp (funext (fun j => (hC241.1 92 j rfl).1)) q241.1.2 q241.1.1) (by
                                                            intro D hm hb hd h46 ht
                                                            have hQ := j19_1 D hm hb hd h46 ht
                                                            have hsp := (⟨(hC241.1 69 44 rfl).1, (hC241.1 69 45 rfl).1, (hC241.1 69 48 rfl).1, funext (fun j => (hC241.1 70 j rfl).1), funext (fun j => (hC241.1 89 j rfl).1), funext (fun j => (hC241.1 90 j rfl).1), funext (fun j => (hC241.1 91 j rfl).1)⟩ : t_sp gi19 gi241)
                                                            have htk : t_st gi241 y19_3.toInt.toNat = w248.toInt.toNat := (by unfold t_st; rw [t_of_eq (p := gi241) (a := 54) (b := 5) t_sp.rf (t_si_eq t_sp.rf (i := y19_3) (((hC241.1 90 y19_3.toNatClampNeg rfl).1.trans e240.symm)).symm (by omega)) (e248.symm).symm (by omega) (by omega)])
                                                            have cw := t_clamp (i := y19_3) (by omega)
                                                            exact s_MQ_S (w := w248) (who := w240) hQ j19_0 hb hd ht (by omega) (by omega) (by omega) (by omega) (by omega) (by omega) (q174.mp (by omega)) (by have h1 := q235; have h2 := q173; omega) (by rw [← t_st_sp hsp]; exact htk) (by omega) (by omega) (by omega) hsp (by rw [e240, show y19_3.toNatClampNeg = y19_3.toInt.toNat by omega]) q241.2) j19_2 rfl
            · have r251 : w235.toInt ≠ w173.toInt := t_nei h236
              refine ev_loc f_X12_plans (nx := 120) rfl rfl rfl rfl ?_
              refine ev_loc f_X12_plans (nx := 121) rfl rfl rfl rfl ?_
              refine ev_loc f_X12_plans (nx := 122) rfl rfl rfl rfl ?_
              refine ev_loc f_X12_plans (nx := 124) rfl rfl rfl rfl ?_
              refine ev_qI0 f_X12_plans (nx := 127) (r := []) rfl rfl rfl rfl rfl rfl rfl (c_m_mayCart hI (y19_1) l19_1 u170 (y19_2) l19_2 u19_2 (y19_4) l19_4 (Int.le_trans u168 (by decide : (5:Int) ≤ 6))) rfl (fun w252 l252 u252 q252 => ?_)
              have q252 : (w252.toInt = 1 ↔ t_mayC gi19 y19_1.toInt.toNat y19_2.toInt.toNat y19_4.toInt.toNat) := q252
              refine ev_if f_X12_plans (t1 := 177) (t2 := 130) rfl rfl rfl (fun h253 => ?_) (fun h253 => ?_)
              · have u254 : w252.toInt ≤ 0 := t_equ h253 (by decide : (0:Int32).toInt ≤ (0:Int))
                refine ev_loc f_X12_plans (nx := 178) rfl rfl rfl rfl ?_
                refine ev_loc f_X12_plans (nx := 179) rfl rfl rfl rfl ?_
                refine ev_ic f_X12_plans (nx := 180) (v := 1) rfl (by decide) rfl ?_
                refine ev_addC f_X12_plans (nx := 181) (c := 1) (l := 1) (u := 241) rfl (by decide) l19_1 u170 rfl rfl (by decide) (by decide) rfl (fun z255 e255 l255 u255 => ?_)
                refine ev_loc f_X12_plans (nx := 182) rfl rfl rfl rfl ?_
                refine ev_loc f_X12_plans (nx := 183) rfl rfl rfl rfl ?_
                refine ev_loc f_X12_plans (nx := 185) rfl rfl rfl rfl ?_
                refine ev_qI0 f_X12_plans (nx := 188) (r := []) rfl rfl rfl rfl rfl rfl rfl (c_m_leftAt hI (z255) (Int.le_trans (by decide : (0:Int) ≤ 1) l255) (Int.le_trans u255 (by decide : (241:Int) ≤ 300)) (y19_2) l19_2 u19_2 (y19_3) l19_3 (Int.le_trans u233 (by decide : (5:Int) ≤ 6)) (y19_4) l19_4 (Int.le_trans u168 (by decide : (5:Int) ≤ 6))) rfl (fun w256 l256 u256 q256 => ?_)
                have q256 : w256.toInt = t_la (gi19 92) (t_S gi19) (t_C gi19) z255.toInt.toNat y19_2.toInt.toNat y19_3.toInt.toNat y19_4.toInt.toNat := q256
                refine ev_loc f_X12_plans (nx := 190) rfl rfl rfl rfl ?_
                refine ev_if f_X12_plans (t1 := 193) (t2 := 199) rfl rfl rfl (fun h257 => ?_) (fun h257 => ?_)
                · have r258 : w256.toInt = w173.toInt := t_eqi h257
                  refine ev_incR f_X12_plans (nx := 196) (c := 1) (l := 1) (u := 241) rfl rfl (by decide) (by decide) l19_1 u170 rfl rfl (by decide) (by decide) rfl (fun z259 e259 l259 u259 => ?_)
                  refine ev_jmp f_X12_plans (nx := 222) rfl rfl rfl ?_
                  refine ev_jmp f_X12_plans (nx := 36) rfl rfl rfl ?_
                  refine ev_sub (lo := [(4, .int y19_4), (3, .int y19_3), (2, .int y19_2), (1, .int z259), (0, .ref 69)]) rfl (t_sc rfl (t_sc rfl (t_sc rfl (t_sc rfl (t_sc rfl t_sn))))) ?_
                  exact ih19 _ (by omega) gi19 gl19 gr19 (y19_4) (y19_3) (y19_2) (z259) hI hX  l19_4 (Int.le_trans u168 (by decide : (5:Int) ≤ 6)) l19_3 (Int.le_trans u233 (by decide : (5:Int) ≤ 6)) l19_2 u19_2 (Int.le_trans (by decide : (0:Int) ≤ 1) l259) (Int.le_trans u259 (by decide : (241:Int) ≤ 280)) c19_0 c19_1 c19_2 c19_3 c19_4 c19_5 (t_pla_rest j19_0 (by omega) (by have h1 := q256; have h2 := q173; rw [show z255.toInt.toNat = y19_1.toInt.toNat + 1 by omega] at h1; omega) (by omega)) (by
                                                            intro D hm hb hd h46 ht
                                                            have hQ := j19_1 D hm hb hd h46 ht
                                                            have kf0 := congrArg Int32.toInt c19_0
                                                            have kf1 := congrArg Int32.toInt c19_1
                                                            have kf2 := congrArg Int32.toInt c19_2
                                                            have kf3 := congrArg Int32.toInt c19_3
                                                            have kf4 := congrArg Int32.toInt c19_4
                                                            have kf5 := congrArg Int32.toInt c19_5
                                                            exact s_MQ_R hQ j19_0 hb hd (by omega) (by omega) (by omega) (by omega) (by omega) (by omega) (by omega) (fun _ hh => by have h1 := q235; have h2 := q173; omega) (fun h => absurd (q252.mpr h) (by omega)) (by have h1 := q256; have h2 := q173; rw [show z255.toInt.toNat = y19_1.toInt.toNat + 1 by omega] at h1; omega) (by omega)) j19_2 rfl
                · have r260 : w256.toInt ≠ w173.toInt := t_nei h257
                  refine ev_loc f_X12_plans (nx := 200) rfl rfl rfl rfl ?_
                  refine ev_ic f_X12_plans (nx := 201) (v := 2) rfl (by decide) rfl ?_
                  refine ev_loc f_X12_plans (nx := 202) rfl rfl rfl rfl ?_
                  refine ev_ic f_X12_plans (nx := 203) (v := -1) rfl (by decide) rfl ?_
                  refine ev_qN f_X12_plans (nx := 206) (r := []) rfl rfl rfl rfl rfl rfl rfl (c_l_acts hI (2) (Int.le_trans (by decide : (0:Int) ≤ 2) (by decide : (2:Int) ≤ (2:Int32).toInt)) (by decide : (2:Int32).toInt ≤ (2:Int)) (y19_1) ((-1)) (by decide : ((-1):Int) ≤ ((-1):Int32).toInt) (Int.le_trans (by decide : ((-1):Int32).toInt ≤ ((-1):Int)) (by decide : ((-1):Int) ≤ 5)) (j19_0.2.2.2.1) (by have hn := t_pla_n j19_0 (by omega) (by omega) (hI.b (hI.wf.s (k := 69) rfl) (t_bdK rfl : t_bd 11 44 = some (0, 6))).2 (hI.b (hI.wf.s (k := 69) rfl) (t_bdK rfl : t_bd 11 45 = some (0, 6))).2; omega) (by have kf262 : ((-1) : Int32).toInt = (-1) := (by decide); have kf263 : (2 : Int32).toInt = 2 := (by decide); omega)) rfl hX rfl (fun gi261 gl261 gr261 hI hX hC261 q261 => ?_)
                  have q261 : (t_wh (gi261 69 55).toInt (gi261 93) (gi261 95) ∧ (gi261 69 55).toInt = (gi19 69 55).toInt + 1) ∧ ∀ (L : s_RL) (t : Int × Int × Int), s_P4 gi19 L → (2 : Int) = t.1 → y19_1.toInt = t.2.1 → ((-1) : Int) = t.2.2 → s_P4 gi261 (L ++ [t]) := q261
                  obtain ⟨l264, u264⟩ := hI.b (hI.wf.s (k := 69) rfl) (t_bdK rfl : t_bd 11 55 = some (0, 100))
                  refine ev_loc f_X12_plans (nx := 207) rfl rfl rfl rfl ?_
                  refine ev_loc f_X12_plans (nx := 208) rfl rfl rfl rfl ?_
                  refine ev_loc f_X12_plans (nx := 209) rfl rfl rfl rfl ?_
                  refine ev_loc f_X12_plans (nx := 210) rfl rfl rfl rfl ?_
                  refine ev_gvI f_X12_plans (nx := 213) (w := (gi9 69 48)) rfl (hI.wf.s rfl) rfl rfl ((hC261.1 69 48 rfl).1.trans c19_3) rfl ?_
                  have l265 : (1:Int) ≤ (gi9 69 48).toInt := (by have h := j19_0.2.2.2.2.2.2.2; rw [c19_3] at h; exact h)
                  refine ev_qI0 f_X12_plans (nx := 216) (r := [.int y19_1]) rfl rfl rfl rfl rfl rfl rfl (c_m_turnTime hI (y19_1) l19_1 (Int.le_trans u170 (by decide : (240:Int) ≤ 300)) ((gi9 69 48)) l265 u12) rfl (fun w266 l266 u266 q266 => ?_)
                  have q266 : w266.toInt = ((t_tt gi261 (gi9 69 48).toInt y19_1.toInt.toNat : Nat) : Int) := q266
                  refine ev_addR f_X12_plans (nx := 217) (l := 1) (u := 280) rfl l19_1 u170 l266 u266 rfl rfl (by decide) (by decide) rfl (fun z267 e267 l267 u267 => ?_)
                  refine ev_loc f_X12_plans (nx := 218) (lo' := [(1, .int z267), (5, .int w173), (4, .int y19_4), (3, .int y19_3), (2, .int y19_2), (0, .ref 69)]) rfl rfl rfl rfl ?_
                  refine ev_ic f_X12_plans (nx := 219) (v := 1) rfl (by decide) rfl ?_
                  refine ev_loc f_X12_plans (nx := 220) rfl rfl rfl rfl ?_
                  refine ev_subK f_X12_plans (nx := 221) (c := 1) (l := 0) (u := 1) rfl (by decide) l19_2 u19_2 rfl rfl (by decide) (by decide) rfl (fun z268 e268 l268 u268 => ?_)
                  refine ev_loc f_X12_plans (nx := 222) (lo' := [(2, .int z268), (1, .int z267), (5, .int w173), (4, .int y19_4), (3, .int y19_3), (0, .ref 69)]) rfl rfl rfl rfl ?_
                  refine ev_jmp f_X12_plans (nx := 36) rfl rfl rfl ?_
                  refine ev_sub (lo := [(4, .int y19_4), (3, .int y19_3), (2, .int z268), (1, .int z267), (0, .ref 69)]) rfl (t_sc rfl (t_sc rfl (t_sc rfl (t_sc rfl (t_sc rfl t_sn))))) ?_
                  exact ih19 _ (by omega) gi261 gl261 gr261 (y19_4) (y19_3) (z268) (z267) hI hX  l19_4 (Int.le_trans u168 (by decide : (5:Int) ≤ 6)) l19_3 (Int.le_trans u233 (by decide : (5:Int) ≤ 6)) l268 u268 (Int.le_trans (by decide : (0:Int) ≤ 1) l267) u267 ((hC261.1 69 44 rfl).1.trans c19_0) ((hC261.1 69 45 rfl).1.trans c19_1) ((hC261.1 69 46 rfl).1.trans c19_2) ((hC261.1 69 48 rfl).1.trans c19_3) ((hC261.1 69 57 rfl).1.trans c19_4) ((hC261.1 70 4 rfl).1.trans c19_5) (by have hsp := (⟨(hC261.1 69 44 rfl).1, (hC261.1 69 45 rfl).1, (hC261.1 69 48 rfl).1, funext (fun j => (hC261.1 70 j rfl).1), funext (fun j => (hC261.1 89 j rfl).1), funext (fun j => (hC261.1 90 j rfl).1), funext (fun j => (hC261.1 91 j rfl).1)⟩ : t_sp gi19 gi261); have e1 := congrArg Int32.toInt hsp.1; have e2 := congrArg Int32.toInt hsp.2.1; have ff269 : (gi261 69 44).toInt = (gi9 69 44).toInt := congrArg Int32.toInt ((hC261.1 69 44 rfl).1.trans c19_0); have ff270 : (gi261 69 45).toInt = (gi9 69 45).toInt := congrArg Int32.toInt ((hC261.1 69 45 rfl).1.trans c19_1); have hb1 := hI.b (hI.wf.s (k := 69) rfl) (t_bdK rfl : t_bd 11 44 = some (0, 6)); have hb2 := hI.b (hI.wf.s (k := 69) rfl) (t_bdK rfl : t_bd 11 45 = some (0, 6)); exact t_pla_turn (w := w266) j19_0 (by omega) (by omega) (by omega) (by omega) (by omega) (by omega) (by omega) (by omega) (by omega) (fun _ => by have h1 := q235; have h2 := q173; omega) (fun h => absurd (q252.mpr h) (by omega)) (by have h1 := q256; have h2 := q173; rw [show z255.toInt.toNat = y19_1.toInt.toNat + 1 by omega] at h1; omega) (by rw [← t_tt_sp hsp, congrArg Int32.toInt c19_3]; exact q266) (by omega) (by omega) hsp (funext (fun j => (hC261.1 92 j rfl).1)) q261.1.2 q261.1.1) (by
                                                            intro D hm hb hd h46 ht
                                                            have hQ := j19_1 D hm hb hd h46 ht
                                                            have hsp := (⟨(hC261.1 69 44 rfl).1, (hC261.1 69 45 rfl).1, (hC261.1 69 48 rfl).1, funext (fun j => (hC261.1 70 j rfl).1), funext (fun j => (hC261.1 89 j rfl).1), funext (fun j => (hC261.1 90 j rfl).1), funext (fun j => (hC261.1 91 j rfl).1)⟩ : t_sp gi19 gi261)
                                                            have kf0 := congrArg Int32.toInt c19_0
                                                            have kf1 := congrArg Int32.toInt c19_1
                                                            have kf2 := congrArg Int32.toInt c19_2
                                                            have kf3 := congrArg Int32.toInt c19_3
                                                            have kf4 := congrArg Int32.toInt c19_4
                                                            have kf5 := congrArg Int32.toInt c19_5
                                                            exact s_MQ_T (w := w266) hQ j19_0 hb hd (by omega) (by omega) (by omega) (by omega) (by omega) (by omega) (by omega) (fun _ hh => by have h1 := q235; have h2 := q173; omega) (fun h => absurd (q252.mpr h) (by omega)) (fun hh => by have h1 := q256; have h2 := q173; rw [show z255.toInt.toNat = y19_1.toInt.toNat + 1 by omega] at h1; omega) (by rw [← t_tt_sp hsp, congrArg Int32.toInt c19_3]; exact q266) (by omega) (by omega) hsp q261.2) j19_2 rfl
              · have r271 : w252.toInt ≠ 0 := fun e => h253 (Int32.toInt_inj.mp (e.trans (by decide : (0:Int) = (0 : Int32).toInt)))
                have l272 : 1 ≤ w252.toInt := t_nel h253 l252 rfl rfl
                refine ev_loc f_X12_plans (nx := 131) rfl rfl rfl rfl ?_
                refine ev_loc f_X12_plans (nx := 132) rfl rfl rfl rfl ?_
                refine ev_loc f_X12_plans (nx := 133) rfl rfl rfl rfl ?_
                refine ev_loc f_X12_plans (nx := 135) rfl rfl rfl rfl ?_
                refine ev_qI0 f_X12_plans (nx := 138) (r := []) rfl rfl rfl rfl rfl rfl rfl (c_m_byCart hI (y19_1) l19_1 u170 (y19_3) l19_3 (Int.le_trans u233 (by decide : (5:Int) ≤ 6)) (y19_4) l19_4 u168 (j19_0.2.2.2.2.2.2.1) (by have hm := q252.mp (by omega); unfold t_mayC at hm; omega) (by have hm := q252.mp (by omega); unfold t_mayC at hm; have h1 := j19_0.2.2.2.2.1; have h2 := j19_0.2.2.2.2.2.1; exact t_pla_la j19_0 (by omega) (by first | omega | (unfold t_S; omega)) (by first | omega | (unfold t_C; omega)))) rfl (fun w273 l273 u273 q273 => ?_)
                have q273 : w273.toInt = t_byc gi19 (gi19 92) y19_1.toInt.toNat y19_3.toInt.toNat y19_4.toInt.toNat := q273
                refine ev_loc f_X12_plans (nx := 140) rfl rfl rfl rfl ?_
                refine ev_if f_X12_plans (t1 := 143) (t2 := 177) rfl rfl rfl (fun h274 => ?_) (fun h274 => ?_)
                · have r275 : w273.toInt = w173.toInt := t_eqi h274
                  have u276 : w173.toInt ≤ 1000023760 := t_equ (Eq.symm h274) u273
                  have l277 : 0 ≤ w173.toInt := t_eql (Eq.symm h274) l273
                  refine ev_loc f_X12_plans (nx := 144) rfl rfl rfl rfl ?_
                  refine ev_ic f_X12_plans (nx := 145) (v := 1) rfl (by decide) rfl ?_
                  refine ev_loc f_X12_plans (nx := 146) rfl rfl rfl rfl ?_
                  refine ev_loc f_X12_plans (nx := 147) rfl rfl rfl rfl ?_
                  refine ev_getR f_X12_plans (nx := 150) rfl (hI.wf.s rfl) rfl rfl (hI.wf.r rfl) rfl rfl ?_
                  refine ev_loc f_X12_plans (nx := 152) rfl rfl rfl rfl ?_
                  refine ev_ialdT f_X12_plans (nx := 153) rfl (hI.wf.s rfl) l19_4 (by decide) u168 (by decide) rfl (fun w278 e278 => ?_)
                  obtain ⟨l278, u278⟩ := hI.abi e278 (by decide +kernel : t_abr 91 0 5 0 5 = true) l19_4 (by decide) u168 (by decide)
                  refine ev_qN f_X12_plans (nx := 156) (r := []) rfl rfl rfl rfl rfl rfl rfl (c_l_acts hI (1) (Int.le_trans (by decide : (0:Int) ≤ 1) (by decide : (1:Int) ≤ (1:Int32).toInt)) (Int.le_trans (by decide : (1:Int32).toInt ≤ (1:Int)) (by decide : (1:Int) ≤ 2)) (y19_1) (w278) (Int.le_trans (by decide : ((-1):Int) ≤ 0) l278) u278 (j19_0.2.2.2.1) (by have hn := t_pla_n j19_0 (by omega) (by omega) (hI.b (hI.wf.s (k := 69) rfl) (t_bdK rfl : t_bd 11 44 = some (0, 6))).2 (hI.b (hI.wf.s (k := 69) rfl) (t_bdK rfl : t_bd 11 45 = some (0, 6))).2; omega) (by have kf280 : (1 : Int32).toInt = 1 := (by decide); omega)) rfl hX rfl (fun gi279 gl279 gr279 hI hX hC279 q279 => ?_)
                  have q279 : (t_wh (gi279 69 55).toInt (gi279 93) (gi279 95) ∧ (gi279 69 55).toInt = (gi19 69 55).toInt + 1) ∧ ∀ (L : s_RL) (t : Int × Int × Int), s_P4 gi19 L → (1 : Int) = t.1 → y19_1.toInt = t.2.1 → w278.toInt = t.2.2 → s_P4 gi279 (L ++ [t]) := q279
                  obtain ⟨l281, u281⟩ := hI.b (hI.wf.s (k := 69) rfl) (t_bdK rfl : t_bd 11 55 = some (0, 100))
                  refine ev_loc f_X12_plans (nx := 157) rfl rfl rfl rfl ?_
                  refine ev_loc f_X12_plans (nx := 158) rfl rfl rfl rfl ?_
                  refine ev_loc f_X12_plans (nx := 159) rfl rfl rfl rfl ?_
                  refine ev_getR f_X12_plans (nx := 162) rfl (hI.wf.s rfl) rfl rfl (hI.wf.r rfl) rfl rfl ?_
                  refine ev_loc f_X12_plans (nx := 164) rfl rfl rfl rfl ?_
                  refine ev_ialdT f_X12_plans (nx := 165) rfl (hI.wf.s rfl) l19_4 (by decide) u168 (by decide) rfl (fun w282 e282 => ?_)
                  rw [e282.trans ((hC279.1 91 y19_4.toNatClampNeg rfl).1.trans e278.symm)]
                  refine ev_ic f_X12_plans (nx := 166) (v := 1) rfl (by decide) rfl ?_
                  refine ev_inV3 f_X12_plans (nx := 169) (lo2 := [(0, .ref 69), (1, .int w278), (2, .int 1)]) rfl rfl rfl rfl f_X12_ofCart (hI.wf.s rfl) rfl rfl rfl rfl rfl ?_
                  refine ev_loc f_X12_ofCart (nx := 1) rfl rfl rfl rfl ?_
                  refine ev_getR f_X12_ofCart (nx := 4) rfl (hI.wf.s rfl) rfl rfl (hI.wf.r rfl) rfl rfl ?_
                  refine ev_bp f_X12_ofCart (nx := 6) (v := 82) rfl (by decide) rfl ?_
                  refine ev_ic f_X12_ofCart (nx := 7) (v := 3) rfl (by decide) rfl ?_
                  refine ev_loc f_X12_ofCart (nx := 8) rfl rfl rfl rfl ?_
                  refine ev_mulL f_X12_ofCart (nx := 9) (c := 3) (l := 0) (u := 15) rfl (by decide) (by decide) l278 u278 rfl rfl (by decide) (by decide) rfl (fun z283 e283 l283 u283 => ?_)
                  refine ev_addK f_X12_ofCart (nx := 10) (c := 82) (l := 82) (u := 97) rfl (by decide) l283 u283 rfl rfl (by decide) (by decide) rfl (fun z284 e284 l284 u284 => ?_)
                  refine ev_loc f_X12_ofCart (nx := 11) rfl rfl rfl rfl ?_
                  refine ev_addC f_X12_ofCart (nx := 12) (c := 1) (l := 83) (u := 98) rfl (by decide) l284 u284 rfl rfl (by decide) (by decide) rfl (fun z285 e285 l285 u285 => ?_)
                  refine ev_ialdT f_X12_ofCart (nx := 13) rfl (hI.wf.s rfl) l285 (by decide) u285 (by decide) rfl (fun w286 e286 => ?_)
                  obtain ⟨l286, u286⟩ := hI.abA (x := w278) e286 (by decide +kernel : t_aba 70 83 3 0 5 0 20 = true) (by omega) (by omega) (by omega)
                  refine ev_retK1 f_X12_ofCart rfl rfl rfl ?_
                  refine ev_addR f_X12_plans (nx := 170) (l := 0) (u := 260) rfl l19_1 u170 l286 u286 rfl rfl (by decide) (by decide) rfl (fun z287 e287 l287 u287 => ?_)
                  refine ev_loc f_X12_plans (nx := 171) (lo' := [(1, .int z287), (5, .int w173), (4, .int y19_4), (3, .int y19_3), (2, .int y19_2), (0, .ref 69)]) rfl rfl rfl rfl ?_
                  refine ev_incR f_X12_plans (nx := 174) (c := 1) (l := 1) (u := 6) rfl rfl (by decide) (by decide) l19_4 u168 rfl rfl (by decide) (by decide) rfl (fun z288 e288 l288 u288 => ?_)
                  refine ev_jmp f_X12_plans (nx := 222) rfl rfl rfl ?_
                  refine ev_jmp f_X12_plans (nx := 36) rfl rfl rfl ?_
                  refine ev_sub (lo := [(4, .int z288), (3, .int y19_3), (2, .int y19_2), (1, .int z287), (0, .ref 69)]) rfl (t_sc rfl (t_sc rfl (t_sc rfl (t_sc rfl (t_sc rfl t_sn))))) ?_
                  exact ih19 _ (by omega) gi279 gl279 gr279 (z288) (y19_3) (y19_2) (z287) hI hX  (Int.le_trans (by decide : (0:Int) ≤ 1) l288) u288 l19_3 (Int.le_trans u233 (by decide : (5:Int) ≤ 6)) l19_2 u19_2 l287 (Int.le_trans u287 (by decide : (260:Int) ≤ 280)) ((hC279.1 69 44 rfl).1.trans c19_0) ((hC279.1 69 45 rfl).1.trans c19_1) ((hC279.1 69 46 rfl).1.trans c19_2) ((hC279.1 69 48 rfl).1.trans c19_3) ((hC279.1 69 57 rfl).1.trans c19_4) ((hC279.1 70 4 rfl).1.trans c19_5) (by have hsp := (⟨(hC279.1 69 44 rfl).1, (hC279.1 69 45 rfl).1, (hC279.1 69 48 rfl).1, funext (fun j => (hC279.1 70 j rfl).1), funext (fun j => (hC279.1 89 j rfl).1), funext (fun j => (hC279.1 90 j rfl).1), funext (fun j => (hC279.1 91 j rfl).1)⟩ : t_sp gi19 gi279); have htk : t_ct gi279 y19_4.toInt.toNat = w286.toInt.toNat := (by unfold t_ct; rw [t_of_eq (p := gi279) (a := 83) (b := 3) t_sp.rf (t_ci_eq t_sp.rf (i := y19_4) (((hC279.1 91 y19_4.toNatClampNeg rfl).1.trans e278.symm)).symm (by omega)) (e286.symm).symm (by omega) (by omega)]); exact t_pla_cart (w := w286) j19_0 (by omega) (by omega) (by omega) (q252.mp (by omega)) (by have h1 := q273; have h2 := q173; omega) (by rw [← t_ct_sp hsp]; exact htk) (by omega) (by omega) (by omega) (by rw [← t_cc_sp hsp]; exact t_cc0 hI (by omega)) hsp (funext (fun j => (hC279.1 92 j rfl).1)) q279.1.2 q279.1.1) (by
                                                            intro D hm hb hd h46 ht
                                                            have hQ := j19_1 D hm hb hd h46 ht
                                                            have hsp := (⟨(hC279.1 69 44 rfl).1, (hC279.1 69 45 rfl).1, (hC279.1 69 48 rfl).1, funext (fun j => (hC279.1 70 j rfl).1), funext (fun j => (hC279.1 89 j rfl).1), funext (fun j => (hC279.1 90 j rfl).1), funext (fun j => (hC279.1 91 j rfl).1)⟩ : t_sp gi19 gi279)
                                                            have htk : t_ct gi279 y19_4.toInt.toNat = w286.toInt.toNat := (by unfold t_ct; rw [t_of_eq (p := gi279) (a := 83) (b := 3) t_sp.rf (t_ci_eq t_sp.rf (i := y19_4) (((hC279.1 91 y19_4.toNatClampNeg rfl).1.trans e278.symm)).symm (by omega)) (e286.symm).symm (by omega) (by omega)])
                                                            have cw := t_clamp (i := y19_4) (by omega)
                                                            exact s_MQ_C (w := w286) (who := w278) hQ j19_0 hb hd ht (by omega) (by omega) (by omega) (by omega) (by omega) (by omega) (q252.mp (by omega)) (by have h1 := q273; have h2 := q173; omega) (by rw [← t_ct_sp hsp]; exact htk) (by omega) (by omega) (by omega) hsp (by rw [e278, show y19_4.toNatClampNeg = y19_4.toInt.toNat by omega]) q279.2) j19_2 rfl
                · have r289 : w273.toInt ≠ w173.toInt := t_nei h274
                  refine ev_loc f_X12_plans (nx := 178) rfl rfl rfl rfl ?_
                  refine ev_loc f_X12_plans (nx := 179) rfl rfl rfl rfl ?_
                  refine ev_ic f_X12_plans (nx := 180) (v := 1) rfl (by decide) rfl ?_
                  refine ev_addC f_X12_plans (nx := 181) (c := 1) (l := 1) (u := 241) rfl (by decide) l19_1 u170 rfl rfl (by decide) (by decide) rfl (fun z290 e290 l290 u290 => ?_)
                  refine ev_loc f_X12_plans (nx := 182) rfl rfl rfl rfl ?_
                  refine ev_loc f_X12_plans (nx := 183) rfl rfl rfl rfl ?_
                  refine ev_loc f_X12_plans (nx := 185) rfl rfl rfl rfl ?_
                  refine ev_qI0 f_X12_plans (nx := 188) (r := []) rfl rfl rfl rfl rfl rfl rfl (c_m_leftAt hI (z290) (Int.le_trans (by decide : (0:Int) ≤ 1) l290) (Int.le_trans u290 (by decide : (241:Int) ≤ 300)) (y19_2) l19_2 u19_2 (y19_3) l19_3 (Int.le_trans u233 (by decide : (5:Int) ≤ 6)) (y19_4) l19_4 (Int.le_trans u168 (by decide : (5:Int) ≤ 6))) rfl (fun w291 l291 u291 q291 => ?_)
                  have q291 : w291.toInt = t_la (gi19 92) (t_S gi19) (t_C gi19) z290.toInt.toNat y19_2.toInt.toNat y19_3.toInt.toNat y19_4.toInt.toNat := q291
                  refine ev_loc f_X12_plans (nx := 190) rfl rfl rfl rfl ?_
                  refine ev_if f_X12_plans (t1 := 193) (t2 := 199) rfl rfl rfl (fun h292 => ?_) (fun h292 => ?_)
                  · have r293 : w291.toInt = w173.toInt := t_eqi h292
                    refine ev_incR f_X12_plans (nx := 196) (c := 1) (l := 1) (u := 241) rfl rfl (by decide) (by decide) l19_1 u170 rfl rfl (by decide) (by decide) rfl (fun z294 e294 l294 u294 => ?_)
                    refine ev_jmp f_X12_plans (nx := 222) rfl rfl rfl ?_
                    refine ev_jmp f_X12_plans (nx := 36) rfl rfl rfl ?_
                    refine ev_sub (lo := [(4, .int y19_4), (3, .int y19_3), (2, .int y19_2), (1, .int z294), (0, .ref 69)]) rfl (t_sc rfl (t_sc rfl (t_sc rfl (t_sc rfl (t_sc rfl t_sn))))) ?_
                    exact ih19 _ (by omega) gi19 gl19 gr19 (y19_4) (y19_3) (y19_2) (z294) hI hX  l19_4 (Int.le_trans u168 (by decide : (5:Int) ≤ 6)) l19_3 (Int.le_trans u233 (by decide : (5:Int) ≤ 6)) l19_2 u19_2 (Int.le_trans (by decide : (0:Int) ≤ 1) l294) (Int.le_trans u294 (by decide : (241:Int) ≤ 280)) c19_0 c19_1 c19_2 c19_3 c19_4 c19_5 (t_pla_rest j19_0 (by omega) (by have h1 := q291; have h2 := q173; rw [show z290.toInt.toNat = y19_1.toInt.toNat + 1 by omega] at h1; omega) (by omega)) (by
                                                            intro D hm hb hd h46 ht
                                                            have hQ := j19_1 D hm hb hd h46 ht
                                                            have kf0 := congrArg Int32.toInt c19_0
                                                            have kf1 := congrArg Int32.toInt c19_1
                                                            have kf2 := congrArg Int32.toInt c19_2
                                                            have kf3 := congrArg Int32.toInt c19_3
                                                            have kf4 := congrArg Int32.toInt c19_4
                                                            have kf5 := congrArg Int32.toInt c19_5
                                                            exact s_MQ_R hQ j19_0 hb hd (by omega) (by omega) (by omega) (by omega) (by omega) (by omega) (by omega) (fun _ hh => by have h1 := q235; have h2 := q173; omega) (fun _ hh => by have h1 := q273; have h2 := q173; omega) (by have h1 := q291; have h2 := q173; rw [show z290.toInt.toNat = y19_1.toInt.toNat + 1 by omega] at h1; omega) (by omega)) j19_2 rfl
                  · have r295 : w291.toInt ≠ w173.toInt := t_nei h292
                    refine ev_loc f_X12_plans (nx := 200) rfl rfl rfl rfl ?_
                    refine ev_ic f_X12_plans (nx := 201) (v := 2) rfl (by decide) rfl ?_
                    refine ev_loc f_X12_plans (nx := 202) rfl rfl rfl rfl ?_
                    refine ev_ic f_X12_plans (nx := 203) (v := -1) rfl (by decide) rfl ?_
                    refine ev_qN f_X12_plans (nx := 206) (r := []) rfl rfl rfl rfl rfl rfl rfl (c_l_acts hI (2) (Int.le_trans (by decide : (0:Int) ≤ 2) (by decide : (2:Int) ≤ (2:Int32).toInt)) (by decide : (2:Int32).toInt ≤ (2:Int)) (y19_1) ((-1)) (by decide : ((-1):Int) ≤ ((-1):Int32).toInt) (Int.le_trans (by decide : ((-1):Int32).toInt ≤ ((-1):Int)) (by decide : ((-1):Int) ≤ 5)) (j19_0.2.2.2.1) (by have hn := t_pla_n j19_0 (by omega) (by omega) (hI.b (hI.wf.s (k := 69) rfl) (t_bdK rfl : t_bd 11 44 = some (0, 6))).2 (hI.b (hI.wf.s (k := 69) rfl) (t_bdK rfl : t_bd 11 45 = some (0, 6))).2; omega) (by have kf297 : ((-1) : Int32).toInt = (-1) := (by decide); have kf298 : (2 : Int32).toInt = 2 := (by decide); omega)) rfl hX rfl (fun gi296 gl296 gr296 hI hX hC296 q296 => ?_)
                    have q296 : (t_wh (gi296 69 55).toInt (gi296 93) (gi296 95) ∧ (gi296 69 55).toInt = (gi19 69 55).toInt + 1) ∧ ∀ (L : s_RL) (t : Int × Int × Int), s_P4 gi19 L → (2 : Int) = t.1 → y19_1.toInt = t.2.1 → ((-1) : Int) = t.2.2 → s_P4 gi296 (L ++ [t]) := q296
                    obtain ⟨l299, u299⟩ := hI.b (hI.wf.s (k := 69) rfl) (t_bdK rfl : t_bd 11 55 = some (0, 100))
                    refine ev_loc f_X12_plans (nx := 207) rfl rfl rfl rfl ?_
                    refine ev_loc f_X12_plans (nx := 208) rfl rfl rfl rfl ?_
                    refine ev_loc f_X12_plans (nx := 209) rfl rfl rfl rfl ?_
                    refine ev_loc f_X12_plans (nx := 210) rfl rfl rfl rfl ?_
                    refine ev_gvI f_X12_plans (nx := 213) (w := (gi9 69 48)) rfl (hI.wf.s rfl) rfl rfl ((hC296.1 69 48 rfl).1.trans c19_3) rfl ?_
                    have l300 : (1:Int) ≤ (gi9 69 48).toInt := (by have h := j19_0.2.2.2.2.2.2.2; rw [c19_3] at h; exact h)
                    refine ev_qI0 f_X12_plans (nx := 216) (r := [.int y19_1]) rfl rfl rfl rfl rfl rfl rfl (c_m_turnTime hI (y19_1) l19_1 (Int.le_trans u170 (by decide : (240:Int) ≤ 300)) ((gi9 69 48)) l300 u12) rfl (fun w301 l301 u301 q301 => ?_)
                    have q301 : w301.toInt = ((t_tt gi296 (gi9 69 48).toInt y19_1.toInt.toNat : Nat) : Int) := q301
                    refine ev_addR f_X12_plans (nx := 217) (l := 1) (u := 280) rfl l19_1 u170 l301 u301 rfl rfl (by decide) (by decide) rfl (fun z302 e302 l302 u302 => ?_)
                    refine ev_loc f_X12_plans (nx := 218) (lo' := [(1, .int z302), (5, .int w173), (4, .int y19_4), (3, .int y19_3), (2, .int y19_2), (0, .ref 69)]) rfl rfl rfl rfl ?_
                    refine ev_ic f_X12_plans (nx := 219) (v := 1) rfl (by decide) rfl ?_
                    refine ev_loc f_X12_plans (nx := 220) rfl rfl rfl rfl ?_
                    refine ev_subK f_X12_plans (nx := 221) (c := 1) (l := 0) (u := 1) rfl (by decide) l19_2 u19_2 rfl rfl (by decide) (by decide) rfl (fun z303 e303 l303 u303 => ?_)
                    refine ev_loc f_X12_plans (nx := 222) (lo' := [(2, .int z303), (1, .int z302), (5, .int w173), (4, .int y19_4), (3, .int y19_3), (0, .ref 69)]) rfl rfl rfl rfl ?_
                    refine ev_jmp f_X12_plans (nx := 36) rfl rfl rfl ?_
                    refine ev_sub (lo := [(4, .int y19_4), (3, .int y19_3), (2, .int z303), (1, .int z302), (0, .ref 69)]) rfl (t_sc rfl (t_sc rfl (t_sc rfl (t_sc rfl (t_sc rfl t_sn))))) ?_
                    exact ih19 _ (by omega) gi296 gl296 gr296 (y19_4) (y19_3) (z303) (z302) hI hX  l19_4 (Int.le_trans u168 (by decide : (5:Int) ≤ 6)) l19_3 (Int.le_trans u233 (by decide : (5:Int) ≤ 6)) l303 u303 (Int.le_trans (by decide : (0:Int) ≤ 1) l302) u302 ((hC296.1 69 44 rfl).1.trans c19_0) ((hC296.1 69 45 rfl).1.trans c19_1) ((hC296.1 69 46 rfl).1.trans c19_2) ((hC296.1 69 48 rfl).1.trans c19_3) ((hC296.1 69 57 rfl).1.trans c19_4) ((hC296.1 70 4 rfl).1.trans c19_5) (by have hsp := (⟨(hC296.1 69 44 rfl).1, (hC296.1 69 45 rfl).1, (hC296.1 69 48 rfl).1, funext (fun j => (hC296.1 70 j rfl).1), funext (fun j => (hC296.1 89 j rfl).1), funext (fun j => (hC296.1 90 j rfl).1), funext (fun j => (hC296.1 91 j rfl).1)⟩ : t_sp gi19 gi296); have e1 := congrArg Int32.toInt hsp.1; have e2 := congrArg Int32.toInt hsp.2.1; have ff304 : (gi296 69 44).toInt = (gi9 69 44).toInt := congrArg Int32.toInt ((hC296.1 69 44 rfl).1.trans c19_0); have ff305 : (gi296 69 45).toInt = (gi9 69 45).toInt := congrArg Int32.toInt ((hC296.1 69 45 rfl).1.trans c19_1); have hb1 := hI.b (hI.wf.s (k := 69) rfl) (t_bdK rfl : t_bd 11 44 = some (0, 6)); have hb2 := hI.b (hI.wf.s (k := 69) rfl) (t_bdK rfl : t_bd 11 45 = some (0, 6)); exact t_pla_turn (w := w301) j19_0 (by omega) (by omega) (by omega) (by omega) (by omega) (by omega) (by omega) (by omega) (by omega) (fun _ => by have h1 := q235; have h2 := q173; omega) (fun _ => by have h1 := q273; have h2 := q173; omega) (by have h1 := q291; have h2 := q173; rw [show z290.toInt.toNat = y19_1.toInt.toNat + 1 by omega] at h1; omega) (by rw [← t_tt_sp hsp, congrArg Int32.toInt c19_3]; exact q301) (by omega) (by omega) hsp (funext (fun j => (hC296.1 92 j rfl).1)) q296.1.2 q296.1.1) (by
                                                            intro D hm hb hd h46 ht
                                                            have hQ := j19_1 D hm hb hd h46 ht
                                                            have hsp := (⟨(hC296.1 69 44 rfl).1, (hC296.1 69 45 rfl).1, (hC296.1 69 48 rfl).1, funext (fun j => (hC296.1 70 j rfl).1), funext (fun j => (hC296.1 89 j rfl).1), funext (fun j => (hC296.1 90 j rfl).1), funext (fun j => (hC296.1 91 j rfl).1)⟩ : t_sp gi19 gi296)
                                                            have kf0 := congrArg Int32.toInt c19_0
                                                            have kf1 := congrArg Int32.toInt c19_1
                                                            have kf2 := congrArg Int32.toInt c19_2
                                                            have kf3 := congrArg Int32.toInt c19_3
                                                            have kf4 := congrArg Int32.toInt c19_4
                                                            have kf5 := congrArg Int32.toInt c19_5
                                                            exact s_MQ_T (w := w301) hQ j19_0 hb hd (by omega) (by omega) (by omega) (by omega) (by omega) (by omega) (by omega) (fun _ hh => by have h1 := q235; have h2 := q173; omega) (fun _ hh => by have h1 := q273; have h2 := q173; omega) (fun hh => by have h1 := q291; have h2 := q173; rw [show z290.toInt.toNat = y19_1.toInt.toNat + 1 by omega] at h1; omega) (by rw [← t_tt_sp hsp, congrArg Int32.toInt c19_3]; exact q301) (by omega) (by omega) hsp q296.2) j19_2 rfl
    refine ev_sub (lo := [(4, .int 0), (3, .int 0), (2, .int 0), (1, .int 0), (0, .ref 69)]) rfl (t_sc rfl (t_sc rfl (t_sc rfl (t_sc rfl (t_sc rfl t_sn))))) ?_
    exact L19 _ g18 gl9 gr9 (0) (0) (0) (0) hI hX  (by decide : (0:Int) ≤ (0:Int32).toInt) (Int.le_trans (by decide : (0:Int32).toInt ≤ (0:Int)) (by decide : (0:Int) ≤ 6)) (by decide : (0:Int) ≤ (0:Int32).toInt) (Int.le_trans (by decide : (0:Int32).toInt ≤ (0:Int)) (by decide : (0:Int) ≤ 6)) (by decide : (0:Int) ≤ (0:Int32).toInt) (Int.le_trans (by decide : (0:Int32).toInt ≤ (0:Int)) (by decide : (0:Int) ≤ 1)) (by decide : (0:Int) ≤ (0:Int32).toInt) (Int.le_trans (by decide : (0:Int32).toInt ≤ (0:Int)) (by decide : (0:Int) ≤ 280)) ((by rw [e18]; exact x_up2_off (Or.inr (by decide)) : g18 69 44 = g17 69 44).trans ((by rw [e17]; exact x_up2_off (Or.inr (by decide)) : g17 69 44 = gi9 69 44).trans rfl)) ((by rw [e18]; exact x_up2_off (Or.inr (by decide)) : g18 69 45 = g17 69 45).trans ((by rw [e17]; exact x_up2_off (Or.inr (by decide)) : g17 69 45 = gi9 69 45).trans rfl)) ((by rw [e18]; exact x_up2_off (Or.inr (by decide)) : g18 69 46 = g17 69 46).trans ((by rw [e17]; exact x_up2_off (Or.inr (by decide)) : g17 69 46 = gi9 69 46).trans ((hC9.1 69 46 rfl).1.trans rfl))) ((by rw [e18]; exact x_up2_off (Or.inr (by decide)) : g18 69 48 = g17 69 48).trans ((by rw [e17]; exact x_up2_off (Or.inr (by decide)) : g17 69 48 = gi9 69 48).trans rfl)) (by rw [e18]; exact x_up2_at _ _ _ _ : g18 69 57 = 0) ((by rw [e18]; exact x_up2_off (Or.inr (by decide)) : g18 70 4 = g17 70 4).trans ((by rw [e17]; exact x_up2_off (Or.inr (by decide)) : g17 70 4 = gi9 70 4).trans ((hC9.1 70 4 rfl).1.trans rfl))) (by have hb1 := hI.b (hI.wf.s (k := 69) rfl) (t_bdK rfl : t_bd 11 44 = some (0, 6)); have hb2 := hI.b (hI.wf.s (k := 69) rfl) (t_bdK rfl : t_bd 11 45 = some (0, 6)); have hsp := (⟨((by rw [e18]; exact x_up2_off (Or.inr (by decide)) : g18 69 44 = g17 69 44).trans ((by rw [e17]; exact x_up2_off (Or.inr (by decide)) : g17 69 44 = gi9 69 44).trans rfl)), ((by rw [e18]; exact x_up2_off (Or.inr (by decide)) : g18 69 45 = g17 69 45).trans ((by rw [e17]; exact x_up2_off (Or.inr (by decide)) : g17 69 45 = gi9 69 45).trans rfl)), ((by rw [e18]; exact x_up2_off (Or.inr (by decide)) : g18 69 48 = g17 69 48).trans ((by rw [e17]; exact x_up2_off (Or.inr (by decide)) : g17 69 48 = gi9 69 48).trans rfl)), ((by rw [e18]; exact x_up2_ne (by decide) : g18 70 = g17 70).trans ((by rw [e17]; exact x_up2_ne (by decide) : g17 70 = gi9 70))), ((by rw [e18]; exact x_up2_ne (by decide) : g18 89 = g17 89).trans ((by rw [e17]; exact x_up2_ne (by decide) : g17 89 = gi9 89))), ((by rw [e18]; exact x_up2_ne (by decide) : g18 90 = g17 90).trans ((by rw [e17]; exact x_up2_ne (by decide) : g17 90 = gi9 90))), ((by rw [e18]; exact x_up2_ne (by decide) : g18 91 = g17 91).trans ((by rw [e17]; exact x_up2_ne (by decide) : g17 91 = gi9 91)))⟩ : t_sp gi9 g18); have e1 := congrArg Int32.toInt hsp.1; have e2 := congrArg Int32.toInt hsp.2.1; have ff306 : (g18 69 55).toInt = 0 := (congrArg Int32.toInt ((by rw [e18]; exact x_up2_off (Or.inr (by decide)) : g18 69 55 = g17 69 55).trans (by rw [e17]; exact x_up2_at _ _ _ _ : g17 69 55 = 0))).trans (by decide); exact t_pla_0 q9.1.1.1 (q9.1.1.2 (by omega)) q9.1.2.1 (by have h := q9.1.2.2; have h2 := e_p0; omega) (by omega) (by omega) hsp (((by rw [e18]; exact x_up2_ne (by decide) : g18 92 = g17 92).trans ((by rw [e17]; exact x_up2_ne (by decide) : g17 92 = gi9 92))) : g18 92 = gi9 92) (by omega)) (by
                                                            intro D hm hb hd h46 ht
                                                            have h4 : (gi 70 4).toInt = D 4 := hm.1.2.1
                                                            obtain ⟨k1, k2, k3, k4⟩ := q9.2 D hm hb hd h46
                                                            rw [h4] at k1 k2
                                                            have e48 := q9.1.2.2
                                                            have hsp := (⟨((by rw [e18]; exact x_up2_off (Or.inr (by decide)) : g18 69 44 = g17 69 44).trans ((by rw [e17]; exact x_up2_off (Or.inr (by decide)) : g17 69 44 = gi9 69 44).trans rfl)), ((by rw [e18]; exact x_up2_off (Or.inr (by decide)) : g18 69 45 = g17 69 45).trans ((by rw [e17]; exact x_up2_off (Or.inr (by decide)) : g17 69 45 = gi9 69 45).trans rfl)), ((by rw [e18]; exact x_up2_off (Or.inr (by decide)) : g18 69 48 = g17 69 48).trans ((by rw [e17]; exact x_up2_off (Or.inr (by decide)) : g17 69 48 = gi9 69 48).trans rfl)), ((by rw [e18]; exact x_up2_ne (by decide) : g18 70 = g17 70).trans ((by rw [e17]; exact x_up2_ne (by decide) : g17 70 = gi9 70))), ((by rw [e18]; exact x_up2_ne (by decide) : g18 89 = g17 89).trans ((by rw [e17]; exact x_up2_ne (by decide) : g17 89 = gi9 89))), ((by rw [e18]; exact x_up2_ne (by decide) : g18 90 = g17 90).trans ((by rw [e17]; exact x_up2_ne (by decide) : g17 90 = gi9 90))), ((by rw [e18]; exact x_up2_ne (by decide) : g18 91 = g17 91).trans ((by rw [e17]; exact x_up2_ne (by decide) : g17 91 = gi9 91)))⟩ : t_sp gi9 g18)
                                                            have ff307 : (g18 69 55).toInt = 0 := (congrArg Int32.toInt ((by rw [e18]; exact x_up2_off (Or.inr (by decide)) : g18 69 55 = g17 69 55).trans (by rw [e17]; exact x_up2_at _ _ _ _ : g17 69 55 = 0))).trans (by decide)
                                                            have hyes : s_LS (s_PD D (D 4)) 0 0 0 0 < 1000000000 := by unfold s_an at k1; split at k1 <;> omega
                                                            have z0 : (0 : Int32).toInt = 0 := rfl
                                                            exact s_MQ_0 k2 ⟨e48.trans h4, k3, k4⟩ hsp hb hd hyes (by omega)) (by
                                                            intro D hm hb hd h46
                                                            have h4 : (gi 70 4).toInt = D 4 := hm.1.2.1
                                                            obtain ⟨k1, -⟩ := q9.2 D hm hb hd h46
                                                            rw [h4] at k1
                                                            unfold s_an at k1
                                                            split at k1 <;> omega) rfl
noncomputable def wl_e_plan : List (Nat × Nat) := [(69, 2), (69, 44), (69, 45), (69, 48), (69, 55), (69, 56), (69, 57), (89, 10005), (89, 610011), (90, 9999), (91, 9999), (92, 9999), (93, 9999), (94, 9999), (95, 9999), (96, 9999), (97, 9999), (98, 9999)]
noncomputable def Q_e_plan (gi : Nat → Nat → Int32) (gl : Nat → Nat → Int64) (gr : Nat → Nat → Value) : Int32 → (Nat → Nat → Int32) → (Nat → Nat → Int64) → (Nat → Nat → Value) → Prop := fun (v : Int32) (gi2 : Nat → Nat → Int32) (gl2 : Nat → Nat → Int64) (gr2 : Nat → Nat → Value) => ∀ D : s_D, t_ME 0 gi D → t_Cb D → s_DB D → (gi 69 46).toInt = -1 → s_tk D → (s_LS (s_PD D (D 4)) 0 0 0 0 < 1000000000 → s_P5 gi2 (s_PL D) ∧ v.toInt = ((s_PL D).length : Int)) ∧ (¬ s_LS (s_PD D (D 4)) 0 0 0 0 < 1000000000 → v.toInt = -1 ∧ ∀ L, s_P5 gi L → s_P5 gi2 L)
theorem c_e_plan {X : x_Ext} {d : Nat} {sh : List (Nat ⊕ (Nat × Nat))} {gi : Nat → Nat → Int32} {gl : Nat → Nat → Int64} {gr : Nat → Nat → Value} (hI : t_I sh gi gr) (e_p0 : 1 ≤ (gi 70 4).toInt) : x_Me X (d + 7) n_X12_plan [.ref 69] (sh, gi, gl, gr) (t_PI wl_e_plan sh gi gl gr (-1) 100 (Q_e_plan gi gl gr)) := by
  have hX : t_X wl_e_plan sh gi gl gr gi gl gr := t_X.rf
  refine me_i f_X12_plan (hI.wf.s rfl) rfl rfl rfl ?_
  obtain ⟨l2, u2⟩ := hI.ab (by decide +kernel : t_abr 70 4 4 0 20 = true) (Nat.le_refl _) (Nat.le_refl _)
  refine ev_loc f_X12_plan (nx := 1) rfl rfl rfl rfl ?_
  refine ev_qI f_X12_plan (nx := 4) (r := []) rfl rfl rfl rfl rfl rfl rfl (c_l_plans hI  (by omega)) rfl hX rfl (fun w3 gi3 gl3 gr3 l3 u3 hI hX hC3 q3 => ?_)
  have q3 : (∀ D : s_D, t_ME 0 gi D → t_Cb D → s_DB D → (gi 69 46).toInt = -1 → s_tk D → (w3.toInt = 1 ↔ s_LS (s_PD D (D 4)) 0 0 0 0 < 1000000000) ∧ (w3.toInt = 1 → s_P4 gi3 (s_PL D) ∧ s_FE D (gi3 69 57).toInt ∧ s_FX gi3 D)) ∧ (w3.toInt = 1 → t_wh (gi3 69 55).toInt (gi3 93) (gi3 95)) := q3
  refine ev_if f_X12_plan (t1 := 7) (t2 := 14) rfl rfl rfl (fun h4 => ?_) (fun h4 => ?_)
  · have u5 : w3.toInt ≤ 0 := t_equ h4 (by decide : (0:Int32).toInt ≤ (0:Int))
    refine ev_loc f_X12_plan (nx := 8) rfl rfl rfl rfl ?_
    refine ev_bp f_X12_plan (nx := 10) (v := 6) rfl (by decide) rfl ?_
    refine ev_inV2 f_X12_plan (nx := 13) (lo2 := [(0, .ref 69), (1, .int 6)]) rfl rfl rfl rfl f_X12_refuse (hI.wf.s rfl) rfl rfl rfl rfl rfl ?_
    refine ev_loc f_X12_refuse (nx := 1) rfl rfl rfl rfl ?_
    refine ev_loc f_X12_refuse (nx := 2) rfl rfl rfl rfl ?_
    refine ev_putIT f_X12_refuse (nx := 5) rfl (hI.wf.s rfl) rfl rfl rfl (hI.put0 (hI.wf.s rfl) rfl rfl) (hX.upI rfl) (fun g6 e6 hI hX => ?_)
    refine ev_ic f_X12_refuse (nx := 6) (v := -1) rfl (by decide) rfl ?_
    refine ev_retK1 f_X12_refuse rfl rfl rfl ?_
    exact ev_ret f_X12_plan rfl rfl rfl ⟨_, _, _, rfl, hI, hX, ⟨_, rfl, (by decide : ((-1):Int) ≤ ((-1):Int32).toInt), (Int.le_trans (by decide : ((-1):Int32).toInt ≤ ((-1):Int)) (by decide : ((-1):Int) ≤ 100)), (show ∀ D : s_D, t_ME 0 gi D → t_Cb D → s_DB D → (gi 69 46).toInt = -1 → s_tk D → (s_LS (s_PD D (D 4)) 0 0 0 0 < 1000000000 → s_P5 g6 (s_PL D) ∧ ((-1) : Int) = ((s_PL D).length : Int)) ∧ (¬ s_LS (s_PD D (D 4)) 0 0 0 0 < 1000000000 → ((-1) : Int) = -1 ∧ ∀ L, s_P5 gi L → s_P5 g6 L) from (by
                                                            intro D hm hb hd h46 ht
                                                            have hq := q3.1 D hm hb hd h46 ht
                                                            have z0 : (0 : Int32).toInt = 0 := rfl
                                                            have hno : ¬ s_LS (s_PD D (D 4)) 0 0 0 0 < 1000000000 := fun hh => by have h9 := hq.1.mpr hh; omega
                                                            exact ⟨fun h => absurd h hno, fun _ => ⟨rfl, fun L hL => hL.cg (by rw [e6, x_up2_off (Or.inr (by decide)), ((t_F_X hC3) 69 56 (by decide) rfl).1]) (by rw [e6, x_up2_ne (by decide), t_F_nc (t_F_X hC3) rfl (by decide)]) (by rw [e6, x_up2_ne (by decide), t_F_nc (t_F_X hC3) rfl (by decide)]) (by rw [e6, x_up2_ne (by decide), t_F_nc (t_F_X hC3) rfl (by decide)])⟩⟩))⟩⟩
  · have r7 : w3.toInt ≠ 0 := fun e => h4 (Int32.toInt_inj.mp (e.trans (by decide : (0:Int) = (0 : Int32).toInt)))
    have l8 : 1 ≤ w3.toInt := t_nel h4 l3 rfl rfl
    refine ev_ic f_X12_plan (nx := 15) (v := 0) rfl (by decide) rfl ?_
    refine ev_loc f_X12_plan (nx := 16) (lo' := [(1, .int 0), (0, .ref 69)]) rfl rfl rfl rfl ?_
    have L9 : ∀ (m9 : Nat) (gi9 : Nat → Nat → Int32) (gl9 : Nat → Nat → Int64) (gr9 : Nat → Nat → Value) (y9_1 : Int32), t_I sh gi9 gr9 → t_X wl_e_plan sh gi gl gr gi9 gl9 gr9 → 0 ≤ y9_1.toInt → y9_1.toInt ≤ 119 → gi9 69 46 = (gi 69 46) → gi9 70 4 = (gi 70 4) → (∀ k : Nat, (k : Int) < y9_1.toInt → gi9 96 k = gi9 93 k ∧ gi9 97 k = gi9 94 k ∧ gi9 98 k = gi9 95 k) → (∀ D : s_D, t_ME 0 gi D → t_Cb D → s_DB D → (gi 69 46).toInt = -1 → s_tk D → s_LS (s_PD D (D 4)) 0 0 0 0 < 1000000000 ∧ s_P4 gi9 (s_PL D)) → (119 - y9_1.toInt).toNat = m9 → x_Ev X (d + 7) n_X12_plan 16 [(1, .int y9_1), (0, .ref 69)] [] (sh, gi9, gl9, gr9) (t_PI wl_e_plan sh gi gl gr (-1) 100 (Q_e_plan gi gl gr)) := by
      intro m9
      induction m9 using Nat.strongRecOn with
      | _ m9 ih9 =>
      intro gi9 gl9 gr9 y9_1 hI hX l9_1 u9_1 c9_0 c9_1 j9_0 j9_1 hm9
      refine ev_loc f_X12_plan (nx := 17) rfl rfl rfl rfl ?_
      refine ev_loc f_X12_plan (nx := 18) rfl rfl rfl rfl ?_
      refine ev_getI f_X12_plan (nx := 21) rfl (hI.wf.s rfl) rfl rfl rfl ?_
      obtain ⟨l10, u10⟩ := hI.b (hI.wf.s (k := 69) rfl) (t_bdK rfl : t_bd 11 55 = some (0, 100))
      refine ev_if f_X12_plan (t1 := 66) (t2 := 24) rfl rfl rfl (fun h11 => ?_) (fun h11 => ?_)
      · have r12 : (gi9 69 55).toInt ≤ y9_1.toInt := Int32.le_iff_toInt_le.mp h11
        refine ev_loc f_X12_plan (nx := 67) rfl rfl rfl rfl ?_
        refine ev_loc f_X12_plan (nx := 68) rfl rfl rfl rfl ?_
        refine ev_gvI f_X12_plan (nx := 71) (w := (gi9 69 55)) rfl (hI.wf.s rfl) rfl rfl rfl rfl ?_
        refine ev_putIT f_X12_plan (nx := 74) rfl (hI.wf.s rfl) rfl rfl rfl (hI.putB (hI.wf.s rfl) rfl rfl l10 (by decide) u10 (by decide)) (hX.upI rfl) (fun g13 e13 hI hX => ?_)
        refine ev_loc f_X12_plan (nx := 75) rfl rfl rfl rfl ?_
        refine ev_loc f_X12_plan (nx := 76) rfl rfl rfl rfl ?_
        refine ev_gvI f_X12_plan (nx := 79) (w := (gi9 69 55)) rfl (hI.wf.s rfl) rfl rfl ((by rw [e13]; exact x_up2_off (Or.inr (by decide)) : g13 69 55 = gi9 69 55).trans rfl) rfl ?_
        refine ev_inV2 f_X12_plan (nx := 82) (lo2 := [(0, .ref 69), (1, .int (gi9 69 55))]) rfl rfl rfl rfl f_X12_gives (hI.wf.s rfl) rfl rfl rfl rfl rfl ?_
        refine ev_loc f_X12_gives (nx := 1) rfl rfl rfl rfl ?_
        refine ev_ic f_X12_gives (nx := 2) (v := 0) rfl (by decide) rfl ?_
        refine ev_putIT f_X12_gives (nx := 5) rfl (hI.wf.s rfl) rfl rfl rfl (hI.put0 (hI.wf.s rfl) rfl rfl) (hX.upI rfl) (fun g14 e14 hI hX => ?_)
        refine ev_loc f_X12_gives (nx := 6) rfl rfl rfl rfl ?_
        refine ev_retK1 f_X12_gives rfl rfl rfl ?_
        exact ev_ret f_X12_plan rfl rfl rfl ⟨_, _, _, rfl, hI, hX, ⟨_, rfl, (Int.le_trans (by decide : ((-1):Int) ≤ 0) l10), u10, (show ∀ D : s_D, t_ME 0 gi D → t_Cb D → s_DB D → (gi 69 46).toInt = -1 → s_tk D → (s_LS (s_PD D (D 4)) 0 0 0 0 < 1000000000 → s_P5 g14 (s_PL D) ∧ (gi9 69 55).toInt = ((s_PL D).length : Int)) ∧ (¬ s_LS (s_PD D (D 4)) 0 0 0 0 < 1000000000 → (gi9 69 55).toInt = -1 ∧ ∀ L, s_P5 gi L → s_P5 g14 L) from (by
                                                            intro D hm hb hd h46 ht
                                                            have hk0 := congrArg Int32.toInt c9_0
                                                            have hk1 := congrArg Int32.toInt c9_1
                                                            obtain ⟨hy, g1⟩ := j9_1 D hm hb hd h46 ht
                                                            have g2 := j9_0
                                                            have ff15 : (g14 69 56).toInt = (gi9 69 55).toInt := congrArg Int32.toInt ((by rw [e14]; exact x_up2_off (Or.inr (by decide)) : g14 69 56 = g13 69 56).trans (by rw [e13]; exact x_up2_at _ _ _ _ : g13 69 56 = (gi9 69 55)))
                                                            refine ⟨fun _ => ⟨s_P5_of g1 (by omega) (fun k hk => ?_), ?_⟩, fun h => absurd hy h⟩
                                                            · rw [show g14 96 = gi9 96 from (by rw [e14, x_up2_ne (by decide), e13, x_up2_ne (by decide)]), show g14 97 = gi9 97 from (by rw [e14, x_up2_ne (by decide), e13, x_up2_ne (by decide)]), show g14 98 = gi9 98 from (by rw [e14, x_up2_ne (by decide), e13, x_up2_ne (by decide)])]
                                                              exact g2 k (by omega)
                                                            · have g3 := g1.1
                                                              omega))⟩⟩
      · have r16 : y9_1.toInt < (gi9 69 55).toInt := Int32.lt_iff_toInt_lt.mp (t_nle h11)
        have u17 : y9_1.toInt ≤ 99 := t_ltu (t_nle h11) u10 rfl
        have l18 : 1 ≤ (gi9 69 55).toInt := t_ltl (t_nle h11) l9_1 rfl
        refine ev_loc f_X12_plan (nx := 25) rfl rfl rfl rfl ?_
        refine ev_getR f_X12_plan (nx := 28) rfl (hI.wf.s rfl) rfl rfl (hI.wf.r rfl) rfl rfl ?_
        refine ev_loc f_X12_plan (nx := 29) rfl rfl rfl rfl ?_
        refine ev_loc f_X12_plan (nx := 30) rfl rfl rfl rfl ?_
        refine ev_getR f_X12_plan (nx := 33) rfl (hI.wf.s rfl) rfl rfl (hI.wf.r rfl) rfl rfl ?_
        refine ev_loc f_X12_plan (nx := 34) rfl rfl rfl rfl ?_
        refine ev_ialdT f_X12_plan (nx := 35) rfl (hI.wf.s rfl) l9_1 (by decide) u17 (by decide) rfl (fun w19 e19 => ?_)
        obtain ⟨l19, u19⟩ := hI.abi e19 (by decide +kernel : t_abr 93 0 99 0 2 = true) l9_1 (by decide) u17 (by decide)
        refine ev_iastT f_X12_plan (nx := 36) rfl (hI.wf.s rfl) l9_1 (by decide) u17 (by decide) rfl (hI.astG (hI.wf.s rfl) (fun lo hi e => absurd e (t_nob (by decide +kernel) _)) (fun k hk e => by have := hk.2.1; omega)) (hX.upI (t_inA_ok rfl)) (fun g20 e20 hI hX => ?_)
        refine ev_loc f_X12_plan (nx := 37) rfl rfl rfl rfl ?_
        refine ev_getR f_X12_plan (nx := 40) rfl (hI.wf.s rfl) rfl rfl (hI.wf.r rfl) rfl rfl ?_
        refine ev_loc f_X12_plan (nx := 41) rfl rfl rfl rfl ?_
        refine ev_loc f_X12_plan (nx := 42) rfl rfl rfl rfl ?_
        refine ev_getR f_X12_plan (nx := 45) rfl (hI.wf.s rfl) rfl rfl (hI.wf.r rfl) rfl rfl ?_
        refine ev_loc f_X12_plan (nx := 46) rfl rfl rfl rfl ?_
        refine ev_ialdT f_X12_plan (nx := 47) rfl (hI.wf.s rfl) l9_1 (by decide) u17 (by decide) rfl (fun w21 e21 => ?_)
        refine ev_iastT f_X12_plan (nx := 48) rfl (hI.wf.s rfl) l9_1 (by decide) u17 (by decide) rfl (hI.astG (hI.wf.s rfl) (fun lo hi e => absurd e (t_nob (by decide +kernel) _)) (fun k hk e => by have := hk.2.1; omega)) (hX.upI (t_inA_ok rfl)) (fun g22 e22 hI hX => ?_)
        refine ev_loc f_X12_plan (nx := 49) rfl rfl rfl rfl ?_
        refine ev_getR f_X12_plan (nx := 52) rfl (hI.wf.s rfl) rfl rfl (hI.wf.r rfl) rfl rfl ?_
        refine ev_loc f_X12_plan (nx := 53) rfl rfl rfl rfl ?_
        refine ev_loc f_X12_plan (nx := 54) rfl rfl rfl rfl ?_
        refine ev_getR f_X12_plan (nx := 57) rfl (hI.wf.s rfl) rfl rfl (hI.wf.r rfl) rfl rfl ?_
        refine ev_loc f_X12_plan (nx := 58) rfl rfl rfl rfl ?_
        refine ev_ialdT f_X12_plan (nx := 59) rfl (hI.wf.s rfl) l9_1 (by decide) u17 (by decide) rfl (fun w23 e23 => ?_)
        obtain ⟨l23, u23⟩ := hI.abi e23 (by decide +kernel : t_abr 95 0 99 (-1) 5 = true) l9_1 (by decide) u17 (by decide)
        refine ev_iastT f_X12_plan (nx := 60) rfl (hI.wf.s rfl) l9_1 (by decide) u17 (by decide) rfl (hI.astG (hI.wf.s rfl) (fun lo hi e => absurd e (t_nob (by decide +kernel) _)) (fun k hk e => by have := hk.2.1; omega)) (hX.upI (t_inA_ok rfl)) (fun g24 e24 hI hX => ?_)
        refine ev_incR f_X12_plan (nx := 63) (c := 1) (l := 1) (u := 100) rfl rfl (by decide) (by decide) l9_1 u17 rfl rfl (by decide) (by decide) rfl (fun z25 e25 l25 u25 => ?_)
        refine ev_jmp f_X12_plan (nx := 16) rfl rfl rfl ?_
        refine ev_sub (lo := [(1, .int z25), (0, .ref 69)]) rfl (t_sc rfl (t_sc rfl t_sn)) ?_
        exact ih9 _ (by omega) g24 gl9 gr9 (z25) hI hX  (Int.le_trans (by decide : (0:Int) ≤ 1) l25) (Int.le_trans u25 (by decide : (100:Int) ≤ 119)) ((by rw [e24]; exact x_up2_off (Or.inl (by decide)) : g24 69 46 = g22 69 46).trans ((by rw [e22]; exact x_up2_off (Or.inl (by decide)) : g22 69 46 = g20 69 46).trans ((by rw [e20]; exact x_up2_off (Or.inl (by decide)) : g20 69 46 = gi9 69 46).trans c9_0))) ((by rw [e24]; exact x_up2_off (Or.inl (by decide)) : g24 70 4 = g22 70 4).trans ((by rw [e22]; exact x_up2_off (Or.inl (by decide)) : g22 70 4 = g20 70 4).trans ((by rw [e20]; exact x_up2_off (Or.inl (by decide)) : g20 70 4 = gi9 70 4).trans c9_1))) (by
                                                            intro k hk
                                                            exact s_cq3 j9_0 e20 e19 e22 e21 e24 e23 (by omega) (by omega) k hk) (by
                                                            intro D hm hb hd h46 ht
                                                            obtain ⟨k1, k2⟩ := j9_1 D hm hb hd h46 ht
                                                            exact ⟨k1, k2.cg (by rw [e24, x_up2_off (Or.inl (by decide)), e22, x_up2_off (Or.inl (by decide)), e20, x_up2_off (Or.inl (by decide))]) (by rw [e24, x_up2_ne (by decide), e22, x_up2_ne (by decide), e20, x_up2_ne (by decide)]) (by rw [e24, x_up2_ne (by decide), e22, x_up2_ne (by decide), e20, x_up2_ne (by decide)]) (by rw [e24, x_up2_ne (by decide), e22, x_up2_ne (by decide), e20, x_up2_ne (by decide)])⟩) rfl
    refine ev_sub (lo := [(1, .int 0), (0, .ref 69)]) rfl (t_sc rfl (t_sc rfl t_sn)) ?_
    exact L9 _ gi3 gl3 gr3 (0) hI hX  (by decide : (0:Int) ≤ (0:Int32).toInt) (Int.le_trans (by decide : (0:Int32).toInt ≤ (0:Int)) (by decide : (0:Int) ≤ 119)) ((hC3.1 69 46 rfl).1.trans rfl) ((hC3.1 70 4 rfl).1.trans rfl) (by
                                                            intro k hk
                                                            have z0 : (0 : Int32).toInt = 0 := rfl
                                                            omega) (by
                                                            intro D hm hb hd h46 ht
                                                            have hq := q3.1 D hm hb hd h46 ht
                                                            have z1 : (1 : Int32).toInt = 1 := rfl
                                                            exact ⟨hq.1.mp (by omega), (hq.2 (by omega)).1⟩) rfl
noncomputable def wl_e_planAt : List (Nat × Nat) := [(69, 2)]
noncomputable def Q_e_planAt (gi : Nat → Nat → Int32) (gl : Nat → Nat → Int64) (gr : Nat → Nat → Value) (ar1 : Int32) (ar2 : Int32) : Int32 → (Nat → Nat → Int32) → (Nat → Nat → Int64) → (Nat → Nat → Value) → Prop := fun (v : Int32) (gi2 : Nat → Nat → Int32) (gl2 : Nat → Nat → Int64) (gr2 : Nat → Nat → Value) => ∀ L : s_RL, s_P5 gi L → s_LP L → ((0 ≤ ar1.toInt ∧ ar1.toInt < (L.length : Int) ∧ 0 ≤ ar2.toInt ∧ ar2.toInt ≤ 2) → v.toInt = s_pd L ar1.toNatClampNeg ar2.toInt) ∧ (¬ (0 ≤ ar1.toInt ∧ ar1.toInt < (L.length : Int) ∧ 0 ≤ ar2.toInt ∧ ar2.toInt ≤ 2) → v.toInt = -1)
theorem c_e_planAt {X : x_Ext} {d : Nat} {sh : List (Nat ⊕ (Nat × Nat))} {gi : Nat → Nat → Int32} {gl : Nat → Nat → Int64} {gr : Nat → Nat → Value} (hI : t_I sh gi gr) (ar1 : Int32) (ar2 : Int32) : x_Me X (d + 3) n_X12_planAt [.ref 69, .int ar1, .int ar2] (sh, gi, gl, gr) (t_PI wl_e_planAt sh gi gl gr (-2147483648) 2147483647 (Q_e_planAt gi gl gr ar1 ar2)) := by
  have hX : t_X wl_e_planAt sh gi gl gr gi gl gr := t_X.rf
  refine me_i f_X12_planAt (hI.wf.s rfl) rfl rfl rfl ?_
  refine ev_loc f_X12_planAt (nx := 1) rfl rfl rfl rfl ?_
  refine ev_if f_X12_planAt (t1 := 9) (t2 := 4) rfl rfl rfl (fun h1 => ?_) (fun h1 => ?_)
  · have u2 : ar2.toInt ≤ (-1) := t_ltu h1 (by decide : (0:Int32).toInt ≤ (0:Int)) rfl
    refine ev_loc f_X12_planAt (nx := 10) rfl rfl rfl rfl ?_
    refine ev_ic f_X12_planAt (nx := 11) (v := 1) rfl (by decide) rfl ?_
    refine ev_inV2 f_X12_planAt (nx := 14) (lo2 := [(0, .ref 69), (1, .int 1)]) rfl rfl rfl rfl f_X12_refuse (hI.wf.s rfl) rfl rfl rfl rfl rfl ?_
    refine ev_loc f_X12_refuse (nx := 1) rfl rfl rfl rfl ?_
    refine ev_loc f_X12_refuse (nx := 2) rfl rfl rfl rfl ?_
    refine ev_putIT f_X12_refuse (nx := 5) rfl (hI.wf.s rfl) rfl rfl rfl (hI.put0 (hI.wf.s rfl) rfl rfl) (hX.upI rfl) (fun g3 e3 hI hX => ?_)
    refine ev_ic f_X12_refuse (nx := 6) (v := -1) rfl (by decide) rfl ?_
    refine ev_retK1 f_X12_refuse rfl rfl rfl ?_
    exact ev_ret f_X12_planAt rfl rfl rfl ⟨_, _, _, rfl, hI, hX, ⟨_, rfl, (Int.le_trans (by decide : ((-2147483648):Int) ≤ (-1)) (by decide : ((-1):Int) ≤ ((-1):Int32).toInt)), (Int.le_trans (by decide : ((-1):Int32).toInt ≤ ((-1):Int)) (by decide : ((-1):Int) ≤ 2147483647)), (show ∀ L : s_RL, s_P5 gi L → s_LP L → ((0 ≤ ar1.toInt ∧ ar1.toInt < (L.length : Int) ∧ 0 ≤ ar2.toInt ∧ ar2.toInt ≤ 2) → ((-1) : Int) = s_pd L ar1.toNatClampNeg ar2.toInt) ∧ (¬ (0 ≤ ar1.toInt ∧ ar1.toInt < (L.length : Int) ∧ 0 ≤ ar2.toInt ∧ ar2.toInt ≤ 2) → ((-1) : Int) = -1) from (by
                                                            intro L h hL
                                                            obtain ⟨hn, hl⟩ := h
                                                            have hk : (gi 69 56).toInt = (L.length : Int) := hn
                                                            exact ⟨fun h => absurd h (by omega), fun _ => rfl⟩))⟩⟩
  · have l4 : 0 ≤ ar2.toInt := t_lel (t_nlt h1) (by decide : (0:Int) ≤ (0:Int32).toInt)
    refine ev_loc f_X12_planAt (nx := 5) rfl rfl rfl rfl ?_
    refine ev_ic f_X12_planAt (nx := 6) (v := 2) rfl (by decide) rfl ?_
    refine ev_if f_X12_planAt (t1 := 15) (t2 := 9) rfl rfl rfl (fun h5 => ?_) (fun h5 => ?_)
    · have u6 : ar2.toInt ≤ 2 := t_leu h5 (by decide : (2:Int32).toInt ≤ (2:Int))
      refine ev_loc f_X12_planAt (nx := 16) rfl rfl rfl rfl ?_
      refine ev_if f_X12_planAt (t1 := 27) (t2 := 19) rfl rfl rfl (fun h7 => ?_) (fun h7 => ?_)
      · have u8 : ar1.toInt ≤ (-1) := t_ltu h7 (by decide : (0:Int32).toInt ≤ (0:Int)) rfl
        refine ev_loc f_X12_planAt (nx := 28) rfl rfl rfl rfl ?_
        refine ev_bp f_X12_planAt (nx := 30) (v := 6) rfl (by decide) rfl ?_
        refine ev_inV2 f_X12_planAt (nx := 33) (lo2 := [(0, .ref 69), (1, .int 6)]) rfl rfl rfl rfl f_X12_refuse (hI.wf.s rfl) rfl rfl rfl rfl rfl ?_
        refine ev_loc f_X12_refuse (nx := 1) rfl rfl rfl rfl ?_
        refine ev_loc f_X12_refuse (nx := 2) rfl rfl rfl rfl ?_
        refine ev_putIT f_X12_refuse (nx := 5) rfl (hI.wf.s rfl) rfl rfl rfl (hI.put0 (hI.wf.s rfl) rfl rfl) (hX.upI rfl) (fun g9 e9 hI hX => ?_)
        refine ev_ic f_X12_refuse (nx := 6) (v := -1) rfl (by decide) rfl ?_
        refine ev_retK1 f_X12_refuse rfl rfl rfl ?_
        exact ev_ret f_X12_planAt rfl rfl rfl ⟨_, _, _, rfl, hI, hX, ⟨_, rfl, (Int.le_trans (by decide : ((-2147483648):Int) ≤ (-1)) (by decide : ((-1):Int) ≤ ((-1):Int32).toInt)), (Int.le_trans (by decide : ((-1):Int32).toInt ≤ ((-1):Int)) (by decide : ((-1):Int) ≤ 2147483647)), (show ∀ L : s_RL, s_P5 gi L → s_LP L → ((0 ≤ ar1.toInt ∧ ar1.toInt < (L.length : Int) ∧ 0 ≤ ar2.toInt ∧ ar2.toInt ≤ 2) → ((-1) : Int) = s_pd L ar1.toNatClampNeg ar2.toInt) ∧ (¬ (0 ≤ ar1.toInt ∧ ar1.toInt < (L.length : Int) ∧ 0 ≤ ar2.toInt ∧ ar2.toInt ≤ 2) → ((-1) : Int) = -1) from (by
                                                            intro L h hL
                                                            obtain ⟨hn, hl⟩ := h
                                                            have hk : (gi 69 56).toInt = (L.length : Int) := hn
                                                            exact ⟨fun h => absurd h (by omega), fun _ => rfl⟩))⟩⟩
      · have l10 : 0 ≤ ar1.toInt := t_lel (t_nlt h7) (by decide : (0:Int) ≤ (0:Int32).toInt)
        refine ev_loc f_X12_planAt (nx := 20) rfl rfl rfl rfl ?_
        refine ev_loc f_X12_planAt (nx := 21) rfl rfl rfl rfl ?_
        refine ev_getI f_X12_planAt (nx := 24) rfl (hI.wf.s rfl) rfl rfl rfl ?_
        obtain ⟨l11, u11⟩ := hI.b (hI.wf.s (k := 69) rfl) (t_bdK rfl : t_bd 11 56 = some (0, 100))
        refine ev_if f_X12_planAt (t1 := 34) (t2 := 27) rfl rfl rfl (fun h12 => ?_) (fun h12 => ?_)
        · have r13 : ar1.toInt < (gi 69 56).toInt := Int32.lt_iff_toInt_lt.mp h12
          have u14 : ar1.toInt ≤ 99 := t_ltu h12 u11 rfl
          have l15 : 1 ≤ (gi 69 56).toInt := t_ltl h12 l10 rfl
          refine ev_loc f_X12_planAt (nx := 35) rfl rfl rfl rfl ?_
          refine ev_ic f_X12_planAt (nx := 36) (v := 2) rfl (by decide) rfl ?_
          refine ev_if f_X12_planAt (t1 := 39) (t2 := 52) rfl rfl rfl (fun h16 => ?_) (fun h16 => ?_)
          · have l17 : 2 ≤ ar2.toInt := t_eql h16 (by decide : (2:Int) ≤ (2:Int32).toInt)
            refine ev_loc f_X12_planAt (nx := 40) rfl rfl rfl rfl ?_
            refine ev_loc f_X12_planAt (nx := 41) rfl rfl rfl rfl ?_
            refine ev_getR f_X12_planAt (nx := 44) rfl (hI.wf.s rfl) rfl rfl (hI.wf.r rfl) rfl rfl ?_
            refine ev_loc f_X12_planAt (nx := 45) rfl rfl rfl rfl ?_
            refine ev_ialdT f_X12_planAt (nx := 46) rfl (hI.wf.s rfl) l10 (by decide) u14 (by decide) rfl (fun w18 e18 => ?_)
            refine ev_inV2 f_X12_planAt (nx := 49) (lo2 := [(0, .ref 69), (1, .int w18)]) rfl rfl rfl rfl f_X12_orNone (hI.wf.s rfl) rfl rfl rfl rfl rfl ?_
            refine ev_loc f_X12_orNone (nx := 1) rfl rfl rfl rfl ?_
            refine ev_ic f_X12_orNone (nx := 2) (v := -1) rfl (by decide) rfl ?_
            refine ev_if f_X12_orNone (t1 := 5) (t2 := 14) rfl rfl rfl (fun h19 => ?_) (fun h19 => ?_)
            · have u20 : w18.toInt ≤ (-1) := t_equ h19 (by decide : ((-1):Int32).toInt ≤ ((-1):Int))
              have l21 : (-1) ≤ w18.toInt := t_eql h19 (by decide : ((-1):Int) ≤ ((-1):Int32).toInt)
              refine ev_loc f_X12_orNone (nx := 6) rfl rfl rfl rfl ?_
              refine ev_bp f_X12_orNone (nx := 8) (v := 6) rfl (by decide) rfl ?_
              refine ev_inV2 f_X12_orNone (nx := 11) (lo2 := [(0, .ref 69), (1, .int 6)]) rfl rfl rfl rfl f_X12_refuse (hI.wf.s rfl) rfl rfl rfl rfl rfl ?_
              refine ev_loc f_X12_refuse (nx := 1) rfl rfl rfl rfl ?_
              refine ev_loc f_X12_refuse (nx := 2) rfl rfl rfl rfl ?_
              refine ev_putIT f_X12_refuse (nx := 5) rfl (hI.wf.s rfl) rfl rfl rfl (hI.put0 (hI.wf.s rfl) rfl rfl) (hX.upI rfl) (fun g22 e22 hI hX => ?_)
              refine ev_ic f_X12_refuse (nx := 6) (v := -1) rfl (by decide) rfl ?_
              refine ev_retK1 f_X12_refuse rfl rfl rfl ?_
              refine ev_jmp f_X12_orNone (nx := 19) rfl rfl rfl ?_
              refine ev_retK1 f_X12_orNone rfl rfl rfl ?_
              refine ev_jmp f_X12_planAt (nx := 75) rfl rfl rfl ?_
              exact ev_ret f_X12_planAt rfl rfl rfl ⟨_, _, _, rfl, hI, hX, ⟨_, rfl, (Int.le_trans (by decide : ((-2147483648):Int) ≤ (-1)) (by decide : ((-1):Int) ≤ ((-1):Int32).toInt)), (Int.le_trans (by decide : ((-1):Int32).toInt ≤ ((-1):Int)) (by decide : ((-1):Int) ≤ 2147483647)), (show ∀ L : s_RL, s_P5 gi L → s_LP L → ((0 ≤ ar1.toInt ∧ ar1.toInt < (L.length : Int) ∧ 0 ≤ ar2.toInt ∧ ar2.toInt ≤ 2) → ((-1) : Int) = s_pd L ar1.toNatClampNeg ar2.toInt) ∧ (¬ (0 ≤ ar1.toInt ∧ ar1.toInt < (L.length : Int) ∧ 0 ≤ ar2.toInt ∧ ar2.toInt ≤ 2) → ((-1) : Int) = -1) from (by
                                                            intro L h hL
                                                            obtain ⟨hn, hl⟩ := h
                                                            have hk : (gi 69 56).toInt = (L.length : Int) := hn
                                                            refine ⟨fun _ => ?_, fun h => absurd (show _ from ⟨by omega, by omega, by omega, by omega⟩) h⟩
                                                            have c1 := t_clamp (i := ar1) (by omega)
                                                            obtain ⟨t, ht⟩ := s_pd_g (L := L) (k := ar1.toNatClampNeg) (by omega)
                                                            obtain ⟨v1, v2, v3⟩ := hl _ t ht
                                                            obtain ⟨d0, d1, d2⟩ := s_pd_0 ht
                                                            have ho := hL _ t ht
                                                            have ew : w18.toInt = t.2.2 := by rw [e18]; exact v3
                                                            rw [show ar2.toInt = 2 by omega, d2, ← ew]
                                                            have k1 : (-1 : Int32).toInt = -1 := rfl
                                                            omega))⟩⟩
            · have r23 : w18.toInt ≠ (-1) := fun e => h19 (Int32.toInt_inj.mp (e.trans (by decide : ((-1):Int) = ((-1) : Int32).toInt)))
              refine ev_loc f_X12_orNone (nx := 15) rfl rfl rfl rfl ?_
              refine ev_loc f_X12_orNone (nx := 16) rfl rfl rfl rfl ?_
              refine ev_inV2 f_X12_orNone (nx := 19) (lo2 := [(0, .ref 69), (1, .int w18)]) rfl rfl rfl rfl f_X12_gives (hI.wf.s rfl) rfl rfl rfl rfl rfl ?_
              refine ev_loc f_X12_gives (nx := 1) rfl rfl rfl rfl ?_
              refine ev_ic f_X12_gives (nx := 2) (v := 0) rfl (by decide) rfl ?_
              refine ev_putIT f_X12_gives (nx := 5) rfl (hI.wf.s rfl) rfl rfl rfl (hI.put0 (hI.wf.s rfl) rfl rfl) (hX.upI rfl) (fun g24 e24 hI hX => ?_)
              refine ev_loc f_X12_gives (nx := 6) rfl rfl rfl rfl ?_
              refine ev_retK1 f_X12_gives rfl rfl rfl ?_
              refine ev_retK1 f_X12_orNone rfl rfl rfl ?_
              refine ev_jmp f_X12_planAt (nx := 75) rfl rfl rfl ?_
              exact ev_ret f_X12_planAt rfl rfl rfl ⟨_, _, _, rfl, hI, hX, ⟨_, rfl, (t_lo w18), (t_hi w18), (show ∀ L : s_RL, s_P5 gi L → s_LP L → ((0 ≤ ar1.toInt ∧ ar1.toInt < (L.length : Int) ∧ 0 ≤ ar2.toInt ∧ ar2.toInt ≤ 2) → w18.toInt = s_pd L ar1.toNatClampNeg ar2.toInt) ∧ (¬ (0 ≤ ar1.toInt ∧ ar1.toInt < (L.length : Int) ∧ 0 ≤ ar2.toInt ∧ ar2.toInt ≤ 2) → w18.toInt = -1) from (by
                                                            intro L h hL
                                                            obtain ⟨hn, hl⟩ := h
                                                            have hk : (gi 69 56).toInt = (L.length : Int) := hn
                                                            refine ⟨fun _ => ?_, fun h => absurd (show _ from ⟨by omega, by omega, by omega, by omega⟩) h⟩
                                                            have c1 := t_clamp (i := ar1) (by omega)
                                                            obtain ⟨t, ht⟩ := s_pd_g (L := L) (k := ar1.toNatClampNeg) (by omega)
                                                            obtain ⟨v1, v2, v3⟩ := hl _ t ht
                                                            obtain ⟨d0, d1, d2⟩ := s_pd_0 ht
                                                            have ho := hL _ t ht
                                                            have ew : w18.toInt = t.2.2 := by rw [e18]; exact v3
                                                            rw [show ar2.toInt = 2 by omega, d2, ← ew]))⟩⟩
          · have r25 : ar2.toInt ≠ 2 := fun e => h16 (Int32.toInt_inj.mp (e.trans (by decide : (2:Int) = (2 : Int32).toInt)))
            have u26 : ar2.toInt ≤ 1 := t_neu h16 u6 rfl rfl
            refine ev_loc f_X12_planAt (nx := 53) rfl rfl rfl rfl ?_
            refine ev_loc f_X12_planAt (nx := 54) rfl rfl rfl rfl ?_
            refine ev_if f_X12_planAt (t1 := 57) (t2 := 66) rfl rfl rfl (fun h27 => ?_) (fun h27 => ?_)
            · have u28 : ar2.toInt ≤ 0 := t_equ h27 (by decide : (0:Int32).toInt ≤ (0:Int))
              refine ev_loc f_X12_planAt (nx := 58) rfl rfl rfl rfl ?_
              refine ev_getR f_X12_planAt (nx := 61) rfl (hI.wf.s rfl) rfl rfl (hI.wf.r rfl) rfl rfl ?_
              refine ev_loc f_X12_planAt (nx := 62) rfl rfl rfl rfl ?_
              refine ev_ialdT f_X12_planAt (nx := 63) rfl (hI.wf.s rfl) l10 (by decide) u14 (by decide) rfl (fun w29 e29 => ?_)
              refine ev_jmp f_X12_planAt (nx := 72) rfl rfl rfl ?_
              refine ev_inV2 f_X12_planAt (nx := 75) (lo2 := [(0, .ref 69), (1, .int w29)]) rfl rfl rfl rfl f_X12_gives (hI.wf.s rfl) rfl rfl rfl rfl rfl ?_
              refine ev_loc f_X12_gives (nx := 1) rfl rfl rfl rfl ?_
              refine ev_ic f_X12_gives (nx := 2) (v := 0) rfl (by decide) rfl ?_
              refine ev_putIT f_X12_gives (nx := 5) rfl (hI.wf.s rfl) rfl rfl rfl (hI.put0 (hI.wf.s rfl) rfl rfl) (hX.upI rfl) (fun g30 e30 hI hX => ?_)
              refine ev_loc f_X12_gives (nx := 6) rfl rfl rfl rfl ?_
              refine ev_retK1 f_X12_gives rfl rfl rfl ?_
              exact ev_ret f_X12_planAt rfl rfl rfl ⟨_, _, _, rfl, hI, hX, ⟨_, rfl, (t_lo w29), (t_hi w29), (show ∀ L : s_RL, s_P5 gi L → s_LP L → ((0 ≤ ar1.toInt ∧ ar1.toInt < (L.length : Int) ∧ 0 ≤ ar2.toInt ∧ ar2.toInt ≤ 2) → w29.toInt = s_pd L ar1.toNatClampNeg ar2.toInt) ∧ (¬ (0 ≤ ar1.toInt ∧ ar1.toInt < (L.length : Int) ∧ 0 ≤ ar2.toInt ∧ ar2.toInt ≤ 2) → w29.toInt = -1) from (by
                                                            intro L h hL
                                                            obtain ⟨hn, hl⟩ := h
                                                            have hk : (gi 69 56).toInt = (L.length : Int) := hn
                                                            refine ⟨fun _ => ?_, fun h => absurd (show _ from ⟨by omega, by omega, by omega, by omega⟩) h⟩
                                                            have c1 := t_clamp (i := ar1) (by omega)
                                                            obtain ⟨t, ht⟩ := s_pd_g (L := L) (k := ar1.toNatClampNeg) (by omega)
                                                            obtain ⟨v1, v2, v3⟩ := hl _ t ht
                                                            obtain ⟨d0, d1, d2⟩ := s_pd_0 ht
                                                            have ho := hL _ t ht
                                                            have ew : w29.toInt = t.1 := by rw [e29]; exact v1
                                                            rw [show ar2.toInt = 0 by omega, d0, ← ew]))⟩⟩
            · have r31 : ar2.toInt ≠ 0 := fun e => h27 (Int32.toInt_inj.mp (e.trans (by decide : (0:Int) = (0 : Int32).toInt)))
              have l32 : 1 ≤ ar2.toInt := t_nel h27 l4 rfl rfl
              refine ev_loc f_X12_planAt (nx := 67) rfl rfl rfl rfl ?_
              refine ev_getR f_X12_planAt (nx := 70) rfl (hI.wf.s rfl) rfl rfl (hI.wf.r rfl) rfl rfl ?_
              refine ev_loc f_X12_planAt (nx := 71) rfl rfl rfl rfl ?_
              refine ev_ialdT f_X12_planAt (nx := 72) rfl (hI.wf.s rfl) l10 (by decide) u14 (by decide) rfl (fun w33 e33 => ?_)
              refine ev_inV2 f_X12_planAt (nx := 75) (lo2 := [(0, .ref 69), (1, .int w33)]) rfl rfl rfl rfl f_X12_gives (hI.wf.s rfl) rfl rfl rfl rfl rfl ?_
              refine ev_loc f_X12_gives (nx := 1) rfl rfl rfl rfl ?_
              refine ev_ic f_X12_gives (nx := 2) (v := 0) rfl (by decide) rfl ?_
              refine ev_putIT f_X12_gives (nx := 5) rfl (hI.wf.s rfl) rfl rfl rfl (hI.put0 (hI.wf.s rfl) rfl rfl) (hX.upI rfl) (fun g34 e34 hI hX => ?_)
              refine ev_loc f_X12_gives (nx := 6) rfl rfl rfl rfl ?_
              refine ev_retK1 f_X12_gives rfl rfl rfl ?_
              exact ev_ret f_X12_planAt rfl rfl rfl ⟨_, _, _, rfl, hI, hX, ⟨_, rfl, (t_lo w33), (t_hi w33), (show ∀ L : s_RL, s_P5 gi L → s_LP L → ((0 ≤ ar1.toInt ∧ ar1.toInt < (L.length : Int) ∧ 0 ≤ ar2.toInt ∧ ar2.toInt ≤ 2) → w33.toInt = s_pd L ar1.toNatClampNeg ar2.toInt) ∧ (¬ (0 ≤ ar1.toInt ∧ ar1.toInt < (L.length : Int) ∧ 0 ≤ ar2.toInt ∧ ar2.toInt ≤ 2) → w33.toInt = -1) from (by
                                                            intro L h hL
                                                            obtain ⟨hn, hl⟩ := h
                                                            have hk : (gi 69 56).toInt = (L.length : Int) := hn
                                                            refine ⟨fun _ => ?_, fun h => absurd (show _ from ⟨by omega, by omega, by omega, by omega⟩) h⟩
                                                            have c1 := t_clamp (i := ar1) (by omega)
                                                            obtain ⟨t, ht⟩ := s_pd_g (L := L) (k := ar1.toNatClampNeg) (by omega)
                                                            obtain ⟨v1, v2, v3⟩ := hl _ t ht
                                                            obtain ⟨d0, d1, d2⟩ := s_pd_0 ht
                                                            have ho := hL _ t ht
                                                            have ew : w33.toInt = t.2.1 := by rw [e33]; exact v2
                                                            rw [show ar2.toInt = 1 by omega, d1, ← ew]))⟩⟩
        · have r35 : (gi 69 56).toInt ≤ ar1.toInt := Int32.le_iff_toInt_le.mp (t_nlt h12)
          refine ev_loc f_X12_planAt (nx := 28) rfl rfl rfl rfl ?_
          refine ev_bp f_X12_planAt (nx := 30) (v := 6) rfl (by decide) rfl ?_
          refine ev_inV2 f_X12_planAt (nx := 33) (lo2 := [(0, .ref 69), (1, .int 6)]) rfl rfl rfl rfl f_X12_refuse (hI.wf.s rfl) rfl rfl rfl rfl rfl ?_
          refine ev_loc f_X12_refuse (nx := 1) rfl rfl rfl rfl ?_
          refine ev_loc f_X12_refuse (nx := 2) rfl rfl rfl rfl ?_
          refine ev_putIT f_X12_refuse (nx := 5) rfl (hI.wf.s rfl) rfl rfl rfl (hI.put0 (hI.wf.s rfl) rfl rfl) (hX.upI rfl) (fun g36 e36 hI hX => ?_)
          refine ev_ic f_X12_refuse (nx := 6) (v := -1) rfl (by decide) rfl ?_
          refine ev_retK1 f_X12_refuse rfl rfl rfl ?_
          exact ev_ret f_X12_planAt rfl rfl rfl ⟨_, _, _, rfl, hI, hX, ⟨_, rfl, (Int.le_trans (by decide : ((-2147483648):Int) ≤ (-1)) (by decide : ((-1):Int) ≤ ((-1):Int32).toInt)), (Int.le_trans (by decide : ((-1):Int32).toInt ≤ ((-1):Int)) (by decide : ((-1):Int) ≤ 2147483647)), (show ∀ L : s_RL, s_P5 gi L → s_LP L → ((0 ≤ ar1.toInt ∧ ar1.toInt < (L.length : Int) ∧ 0 ≤ ar2.toInt ∧ ar2.toInt ≤ 2) → ((-1) : Int) = s_pd L ar1.toNatClampNeg ar2.toInt) ∧ (¬ (0 ≤ ar1.toInt ∧ ar1.toInt < (L.length : Int) ∧ 0 ≤ ar2.toInt ∧ ar2.toInt ≤ 2) → ((-1) : Int) = -1) from (by
                                                            intro L h hL
                                                            obtain ⟨hn, hl⟩ := h
                                                            have hk : (gi 69 56).toInt = (L.length : Int) := hn
                                                            exact ⟨fun h => absurd h (by omega), fun _ => rfl⟩))⟩⟩
    · have l37 : 3 ≤ ar2.toInt := t_ltl (t_nle h5) (by decide : (2:Int) ≤ (2:Int32).toInt) rfl
      refine ev_loc f_X12_planAt (nx := 10) rfl rfl rfl rfl ?_
      refine ev_ic f_X12_planAt (nx := 11) (v := 1) rfl (by decide) rfl ?_
      refine ev_inV2 f_X12_planAt (nx := 14) (lo2 := [(0, .ref 69), (1, .int 1)]) rfl rfl rfl rfl f_X12_refuse (hI.wf.s rfl) rfl rfl rfl rfl rfl ?_
      refine ev_loc f_X12_refuse (nx := 1) rfl rfl rfl rfl ?_
      refine ev_loc f_X12_refuse (nx := 2) rfl rfl rfl rfl ?_
      refine ev_putIT f_X12_refuse (nx := 5) rfl (hI.wf.s rfl) rfl rfl rfl (hI.put0 (hI.wf.s rfl) rfl rfl) (hX.upI rfl) (fun g38 e38 hI hX => ?_)
      refine ev_ic f_X12_refuse (nx := 6) (v := -1) rfl (by decide) rfl ?_
      refine ev_retK1 f_X12_refuse rfl rfl rfl ?_
      exact ev_ret f_X12_planAt rfl rfl rfl ⟨_, _, _, rfl, hI, hX, ⟨_, rfl, (Int.le_trans (by decide : ((-2147483648):Int) ≤ (-1)) (by decide : ((-1):Int) ≤ ((-1):Int32).toInt)), (Int.le_trans (by decide : ((-1):Int32).toInt ≤ ((-1):Int)) (by decide : ((-1):Int) ≤ 2147483647)), (show ∀ L : s_RL, s_P5 gi L → s_LP L → ((0 ≤ ar1.toInt ∧ ar1.toInt < (L.length : Int) ∧ 0 ≤ ar2.toInt ∧ ar2.toInt ≤ 2) → ((-1) : Int) = s_pd L ar1.toNatClampNeg ar2.toInt) ∧ (¬ (0 ≤ ar1.toInt ∧ ar1.toInt < (L.length : Int) ∧ 0 ≤ ar2.toInt ∧ ar2.toInt ≤ 2) → ((-1) : Int) = -1) from (by
                                                            intro L h hL
                                                            obtain ⟨hn, hl⟩ := h
                                                            have hk : (gi 69 56).toInt = (L.length : Int) := hn
                                                            exact ⟨fun h => absurd h (by omega), fun _ => rfl⟩))⟩⟩
/-! ===== the PLAN that was told last is kept alike; plan, planAt: the answers are alike ===== -/
noncomputable def t_PQ (g : Nat → Nat → Int32) : Prop := ∃ L, s_P2 g L ∧ s_P5 g L ∧ s_LP L
noncomputable def t_LP (c : Nat) (sh : List (Nat ⊕ (Nat × Nat))) (gi : Nat → Nat → Int32) (gl : Nat → Nat → Int64) (gr : Nat → Nat → Value) : Prop := t_LD c sh gi gl gr ∧ ((gi 69 46).toInt = -1 ∧ t_KQ gi ∧ t_PQ gi)
noncomputable def t_pg1 (w : List (Nat × Nat)) : Bool := t_un w (28, 8) && t_nc w 42
noncomputable def t_pg3 (w : List (Nat × Nat)) : Bool := t_un w (69, 56) && (t_nc w 96 && (t_nc w 97 && t_nc w 98))
section PGS
variable {sh : List (Nat ⊕ (Nat × Nat))} {gi g1 g2 : Nat → Nat → Int32} {gl l1 l2 : Nat → Nat → Int64} {gr r1 r2 : Nat → Nat → Value} {w1 w2 : List (Nat × Nat)} {A A2 : Int32} {x1 x2 : Int32} {L : s_RL}
theorem s_P2.fr (h : s_P2 gi L) (f : t_F w1 gi gl gr g1 l1 r1) (hw : t_pg1 w1 = true) : s_P2 g1 L := by
  unfold t_pg1 at hw
  simp only [Bool.and_eq_true] at hw
  exact h.cg (f 28 8 (by decide) (t_un_ok hw.1)).1 (t_F_nc f hw.2 (by decide))
theorem s_P5.fr (h : s_P5 gi L) (f : t_F w1 gi gl gr g1 l1 r1) (hw : t_pg3 w1 = true) : s_P5 g1 L := by
  unfold t_pg3 at hw
  simp only [Bool.and_eq_true] at hw
  exact h.cg (f 69 56 (by decide) (t_un_ok hw.1)).1 (t_F_nc f hw.2.1 (by decide)) (t_F_nc f hw.2.2.1 (by decide)) (t_F_nc f hw.2.2.2 (by decide))
theorem t_PQ_fr (hG : t_PQ gi) (f1 : t_F w1 gi gl gr g1 l1 r1) (h : (t_pg1 w1 && t_pg3 w1) = true) : t_PQ g1 := by
  obtain ⟨L, a, b, c⟩ := hG
  rw [Bool.and_eq_true] at h
  exact ⟨L, a.fr f1 h.1, b.fr f1 h.2, c⟩
theorem t_PQ_same (hG : t_PQ gi) (f1 : t_F w1 gi gl gr g1 l1 r1) (f2 : t_F w2 g1 l1 r1 g2 l2 r2) (h : ((t_pg1 w1 && t_pg3 w1) && (t_pg1 w2 && t_pg3 w2)) = true) : t_PQ g2 := by
  rw [Bool.and_eq_true] at h
  exact t_PQ_fr (t_PQ_fr hG f1 h.1) f2 h.2
/-- what both have at hand -/
theorem t_P_h (hI : t_I sh gi gr) (hD : t_DR sh.length gi gl gr) (hK : t_KQ gi) (f1 : t_F w1 gi gl gr g1 l1 r1) (h70 : t_nc w1 70 = true) (h4 : 1 ≤ (g1 70 4).toInt) : ∃ (u : Nat) (D : s_D), gr 0 6 = .ref u ∧ t_VL gr u ∧ t_CV gi gl u D ∧ t_Cb D ∧ (u = 3 ∨ 102 ≤ u) ∧ (∀ s : Nat, (s : Int) < D 1 → 0 ≤ D (56 + 5 * s) ∧ D (56 + 5 * s) ≤ 1) ∧ s_DB D ∧ s_tk D ∧ t_ME 0 g1 D := by
  obtain ⟨u, hu, D, hb, hv, hl, hc, hm⟩ := hD.1
  have r70 : g1 70 = gi 70 := t_F_nc f1 h70 (by decide)
  have hm2 : t_ME 0 g1 D := by unfold t_ME; rw [r70]; exact hm
  exact ⟨u, D, hu, hl, hc, hb, hv.1, t_D_sail hI hb hm, s_DB_of hI hm hb (by rw [← r70]; exact h4), t_tk_D hK.1 hm hb, hm2⟩
theorem t_PQ_plan (hG : t_PQ gi) (hI : t_I sh gi gr) (hD : t_DR sh.length gi gl gr) (hK : t_KQ gi) (f1 : t_F w1 gi gl gr g1 l1 r1) (f2 : t_F w2 g1 l1 r1 g2 l2 r2) (h70 : t_nc w1 70 = true) (h3 : t_pg3 w1 = true) (h1 : t_pg1 w2 = true) (hN1 : (g1 69 46).toInt = -1) (h4 : 1 ≤ (g1 70 4).toInt) (q1 : Q_d_plan gi gl gr x1 g1 l1 r1) (q2 : Q_e_plan g1 l1 r1 x2 g2 l2 r2) : t_PQ g2 := by
  obtain ⟨u, D, hu, hl, hc, hb, hv, hsl, hd, htk, hm2⟩ := t_P_h hI hD hK f1 h70 h4
  have k1 := q1 u D hu hl hc hb hv hsl hd htk
  have k2 := q2 D hm2 hb hd hN1 htk
  by_cases hy : s_LS (s_PD D (D 4)) 0 0 0 0 < 1000000000
  · exact ⟨_, (k1.1 hy).1.fr f2 h1, (k2.1 hy).1, s_PL_LP⟩
  · obtain ⟨L, a, b, c⟩ := hG
    exact ⟨L, ((k1.2 hy).2 L a).fr f2 h1, (k2.2 hy).2 L (b.fr f1 h3), c⟩
theorem t_L_plan (hI : t_I sh gi gr) (hD : t_DR sh.length gi gl gr) (hK : t_KQ gi) (f1 : t_F w1 gi gl gr g1 l1 r1) (h70 : t_nc w1 70 = true) (hN1 : (g1 69 46).toInt = -1) (h4 : 1 ≤ (g1 70 4).toInt) (q1 : Q_d_plan gi gl gr x1 g1 l1 r1) (q2 : Q_e_plan g1 l1 r1 x2 g2 l2 r2) : x1 = x2 := by
  obtain ⟨u, D, hu, hl, hc, hb, hv, hsl, hd, htk, hm2⟩ := t_P_h hI hD hK f1 h70 h4
  have k1 := q1 u D hu hl hc hb hv hsl hd htk
  have k2 := q2 D hm2 hb hd hN1 htk
  apply Int32.toInt_inj.mp
  by_cases hy : s_LS (s_PD D (D 4)) 0 0 0 0 < 1000000000
  · rw [(k1.1 hy).2, (k2.1 hy).2]
  · rw [(k1.2 hy).1, (k2.2 hy).1]
theorem t_L_planAt (hG : t_PQ gi) (f1 : t_F w1 gi gl gr g1 l1 r1) (h3 : t_pg3 w1 = true) (q1 : Q_d_planAt gi gl gr A A2 x1 g1 l1 r1) (q2 : Q_e_planAt g1 l1 r1 A A2 x2 g2 l2 r2) : x1 = x2 := by
  obtain ⟨L, a, b, c⟩ := hG
  have k1 := q1 L a c
  have k2 := q2 L (b.fr f1 h3) c
  apply Int32.toInt_inj.mp
  by_cases hin : 0 ≤ A.toInt ∧ A.toInt < (L.length : Int) ∧ 0 ≤ A2.toInt ∧ A2.toInt ≤ 2
  · rw [k1.1 hin, k2.1 hin]
  · rw [k1.2 hin, k2.2 hin]
end PGS
theorem W1_P {sh : List (Nat ⊕ (Nat × Nat))} {gi : Nat → Nat → Int32} {gl : Nat → Nat → Int64} {gr : Nat → Nat → Value} (hR : x_R W1 (sh, gi, gl, gr)) : (gi 69 46).toInt = -1 ∧ t_KQ gi ∧ t_PQ gi := by
  have hn := W1_N hR
  have h : gi 69 56 = x_cI w1_c69 56 := ((x_gc_R hR (c := w1_c69) rfl).2.2.2 _ (by decide)).1
  have h8 : gi 28 8 = x_cI w1_c28 8 := ((x_gc_R hR (c := w1_c28) rfl).2.2.2 _ (by decide)).1
  have h12 : gi 0 12 = x_cI w1_c0 12 := ((x_gc_R hR (c := w1_c0) rfl).2.2.2 _ (by decide)).1
  have a1 : gi 70 1 = x_cI w1_c70 1 := ((x_gc_R hR (c := w1_c70) rfl).2.2.2 _ (by decide)).1
  have a2 : gi 70 2 = x_cI w1_c70 2 := ((x_gc_R hR (c := w1_c70) rfl).2.2.2 _ (by decide)).1
  have z1 : (x_cI w1_c70 1).toInt = 0 := by decide +kernel
  have z2 : (x_cI w1_c70 2).toInt = 0 := by decide +kernel
  have z12 : (x_cI w1_c0 12).toInt = 0 := by decide +kernel
  refine ⟨hn, ⟨⟨⟨?_, ?_⟩, fun s hs => ?_, fun c hc => ?_⟩, fun k hk => ?_⟩, [], ⟨?_, fun k t hk => absurd hk (by intro h2; cases h2)⟩, ⟨?_, fun k t hk => absurd hk (by intro h2; cases h2)⟩, s_LP_n⟩
  · rw [show 0 + 1 = 1 from rfl, a1]; omega
  · rw [show 0 + 2 = 2 from rfl, a2]; omega
  · rw [show 0 + 1 = 1 from rfl, a1] at hs; omega
  · rw [show 0 + 2 = 2 from rfl, a2] at hc; omega
  · rw [h12] at hk; omega
  · rw [h8]; decide +kernel
  · rw [h]; decide +kernel
