/-! ===== printed by riv.py: the least, of the class ===== -/
noncomputable def wl_d_leastWaits : List (Nat × Nat) := [(28, 4), (28, 5)]
noncomputable def Q_d_leastWaits (gi : Nat → Nat → Int32) (gl : Nat → Nat → Int64) (gr : Nat → Nat → Value) : Int32 → (Nat → Nat → Int32) → (Nat → Nat → Int64) → (Nat → Nat → Value) → Prop := fun (v : Int32) (gi2 : Nat → Nat → Int32) (gl2 : Nat → Nat → Int64) (gr2 : Nat → Nat → Value) => ∀ P : Nat → Nat → Int, s_CP P gi gr → s_PB P → s_PO P → v.toInt = s_LS P 0 0 0 0
theorem c_d_leastWaits {X : x_Ext} {d : Nat} {sh : List (Nat ⊕ (Nat × Nat))} {gi : Nat → Nat → Int32} {gl : Nat → Nat → Int64} {gr : Nat → Nat → Value} (hI : t_I sh gi gr) : x_Me X (d + 17) n_X1_leastWaits [.ref 28] (sh, gi, gl, gr) (t_PI wl_d_leastWaits sh gi gl gr (-2147483648) 2147483647 (Q_d_leastWaits gi gl gr)) := by
  have hX : t_X wl_d_leastWaits sh gi gl gr gi gl gr := t_X.rf
  refine me_i f_X1_leastWaits (hI.wf.s rfl) rfl rfl rfl ?_
  refine ev_loc f_X1_leastWaits (nx := 1) rfl rfl rfl rfl ?_
  refine ev_ldI f_X1_leastWaits (nx := 3) (v := 1000000000) rfl (by decide) rfl ?_
  refine ev_putIT f_X1_leastWaits (nx := 6) rfl (hI.wf.s rfl) rfl rfl rfl (hI.put0 (hI.wf.s rfl) rfl rfl) (hX.upI rfl) (fun g1 e1 hI hX => ?_)
  refine ev_loc f_X1_leastWaits (nx := 7) rfl rfl rfl rfl ?_
  refine ev_ic f_X1_leastWaits (nx := 8) (v := 0) rfl (by decide) rfl ?_
  refine ev_putIT f_X1_leastWaits (nx := 11) rfl (hI.wf.s rfl) rfl rfl rfl (hI.put0 (hI.wf.s rfl) rfl rfl) (hX.upI rfl) (fun g2 e2 hI hX => ?_)
  refine ev_loc f_X1_leastWaits (nx := 12) rfl rfl rfl rfl ?_
  have hXh := hX
  refine ev_ic f_X1_leastWaits (nx := 13) (v := 0) rfl (by decide) rfl ?_
  refine ev_ic f_X1_leastWaits (nx := 14) (v := 0) rfl (by decide) rfl ?_
  refine ev_ic f_X1_leastWaits (nx := 15) (v := 0) rfl (by decide) rfl ?_
  refine ev_ic f_X1_leastWaits (nx := 16) (v := 0) rfl (by decide) rfl ?_
  refine ev_ic f_X1_leastWaits (nx := 17) (v := 0) rfl (by decide) rfl ?_
  refine ev_qN f_X1_leastWaits (nx := 20) (r := []) rfl rfl rfl rfl rfl rfl rfl (c_d_search hI (0) (0) (by decide : (0:Int) ≤ (0:Int32).toInt) (Int.le_trans (by decide : (0:Int32).toInt ≤ (0:Int)) (by decide : (0:Int) ≤ 1)) (0) (by decide : (0:Int) ≤ (0:Int32).toInt) (Int.le_trans (by decide : (0:Int32).toInt ≤ (0:Int)) (by decide : (0:Int) ≤ 6)) (0) (by decide : (0:Int) ≤ (0:Int32).toInt) (Int.le_trans (by decide : (0:Int32).toInt ≤ (0:Int)) (by decide : (0:Int) ≤ 6)) (0)) rfl hX rfl (fun gi3 gl3 gr3 hI hX hC3 q3 => ?_)
  have ff4 : (g2 28 4).toInt = 1000000000 := (congrArg Int32.toInt ((by rw [e2]; exact x_up2_off (Or.inr (by decide)) : g2 28 4 = g1 28 4).trans (by rw [e1]; exact x_up2_at _ _ _ _ : g1 28 4 = 1000000000))).trans (by decide)
  have ff5 : (g2 28 5).toInt = 0 := (congrArg Int32.toInt (by rw [e2]; exact x_up2_at _ _ _ _ : g2 28 5 = 0)).trans (by decide)
  have q3 : ∀ P : Nat → Nat → Int, s_CP P g2 gr → s_PB P → s_PO P → 0 ≤ (0 : Int) → (0 : Int) ≤ 2000 → (0 : Int) ≤ P 0 0 → (0 : Int) ≤ P 0 1 → 0 ≤ (0 : Int) → (0 : Int) ≤ 240000 * ((0 : Int) + (0 : Int)) → (g2 28 4).toInt ≤ 1000000000 → s_BB (g2 28 4).toInt (g2 28 5).toInt ((0 : Int) + s_LS P (0 : Int) (0 : Int32).toNatClampNeg (0 : Int32).toNatClampNeg (0 : Int32).toNatClampNeg) (gi3 28 4).toInt := q3
  refine ev_loc f_X1_leastWaits (nx := 21) rfl rfl rfl rfl ?_
  refine ev_getI f_X1_leastWaits (nx := 24) rfl (hI.wf.s rfl) rfl rfl rfl ?_
  exact ev_ret f_X1_leastWaits rfl rfl rfl ⟨_, _, _, rfl, hI, hX, ⟨_, rfl, (t_lo (gi3 28 4)), (t_hi (gi3 28 4)), (show ∀ P : Nat → Nat → Int, s_CP P gi gr → s_PB P → s_PO P → (gi3 28 4).toInt = s_LS P 0 0 0 0 from (by
                                                            intro P hc hb hp
                                                            have hc2 := hc.fr hXh rfl rfl
                                                            have h4 : (g2 28 4).toInt = 1000000000 := by rw [e2, x_up2_off (Or.inr (by decide)), e1, x_up2_at]; rfl
                                                            have h5 : (g2 28 5).toInt = 0 := by rw [e2, x_up2_at]; rfl
                                                            have z0 : (0 : Int32).toInt = 0 := rfl
                                                            have hq := q3 P hc2 hb hp (by decide) (by decide) hb.1.1 hb.1.2.2.1 (by decide) (by decide) (by rw [h4]; exact Int.le_refl _)
                                                            rw [h4, h5, Int.zero_add] at hq
                                                            have hl := s_LS_lo hp 0 (0 : Int32).toNatClampNeg (0 : Int32).toNatClampNeg (0 : Int32).toNatClampNeg
                                                            have hh := s_LS_hi P 0 (0 : Int32).toNatClampNeg (0 : Int32).toNatClampNeg (0 : Int32).toNatClampNeg
                                                            exact s_BB_L hq hl hh))⟩⟩
noncomputable def wl_d_takeAll : List (Nat × Nat) := [(28, 0), (28, 1), (29, 0), (30, 9999), (31, 9999), (32, 9999), (33, 9999), (34, 9999), (35, 0), (36, 9999), (37, 9999), (38, 9999), (39, 9999), (40, 9999)]
noncomputable def Q_d_takeAll (gi : Nat → Nat → Int32) (gl : Nat → Nat → Int64) (gr : Nat → Nat → Value) (ar1 : Nat) : (Nat → Nat → Int32) → (Nat → Nat → Int64) → (Nat → Nat → Value) → Prop := fun (gi2 : Nat → Nat → Int32) (gl2 : Nat → Nat → Int64) (gr2 : Nat → Nat → Value) => ∀ D : s_D, t_VL gr ar1 → t_CV gi gl ar1 D → (ar1 = 3 ∨ 102 ≤ ar1) → t_Cb D → (∀ s : Nat, (s : Int) < D 1 → 0 ≤ D (56 + 5 * s) ∧ D (56 + 5 * s) ≤ 1) → s_CP (s_PD D (D 4)) gi2 gr2 ∧ gr2 28 0 = .ref ar1 ∧ t_CV gi2 gl2 ar1 D ∧ (gi2 28 1).toInt = D 4
theorem c_d_takeAll {X : x_Ext} {d : Nat} {sh : List (Nat ⊕ (Nat × Nat))} {gi : Nat → Nat → Int32} {gl : Nat → Nat → Int64} {gr : Nat → Nat → Value} (hI : t_I sh gi gr) (ar1 : Nat) (p_a1 : t_Rv sh gr ar1) : x_Me X (d + 4) n_X1_takeAll [.ref 28, .ref ar1] (sh, gi, gl, gr) (t_PN wl_d_takeAll sh gi gl gr (Q_d_takeAll gi gl gr ar1)) := by
  have hX : t_X wl_d_takeAll sh gi gl gr gi gl gr := t_X.rf
  refine me_i f_X1_takeAll (hI.wf.s rfl) rfl rfl rfl ?_
  refine ev_loc f_X1_takeAll (nx := 1) rfl rfl rfl rfl ?_
  refine ev_loc f_X1_takeAll (nx := 2) rfl rfl rfl rfl ?_
  have hE2 := t_eqf_up (gr := gr) (j := 0) (v := .ref ar1) (hI.wf.s (k := 28) rfl) rfl
  have hT2 := t_cross hI p_a1
  replace p_a1 := p_a1.ext hE2
  refine ev_putRT f_X1_takeAll (nx := 5) rfl (hI.wf.s rfl) rfl rfl rfl rfl hT2 (hX.upR rfl hE2) (fun g2 e2 hI hX => ?_)
  rw [← e2] at p_a1
  refine ev_loc f_X1_takeAll (nx := 6) rfl rfl rfl rfl ?_
  refine ev_loc f_X1_takeAll (nx := 7) rfl rfl rfl rfl ?_
  refine ev_getI f_X1_takeAll (nx := 10) rfl p_a1.1 rfl rfl rfl ?_
  refine ev_putIT f_X1_takeAll (nx := 13) rfl (hI.wf.s rfl) rfl rfl rfl (hI.put0 (hI.wf.s rfl) rfl rfl) (hX.upI rfl) (fun g3 e3 hI hX => ?_)
  refine ev_loc f_X1_takeAll (nx := 14) rfl rfl rfl rfl ?_
  have hXa := hX
  refine ev_loc f_X1_takeAll (nx := 15) rfl rfl rfl rfl ?_
  refine ev_ic f_X1_takeAll (nx := 16) (v := 0) rfl (by decide) rfl ?_
  refine ev_ic f_X1_takeAll (nx := 17) (v := -1) rfl (by decide) rfl ?_
  refine ev_ic f_X1_takeAll (nx := 18) (v := 0) rfl (by decide) rfl ?_
  refine ev_qN f_X1_takeAll (nx := 21) (r := []) rfl rfl rfl rfl rfl rfl rfl (c_d_takeShips hI (ar1) p_a1) rfl hX rfl (fun gi4 gl4 gr4 hI hX hC4 q4 => ?_)
  have q4 : ∀ D : s_D, t_VL g2 ar1 → t_CV g3 gl ar1 D → (ar1 = 3 ∨ 102 ≤ ar1) → t_Cb D → (∀ s : Nat, (s : Int) < D 1 → 0 ≤ D (56 + 5 * s) ∧ D (56 + 5 * s) ≤ 1) → (gi4 29 0).toInt = D 1 ∧ s_RO (s_A D) (gi4 30) (D 1).toNat ∧ s_RM (s_A D) (gi4 31) (D 1).toNat ∧ s_RX (s_A D) (fun k => D (54 + 5 * k)) (gi4 32) (D 1).toNat ∧ s_RX (s_A D) (fun k => D (55 + 5 * k)) (gi4 33) (D 1).toNat ∧ s_RX (s_A D) (fun k => D (56 + 5 * k)) (gi4 34) (D 1).toNat := q4
  replace p_a1 := p_a1.ext hC4.2
  refine ev_loc f_X1_takeAll (nx := 22) rfl rfl rfl rfl ?_
  have hXb := hX
  refine ev_loc f_X1_takeAll (nx := 23) rfl rfl rfl rfl ?_
  refine ev_ic f_X1_takeAll (nx := 24) (v := -1) rfl (by decide) rfl ?_
  refine ev_qN f_X1_takeAll (nx := 27) (r := []) rfl rfl rfl rfl rfl rfl rfl (c_d_takeCarts hI (ar1) p_a1) rfl hX rfl (fun gi5 gl5 gr5 hI hX hC5 q5 => ?_)
  have q5 : ∀ D : s_D, t_VL gr4 ar1 → t_CV gi4 gl4 ar1 D → (ar1 = 3 ∨ 102 ≤ ar1) → t_Cb D → (gi5 35 0).toInt = D 2 ∧ s_RO (s_B D) (gi5 36) (D 2).toNat ∧ s_RM (s_B D) (gi5 37) (D 2).toNat ∧ s_RX (s_B D) (fun k => D (83 + 3 * k)) (gi5 38) (D 2).toNat ∧ s_RX (s_B D) (fun k => D (84 + 3 * k)) (gi5 39) (D 2).toNat ∧ s_RX (s_B D) (fun _ => 0) (gi5 40) (D 2).toNat := q5
  replace p_a1 := p_a1.ext hC5.2
  exact ev_ret f_X1_takeAll rfl rfl rfl ⟨_, _, _, rfl, hI, hX, ⟨rfl, (show ∀ D : s_D, t_VL gr ar1 → t_CV gi gl ar1 D → (ar1 = 3 ∨ 102 ≤ ar1) → t_Cb D → (∀ s : Nat, (s : Int) < D 1 → 0 ≤ D (56 + 5 * s) ∧ D (56 + 5 * s) ≤ 1) → s_CP (s_PD D (D 4)) gi5 gr5 ∧ gr5 28 0 = .ref ar1 ∧ t_CV gi5 gl5 ar1 D ∧ (gi5 28 1).toInt = D 4 from (by
                                                            intro D hl hc hv hb hsl
                                                            have hKa := t_nd_fr hXa rfl
                                                            have hla := hl.fr (fun K k1 k2 => hKa K (by omega))
                                                            have hca := hc.fr (fun K k1 k2 => hKa K (by omega))
                                                            have hqa := q4 D hla hca hv hb hsl
                                                            have hKb := t_nd_fr hXb rfl
                                                            have hlb := hl.fr (fun K k1 k2 => hKb K (by omega))
                                                            have hcb := hc.fr (fun K k1 k2 => hKb K (by omega))
                                                            have hqb := q5 D hlb hcb hv hb
                                                            have hKc := t_nd_fr hX rfl
                                                            obtain ⟨a0, a1, a2, a3, a4, a5⟩ := hqa
                                                            obtain ⟨c0, c1, c2, c3, c4, c5⟩ := hqb
                                                            have fb := t_F_X hC5
                                                            have fa := t_F_X hC4
                                                            have b1 := hb.2.1
                                                            have b2 := hb.2.2
                                                            have e29 : gi5 29 = gi4 29 := t_F_nc fb rfl (by decide)
                                                            have e31 : gi5 31 = gi4 31 := t_F_nc fb rfl (by decide)
                                                            have e32 : gi5 32 = gi4 32 := t_F_nc fb rfl (by decide)
                                                            have e33 : gi5 33 = gi4 33 := t_F_nc fb rfl (by decide)
                                                            have e34 : gi5 34 = gi4 34 := t_F_nc fb rfl (by decide)
                                                            have er : gr5 28 0 = .ref ar1 := by rw [(fb 28 0 (by decide) rfl).2.2, (fa 28 0 (by decide) rfl).2.2, e2, x_up2_at]
                                                            have e1 : (gi5 28 1).toInt = D 4 := by rw [(fb 28 1 (by decide) rfl).1, (fa 28 1 (by decide) rfl).1, e3, x_up2_at]; exact hc.2.1.1
                                                            refine ⟨⟨⟨?_, ?_⟩, fun s hs => ?_, fun c hc3 => ?_, Or.inr ⟨ar1, er, hv, fun m => ?_⟩⟩, er, hc.fr (fun K k1 k2 => hKc K (by omega)), e1⟩
                                                            · rw [e29, a0]; show D 1 = (((D 1).toNat : Nat) : Int); omega
                                                            · rw [c0]; show D 2 = (((D 2).toNat : Nat) : Int); omega
                                                            · have hs2 : s < (D 1).toNat := Int.ofNat_lt.mp (show (s : Int) < (((D 1).toNat : Nat) : Int) from hs)
                                                              rw [e31, e32, e33, e34]
                                                              exact ⟨a2 s hs2, a3 s hs2, a4 s hs2, a5 s hs2⟩
                                                            · have hc4 : c < (D 2).toNat := Int.ofNat_lt.mp (show (c : Int) < (((D 2).toNat : Nat) : Int) from hc3)
                                                              exact ⟨c2 c hc4, c3 c hc4, c4 c hc4, c5 c hc4⟩
                                                            · rw [e1, (hKc ar1 (by omega)).1, hc.2.1.2.1, hc.2.1.2.2.1]; rfl))⟩⟩
noncomputable def wl_d_least : List (Nat × Nat) := [(0, 0), (28, 0), (28, 1), (28, 4), (28, 5), (29, 0), (30, 9999), (31, 9999), (32, 9999), (33, 9999), (34, 9999), (35, 0), (36, 9999), (37, 9999), (38, 9999), (39, 9999), (40, 9999)]
noncomputable def Q_d_least (gi : Nat → Nat → Int32) (gl : Nat → Nat → Int64) (gr : Nat → Nat → Value) : Int32 → (Nat → Nat → Int32) → (Nat → Nat → Int64) → (Nat → Nat → Value) → Prop := fun (v : Int32) (gi2 : Nat → Nat → Int32) (gl2 : Nat → Nat → Int64) (gr2 : Nat → Nat → Value) => ∀ (u : Nat) (D : s_D), gr 0 6 = .ref u → t_VL gr u → t_CV gi gl u D → t_Cb D → (u = 3 ∨ 102 ≤ u) → (∀ s : Nat, (s : Int) < D 1 → 0 ≤ D (56 + 5 * s) ∧ D (56 + 5 * s) ≤ 1) → s_DB D → v.toInt = s_an (s_LS (s_PD D (D 4)) 0 0 0 0)
theorem c_d_least {X : x_Ext} {d : Nat} {sh : List (Nat ⊕ (Nat × Nat))} {gi : Nat → Nat → Int32} {gl : Nat → Nat → Int64} {gr : Nat → Nat → Value} (hI : t_I sh gi gr) : x_Me X (d + 19) n_X11_least [.ref 0] (sh, gi, gl, gr) (t_PI wl_d_least sh gi gl gr (-2147483648) 999999999 (Q_d_least gi gl gr)) := by
  have hX : t_X wl_d_least sh gi gl gr gi gl gr := t_X.rf
  refine me_i f_X11_least (hI.wf.s rfl) rfl rfl rfl ?_
  refine ev_loc f_X11_least (nx := 1) rfl rfl rfl rfl ?_
  refine ev_loc f_X11_least (nx := 2) rfl rfl rfl rfl ?_
  refine ev_inV1 f_X11_least (nx := 5) (lo2 := [(0, .ref 0)]) rfl rfl rfl rfl f_X11_leastAsTold (hI.wf.s rfl) rfl rfl rfl rfl rfl ?_
  refine ev_loc f_X11_leastAsTold (nx := 1) rfl rfl rfl rfl ?_
  refine ev_getR f_X11_leastAsTold (nx := 4) rfl (hI.wf.s rfl) rfl rfl (hI.wf.r rfl) rfl rfl ?_
  refine ev_loc f_X11_leastAsTold (nx := 5) rfl rfl rfl rfl ?_
  obtain ⟨a1, e1, p1⟩ := hI.2.2.2.1.1
  refine ev_getR f_X11_leastAsTold (nx := 8) rfl (hI.wf.s rfl) rfl rfl e1 rfl rfl ?_
  refine ev_qN f_X11_leastAsTold (nx := 11) (r := []) rfl rfl rfl rfl rfl rfl rfl (c_d_takeAll hI (a1) p1) rfl hX rfl (fun gi2 gl2 gr2 hI hX hC2 q2 => ?_)
  have q2 : ∀ D : s_D, t_VL gr a1 → t_CV gi gl a1 D → (a1 = 3 ∨ 102 ≤ a1) → t_Cb D → (∀ s : Nat, (s : Int) < D 1 → 0 ≤ D (56 + 5 * s) ∧ D (56 + 5 * s) ≤ 1) → s_CP (s_PD D (D 4)) gi2 gr2 ∧ gr2 28 0 = .ref a1 ∧ t_CV gi2 gl2 a1 D ∧ (gi2 28 1).toInt = D 4 := q2
  replace p1 := p1.ext hC2.2
  refine ev_loc f_X11_leastAsTold (nx := 12) rfl rfl rfl rfl ?_
  refine ev_getR f_X11_leastAsTold (nx := 15) rfl (hI.wf.s rfl) rfl rfl (hI.wf.r rfl) rfl rfl ?_
  refine ev_qI f_X11_leastAsTold (nx := 18) (r := []) rfl rfl rfl rfl rfl rfl rfl (c_d_leastWaits hI ) rfl hX rfl (fun w3 gi3 gl3 gr3 l3 u3 hI hX hC3 q3 => ?_)
  have q3 : ∀ P : Nat → Nat → Int, s_CP P gi2 gr2 → s_PB P → s_PO P → w3.toInt = s_LS P 0 0 0 0 := q3
  replace p1 := p1.ext hC3.2
  refine ev_retK1 f_X11_leastAsTold rfl rfl rfl ?_
  refine ev_inV2 f_X11_least (nx := 8) (lo2 := [(0, .ref 0), (1, .int w3)]) rfl rfl rfl rfl f_X11_answerWaits (hI.wf.s rfl) rfl rfl rfl rfl rfl ?_
  refine ev_loc f_X11_answerWaits (nx := 1) rfl rfl rfl rfl ?_
  refine ev_ldW f_X11_answerWaits (nx := 4) (v := 1000000000) rfl (by decide) rfl ?_
  refine ev_if f_X11_answerWaits (t1 := 16) (t2 := 7) rfl rfl rfl (fun h4 => ?_) (fun h4 => ?_)
  · have u5 : w3.toInt ≤ 999999999 := t_ltu h4 (by decide : (1000000000:Int32).toInt ≤ (1000000000:Int)) rfl
    refine ev_loc f_X11_answerWaits (nx := 17) rfl rfl rfl rfl ?_
    refine ev_loc f_X11_answerWaits (nx := 18) rfl rfl rfl rfl ?_
    refine ev_inV2 f_X11_answerWaits (nx := 21) (lo2 := [(0, .ref 0), (1, .int w3)]) rfl rfl rfl rfl f_X11_answer (hI.wf.s rfl) rfl rfl rfl rfl rfl ?_
    refine ev_loc f_X11_answer (nx := 1) rfl rfl rfl rfl ?_
    refine ev_ic f_X11_answer (nx := 2) (v := 0) rfl (by decide) rfl ?_
    refine ev_putIT f_X11_answer (nx := 5) rfl (hI.wf.s rfl) rfl rfl rfl (hI.put0 (hI.wf.s rfl) rfl rfl) (hX.upI rfl) (fun g6 e6 hI hX => ?_)
    refine ev_loc f_X11_answer (nx := 6) rfl rfl rfl rfl ?_
    refine ev_retK1 f_X11_answer rfl rfl rfl ?_
    refine ev_retK1 f_X11_answerWaits rfl rfl rfl ?_
    exact ev_ret f_X11_least rfl rfl rfl ⟨_, _, _, rfl, hI, hX, ⟨_, rfl, l3, u5, (show ∀ (u : Nat) (D : s_D), gr 0 6 = .ref u → t_VL gr u → t_CV gi gl u D → t_Cb D → (u = 3 ∨ 102 ≤ u) → (∀ s : Nat, (s : Int) < D 1 → 0 ≤ D (56 + 5 * s) ∧ D (56 + 5 * s) ≤ 1) → s_DB D → w3.toInt = s_an (s_LS (s_PD D (D 4)) 0 0 0 0) from (by
                                                            intro u D hu hl hc hb hv hsl hd
                                                            have ha : a1 = u := Value.ref.inj (e1.symm.trans hu)
                                                            subst ha
                                                            have hq := q2 D hl hc hv hb hsl
                                                            have hq2 := q3 _ hq.1 (s_PD_B hb hd ⟨hd.2.2.1.1, hd.2.2.1.2⟩) (s_PD_O hb hd hd.2.2.1.1)
                                                            rw [← hq2]
                                                            unfold s_an
                                                            split
                                                            · omega
                                                            · omega))⟩⟩
  · have l7 : 1000000000 ≤ w3.toInt := t_lel (t_nlt h4) (by decide : (1000000000:Int) ≤ (1000000000:Int32).toInt)
    refine ev_loc f_X11_answerWaits (nx := 8) rfl rfl rfl rfl ?_
    refine ev_bp f_X11_answerWaits (nx := 10) (v := 6) rfl (by decide) rfl ?_
    refine ev_inV2 f_X11_answerWaits (nx := 13) (lo2 := [(0, .ref 0), (1, .int 6)]) rfl rfl rfl rfl f_X11_refuse (hI.wf.s rfl) rfl rfl rfl rfl rfl ?_
    refine ev_loc f_X11_refuse (nx := 1) rfl rfl rfl rfl ?_
    refine ev_loc f_X11_refuse (nx := 2) rfl rfl rfl rfl ?_
    refine ev_putIT f_X11_refuse (nx := 5) rfl (hI.wf.s rfl) rfl rfl rfl (hI.put0 (hI.wf.s rfl) rfl rfl) (hX.upI rfl) (fun g8 e8 hI hX => ?_)
    refine ev_ic f_X11_refuse (nx := 6) (v := -1) rfl (by decide) rfl ?_
    refine ev_retK1 f_X11_refuse rfl rfl rfl ?_
    refine ev_jmp f_X11_answerWaits (nx := 21) rfl rfl rfl ?_
    refine ev_retK1 f_X11_answerWaits rfl rfl rfl ?_
    exact ev_ret f_X11_least rfl rfl rfl ⟨_, _, _, rfl, hI, hX, ⟨_, rfl, (Int.le_trans (by decide : ((-2147483648):Int) ≤ (-1)) (by decide : ((-1):Int) ≤ ((-1):Int32).toInt)), (Int.le_trans (by decide : ((-1):Int32).toInt ≤ ((-1):Int)) (by decide : ((-1):Int) ≤ 999999999)), (show ∀ (u : Nat) (D : s_D), gr 0 6 = .ref u → t_VL gr u → t_CV gi gl u D → t_Cb D → (u = 3 ∨ 102 ≤ u) → (∀ s : Nat, (s : Int) < D 1 → 0 ≤ D (56 + 5 * s) ∧ D (56 + 5 * s) ≤ 1) → s_DB D → ((-1) : Int) = s_an (s_LS (s_PD D (D 4)) 0 0 0 0) from (by
                                                            intro u D hu hl hc hb hv hsl hd
                                                            have ha : a1 = u := Value.ref.inj (e1.symm.trans hu)
                                                            subst ha
                                                            have hq := q2 D hl hc hv hb hsl
                                                            have hq2 := q3 _ hq.1 (s_PD_B hb hd ⟨hd.2.2.1.1, hd.2.2.1.2⟩) (s_PD_O hb hd hd.2.2.1.1)
                                                            rw [← hq2]
                                                            unfold s_an
                                                            split
                                                            · omega
                                                            · omega))⟩⟩
noncomputable def wl_d_quicker : List (Nat × Nat) := [(0, 0), (28, 0), (28, 1), (28, 4), (28, 5), (29, 0), (30, 9999), (31, 9999), (32, 9999), (33, 9999), (34, 9999), (35, 0), (36, 9999), (37, 9999), (38, 9999), (39, 9999), (40, 9999)]
noncomputable def Q_d_quicker (gi : Nat → Nat → Int32) (gl : Nat → Nat → Int64) (gr : Nat → Nat → Value) (ar1 : Int32) : Int32 → (Nat → Nat → Int32) → (Nat → Nat → Int64) → (Nat → Nat → Value) → Prop := fun (v : Int32) (gi2 : Nat → Nat → Int32) (gl2 : Nat → Nat → Int64) (gr2 : Nat → Nat → Value) => ∀ (u : Nat) (D : s_D), gr 0 6 = .ref u → t_VL gr u → t_CV gi gl u D → t_Cb D → (u = 3 ∨ 102 ≤ u) → (∀ s : Nat, (s : Int) < D 1 → 0 ≤ D (56 + 5 * s) ∧ D (56 + 5 * s) ≤ 1) → s_DB D → ((1 ≤ ar1.toInt ∧ ar1.toInt ≤ 20) → v.toInt = s_an (s_LS (s_PD D ar1.toInt) 0 0 0 0)) ∧ (¬ (1 ≤ ar1.toInt ∧ ar1.toInt ≤ 20) → v.toInt = -1)
theorem c_d_quicker {X : x_Ext} {d : Nat} {sh : List (Nat ⊕ (Nat × Nat))} {gi : Nat → Nat → Int32} {gl : Nat → Nat → Int64} {gr : Nat → Nat → Value} (hI : t_I sh gi gr) (ar1 : Int32) : x_Me X (d + 18) n_X11_quicker [.ref 0, .int ar1] (sh, gi, gl, gr) (t_PI wl_d_quicker sh gi gl gr (-2147483648) 999999999 (Q_d_quicker gi gl gr ar1)) := by
  have hX : t_X wl_d_quicker sh gi gl gr gi gl gr := t_X.rf
  refine me_i f_X11_quicker (hI.wf.s rfl) rfl rfl rfl ?_
  refine ev_loc f_X11_quicker (nx := 1) rfl rfl rfl rfl ?_
  refine ev_ic f_X11_quicker (nx := 2) (v := 1) rfl (by decide) rfl ?_
  refine ev_if f_X11_quicker (t1 := 11) (t2 := 5) rfl rfl rfl (fun h1 => ?_) (fun h1 => ?_)
  · have u2 : ar1.toInt ≤ 0 := t_ltu h1 (by decide : (1:Int32).toInt ≤ (1:Int)) rfl
    refine ev_loc f_X11_quicker (nx := 12) rfl rfl rfl rfl ?_
    refine ev_ic f_X11_quicker (nx := 13) (v := 1) rfl (by decide) rfl ?_
    refine ev_inV2 f_X11_quicker (nx := 16) (lo2 := [(0, .ref 0), (1, .int 1)]) rfl rfl rfl rfl f_X11_refuse (hI.wf.s rfl) rfl rfl rfl rfl rfl ?_
    refine ev_loc f_X11_refuse (nx := 1) rfl rfl rfl rfl ?_
    refine ev_loc f_X11_refuse (nx := 2) rfl rfl rfl rfl ?_
    refine ev_putIT f_X11_refuse (nx := 5) rfl (hI.wf.s rfl) rfl rfl rfl (hI.put0 (hI.wf.s rfl) rfl rfl) (hX.upI rfl) (fun g3 e3 hI hX => ?_)
    refine ev_ic f_X11_refuse (nx := 6) (v := -1) rfl (by decide) rfl ?_
    refine ev_retK1 f_X11_refuse rfl rfl rfl ?_
    exact ev_ret f_X11_quicker rfl rfl rfl ⟨_, _, _, rfl, hI, hX, ⟨_, rfl, (Int.le_trans (by decide : ((-2147483648):Int) ≤ (-1)) (by decide : ((-1):Int) ≤ ((-1):Int32).toInt)), (Int.le_trans (by decide : ((-1):Int32).toInt ≤ ((-1):Int)) (by decide : ((-1):Int) ≤ 999999999)), (show ∀ (u : Nat) (D : s_D), gr 0 6 = .ref u → t_VL gr u → t_CV gi gl u D → t_Cb D → (u = 3 ∨ 102 ≤ u) → (∀ s : Nat, (s : Int) < D 1 → 0 ≤ D (56 + 5 * s) ∧ D (56 + 5 * s) ≤ 1) → s_DB D → ((1 ≤ ar1.toInt ∧ ar1.toInt ≤ 20) → ((-1) : Int) = s_an (s_LS (s_PD D ar1.toInt) 0 0 0 0)) ∧ (¬ (1 ≤ ar1.toInt ∧ ar1.toInt ≤ 20) → ((-1) : Int) = -1) from (by
                                                            intro u D hu hl hc hb hv hsl hd
                                                            exact ⟨fun h => absurd h (by omega), fun _ => rfl⟩))⟩⟩
  · have l4 : 1 ≤ ar1.toInt := t_lel (t_nlt h1) (by decide : (1:Int) ≤ (1:Int32).toInt)
    refine ev_loc f_X11_quicker (nx := 6) rfl rfl rfl rfl ?_
    refine ev_bp f_X11_quicker (nx := 8) (v := 20) rfl (by decide) rfl ?_
    refine ev_if f_X11_quicker (t1 := 17) (t2 := 11) rfl rfl rfl (fun h5 => ?_) (fun h5 => ?_)
    · have u6 : ar1.toInt ≤ 20 := t_leu h5 (by decide : (20:Int32).toInt ≤ (20:Int))
      refine ev_loc f_X11_quicker (nx := 18) rfl rfl rfl rfl ?_
      refine ev_getR f_X11_quicker (nx := 21) rfl (hI.wf.s rfl) rfl rfl (hI.wf.r rfl) rfl rfl ?_
      refine ev_loc f_X11_quicker (nx := 22) rfl rfl rfl rfl ?_
      obtain ⟨a7, e7, p7⟩ := hI.2.2.2.1.1
      refine ev_getR f_X11_quicker (nx := 25) rfl (hI.wf.s rfl) rfl rfl e7 rfl rfl ?_
      refine ev_qN f_X11_quicker (nx := 28) (r := []) rfl rfl rfl rfl rfl rfl rfl (c_d_takeAll hI (a7) p7) rfl hX rfl (fun gi8 gl8 gr8 hI hX hC8 q8 => ?_)
      have q8 : ∀ D : s_D, t_VL gr a7 → t_CV gi gl a7 D → (a7 = 3 ∨ 102 ≤ a7) → t_Cb D → (∀ s : Nat, (s : Int) < D 1 → 0 ≤ D (56 + 5 * s) ∧ D (56 + 5 * s) ≤ 1) → s_CP (s_PD D (D 4)) gi8 gr8 ∧ gr8 28 0 = .ref a7 ∧ t_CV gi8 gl8 a7 D ∧ (gi8 28 1).toInt = D 4 := q8
      replace p7 := p7.ext hC8.2
      refine ev_loc f_X11_quicker (nx := 29) rfl rfl rfl rfl ?_
      refine ev_getR f_X11_quicker (nx := 32) rfl (hI.wf.s rfl) rfl rfl (hI.wf.r rfl) rfl rfl ?_
      refine ev_loc f_X11_quicker (nx := 33) rfl rfl rfl rfl ?_
      refine ev_putIT f_X11_quicker (nx := 36) rfl (hI.wf.s rfl) rfl rfl rfl (hI.put0 (hI.wf.s rfl) rfl rfl) (hX.upI rfl) (fun g9 e9 hI hX => ?_)
      refine ev_loc f_X11_quicker (nx := 37) rfl rfl rfl rfl ?_
      refine ev_loc f_X11_quicker (nx := 38) rfl rfl rfl rfl ?_
      refine ev_getR f_X11_quicker (nx := 41) rfl (hI.wf.s rfl) rfl rfl (hI.wf.r rfl) rfl rfl ?_
      refine ev_qI f_X11_quicker (nx := 44) (r := [.ref 0]) rfl rfl rfl rfl rfl rfl rfl (c_d_leastWaits hI ) rfl hX rfl (fun w10 gi10 gl10 gr10 l10 u10 hI hX hC10 q10 => ?_)
      have q10 : ∀ P : Nat → Nat → Int, s_CP P g9 gr8 → s_PB P → s_PO P → w10.toInt = s_LS P 0 0 0 0 := q10
      replace p7 := p7.ext hC10.2
      refine ev_inV2 f_X11_quicker (nx := 47) (lo2 := [(0, .ref 0), (1, .int w10)]) rfl rfl rfl rfl f_X11_answerWaits (hI.wf.s rfl) rfl rfl rfl rfl rfl ?_
      refine ev_loc f_X11_answerWaits (nx := 1) rfl rfl rfl rfl ?_
      refine ev_ldW f_X11_answerWaits (nx := 4) (v := 1000000000) rfl (by decide) rfl ?_
      refine ev_if f_X11_answerWaits (t1 := 16) (t2 := 7) rfl rfl rfl (fun h11 => ?_) (fun h11 => ?_)
      · have u12 : w10.toInt ≤ 999999999 := t_ltu h11 (by decide : (1000000000:Int32).toInt ≤ (1000000000:Int)) rfl
        refine ev_loc f_X11_answerWaits (nx := 17) rfl rfl rfl rfl ?_
        refine ev_loc f_X11_answerWaits (nx := 18) rfl rfl rfl rfl ?_
        refine ev_inV2 f_X11_answerWaits (nx := 21) (lo2 := [(0, .ref 0), (1, .int w10)]) rfl rfl rfl rfl f_X11_answer (hI.wf.s rfl) rfl rfl rfl rfl rfl ?_
        refine ev_loc f_X11_answer (nx := 1) rfl rfl rfl rfl ?_
        refine ev_ic f_X11_answer (nx := 2) (v := 0) rfl (by decide) rfl ?_
        refine ev_putIT f_X11_answer (nx := 5) rfl (hI.wf.s rfl) rfl rfl rfl (hI.put0 (hI.wf.s rfl) rfl rfl) (hX.upI rfl) (fun g13 e13 hI hX => ?_)
        refine ev_loc f_X11_answer (nx := 6) rfl rfl rfl rfl ?_
        refine ev_retK1 f_X11_answer rfl rfl rfl ?_
        refine ev_retK1 f_X11_answerWaits rfl rfl rfl ?_
        exact ev_ret f_X11_quicker rfl rfl rfl ⟨_, _, _, rfl, hI, hX, ⟨_, rfl, l10, u12, (show ∀ (u : Nat) (D : s_D), gr 0 6 = .ref u → t_VL gr u → t_CV gi gl u D → t_Cb D → (u = 3 ∨ 102 ≤ u) → (∀ s : Nat, (s : Int) < D 1 → 0 ≤ D (56 + 5 * s) ∧ D (56 + 5 * s) ≤ 1) → s_DB D → ((1 ≤ ar1.toInt ∧ ar1.toInt ≤ 20) → w10.toInt = s_an (s_LS (s_PD D ar1.toInt) 0 0 0 0)) ∧ (¬ (1 ≤ ar1.toInt ∧ ar1.toInt ≤ 20) → w10.toInt = -1) from (by
                                                            intro u D hu hl hc hb hv hsl hd
                                                            have ha : a7 = u := Value.ref.inj (e7.symm.trans hu)
                                                            subst ha
                                                            have hq := q8 D hl hc hv hb hsl
                                                            refine ⟨fun h => ?_, fun h => absurd (show _ from ⟨by omega, by omega⟩) h⟩
                                                            have hcp := hq.1.qk e9 hq.2.1 hv hq.2.2.1 (P' := s_PD D ar1.toInt) rfl (fun k j hk => s_PD_q D _ _ k j hk) (fun j => rfl)
                                                            have hq2 := q10 _ hcp (s_PD_B hb hd ⟨h.1, by omega⟩) (s_PD_O hb hd h.1)
                                                            rw [← hq2]
                                                            unfold s_an
                                                            split
                                                            · omega
                                                            · omega))⟩⟩
      · have l14 : 1000000000 ≤ w10.toInt := t_lel (t_nlt h11) (by decide : (1000000000:Int) ≤ (1000000000:Int32).toInt)
        refine ev_loc f_X11_answerWaits (nx := 8) rfl rfl rfl rfl ?_
        refine ev_bp f_X11_answerWaits (nx := 10) (v := 6) rfl (by decide) rfl ?_
        refine ev_inV2 f_X11_answerWaits (nx := 13) (lo2 := [(0, .ref 0), (1, .int 6)]) rfl rfl rfl rfl f_X11_refuse (hI.wf.s rfl) rfl rfl rfl rfl rfl ?_
        refine ev_loc f_X11_refuse (nx := 1) rfl rfl rfl rfl ?_
        refine ev_loc f_X11_refuse (nx := 2) rfl rfl rfl rfl ?_
        refine ev_putIT f_X11_refuse (nx := 5) rfl (hI.wf.s rfl) rfl rfl rfl (hI.put0 (hI.wf.s rfl) rfl rfl) (hX.upI rfl) (fun g15 e15 hI hX => ?_)
        refine ev_ic f_X11_refuse (nx := 6) (v := -1) rfl (by decide) rfl ?_
        refine ev_retK1 f_X11_refuse rfl rfl rfl ?_
        refine ev_jmp f_X11_answerWaits (nx := 21) rfl rfl rfl ?_
        refine ev_retK1 f_X11_answerWaits rfl rfl rfl ?_
        exact ev_ret f_X11_quicker rfl rfl rfl ⟨_, _, _, rfl, hI, hX, ⟨_, rfl, (Int.le_trans (by decide : ((-2147483648):Int) ≤ (-1)) (by decide : ((-1):Int) ≤ ((-1):Int32).toInt)), (Int.le_trans (by decide : ((-1):Int32).toInt ≤ ((-1):Int)) (by decide : ((-1):Int) ≤ 999999999)), (show ∀ (u : Nat) (D : s_D), gr 0 6 = .ref u → t_VL gr u → t_CV gi gl u D → t_Cb D → (u = 3 ∨ 102 ≤ u) → (∀ s : Nat, (s : Int) < D 1 → 0 ≤ D (56 + 5 * s) ∧ D (56 + 5 * s) ≤ 1) → s_DB D → ((1 ≤ ar1.toInt ∧ ar1.toInt ≤ 20) → ((-1) : Int) = s_an (s_LS (s_PD D ar1.toInt) 0 0 0 0)) ∧ (¬ (1 ≤ ar1.toInt ∧ ar1.toInt ≤ 20) → ((-1) : Int) = -1) from (by
                                                            intro u D hu hl hc hb hv hsl hd
                                                            have ha : a7 = u := Value.ref.inj (e7.symm.trans hu)
                                                            subst ha
                                                            have hq := q8 D hl hc hv hb hsl
                                                            refine ⟨fun h => ?_, fun h => absurd (show _ from ⟨by omega, by omega⟩) h⟩
                                                            have hcp := hq.1.qk e9 hq.2.1 hv hq.2.2.1 (P' := s_PD D ar1.toInt) rfl (fun k j hk => s_PD_q D _ _ k j hk) (fun j => rfl)
                                                            have hq2 := q10 _ hcp (s_PD_B hb hd ⟨h.1, by omega⟩) (s_PD_O hb hd h.1)
                                                            rw [← hq2]
                                                            unfold s_an
                                                            split
                                                            · omega
                                                            · omega))⟩⟩
    · have l16 : 21 ≤ ar1.toInt := t_ltl (t_nle h5) (by decide : (20:Int) ≤ (20:Int32).toInt) rfl
      refine ev_loc f_X11_quicker (nx := 12) rfl rfl rfl rfl ?_
      refine ev_ic f_X11_quicker (nx := 13) (v := 1) rfl (by decide) rfl ?_
      refine ev_inV2 f_X11_quicker (nx := 16) (lo2 := [(0, .ref 0), (1, .int 1)]) rfl rfl rfl rfl f_X11_refuse (hI.wf.s rfl) rfl rfl rfl rfl rfl ?_
      refine ev_loc f_X11_refuse (nx := 1) rfl rfl rfl rfl ?_
      refine ev_loc f_X11_refuse (nx := 2) rfl rfl rfl rfl ?_
      refine ev_putIT f_X11_refuse (nx := 5) rfl (hI.wf.s rfl) rfl rfl rfl (hI.put0 (hI.wf.s rfl) rfl rfl) (hX.upI rfl) (fun g17 e17 hI hX => ?_)
      refine ev_ic f_X11_refuse (nx := 6) (v := -1) rfl (by decide) rfl ?_
      refine ev_retK1 f_X11_refuse rfl rfl rfl ?_
      exact ev_ret f_X11_quicker rfl rfl rfl ⟨_, _, _, rfl, hI, hX, ⟨_, rfl, (Int.le_trans (by decide : ((-2147483648):Int) ≤ (-1)) (by decide : ((-1):Int) ≤ ((-1):Int32).toInt)), (Int.le_trans (by decide : ((-1):Int32).toInt ≤ ((-1):Int)) (by decide : ((-1):Int) ≤ 999999999)), (show ∀ (u : Nat) (D : s_D), gr 0 6 = .ref u → t_VL gr u → t_CV gi gl u D → t_Cb D → (u = 3 ∨ 102 ≤ u) → (∀ s : Nat, (s : Int) < D 1 → 0 ≤ D (56 + 5 * s) ∧ D (56 + 5 * s) ≤ 1) → s_DB D → ((1 ≤ ar1.toInt ∧ ar1.toInt ≤ 20) → ((-1) : Int) = s_an (s_LS (s_PD D ar1.toInt) 0 0 0 0)) ∧ (¬ (1 ≤ ar1.toInt ∧ ar1.toInt ≤ 20) → ((-1) : Int) = -1) from (by
                                                            intro u D hu hl hc hb hv hsl hd
                                                            exact ⟨fun h => absurd h (by omega), fun _ => rfl⟩))⟩⟩
/-! ===== printed by riv.py: the least, of the other side ===== -/
noncomputable def wl_n_leastBy : List (Nat × Nat) := [(69, 44), (69, 45), (69, 48), (89, 10005), (89, 610011), (90, 9999), (91, 9999), (92, 9999)]
noncomputable def Q_n_leastBy (gi : Nat → Nat → Int32) (gl : Nat → Nat → Int64) (gr : Nat → Nat → Value) (ar2 : Int32) : Int32 → (Nat → Nat → Int32) → (Nat → Nat → Int64) → (Nat → Nat → Value) → Prop := fun (v : Int32) (gi2 : Nat → Nat → Int32) (gl2 : Nat → Nat → Int64) (gr2 : Nat → Nat → Value) => ∀ D : s_D, t_ME 0 gi D → t_Cb D → s_DB D → (gi 69 46).toInt = -1 → v.toInt = s_an (s_LS (s_PD D ar2.toInt) 0 0 0 0)
theorem c_n_leastBy {X : x_Ext} {d : Nat} {sh : List (Nat ⊕ (Nat × Nat))} {gi : Nat → Nat → Int32} {gl : Nat → Nat → Int64} {gr : Nat → Nat → Value} (hI : t_I sh gi gr) (ar2 : Int32) (l_a2 : 0 ≤ ar2.toInt) (u_a2 : ar2.toInt ≤ 20) (e_p0 : 1 ≤ ar2.toInt) : x_Me X (d + 5) n_X12_leastBy [.ref 69, .int 0, .int ar2] (sh, gi, gl, gr) (t_PI wl_n_leastBy sh gi gl gr (-2147483648) 999999999 (Q_n_leastBy gi gl gr ar2)) := by
  have hX : t_X wl_n_leastBy sh gi gl gr gi gl gr := t_X.rf
  refine me_i f_X12_leastBy (hI.wf.s rfl) rfl rfl rfl ?_
  have hI0 := hI
  refine ev_loc f_X12_leastBy (nx := 1) rfl rfl rfl rfl ?_
  refine ev_qN f_X12_leastBy (nx := 4) (r := []) rfl rfl rfl rfl rfl rfl rfl (c_n_tellsMinutes hI ) rfl hX rfl (fun gi2 gl2 gr2 hI hX hC2 q2 => ?_)
  have q2 : (∀ j, gi2 70 j = gi 70 j) ∧ (∀ j : Nat, j < 6 → gi2 89 j = gi 70 (53 + 5 * j)) ∧ (∀ j : Nat, j < 6 → gi2 89 (6 + j) = gi 70 (82 + 3 * j)) := q2
  refine ev_loc f_X12_leastBy (nx := 5) rfl rfl rfl rfl ?_
  refine ev_loc f_X12_leastBy (nx := 6) rfl rfl rfl rfl ?_
  refine ev_qN f_X12_leastBy (nx := 9) (r := []) rfl rfl rfl rfl rfl rfl rfl (c_n_orders0 hI ) rfl hX rfl (fun gi3 gl3 gr3 hI hX hC3 q3 => ?_)
  have ff4 : (gi2 69 46).toInt = (gi 69 46).toInt := congrArg Int32.toInt ((hC2.1 69 46 rfl).1.trans rfl)
  have q3 : (∀ j, gi3 70 j = gi2 70 j) ∧ (∀ j, gi3 89 j = gi2 89 j) ∧ (∀ D : s_D, t_ME 0 gi2 D → t_Cb D → (∀ j : Nat, j < 6 → gi2 89 j = gi2 70 (53 + 5 * j)) → (gi3 69 44).toInt = D 1 ∧ s_RO (s_A D) (gi3 90) (D 1).toNat) ∧ (∀ D : s_D, t_ME 0 gi2 D → t_Cb D → (∀ j : Nat, j < 6 → gi2 89 (6 + j) = gi2 70 (82 + 3 * j)) → (gi2 69 46).toInt = -1 → (gi3 69 45).toInt = D 2 ∧ s_RO (s_B D) (gi3 91) (D 2).toNat) := q3
  refine ev_loc f_X12_leastBy (nx := 10) rfl rfl rfl rfl ?_
  refine ev_loc f_X12_leastBy (nx := 11) rfl rfl rfl rfl ?_
  refine ev_putIT f_X12_leastBy (nx := 14) rfl (hI.wf.s rfl) rfl rfl rfl (hI.putB (hI.wf.s rfl) rfl rfl l_a2 (by decide) u_a2 (by decide)) (hX.upI rfl) (fun g5 e5 hI hX => ?_)
  refine ev_loc f_X12_leastBy (nx := 15) rfl rfl rfl rfl ?_
  refine ev_qI f_X12_leastBy (nx := 18) (r := []) rfl rfl rfl rfl rfl rfl rfl (c_m_reckons hI  (by have ff7 : (g5 69 48).toInt = ar2.toInt := congrArg Int32.toInt (by rw [e5]; exact x_up2_at _ _ _ _ : g5 69 48 = ar2); omega) (by
                                                            have h89 : g5 89 = gi2 89 := by rw [show g5 89 = gi3 89 from funext fun j => by rw [e5, x_up2_off (Or.inl (by decide))]]; exact funext fun j => q3.2.1 j
                                                            rw [h89]
                                                            exact s_min12 hI0 q2.2.1 q2.2.2)) rfl hX rfl (fun w6 gi6 gl6 gr6 l6 u6 hI hX hC6 q6 => ?_)
  have q6 : t_pr gi6 (gi6 92) (gi6 69 48).toInt 23618 ∧ t_rk w6.toInt (t_la (gi6 92) (t_S gi6) (t_C gi6) 0 0 0 0) := q6
  exact ev_ret f_X12_leastBy rfl rfl rfl ⟨_, _, _, rfl, hI, hX, ⟨_, rfl, l6, u6, (show ∀ D : s_D, t_ME 0 gi D → t_Cb D → s_DB D → (gi 69 46).toInt = -1 → w6.toInt = s_an (s_LS (s_PD D ar2.toInt) 0 0 0 0) from (by
                                                            intro D hm hb hd h46
                                                            have b1 := hb.2.1
                                                            have b2 := hb.2.2
                                                            have fd := t_F_X hC6
                                                            have fa := t_F_X hC2
                                                            have hmA : t_ME 0 gi2 D := hm.mv hb (fun j _ _ _ => q2.1 (0 + j))
                                                            have k46 : (gi2 69 46).toInt = -1 := by rw [(fa 69 46 (by decide) rfl).1]; exact h46
                                                            have hS := q3.2.2.1 D hmA hb (fun j h => (q2.2.1 j h).trans (q2.1 _).symm)
                                                            have hC := q3.2.2.2 D hmA hb (fun j h => (q2.2.2 j h).trans (q2.1 _).symm) k46
                                                            have w89 : gi6 89 = gi3 89 := by rw [t_F_nc fd rfl (by decide)]; exact funext fun j => by rw [e5, x_up2_off (Or.inl (by decide))]
                                                            have w90 : gi6 90 = gi3 90 := by rw [t_F_nc fd rfl (by decide)]; exact funext fun j => by rw [e5, x_up2_off (Or.inl (by decide))]
                                                            have w91 : gi6 91 = gi3 91 := by rw [t_F_nc fd rfl (by decide)]; exact funext fun j => by rw [e5, x_up2_off (Or.inl (by decide))]
                                                            have w70 : gi6 70 = gi3 70 := by rw [t_F_nc fd rfl (by decide)]; exact funext fun j => by rw [e5, x_up2_off (Or.inl (by decide))]
                                                            have w44 : gi6 69 44 = gi3 69 44 := by rw [(fd 69 44 (by decide) rfl).1, e5, x_up2_off (Or.inr (by decide))]
                                                            have w45 : gi6 69 45 = gi3 69 45 := by rw [(fd 69 45 (by decide) rfl).1, e5, x_up2_off (Or.inr (by decide))]
                                                            have w48 : gi6 69 48 = ar2 := by rw [(fd 69 48 (by decide) rfl).1, e5, x_up2_at]
                                                            have e70 : ∀ j, gi6 70 j = gi 70 j := fun j => by rw [w70, q3.1 j, q2.1 j]
                                                            have hmD : t_ME 0 gi6 D := hm.mv hb (fun j _ _ _ => e70 (0 + j))
                                                            have k70 : ∀ j : Nat, (j : Int) < D 1 → (gi 70 (53 + 5 * j)).toInt = s_A D j := fun j hj => by have hh := hm.2.2.1 (53 + 5 * j) (by omega) (by omega); rw [Nat.zero_add] at hh; exact hh
                                                            have c70 : ∀ j : Nat, (j : Int) < D 2 → (gi 70 (82 + 3 * j)).toInt = s_B D j := fun j hj => by have hh := hm.2.2.2 (82 + 3 * j) (by omega) (by omega); rw [Nat.zero_add] at hh; exact hh
                                                            have hT := s_TP_of (q := ar2.toInt) hb hd e_p0 hmD (by rw [w44]; exact hS.1) (by rw [w45]; exact hC.1) (by rw [w90]; exact hS.2) (by rw [w91]; exact hC.2) (fun j hj => by rw [w89, q3.2.1, q2.2.1 j (by omega)]; exact k70 j hj) (fun j hj => by rw [w89, q3.2.1, q2.2.2 j (by omega)]; exact c70 j hj)
                                                            have hP := s_PD_O (q := ar2.toInt) hb hd e_p0
                                                            have hr := q6.1
                                                            rw [w48] at hr
                                                            have hV := s_VLS (m := 0) (o := 0) (s := 0) (c := 0) hr hT hP (by unfold t_S; rw [w44, hS.1]; omega) (by unfold t_C; rw [w45, hC.1]; omega) (by decide) (Nat.zero_le _) (Nat.zero_le _)
                                                            have hk := s_an_rk q6.2
                                                            rw [hV] at hk
                                                            exact hk))⟩⟩
noncomputable def wl_e_least : List (Nat × Nat) := [(69, 2), (69, 44), (69, 45), (69, 48), (89, 10005), (89, 610011), (90, 9999), (91, 9999), (92, 9999)]
noncomputable def Q_e_least (gi : Nat → Nat → Int32) (gl : Nat → Nat → Int64) (gr : Nat → Nat → Value) : Int32 → (Nat → Nat → Int32) → (Nat → Nat → Int64) → (Nat → Nat → Value) → Prop := fun (v : Int32) (gi2 : Nat → Nat → Int32) (gl2 : Nat → Nat → Int64) (gr2 : Nat → Nat → Value) => ∀ D : s_D, t_ME 0 gi D → t_Cb D → s_DB D → (gi 69 46).toInt = -1 → v.toInt = s_an (s_LS (s_PD D (D 4)) 0 0 0 0)
theorem c_e_least {X : x_Ext} {d : Nat} {sh : List (Nat ⊕ (Nat × Nat))} {gi : Nat → Nat → Int32} {gl : Nat → Nat → Int64} {gr : Nat → Nat → Value} (hI : t_I sh gi gr) (e_p0 : 1 ≤ (gi 70 4).toInt) : x_Me X (d + 6) n_X12_least [.ref 69] (sh, gi, gl, gr) (t_PI wl_e_least sh gi gl gr (-2147483648) 999999999 (Q_e_least gi gl gr)) := by
  have hX : t_X wl_e_least sh gi gl gr gi gl gr := t_X.rf
  refine me_i f_X12_least (hI.wf.s rfl) rfl rfl rfl ?_
  obtain ⟨l2, u2⟩ := hI.ab (by decide +kernel : t_abr 70 4 4 0 20 = true) (Nat.le_refl _) (Nat.le_refl _)
  refine ev_loc f_X12_least (nx := 1) rfl rfl rfl rfl ?_
  refine ev_loc f_X12_least (nx := 2) rfl rfl rfl rfl ?_
  refine ev_ic f_X12_least (nx := 3) (v := 0) rfl (by decide) rfl ?_
  refine ev_loc f_X12_least (nx := 4) rfl rfl rfl rfl ?_
  refine ev_getR f_X12_least (nx := 7) rfl (hI.wf.s rfl) rfl rfl (hI.wf.r rfl) rfl rfl ?_
  refine ev_ic f_X12_least (nx := 8) (v := 4) rfl (by decide) rfl ?_
  refine ev_ialdv f_X12_least (nx := 9) (w := (gi 70 4)) rfl (hI.wf.s rfl) (by decide) (rfl : (4 : Int32).toNatClampNeg = 4) (by decide) rfl rfl ?_
  refine ev_qI f_X12_least (nx := 12) (r := [.ref 69]) rfl rfl rfl rfl rfl rfl rfl (c_n_leastBy hI ((gi 70 4)) l2 u2 (by omega)) rfl hX rfl (fun w4 gi4 gl4 gr4 l4 u4 hI hX hC4 q4 => ?_)
  have q4 : ∀ D : s_D, t_ME 0 gi D → t_Cb D → s_DB D → (gi 69 46).toInt = -1 → w4.toInt = s_an (s_LS (s_PD D (gi 70 4).toInt) 0 0 0 0) := q4
  refine ev_inV2 f_X12_least (nx := 15) (lo2 := [(0, .ref 69), (1, .int w4)]) rfl rfl rfl rfl f_X12_orNone (hI.wf.s rfl) rfl rfl rfl rfl rfl ?_
  refine ev_loc f_X12_orNone (nx := 1) rfl rfl rfl rfl ?_
  refine ev_ic f_X12_orNone (nx := 2) (v := -1) rfl (by decide) rfl ?_
  refine ev_if f_X12_orNone (t1 := 5) (t2 := 14) rfl rfl rfl (fun h5 => ?_) (fun h5 => ?_)
  · have u6 : w4.toInt ≤ (-1) := t_equ h5 (by decide : ((-1):Int32).toInt ≤ ((-1):Int))
    have l7 : (-1) ≤ w4.toInt := t_eql h5 (by decide : ((-1):Int) ≤ ((-1):Int32).toInt)
    refine ev_loc f_X12_orNone (nx := 6) rfl rfl rfl rfl ?_
    refine ev_bp f_X12_orNone (nx := 8) (v := 6) rfl (by decide) rfl ?_
    refine ev_inV2 f_X12_orNone (nx := 11) (lo2 := [(0, .ref 69), (1, .int 6)]) rfl rfl rfl rfl f_X12_refuse (hI.wf.s rfl) rfl rfl rfl rfl rfl ?_
    refine ev_loc f_X12_refuse (nx := 1) rfl rfl rfl rfl ?_
    refine ev_loc f_X12_refuse (nx := 2) rfl rfl rfl rfl ?_
    refine ev_putIT f_X12_refuse (nx := 5) rfl (hI.wf.s rfl) rfl rfl rfl (hI.put0 (hI.wf.s rfl) rfl rfl) (hX.upI rfl) (fun g8 e8 hI hX => ?_)
    refine ev_ic f_X12_refuse (nx := 6) (v := -1) rfl (by decide) rfl ?_
    refine ev_retK1 f_X12_refuse rfl rfl rfl ?_
    refine ev_jmp f_X12_orNone (nx := 19) rfl rfl rfl ?_
    refine ev_retK1 f_X12_orNone rfl rfl rfl ?_
    exact ev_ret f_X12_least rfl rfl rfl ⟨_, _, _, rfl, hI, hX, ⟨_, rfl, (Int.le_trans (by decide : ((-2147483648):Int) ≤ (-1)) (by decide : ((-1):Int) ≤ ((-1):Int32).toInt)), (Int.le_trans (by decide : ((-1):Int32).toInt ≤ ((-1):Int)) (by decide : ((-1):Int) ≤ 999999999)), (show ∀ D : s_D, t_ME 0 gi D → t_Cb D → s_DB D → (gi 69 46).toInt = -1 → ((-1) : Int) = s_an (s_LS (s_PD D (D 4)) 0 0 0 0) from (by
                                                            intro D hm hb hd h46
                                                            have h4 : (gi 70 4).toInt = D 4 := hm.1.2.1
                                                            have hq := q4 D hm hb hd h46
                                                            rw [h4] at hq
                                                            omega))⟩⟩
  · have r9 : w4.toInt ≠ (-1) := fun e => h5 (Int32.toInt_inj.mp (e.trans (by decide : ((-1):Int) = ((-1) : Int32).toInt)))
    refine ev_loc f_X12_orNone (nx := 15) rfl rfl rfl rfl ?_
    refine ev_loc f_X12_orNone (nx := 16) rfl rfl rfl rfl ?_
    refine ev_inV2 f_X12_orNone (nx := 19) (lo2 := [(0, .ref 69), (1, .int w4)]) rfl rfl rfl rfl f_X12_gives (hI.wf.s rfl) rfl rfl rfl rfl rfl ?_
    refine ev_loc f_X12_gives (nx := 1) rfl rfl rfl rfl ?_
    refine ev_ic f_X12_gives (nx := 2) (v := 0) rfl (by decide) rfl ?_
    refine ev_putIT f_X12_gives (nx := 5) rfl (hI.wf.s rfl) rfl rfl rfl (hI.put0 (hI.wf.s rfl) rfl rfl) (hX.upI rfl) (fun g10 e10 hI hX => ?_)
    refine ev_loc f_X12_gives (nx := 6) rfl rfl rfl rfl ?_
    refine ev_retK1 f_X12_gives rfl rfl rfl ?_
    refine ev_retK1 f_X12_orNone rfl rfl rfl ?_
    exact ev_ret f_X12_least rfl rfl rfl ⟨_, _, _, rfl, hI, hX, ⟨_, rfl, l4, u4, (show ∀ D : s_D, t_ME 0 gi D → t_Cb D → s_DB D → (gi 69 46).toInt = -1 → w4.toInt = s_an (s_LS (s_PD D (D 4)) 0 0 0 0) from (by
                                                            intro D hm hb hd h46
                                                            have h4 : (gi 70 4).toInt = D 4 := hm.1.2.1
                                                            have hq := q4 D hm hb hd h46
                                                            rw [h4] at hq
                                                            omega))⟩⟩
noncomputable def wl_e_quicker : List (Nat × Nat) := [(69, 2), (69, 44), (69, 45), (69, 48), (89, 10005), (89, 610011), (90, 9999), (91, 9999), (92, 9999)]
noncomputable def Q_e_quicker (gi : Nat → Nat → Int32) (gl : Nat → Nat → Int64) (gr : Nat → Nat → Value) (ar1 : Int32) : Int32 → (Nat → Nat → Int32) → (Nat → Nat → Int64) → (Nat → Nat → Value) → Prop := fun (v : Int32) (gi2 : Nat → Nat → Int32) (gl2 : Nat → Nat → Int64) (gr2 : Nat → Nat → Value) => ∀ D : s_D, t_ME 0 gi D → t_Cb D → s_DB D → (gi 69 46).toInt = -1 → ((1 ≤ ar1.toInt ∧ ar1.toInt ≤ 20) → v.toInt = s_an (s_LS (s_PD D ar1.toInt) 0 0 0 0)) ∧ (¬ (1 ≤ ar1.toInt ∧ ar1.toInt ≤ 20) → v.toInt = -1)
theorem c_e_quicker {X : x_Ext} {d : Nat} {sh : List (Nat ⊕ (Nat × Nat))} {gi : Nat → Nat → Int32} {gl : Nat → Nat → Int64} {gr : Nat → Nat → Value} (hI : t_I sh gi gr) (ar1 : Int32) : x_Me X (d + 6) n_X12_quicker [.ref 69, .int ar1] (sh, gi, gl, gr) (t_PI wl_e_quicker sh gi gl gr (-2147483648) 999999999 (Q_e_quicker gi gl gr ar1)) := by
  have hX : t_X wl_e_quicker sh gi gl gr gi gl gr := t_X.rf
  refine me_i f_X12_quicker (hI.wf.s rfl) rfl rfl rfl ?_
  refine ev_loc f_X12_quicker (nx := 1) rfl rfl rfl rfl ?_
  refine ev_anyLE f_X12_quicker (nx := 2) rfl rfl rfl rfl (fun z2 e2 => ?_)
  have i2 : z2.toInt = ar1.toInt := by rw [e2]; exact Int32.toInt_toInt64 _
  refine ev_lc f_X12_quicker (nx := 3) (v := 1) rfl (by decide) rfl ?_
  refine ev_ldL f_X12_quicker (nx := 6) (v := 20) rfl (by decide) rfl ?_
  refine ev_inS3 f_X12_quicker (nx := 9) (lo2 := [(0, .long z2), (2, .long 1), (4, .long 20)]) rfl rfl rfl rfl f_X12_isFrom rfl rfl rfl rfl ?_
  refine ev_loc f_X12_isFrom (nx := 1) rfl rfl rfl rfl ?_
  refine ev_loc f_X12_isFrom (nx := 2) rfl rfl rfl rfl ?_
  refine ev_anyIE f_X12_isFrom (nx := 3) rfl rfl rfl rfl (fun z3 e3 => ?_)
  refine ev_if f_X12_isFrom (t1 := 17) (t2 := 6) rfl rfl rfl (fun h4 => ?_) (fun h4 => ?_)
  · have u5 : ar1.toInt ≤ (0:Int) := Int.le_sub_one_of_lt ((lgc_lt (by decide : (1 : Int64).toInt = 1)).mp (by have hh := h4; rw [e3, e2] at hh; exact hh))
    have u6 : z3.toInt ≤ (-1) := t_ltu h4 (by decide : (0:Int32).toInt ≤ (0:Int)) rfl
    refine ev_ic f_X12_isFrom (nx := 18) (v := 0) rfl (by decide) rfl ?_
    refine ev_retK1 f_X12_isFrom rfl rfl rfl ?_
    refine ev_t f_X12_quicker (t1 := 25) (t2 := 12) rfl rfl rfl (by decide) ?_
    refine ev_loc f_X12_quicker (nx := 26) rfl rfl rfl rfl ?_
    refine ev_ic f_X12_quicker (nx := 27) (v := 1) rfl (by decide) rfl ?_
    refine ev_inV2 f_X12_quicker (nx := 30) (lo2 := [(0, .ref 69), (1, .int 1)]) rfl rfl rfl rfl f_X12_refuse (hI.wf.s rfl) rfl rfl rfl rfl rfl ?_
    refine ev_loc f_X12_refuse (nx := 1) rfl rfl rfl rfl ?_
    refine ev_loc f_X12_refuse (nx := 2) rfl rfl rfl rfl ?_
    refine ev_putIT f_X12_refuse (nx := 5) rfl (hI.wf.s rfl) rfl rfl rfl (hI.put0 (hI.wf.s rfl) rfl rfl) (hX.upI rfl) (fun g7 e7 hI hX => ?_)
    refine ev_ic f_X12_refuse (nx := 6) (v := -1) rfl (by decide) rfl ?_
    refine ev_retK1 f_X12_refuse rfl rfl rfl ?_
    exact ev_ret f_X12_quicker rfl rfl rfl ⟨_, _, _, rfl, hI, hX, ⟨_, rfl, (Int.le_trans (by decide : ((-2147483648):Int) ≤ (-1)) (by decide : ((-1):Int) ≤ ((-1):Int32).toInt)), (Int.le_trans (by decide : ((-1):Int32).toInt ≤ ((-1):Int)) (by decide : ((-1):Int) ≤ 999999999)), (show ∀ D : s_D, t_ME 0 gi D → t_Cb D → s_DB D → (gi 69 46).toInt = -1 → ((1 ≤ ar1.toInt ∧ ar1.toInt ≤ 20) → ((-1) : Int) = s_an (s_LS (s_PD D ar1.toInt) 0 0 0 0)) ∧ (¬ (1 ≤ ar1.toInt ∧ ar1.toInt ≤ 20) → ((-1) : Int) = -1) from (by
                                                            intro D hm hb hd h46
                                                            exact ⟨fun h => absurd h (by omega), fun _ => rfl⟩))⟩⟩
  · have l8 : (1:Int) ≤ ar1.toInt := (lgc_ge (by decide : (1 : Int64).toInt = 1)).mp (by have hh := (t_nlt h4); rw [e3, e2] at hh; exact hh)
    have l9 : 0 ≤ z3.toInt := t_lel (t_nlt h4) (by decide : (0:Int) ≤ (0:Int32).toInt)
    refine ev_loc f_X12_isFrom (nx := 7) rfl rfl rfl rfl ?_
    refine ev_loc f_X12_isFrom (nx := 9) rfl rfl rfl rfl ?_
    refine ev_anyIE f_X12_isFrom (nx := 10) rfl rfl rfl rfl (fun z10 e10 => ?_)
    refine ev_if f_X12_isFrom (t1 := 17) (t2 := 13) rfl rfl rfl (fun h11 => ?_) (fun h11 => ?_)
    · have l12 : (21:Int) ≤ ar1.toInt := Int.add_one_le_of_lt ((lgc_gt (by decide : (20 : Int64).toInt = 20)).mp (by have hh := h11; rw [e10, e2] at hh; exact hh))
      have l13 : 1 ≤ z10.toInt := t_ltl h11 (by decide : (0:Int) ≤ (0:Int32).toInt) rfl
      refine ev_ic f_X12_isFrom (nx := 18) (v := 0) rfl (by decide) rfl ?_
      refine ev_retK1 f_X12_isFrom rfl rfl rfl ?_
      refine ev_t f_X12_quicker (t1 := 25) (t2 := 12) rfl rfl rfl (by decide) ?_
      refine ev_loc f_X12_quicker (nx := 26) rfl rfl rfl rfl ?_
      refine ev_ic f_X12_quicker (nx := 27) (v := 1) rfl (by decide) rfl ?_
      refine ev_inV2 f_X12_quicker (nx := 30) (lo2 := [(0, .ref 69), (1, .int 1)]) rfl rfl rfl rfl f_X12_refuse (hI.wf.s rfl) rfl rfl rfl rfl rfl ?_
      refine ev_loc f_X12_refuse (nx := 1) rfl rfl rfl rfl ?_
      refine ev_loc f_X12_refuse (nx := 2) rfl rfl rfl rfl ?_
      refine ev_putIT f_X12_refuse (nx := 5) rfl (hI.wf.s rfl) rfl rfl rfl (hI.put0 (hI.wf.s rfl) rfl rfl) (hX.upI rfl) (fun g14 e14 hI hX => ?_)
      refine ev_ic f_X12_refuse (nx := 6) (v := -1) rfl (by decide) rfl ?_
      refine ev_retK1 f_X12_refuse rfl rfl rfl ?_
      exact ev_ret f_X12_quicker rfl rfl rfl ⟨_, _, _, rfl, hI, hX, ⟨_, rfl, (Int.le_trans (by decide : ((-2147483648):Int) ≤ (-1)) (by decide : ((-1):Int) ≤ ((-1):Int32).toInt)), (Int.le_trans (by decide : ((-1):Int32).toInt ≤ ((-1):Int)) (by decide : ((-1):Int) ≤ 999999999)), (show ∀ D : s_D, t_ME 0 gi D → t_Cb D → s_DB D → (gi 69 46).toInt = -1 → ((1 ≤ ar1.toInt ∧ ar1.toInt ≤ 20) → ((-1) : Int) = s_an (s_LS (s_PD D ar1.toInt) 0 0 0 0)) ∧ (¬ (1 ≤ ar1.toInt ∧ ar1.toInt ≤ 20) → ((-1) : Int) = -1) from (by
                                                            intro D hm hb hd h46
                                                            exact ⟨fun h => absurd h (by omega), fun _ => rfl⟩))⟩⟩
    · have u15 : ar1.toInt ≤ (20:Int) := (lgc_le (by decide : (20 : Int64).toInt = 20)).mp (by have hh := (t_nlt h11); rw [e10, e2] at hh; exact hh)
      have u16 : z10.toInt ≤ 0 := t_leu (t_nlt h11) (by decide : (0:Int32).toInt ≤ (0:Int))
      refine ev_ic f_X12_isFrom (nx := 14) (v := 1) rfl (by decide) rfl ?_
      refine ev_jmp f_X12_isFrom (nx := 18) rfl rfl rfl ?_
      refine ev_retK1 f_X12_isFrom rfl rfl rfl ?_
      refine ev_f f_X12_quicker (t1 := 25) (t2 := 12) rfl rfl rfl (by decide) ?_
      refine ev_loc f_X12_quicker (nx := 13) rfl rfl rfl rfl ?_
      refine ev_loc f_X12_quicker (nx := 14) rfl rfl rfl rfl ?_
      refine ev_ic f_X12_quicker (nx := 15) (v := 0) rfl (by decide) rfl ?_
      refine ev_loc f_X12_quicker (nx := 16) rfl rfl rfl rfl ?_
      refine ev_qI f_X12_quicker (nx := 19) (r := [.ref 69]) rfl rfl rfl rfl rfl rfl rfl (c_n_leastBy hI (ar1) (Int.le_trans (by decide : (0:Int) ≤ 1) l8) u15 (by omega)) rfl hX rfl (fun w17 gi17 gl17 gr17 l17 u17 hI hX hC17 q17 => ?_)
      have q17 : ∀ D : s_D, t_ME 0 gi D → t_Cb D → s_DB D → (gi 69 46).toInt = -1 → w17.toInt = s_an (s_LS (s_PD D ar1.toInt) 0 0 0 0) := q17
      refine ev_inV2 f_X12_quicker (nx := 22) (lo2 := [(0, .ref 69), (1, .int w17)]) rfl rfl rfl rfl f_X12_orNone (hI.wf.s rfl) rfl rfl rfl rfl rfl ?_
      refine ev_loc f_X12_orNone (nx := 1) rfl rfl rfl rfl ?_
      refine ev_ic f_X12_orNone (nx := 2) (v := -1) rfl (by decide) rfl ?_
      refine ev_if f_X12_orNone (t1 := 5) (t2 := 14) rfl rfl rfl (fun h18 => ?_) (fun h18 => ?_)
      · have u19 : w17.toInt ≤ (-1) := t_equ h18 (by decide : ((-1):Int32).toInt ≤ ((-1):Int))
        have l20 : (-1) ≤ w17.toInt := t_eql h18 (by decide : ((-1):Int) ≤ ((-1):Int32).toInt)
        refine ev_loc f_X12_orNone (nx := 6) rfl rfl rfl rfl ?_
        refine ev_bp f_X12_orNone (nx := 8) (v := 6) rfl (by decide) rfl ?_
        refine ev_inV2 f_X12_orNone (nx := 11) (lo2 := [(0, .ref 69), (1, .int 6)]) rfl rfl rfl rfl f_X12_refuse (hI.wf.s rfl) rfl rfl rfl rfl rfl ?_
        refine ev_loc f_X12_refuse (nx := 1) rfl rfl rfl rfl ?_
        refine ev_loc f_X12_refuse (nx := 2) rfl rfl rfl rfl ?_
        refine ev_putIT f_X12_refuse (nx := 5) rfl (hI.wf.s rfl) rfl rfl rfl (hI.put0 (hI.wf.s rfl) rfl rfl) (hX.upI rfl) (fun g21 e21 hI hX => ?_)
        refine ev_ic f_X12_refuse (nx := 6) (v := -1) rfl (by decide) rfl ?_
        refine ev_retK1 f_X12_refuse rfl rfl rfl ?_
        refine ev_jmp f_X12_orNone (nx := 19) rfl rfl rfl ?_
        refine ev_retK1 f_X12_orNone rfl rfl rfl ?_
        refine ev_jmp f_X12_quicker (nx := 30) rfl rfl rfl ?_
        exact ev_ret f_X12_quicker rfl rfl rfl ⟨_, _, _, rfl, hI, hX, ⟨_, rfl, (Int.le_trans (by decide : ((-2147483648):Int) ≤ (-1)) (by decide : ((-1):Int) ≤ ((-1):Int32).toInt)), (Int.le_trans (by decide : ((-1):Int32).toInt ≤ ((-1):Int)) (by decide : ((-1):Int) ≤ 999999999)), (show ∀ D : s_D, t_ME 0 gi D → t_Cb D → s_DB D → (gi 69 46).toInt = -1 → ((1 ≤ ar1.toInt ∧ ar1.toInt ≤ 20) → ((-1) : Int) = s_an (s_LS (s_PD D ar1.toInt) 0 0 0 0)) ∧ (¬ (1 ≤ ar1.toInt ∧ ar1.toInt ≤ 20) → ((-1) : Int) = -1) from (by
                                                            intro D hm hb hd h46
                                                            have hq := q17 D hm hb hd h46
                                                            exact ⟨fun h => (by omega), fun h => absurd (show _ from ⟨by omega, by omega⟩) h⟩))⟩⟩
      · have r22 : w17.toInt ≠ (-1) := fun e => h18 (Int32.toInt_inj.mp (e.trans (by decide : ((-1):Int) = ((-1) : Int32).toInt)))
        refine ev_loc f_X12_orNone (nx := 15) rfl rfl rfl rfl ?_
        refine ev_loc f_X12_orNone (nx := 16) rfl rfl rfl rfl ?_
        refine ev_inV2 f_X12_orNone (nx := 19) (lo2 := [(0, .ref 69), (1, .int w17)]) rfl rfl rfl rfl f_X12_gives (hI.wf.s rfl) rfl rfl rfl rfl rfl ?_
        refine ev_loc f_X12_gives (nx := 1) rfl rfl rfl rfl ?_
        refine ev_ic f_X12_gives (nx := 2) (v := 0) rfl (by decide) rfl ?_
        refine ev_putIT f_X12_gives (nx := 5) rfl (hI.wf.s rfl) rfl rfl rfl (hI.put0 (hI.wf.s rfl) rfl rfl) (hX.upI rfl) (fun g23 e23 hI hX => ?_)
        refine ev_loc f_X12_gives (nx := 6) rfl rfl rfl rfl ?_
        refine ev_retK1 f_X12_gives rfl rfl rfl ?_
        refine ev_retK1 f_X12_orNone rfl rfl rfl ?_
        refine ev_jmp f_X12_quicker (nx := 30) rfl rfl rfl ?_
        exact ev_ret f_X12_quicker rfl rfl rfl ⟨_, _, _, rfl, hI, hX, ⟨_, rfl, l17, u17, (show ∀ D : s_D, t_ME 0 gi D → t_Cb D → s_DB D → (gi 69 46).toInt = -1 → ((1 ≤ ar1.toInt ∧ ar1.toInt ≤ 20) → w17.toInt = s_an (s_LS (s_PD D ar1.toInt) 0 0 0 0)) ∧ (¬ (1 ≤ ar1.toInt ∧ ar1.toInt ≤ 20) → w17.toInt = -1) from (by
                                                            intro D hm hb hd h46
                                                            have hq := q17 D hm hb hd h46
                                                            exact ⟨fun h => (by omega), fun h => absurd (show _ from ⟨by omega, by omega⟩) h⟩))⟩⟩
noncomputable def wl_e_nextCart : List (Nat × Nat) := [(69, 2), (69, 44), (69, 45), (89, 10005), (89, 610011), (90, 9999), (91, 9999)]
noncomputable def Q_e_nextCart (gi : Nat → Nat → Int32) (gl : Nat → Nat → Int64) (gr : Nat → Nat → Value) (ar1 : Int32) : Int32 → (Nat → Nat → Int32) → (Nat → Nat → Int64) → (Nat → Nat → Value) → Prop := fun (v : Int32) (gi2 : Nat → Nat → Int32) (gl2 : Nat → Nat → Int64) (gr2 : Nat → Nat → Value) => ∀ D : s_D, t_ME 0 gi D → t_Cb D → (gi 69 46).toInt = -1 → ((0 ≤ ar1.toInt ∧ ar1.toInt < D 2) → v.toInt = ((s_or (s_B D) (D 2).toNat ar1.toNatClampNeg : Nat) : Int)) ∧ (¬ (0 ≤ ar1.toInt ∧ ar1.toInt < D 2) → v.toInt = -1)
theorem c_e_nextCart {X : x_Ext} {d : Nat} {sh : List (Nat ⊕ (Nat × Nat))} {gi : Nat → Nat → Int32} {gl : Nat → Nat → Int64} {gr : Nat → Nat → Value} (hI : t_I sh gi gr) (ar1 : Int32) : x_Me X (d + 2) n_X12_nextCart [.ref 69, .int ar1] (sh, gi, gl, gr) (t_PI wl_e_nextCart sh gi gl gr (-1) 5 (Q_e_nextCart gi gl gr ar1)) := by
  have hX : t_X wl_e_nextCart sh gi gl gr gi gl gr := t_X.rf
  refine me_i f_X12_nextCart (hI.wf.s rfl) rfl rfl rfl ?_
  refine ev_loc f_X12_nextCart (nx := 1) rfl rfl rfl rfl ?_
  refine ev_qN f_X12_nextCart (nx := 4) (r := []) rfl rfl rfl rfl rfl rfl rfl (c_n_tellsMinutes hI ) rfl hX rfl (fun gi2 gl2 gr2 hI hX hC2 q2 => ?_)
  have q2 : (∀ j, gi2 70 j = gi 70 j) ∧ (∀ j : Nat, j < 6 → gi2 89 j = gi 70 (53 + 5 * j)) ∧ (∀ j : Nat, j < 6 → gi2 89 (6 + j) = gi 70 (82 + 3 * j)) := q2
  refine ev_loc f_X12_nextCart (nx := 5) rfl rfl rfl rfl ?_
  refine ev_ic f_X12_nextCart (nx := 6) (v := 0) rfl (by decide) rfl ?_
  refine ev_qN f_X12_nextCart (nx := 9) (r := []) rfl rfl rfl rfl rfl rfl rfl (c_n_orders0 hI ) rfl hX rfl (fun gi3 gl3 gr3 hI hX hC3 q3 => ?_)
  have ff4 : (gi2 69 46).toInt = (gi 69 46).toInt := congrArg Int32.toInt ((hC2.1 69 46 rfl).1.trans rfl)
  have q3 : (∀ j, gi3 70 j = gi2 70 j) ∧ (∀ j, gi3 89 j = gi2 89 j) ∧ (∀ D : s_D, t_ME 0 gi2 D → t_Cb D → (∀ j : Nat, j < 6 → gi2 89 j = gi2 70 (53 + 5 * j)) → (gi3 69 44).toInt = D 1 ∧ s_RO (s_A D) (gi3 90) (D 1).toNat) ∧ (∀ D : s_D, t_ME 0 gi2 D → t_Cb D → (∀ j : Nat, j < 6 → gi2 89 (6 + j) = gi2 70 (82 + 3 * j)) → (gi2 69 46).toInt = -1 → (gi3 69 45).toInt = D 2 ∧ s_RO (s_B D) (gi3 91) (D 2).toNat) := q3
  refine ev_loc f_X12_nextCart (nx := 10) rfl rfl rfl rfl ?_
  refine ev_if f_X12_nextCart (t1 := 21) (t2 := 13) rfl rfl rfl (fun h5 => ?_) (fun h5 => ?_)
  · have u6 : ar1.toInt ≤ (-1) := t_ltu h5 (by decide : (0:Int32).toInt ≤ (0:Int)) rfl
    refine ev_loc f_X12_nextCart (nx := 22) rfl rfl rfl rfl ?_
    refine ev_bp f_X12_nextCart (nx := 24) (v := 6) rfl (by decide) rfl ?_
    refine ev_inV2 f_X12_nextCart (nx := 27) (lo2 := [(0, .ref 69), (1, .int 6)]) rfl rfl rfl rfl f_X12_refuse (hI.wf.s rfl) rfl rfl rfl rfl rfl ?_
    refine ev_loc f_X12_refuse (nx := 1) rfl rfl rfl rfl ?_
    refine ev_loc f_X12_refuse (nx := 2) rfl rfl rfl rfl ?_
    refine ev_putIT f_X12_refuse (nx := 5) rfl (hI.wf.s rfl) rfl rfl rfl (hI.put0 (hI.wf.s rfl) rfl rfl) (hX.upI rfl) (fun g7 e7 hI hX => ?_)
    refine ev_ic f_X12_refuse (nx := 6) (v := -1) rfl (by decide) rfl ?_
    refine ev_retK1 f_X12_refuse rfl rfl rfl ?_
    refine ev_jmp f_X12_nextCart (nx := 40) rfl rfl rfl ?_
    exact ev_ret f_X12_nextCart rfl rfl rfl ⟨_, _, _, rfl, hI, hX, ⟨_, rfl, (by decide : ((-1):Int) ≤ ((-1):Int32).toInt), (Int.le_trans (by decide : ((-1):Int32).toInt ≤ ((-1):Int)) (by decide : ((-1):Int) ≤ 5)), (show ∀ D : s_D, t_ME 0 gi D → t_Cb D → (gi 69 46).toInt = -1 → ((0 ≤ ar1.toInt ∧ ar1.toInt < D 2) → ((-1) : Int) = ((s_or (s_B D) (D 2).toNat ar1.toNatClampNeg : Nat) : Int)) ∧ (¬ (0 ≤ ar1.toInt ∧ ar1.toInt < D 2) → ((-1) : Int) = -1) from (by
                                                            intro D hm hb h46
                                                            have fa := t_F_X hC2
                                                            have hmA : t_ME 0 gi2 D := hm.mv hb (fun j _ _ _ => q2.1 (0 + j))
                                                            have k46 : (gi2 69 46).toInt = -1 := by rw [(fa 69 46 (by decide) rfl).1]; exact h46
                                                            have hq := q3.2.2.2 D hmA hb (fun j h => (q2.2.2 j h).trans (q2.1 _).symm) k46
                                                            exact ⟨fun h => absurd h (by omega), fun _ => rfl⟩))⟩⟩
  · have l8 : 0 ≤ ar1.toInt := t_lel (t_nlt h5) (by decide : (0:Int) ≤ (0:Int32).toInt)
    refine ev_loc f_X12_nextCart (nx := 14) rfl rfl rfl rfl ?_
    refine ev_loc f_X12_nextCart (nx := 15) rfl rfl rfl rfl ?_
    refine ev_getI f_X12_nextCart (nx := 18) rfl (hI.wf.s rfl) rfl rfl rfl ?_
    obtain ⟨l9, u9⟩ := hI.b (hI.wf.s (k := 69) rfl) (t_bdK rfl : t_bd 11 45 = some (0, 6))
    refine ev_if f_X12_nextCart (t1 := 30) (t2 := 21) rfl rfl rfl (fun h10 => ?_) (fun h10 => ?_)
    · have r11 : ar1.toInt < (gi3 69 45).toInt := Int32.lt_iff_toInt_lt.mp h10
      have u12 : ar1.toInt ≤ 5 := t_ltu h10 u9 rfl
      have l13 : 1 ≤ (gi3 69 45).toInt := t_ltl h10 l8 rfl
      refine ev_loc f_X12_nextCart (nx := 31) rfl rfl rfl rfl ?_
      refine ev_loc f_X12_nextCart (nx := 32) rfl rfl rfl rfl ?_
      refine ev_getR f_X12_nextCart (nx := 35) rfl (hI.wf.s rfl) rfl rfl (hI.wf.r rfl) rfl rfl ?_
      refine ev_loc f_X12_nextCart (nx := 36) rfl rfl rfl rfl ?_
      refine ev_ialdT f_X12_nextCart (nx := 37) rfl (hI.wf.s rfl) l8 (by decide) u12 (by decide) rfl (fun w14 e14 => ?_)
      obtain ⟨l14, u14⟩ := hI.abi e14 (by decide +kernel : t_abr 91 0 5 0 5 = true) l8 (by decide) u12 (by decide)
      refine ev_inV2 f_X12_nextCart (nx := 40) (lo2 := [(0, .ref 69), (1, .int w14)]) rfl rfl rfl rfl f_X12_gives (hI.wf.s rfl) rfl rfl rfl rfl rfl ?_
      refine ev_loc f_X12_gives (nx := 1) rfl rfl rfl rfl ?_
      refine ev_ic f_X12_gives (nx := 2) (v := 0) rfl (by decide) rfl ?_
      refine ev_putIT f_X12_gives (nx := 5) rfl (hI.wf.s rfl) rfl rfl rfl (hI.put0 (hI.wf.s rfl) rfl rfl) (hX.upI rfl) (fun g15 e15 hI hX => ?_)
      refine ev_loc f_X12_gives (nx := 6) rfl rfl rfl rfl ?_
      refine ev_retK1 f_X12_gives rfl rfl rfl ?_
      exact ev_ret f_X12_nextCart rfl rfl rfl ⟨_, _, _, rfl, hI, hX, ⟨_, rfl, (Int.le_trans (by decide : ((-1):Int) ≤ 0) l14), u14, (show ∀ D : s_D, t_ME 0 gi D → t_Cb D → (gi 69 46).toInt = -1 → ((0 ≤ ar1.toInt ∧ ar1.toInt < D 2) → w14.toInt = ((s_or (s_B D) (D 2).toNat ar1.toNatClampNeg : Nat) : Int)) ∧ (¬ (0 ≤ ar1.toInt ∧ ar1.toInt < D 2) → w14.toInt = -1) from (by
                                                            intro D hm hb h46
                                                            have fa := t_F_X hC2
                                                            have hmA : t_ME 0 gi2 D := hm.mv hb (fun j _ _ _ => q2.1 (0 + j))
                                                            have k46 : (gi2 69 46).toInt = -1 := by rw [(fa 69 46 (by decide) rfl).1]; exact h46
                                                            have hq := q3.2.2.2 D hmA hb (fun j h => (q2.2.2 j h).trans (q2.1 _).symm) k46
                                                            have ka := t_clamp (i := ar1) (by omega)
                                                            refine ⟨fun _ => ?_, fun h => absurd (show _ from ⟨by omega, by omega⟩) h⟩
                                                            rw [e14]; exact hq.2 ar1.toNatClampNeg (by omega)))⟩⟩
    · have r16 : (gi3 69 45).toInt ≤ ar1.toInt := Int32.le_iff_toInt_le.mp (t_nlt h10)
      refine ev_loc f_X12_nextCart (nx := 22) rfl rfl rfl rfl ?_
      refine ev_bp f_X12_nextCart (nx := 24) (v := 6) rfl (by decide) rfl ?_
      refine ev_inV2 f_X12_nextCart (nx := 27) (lo2 := [(0, .ref 69), (1, .int 6)]) rfl rfl rfl rfl f_X12_refuse (hI.wf.s rfl) rfl rfl rfl rfl rfl ?_
      refine ev_loc f_X12_refuse (nx := 1) rfl rfl rfl rfl ?_
      refine ev_loc f_X12_refuse (nx := 2) rfl rfl rfl rfl ?_
      refine ev_putIT f_X12_refuse (nx := 5) rfl (hI.wf.s rfl) rfl rfl rfl (hI.put0 (hI.wf.s rfl) rfl rfl) (hX.upI rfl) (fun g17 e17 hI hX => ?_)
      refine ev_ic f_X12_refuse (nx := 6) (v := -1) rfl (by decide) rfl ?_
      refine ev_retK1 f_X12_refuse rfl rfl rfl ?_
      refine ev_jmp f_X12_nextCart (nx := 40) rfl rfl rfl ?_
      exact ev_ret f_X12_nextCart rfl rfl rfl ⟨_, _, _, rfl, hI, hX, ⟨_, rfl, (by decide : ((-1):Int) ≤ ((-1):Int32).toInt), (Int.le_trans (by decide : ((-1):Int32).toInt ≤ ((-1):Int)) (by decide : ((-1):Int) ≤ 5)), (show ∀ D : s_D, t_ME 0 gi D → t_Cb D → (gi 69 46).toInt = -1 → ((0 ≤ ar1.toInt ∧ ar1.toInt < D 2) → ((-1) : Int) = ((s_or (s_B D) (D 2).toNat ar1.toNatClampNeg : Nat) : Int)) ∧ (¬ (0 ≤ ar1.toInt ∧ ar1.toInt < D 2) → ((-1) : Int) = -1) from (by
                                                            intro D hm hb h46
                                                            have fa := t_F_X hC2
                                                            have hmA : t_ME 0 gi2 D := hm.mv hb (fun j _ _ _ => q2.1 (0 + j))
                                                            have k46 : (gi2 69 46).toInt = -1 := by rw [(fa 69 46 (by decide) rfl).1]; exact h46
                                                            have hq := q3.2.2.2 D hmA hb (fun j h => (q2.2.2 j h).trans (q2.1 _).symm) k46
                                                            exact ⟨fun h => absurd h (by omega), fun _ => rfl⟩))⟩⟩
noncomputable def wl_n_without : List (Nat × Nat) := [(69, 2), (69, 44), (69, 45), (69, 46), (69, 48), (89, 10005), (89, 610011), (90, 9999), (91, 9999), (92, 9999)]
noncomputable def Q_n_without (gi : Nat → Nat → Int32) (gl : Nat → Nat → Int64) (gr : Nat → Nat → Value) (ar1 : Int32) : Int32 → (Nat → Nat → Int32) → (Nat → Nat → Int64) → (Nat → Nat → Value) → Prop := fun (v : Int32) (gi2 : Nat → Nat → Int32) (gl2 : Nat → Nat → Int64) (gr2 : Nat → Nat → Value) => (gi 69 46).toInt = -1 → (gi2 69 46).toInt = -1
theorem c_n_without {X : x_Ext} {d : Nat} {sh : List (Nat ⊕ (Nat × Nat))} {gi : Nat → Nat → Int32} {gl : Nat → Nat → Int64} {gr : Nat → Nat → Value} (hI : t_I sh gi gr) (ar1 : Int32) (e_p0 : 1 ≤ (gi 70 4).toInt) : x_Me X (d + 6) n_X12_without [.ref 69, .int ar1] (sh, gi, gl, gr) (t_PI wl_n_without sh gi gl gr (-2147483648) 999999999 (Q_n_without gi gl gr ar1)) := by
  have hX : t_X wl_n_without sh gi gl gr gi gl gr := t_X.rf
  refine me_i f_X12_without (hI.wf.s rfl) rfl rfl rfl ?_
  obtain ⟨l2, u2⟩ := hI.ab (by decide +kernel : t_abr 70 4 4 0 20 = true) (Nat.le_refl _) (Nat.le_refl _)
  refine ev_loc f_X12_without (nx := 1) rfl rfl rfl rfl ?_
  refine ev_loc f_X12_without (nx := 2) rfl rfl rfl rfl ?_
  refine ev_inV2 f_X12_without (nx := 5) (lo2 := [(0, .ref 69), (1, .int ar1)]) rfl rfl rfl rfl f_X12_isCart (hI.wf.s rfl) rfl rfl rfl rfl rfl ?_
  refine ev_loc f_X12_isCart (nx := 1) rfl rfl rfl rfl ?_
  refine ev_if f_X12_isCart (t1 := 18) (t2 := 4) rfl rfl rfl (fun h3 => ?_) (fun h3 => ?_)
  · have u4 : ar1.toInt ≤ (-1) := t_ltu h3 (by decide : (0:Int32).toInt ≤ (0:Int)) rfl
    refine ev_ic f_X12_isCart (nx := 19) (v := 0) rfl (by decide) rfl ?_
    refine ev_retK1 f_X12_isCart rfl rfl rfl ?_
    refine ev_t f_X12_without (t1 := 8) (t2 := 14) rfl rfl rfl (by decide) ?_
    refine ev_loc f_X12_without (nx := 9) rfl rfl rfl rfl ?_
    refine ev_ic f_X12_without (nx := 10) (v := 1) rfl (by decide) rfl ?_
    refine ev_inV2 f_X12_without (nx := 13) (lo2 := [(0, .ref 69), (1, .int 1)]) rfl rfl rfl rfl f_X12_refuse (hI.wf.s rfl) rfl rfl rfl rfl rfl ?_
    refine ev_loc f_X12_refuse (nx := 1) rfl rfl rfl rfl ?_
    refine ev_loc f_X12_refuse (nx := 2) rfl rfl rfl rfl ?_
    refine ev_putIT f_X12_refuse (nx := 5) rfl (hI.wf.s rfl) rfl rfl rfl (hI.put0 (hI.wf.s rfl) rfl rfl) (hX.upI rfl) (fun g5 e5 hI hX => ?_)
    refine ev_ic f_X12_refuse (nx := 6) (v := -1) rfl (by decide) rfl ?_
    refine ev_retK1 f_X12_refuse rfl rfl rfl ?_
    exact ev_ret f_X12_without rfl rfl rfl ⟨_, _, _, rfl, hI, hX, ⟨_, rfl, (Int.le_trans (by decide : ((-2147483648):Int) ≤ (-1)) (by decide : ((-1):Int) ≤ ((-1):Int32).toInt)), (Int.le_trans (by decide : ((-1):Int32).toInt ≤ ((-1):Int)) (by decide : ((-1):Int) ≤ 999999999)), (show (gi 69 46).toInt = -1 → (g5 69 46).toInt = -1 from (by
                                                            intro h46
                                                            have ff6 : (g5 69 46).toInt = (gi 69 46).toInt := congrArg Int32.toInt ((by rw [e5]; exact x_up2_off (Or.inr (by decide)) : g5 69 46 = gi 69 46).trans rfl)
                                                            have e46 : g5 69 46 = gi 69 46 := by rw [e5, x_up2_off (Or.inr (by decide))]
                                                            rw [e46]; exact h46))⟩⟩
  · have l7 : 0 ≤ ar1.toInt := t_lel (t_nlt h3) (by decide : (0:Int) ≤ (0:Int32).toInt)
    refine ev_loc f_X12_isCart (nx := 5) rfl rfl rfl rfl ?_
    refine ev_loc f_X12_isCart (nx := 6) rfl rfl rfl rfl ?_
    refine ev_getR f_X12_isCart (nx := 9) rfl (hI.wf.s rfl) rfl rfl (hI.wf.r rfl) rfl rfl ?_
    refine ev_ic f_X12_isCart (nx := 10) (v := 2) rfl (by decide) rfl ?_
    obtain ⟨l8, u8⟩ := hI.ab (by decide +kernel : t_abr 70 2 2 0 6 = true) (Nat.le_refl _) (Nat.le_refl _)
    refine ev_ialdv f_X12_isCart (nx := 11) (w := (gi 70 2)) rfl (hI.wf.s rfl) (by decide) (rfl : (2 : Int32).toNatClampNeg = 2) (by decide) rfl rfl ?_
    refine ev_if f_X12_isCart (t1 := 18) (t2 := 14) rfl rfl rfl (fun h9 => ?_) (fun h9 => ?_)
    · have r10 : (gi 70 2).toInt ≤ ar1.toInt := Int32.le_iff_toInt_le.mp h9
      refine ev_ic f_X12_isCart (nx := 19) (v := 0) rfl (by decide) rfl ?_
      refine ev_retK1 f_X12_isCart rfl rfl rfl ?_
      refine ev_t f_X12_without (t1 := 8) (t2 := 14) rfl rfl rfl (by decide) ?_
      refine ev_loc f_X12_without (nx := 9) rfl rfl rfl rfl ?_
      refine ev_ic f_X12_without (nx := 10) (v := 1) rfl (by decide) rfl ?_
      refine ev_inV2 f_X12_without (nx := 13) (lo2 := [(0, .ref 69), (1, .int 1)]) rfl rfl rfl rfl f_X12_refuse (hI.wf.s rfl) rfl rfl rfl rfl rfl ?_
      refine ev_loc f_X12_refuse (nx := 1) rfl rfl rfl rfl ?_
      refine ev_loc f_X12_refuse (nx := 2) rfl rfl rfl rfl ?_
      refine ev_putIT f_X12_refuse (nx := 5) rfl (hI.wf.s rfl) rfl rfl rfl (hI.put0 (hI.wf.s rfl) rfl rfl) (hX.upI rfl) (fun g11 e11 hI hX => ?_)
      refine ev_ic f_X12_refuse (nx := 6) (v := -1) rfl (by decide) rfl ?_
      refine ev_retK1 f_X12_refuse rfl rfl rfl ?_
      exact ev_ret f_X12_without rfl rfl rfl ⟨_, _, _, rfl, hI, hX, ⟨_, rfl, (Int.le_trans (by decide : ((-2147483648):Int) ≤ (-1)) (by decide : ((-1):Int) ≤ ((-1):Int32).toInt)), (Int.le_trans (by decide : ((-1):Int32).toInt ≤ ((-1):Int)) (by decide : ((-1):Int) ≤ 999999999)), (show (gi 69 46).toInt = -1 → (g11 69 46).toInt = -1 from (by
                                                            intro h46
                                                            have ff12 : (g11 69 46).toInt = (gi 69 46).toInt := congrArg Int32.toInt ((by rw [e11]; exact x_up2_off (Or.inr (by decide)) : g11 69 46 = gi 69 46).trans rfl)
                                                            have e46 : g11 69 46 = gi 69 46 := by rw [e11, x_up2_off (Or.inr (by decide))]
                                                            rw [e46]; exact h46))⟩⟩
    · have r13 : ar1.toInt < (gi 70 2).toInt := Int32.lt_iff_toInt_lt.mp (t_nle h9)
      have u14 : ar1.toInt ≤ 5 := t_ltu (t_nle h9) u8 rfl
      have l15 : 1 ≤ (gi 70 2).toInt := t_ltl (t_nle h9) l7 rfl
      refine ev_ic f_X12_isCart (nx := 15) (v := 1) rfl (by decide) rfl ?_
      refine ev_jmp f_X12_isCart (nx := 19) rfl rfl rfl ?_
      refine ev_retK1 f_X12_isCart rfl rfl rfl ?_
      refine ev_f f_X12_without (t1 := 8) (t2 := 14) rfl rfl rfl (by decide) ?_
      refine ev_loc f_X12_without (nx := 15) rfl rfl rfl rfl ?_
      refine ev_loc f_X12_without (nx := 16) rfl rfl rfl rfl ?_
      refine ev_putIT f_X12_without (nx := 19) rfl (hI.wf.s rfl) rfl rfl rfl (hI.put0 (hI.wf.s rfl) rfl rfl) (hX.upI rfl) (fun g16 e16 hI hX => ?_)
      refine ev_loc f_X12_without (nx := 20) rfl rfl rfl rfl ?_
      refine ev_ic f_X12_without (nx := 21) (v := 0) rfl (by decide) rfl ?_
      refine ev_loc f_X12_without (nx := 22) rfl rfl rfl rfl ?_
      refine ev_getR f_X12_without (nx := 25) rfl (hI.wf.s rfl) rfl rfl (hI.wf.r rfl) rfl rfl ?_
      refine ev_ic f_X12_without (nx := 26) (v := 4) rfl (by decide) rfl ?_
      refine ev_ialdv f_X12_without (nx := 27) (w := (gi 70 4)) rfl (hI.wf.s rfl) (by decide) (rfl : (4 : Int32).toNatClampNeg = 4) (by decide) ((by rw [e16]; exact x_up2_off (Or.inr (by decide)) : g16 70 4 = gi 70 4).trans rfl) rfl ?_
      refine ev_qI f_X12_without (nx := 30) (r := []) rfl rfl rfl rfl rfl rfl rfl (c_m_leastBy hI (0) ((gi 70 4)) l2 u2 (by omega)) rfl hX rfl (fun w18 gi18 gl18 gr18 l18 u18 hI hX hC18 q18 => ?_)
      have q18 : Q_m_leastBy g16 gl gr (0 : Int32) (gi 70 4) w18 gi18 gl18 gr18 := q18
      refine ev_loc f_X12_without (nx := 31) (lo' := [(2, .int w18), (0, .ref 69), (1, .int ar1)]) rfl rfl rfl rfl ?_
      refine ev_loc f_X12_without (nx := 32) rfl rfl rfl rfl ?_
      refine ev_ic f_X12_without (nx := 33) (v := -1) rfl (by decide) rfl ?_
      refine ev_putIT f_X12_without (nx := 36) rfl (hI.wf.s rfl) rfl rfl rfl (hI.put0 (hI.wf.s rfl) rfl rfl) (hX.upI rfl) (fun g19 e19 hI hX => ?_)
      refine ev_loc f_X12_without (nx := 37) rfl rfl rfl rfl ?_
      refine ev_loc f_X12_without (nx := 38) rfl rfl rfl rfl ?_
      refine ev_inV2 f_X12_without (nx := 41) (lo2 := [(0, .ref 69), (1, .int w18)]) rfl rfl rfl rfl f_X12_orNone (hI.wf.s rfl) rfl rfl rfl rfl rfl ?_
      refine ev_loc f_X12_orNone (nx := 1) rfl rfl rfl rfl ?_
      refine ev_ic f_X12_orNone (nx := 2) (v := -1) rfl (by decide) rfl ?_
      refine ev_if f_X12_orNone (t1 := 5) (t2 := 14) rfl rfl rfl (fun h20 => ?_) (fun h20 => ?_)
      · have u21 : w18.toInt ≤ (-1) := t_equ h20 (by decide : ((-1):Int32).toInt ≤ ((-1):Int))
        have l22 : (-1) ≤ w18.toInt := t_eql h20 (by decide : ((-1):Int) ≤ ((-1):Int32).toInt)
        refine ev_loc f_X12_orNone (nx := 6) rfl rfl rfl rfl ?_
        refine ev_bp f_X12_orNone (nx := 8) (v := 6) rfl (by decide) rfl ?_
        refine ev_inV2 f_X12_orNone (nx := 11) (lo2 := [(0, .ref 69), (1, .int 6)]) rfl rfl rfl rfl f_X12_refuse (hI.wf.s rfl) rfl rfl rfl rfl rfl ?_
        refine ev_loc f_X12_refuse (nx := 1) rfl rfl rfl rfl ?_
        refine ev_loc f_X12_refuse (nx := 2) rfl rfl rfl rfl ?_
        refine ev_putIT f_X12_refuse (nx := 5) rfl (hI.wf.s rfl) rfl rfl rfl (hI.put0 (hI.wf.s rfl) rfl rfl) (hX.upI rfl) (fun g23 e23 hI hX => ?_)
        refine ev_ic f_X12_refuse (nx := 6) (v := -1) rfl (by decide) rfl ?_
        refine ev_retK1 f_X12_refuse rfl rfl rfl ?_
        refine ev_jmp f_X12_orNone (nx := 19) rfl rfl rfl ?_
        refine ev_retK1 f_X12_orNone rfl rfl rfl ?_
        exact ev_ret f_X12_without rfl rfl rfl ⟨_, _, _, rfl, hI, hX, ⟨_, rfl, (Int.le_trans (by decide : ((-2147483648):Int) ≤ (-1)) (by decide : ((-1):Int) ≤ ((-1):Int32).toInt)), (Int.le_trans (by decide : ((-1):Int32).toInt ≤ ((-1):Int)) (by decide : ((-1):Int) ≤ 999999999)), (show (gi 69 46).toInt = -1 → (g23 69 46).toInt = -1 from (by
                                                            intro _
                                                            rw [e23, x_up2_off (Or.inr (by decide)), e19, x_up2_at]; rfl))⟩⟩
      · have r24 : w18.toInt ≠ (-1) := fun e => h20 (Int32.toInt_inj.mp (e.trans (by decide : ((-1):Int) = ((-1) : Int32).toInt)))
        refine ev_loc f_X12_orNone (nx := 15) rfl rfl rfl rfl ?_
        refine ev_loc f_X12_orNone (nx := 16) rfl rfl rfl rfl ?_
        refine ev_inV2 f_X12_orNone (nx := 19) (lo2 := [(0, .ref 69), (1, .int w18)]) rfl rfl rfl rfl f_X12_gives (hI.wf.s rfl) rfl rfl rfl rfl rfl ?_
        refine ev_loc f_X12_gives (nx := 1) rfl rfl rfl rfl ?_
        refine ev_ic f_X12_gives (nx := 2) (v := 0) rfl (by decide) rfl ?_
        refine ev_putIT f_X12_gives (nx := 5) rfl (hI.wf.s rfl) rfl rfl rfl (hI.put0 (hI.wf.s rfl) rfl rfl) (hX.upI rfl) (fun g25 e25 hI hX => ?_)
        refine ev_loc f_X12_gives (nx := 6) rfl rfl rfl rfl ?_
        refine ev_retK1 f_X12_gives rfl rfl rfl ?_
        refine ev_retK1 f_X12_orNone rfl rfl rfl ?_
        exact ev_ret f_X12_without rfl rfl rfl ⟨_, _, _, rfl, hI, hX, ⟨_, rfl, l18, u18, (show (gi 69 46).toInt = -1 → (g25 69 46).toInt = -1 from (by
                                                            intro _
                                                            rw [e25, x_up2_off (Or.inr (by decide)), e19, x_up2_at]; rfl))⟩⟩
/-! ===== no CART is left out between calls; least: the answers are alike; nextCart too ===== -/
noncomputable def t_LE (c : Nat) (sh : List (Nat ⊕ (Nat × Nat))) (gi : Nat → Nat → Int32) (gl : Nat → Nat → Int64) (gr : Nat → Nat → Value) : Prop := t_LD c sh gi gl gr ∧ (gi 69 46).toInt = -1
theorem W1_N {sh : List (Nat ⊕ (Nat × Nat))} {gi : Nat → Nat → Int32} {gl : Nat → Nat → Int64} {gr : Nat → Nat → Value} (hR : x_R W1 (sh, gi, gl, gr)) : (gi 69 46).toInt = -1 := by
  have h : gi 69 46 = x_cI w1_c69 46 := ((x_gc_R hR (c := w1_c69) rfl).2.2.2 _ (by decide)).1
  rw [h]
  decide +kernel
section LEAL
variable {sh : List (Nat ⊕ (Nat × Nat))} {gi g1 g2 : Nat → Nat → Int32} {gl l1 l2 : Nat → Nat → Int64} {gr r1 r2 : Nat → Nat → Value} {w1 w2 : List (Nat × Nat)} {A : Int32} {x1 x2 : Int32}
theorem t_N46 (hN : (gi 69 46).toInt = -1) (f1 : t_F w1 gi gl gr g1 l1 r1) (f2 : t_F w2 g1 l1 r1 g2 l2 r2) (h : (t_un w1 (69, 46) && t_un w2 (69, 46)) = true) : (g2 69 46).toInt = -1 := by
  rw [Bool.and_eq_true] at h
  rw [(f2 69 46 (by decide) (t_un_ok h.2)).1, (f1 69 46 (by decide) (t_un_ok h.1)).1]; exact hN
theorem t_N46a (hN : (gi 69 46).toInt = -1) (f1 : t_F w1 gi gl gr g1 l1 r1) (h : t_un w1 (69, 46) = true) : (g1 69 46).toInt = -1 := by
  rw [(f1 69 46 (by decide) (t_un_ok h)).1]; exact hN
theorem t_L_least (hI : t_I sh gi gr) (hD : t_DR sh.length gi gl gr) (f1 : t_F w1 gi gl gr g1 l1 r1) (h70 : t_nc w1 70 = true) (hN1 : (g1 69 46).toInt = -1) (h4 : 1 ≤ (g1 70 4).toInt) (q1 : Q_d_least gi gl gr x1 g1 l1 r1) (q2 : Q_e_least g1 l1 r1 x2 g2 l2 r2) : x1 = x2 := by
  obtain ⟨u, hu, D, hb, hv, hl, hc, hm⟩ := hD.1
  have r70 : g1 70 = gi 70 := t_F_nc f1 h70 (by decide)
  have hm2 : t_ME 0 g1 D := by unfold t_ME; rw [r70]; exact hm
  have hd : s_DB D := s_DB_of hI hm hb (by rw [← r70]; exact h4)
  have k1 := q1 u D hu hl hc hb hv.1 (t_D_sail hI hb hm) hd
  have k2 := q2 D hm2 hb hd hN1
  exact Int32.toInt_inj.mp (k1.trans k2.symm)
theorem t_L_quicker (hI : t_I sh gi gr) (hD : t_DR sh.length gi gl gr) (f1 : t_F w1 gi gl gr g1 l1 r1) (h70 : t_nc w1 70 = true) (hN1 : (g1 69 46).toInt = -1) (h4 : 1 ≤ (g1 70 4).toInt) (q1 : Q_d_quicker gi gl gr A x1 g1 l1 r1) (q2 : Q_e_quicker g1 l1 r1 A x2 g2 l2 r2) : x1 = x2 := by
  obtain ⟨u, hu, D, hb, hv, hl, hc, hm⟩ := hD.1
  have r70 : g1 70 = gi 70 := t_F_nc f1 h70 (by decide)
  have hm2 : t_ME 0 g1 D := by unfold t_ME; rw [r70]; exact hm
  have hd : s_DB D := s_DB_of hI hm hb (by rw [← r70]; exact h4)
  have k1 := q1 u D hu hl hc hb hv.1 (t_D_sail hI hb hm) hd
  have k2 := q2 D hm2 hb hd hN1
  apply Int32.toInt_inj.mp
  by_cases hin : 1 ≤ A.toInt ∧ A.toInt ≤ 20
  · rw [k1.1 hin, k2.1 hin]
  · rw [k1.2 hin, k2.2 hin]
theorem t_L_nextCart (hD : t_DR sh.length gi gl gr) (f1 : t_F w1 gi gl gr g1 l1 r1) (h70 : t_nc w1 70 = true) (hN1 : (g1 69 46).toInt = -1) (q1 : Q_d_nextCart gi gl gr A x1 g1 l1 r1) (q2 : Q_e_nextCart g1 l1 r1 A x2 g2 l2 r2) : x1 = x2 := by
  obtain ⟨u, hu, D, hb, hv, hl, hc, hm⟩ := hD.1
  have r70 : g1 70 = gi 70 := t_F_nc f1 h70 (by decide)
  have hm2 : t_ME 0 g1 D := by unfold t_ME; rw [r70]; exact hm
  have k1 := q1 u D hu hl hc hb hv.1
  have k2 := q2 D hm2 hb hN1
  apply Int32.toInt_inj.mp
  by_cases hin : 0 ≤ A.toInt ∧ A.toInt < D 2
  · rw [k1.1 hin, k2.1 hin]
  · rw [k1.2 hin, k2.2 hin]
end LEAL
