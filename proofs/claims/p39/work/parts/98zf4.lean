/-! ===== printed by riv.py: the least, of the class ===== -/
noncomputable def wl_d_leastWaits : List (Nat × Nat) := [(28, 4), (28, 5)]
noncomputable def Q_d_leastWaits (gi : Nat → Nat → Int32) (gl : Nat → Nat → Int64) (gr : Nat → Nat → Value) : Int32 → (Nat → Nat → Int32) → (Nat → Nat → Int64) → (Nat → Nat → Value) → Prop := fun (v : Int32) (gi2 : Nat → Nat → Int32) (gl2 : Nat → Nat → Int64) (gr2 : Nat → Nat → Value) => ∀ P : Nat → Nat → Int, s_CP P gi gr → s_PB P → s_PO P → v.toInt = s_LS P 0 0 0 0
theorem c_d_leastWaits {X : x_Ext} {d : Nat} {sh : List (Nat ⊕ (Nat × Nat))} {gi : Nat → Nat → Int32} {gl : Nat → Nat → Int64} {gr : Nat → Nat → Value} (hI : t_I sh gi gr) : x_Me X (d + 17) n_X1_leastWaits [.ref 28] (sh, gi, gl, gr) (t_PI wl_d_leastWaits sh gi gl gr (-2147483648) 2147483647 (Q_d_leastWaits gi gl gr)) := by
  have hX : t_X wl_d_leastWaits sh gi gl gr gi gl gr := t_X.rf
  refine me_i f_X1_leastWaits (hI.wf.s rfl) rfl rfl rfl ?_
  refine ev_loc f_X1_leastWaits (nx := 1) rfl rfl rfl rfl ?_
  refine ev_ldI f_X1_leastWaits (nx := 3) (v := 1000000000) rfl (by decide) rfl ?_
  refine ev_putIT f_X1_leastWaits (nx := 6) rfl (hI.wf.s rfl) rfl rfl rfl (hI.put0 (hI.wf.s rfl) rfl rfl) (hX.upI rfl) (fun g1 e1 hI hX => ?_)
  refine ev_loc f_X1_leastWaits (nx := 7) rfl rfl rfl rfl ?_
  refine ev_ic f_X1_leastWaits (nx := 8) (v := 0) rfl (by decide) rfl ?_
  refine ev_putIT f_X1_leastWaits (nx := 11) rfl (hI.wf.s rfl) rfl rfl rfl (hI.put0 (hI.wf.s rfl) rfl rfl) (hX.upI rfl) (fun g2 e2 hI hX => ?_)
  refine ev_loc f_X1_leastWaits (nx := 12) rfl rfl rfl rfl ?_
  have hXh := hX
  refine ev_ic f_X1_leastWaits (nx := 13) (v := 0) rfl (by decide) rfl ?_
  refine ev_ic f_X1_leastWaits (nx := 14) (v := 0) rfl (by decide) rfl ?_
  refine ev_ic f_X1_leastWaits (nx := 15) (v := 0) rfl (by decide) rfl ?_
  refine ev_ic f_X1_leastWaits (nx := 16) (v := 0) rfl (by decide) rfl ?_
  refine ev_ic f_X1_leastWaits (nx := 17) (v := 0) rfl (by decide) rfl ?_
  refine ev_qN f_X1_leastWaits (nx := 20) (r := []) rfl rfl rfl rfl rfl rfl rfl (c_d_search hI (0) (0) (by decide : (0:Int) ≤ (0:Int32).toInt) (Int.le_trans (by decide : (0:Int32).toInt ≤ (0:Int)) (by decide : (0:Int) ≤ 1)) (0) (by decide : (0:Int) ≤ (0:Int32).toInt) (Int.le_trans (by decide : (0:Int32).toInt ≤ (0:Int)) (by decide : (0:Int) ≤ 6)) (0) (by decide : (0:Int) ≤ (0:Int32).toInt) (Int.le_trans (by decide : (0:Int32).toInt ≤ (0:Int)) (by decide : (0:Int) ≤ 6)) (0)) rfl hX rfl (fun gi3 gl3 gr3 hI hX hC3 q3 => ?_)
  have ff4 : (g2 28 4).toInt = 1000000000 := (congrArg Int32.toInt ((by rw [e2]; exact x_up2_off (Or.inr (by decide)) : g2 28 4 = g1 28 4).trans (by rw [e1]; exact x_up2_at _ _ _ _ : g1 28 4 = 1000000000))).trans (by decide)
  have ff5 : (g2 28 5).toInt = 0 := (congrArg Int32.toInt (by rw [e2]; exact x_up2_at _ _ _ _ : g2 28 5 = 0)).trans (by decide)
  have q3 : ∀ P : Nat → Nat → Int, s_CP P g2 gr → s_PB P → s_PO P → 0 ≤ (0 : Int) → (0 : Int) ≤ 2000 → (0 : Int) ≤ P 0 0 → (0 : Int) ≤ P 0 1 → 0 ≤ (0 : Int) → (0 : Int) ≤ 240000 * ((0 : Int) + (0 : Int)) → (g2 28 4).toInt ≤ 1000000000 → s_BB (g2 28 4).toInt (g2 28 5).toInt ((0 : Int) + s_LS P (0 : Int) (0 : Int32).toNatClampNeg (0 : Int32).toNatClampNeg (0 : Int32).toNatClampNeg) (gi3 28 4).toInt := q3
  refine ev_loc f_X1_leastWaits (nx := 21) rfl rfl rfl rfl ?_
  refine ev_getI f_X1_leastWaits (nx := 24) rfl (hI.wf.s rfl) rfl rfl rfl ?_
  exact ev_ret f_X1_leastWaits rfl rfl rfl ⟨_, _, _, rfl, hI, hX, ⟨_, rfl, (t_lo (gi3 28 4)), (t_hi (gi3 28 4)), (show ∀ P : Nat → Nat → Int, s_CP P gi gr → s_PB P → s_PO P → (gi3 28 4).toInt = s_LS P 0 0 0 0 from (by
                                                            intro P hc hb hp
                                                            have hc2 := hc.fr hXh rfl rfl
                                                            have h4 : (g2 28 4).toInt = 1000000000 := by rw [e2, x_up2_off (Or.inr (by decide)), e1, x_up2_at]; rfl
                                                            have h5 : (g2 28 5).toInt = 0 := by rw [e2, x_up2_at]; rfl
                                                            have z0 : (0 : Int32).toInt = 0 := rfl
                                                            have hq := q3 P hc2 hb hp (by decide) (by decide) hb.1.1 hb.1.2.2.1 (by decide) (by decide) (by rw [h4]; exact Int.le_refl _)
                                                            rw [h4, h5, Int.zero_add] at hq
                                                            have hl := s_LS_lo hp 0 (0 : Int32).toNatClampNeg (0 : Int32).toNatClampNeg (0 : Int32).toNatClampNeg
                                                            have hh := s_LS_hi P 0 (0 : Int32).toNatClampNeg (0 : Int32).toNatClampNeg (0 : Int32).toNatClampNeg
                                                            exact s_BB_L hq hl hh))⟩⟩
noncomputable def wl_d_takeAll : List (Nat × Nat) := [(28, 0), (28, 1), (29, 0), (30, 9999), (31, 9999), (32, 9999), (33, 9999), (34, 9999), (35, 0), (36, 9999), (37, 9999), (38, 9999), (39, 9999), (40, 9999)]
noncomputable def Q_d_takeAll (gi : Nat → Nat → Int32) (gl : Nat → Nat → Int64) (gr : Nat → Nat → Value) (ar1 : Nat) : (Nat → Nat → Int32) → (Nat → Nat → Int64) → (Nat → Nat → Value) → Prop := fun (gi2 : Nat → Nat → Int32) (gl2 : Nat → Nat → Int64) (gr2 : Nat → Nat → Value) => ∀ D : s_D, t_VL gr ar1 → t_CV gi gl ar1 D → (ar1 = 3 ∨ 102 ≤ ar1) → t_Cb D → (∀ s : Nat, (s : Int) < D 1 → 0 ≤ D (56 + 5 * s) ∧ D (56 + 5 * s) ≤ 1) → s_CP (s_PD D (D 4)) gi2 gr2 ∧ gr2 28 0 = .ref ar1 ∧ t_CV gi2 gl2 ar1 D ∧ (gi2 28 1).toInt = D 4
theorem c_d_takeAll {X : x_Ext} {d : Nat} {sh : List (Nat ⊕ (Nat × Nat))} {gi : Nat → Nat → Int32} {gl : Nat → Nat → Int64} {gr : Nat → Nat → Value} (hI : t_I sh gi gr) (ar1 : Nat) (p_a1 : t_Rv sh gr ar1) : x_Me X (d + 4) n_X1_takeAll [.ref 28, .ref ar1] (sh, gi, gl, gr) (t_PN wl_d_takeAll sh gi gl gr (Q_d_takeAll gi gl gr ar1)) := by
  have hX : t_X wl_d_takeAll sh gi gl gr gi gl gr := t_X.rf
  refine me_i f_X1_takeAll (hI.wf.s rfl) rfl rfl rfl ?_
  refine ev_loc f_X1_takeAll (nx := 1) rfl rfl rfl rfl ?_
  refine ev_loc f_X1_takeAll (nx := 2) rfl rfl rfl rfl ?_
  have hE2 := t_eqf_up (gr := gr) (j := 0) (v := .ref ar1) (hI.wf.s (k := 28) rfl) rfl
  have hT2 := t_cross hI p_a1
  replace p_a1 := p_a1.ext hE2
  refine ev_putRT f_X1_takeAll (nx := 5) rfl (hI.wf.s rfl) rfl rfl rfl rfl hT2 (hX.upR rfl hE2) (fun g2 e2 hI hX => ?_)
  rw [← e2] at p_a1
  refine ev_loc f_X1_takeAll (nx := 6) rfl rfl rfl rfl ?_
  refine ev_loc f_X1_takeAll (nx := 7) rfl rfl rfl rfl ?_
  refine ev_getI f_X1_takeAll (nx := 10) rfl p_a1.1 rfl rfl rfl ?_
  refine ev_putIT f_X1_takeAll (nx := 13) rfl (hI.wf.s rfl) rfl rfl rfl (hI.put0 (hI.wf.s rfl) rfl rfl) (hX.upI rfl) (fun g3 e3 hI hX => ?_)
  refine ev_loc f_X1_takeAll (nx := 14) rfl rfl rfl rfl ?_
  have hXa := hX
  refine ev_loc f_X1_takeAll (nx := 15) rfl rfl rfl rfl ?_
  refine ev_ic f_X1_takeAll (nx := 16) (v := 0) rfl (by decide) rfl ?_
  refine ev_ic f_X1_takeAll (nx := 17) (v := -1) rfl (by decide) rfl ?_
  refine ev_ic f_X1_takeAll (nx := 18) (v := 0) rfl (by decide) rfl ?_
  refine ev_qN f_X1_takeAll (nx := 21) (r := []) rfl rfl rfl rfl rfl rfl rfl (c_d_takeShips hI (ar1) p_a1) rfl hX rfl (fun gi4 gl4 gr4 hI hX hC4 q4 => ?_)
  have q4 : ∀ D : s_D, t_VL g2 ar1 → t_CV g3 gl ar1 D → (ar1 = 3 ∨ 102 ≤ ar1) → t_Cb D → (∀ s : Nat, (s : Int) < D 1 → 0 ≤ D (56 + 5 * s) ∧ D (56 + 5 * s) ≤ 1) → (gi4 29 0).toInt = D 1 ∧ s_RO (s_A D) (gi4 30) (D 1).toNat ∧ s_RM (s_A D) (gi4 31) (D 1).toNat ∧ s_RX (s_A D) (fun k => D (54 + 5 * k)) (gi4 32) (D 1).toNat ∧ s_RX (s_A D) (fun k => D (55 + 5 * k)) (gi4 33) (D 1).toNat ∧ s_RX (s_A D) (fun k => D (56 + 5 * k)) (gi4 34) (D 1).toNat := q4
  replace p_a1 := p_a1.ext hC4.2
  refine ev_loc f_X1_takeAll (nx := 22) rfl rfl rfl rfl ?_
  have hXb := hX
  refine ev_loc f_X1_takeAll (nx := 23) rfl rfl rfl rfl ?_
  refine ev_ic f_X1_takeAll (nx := 24) (v := -1) rfl (by decide) rfl ?_
  refine ev_qN f_X1_takeAll (nx := 27) (r := []) rfl rfl rfl rfl rfl rfl rfl (c_d_takeCarts hI (ar1) p_a1) rfl hX rfl (fun gi5 gl5 gr5 hI hX hC5 q5 => ?_)
  have q5 : ∀ D : s_D, t_VL gr4 ar1 → t_CV gi4 gl4 ar1 D → (ar1 = 3 ∨ 102 ≤ ar1) → t_Cb D → (gi5 35 0).toInt = D 2 ∧ s_RO (s_B D) (gi5 36) (D 2).toNat ∧ s_RM (s_B D) (gi5 37) (D 2).toNat ∧ s_RX (s_B D) (fun k => D (83 + 3 * k)) (gi5 38) (D 2).toNat ∧ s_RX (s_B D) (fun k => D (84 + 3 * k)) (gi5 39) (D 2).toNat ∧ s_RX (s_B D) (fun _ => 0) (gi5 40) (D 2).toNat := q5
  replace p_a1 := p_a1.ext hC5.2
  exact ev_ret f_X1_takeAll rfl rfl rfl ⟨_, _, _, rfl, hI, hX, ⟨rfl, (show ∀ D : s_D, t_VL gr ar1 → t_CV gi gl ar1 D → (ar1 = 3 ∨ 102 ≤ ar1) → t_Cb D → (∀ s : Nat, (s : Int) < D 1 → 0 ≤ D (56 + 5 * s) ∧ D (56 + 5 * s) ≤ 1) → s_CP (s_PD D (D 4)) gi5 gr5 ∧ gr5 28 0 = .ref ar1 ∧ t_CV gi5 gl5 ar1 D ∧ (gi5 28 1).toInt = D 4 from (by
                                                            intro D hl hc hv hb hsl
                                                            have hKa := t_nd_fr hXa rfl
                                                            have hla := hl.fr (fun K k1 k2 => hKa K (by omega))
                                                            have hca := hc.fr (fun K k1 k2 => hKa K (by omega))
                                                            have hqa := q4 D hla hca hv hb hsl
                                                            have hKb := t_nd_fr hXb rfl
                                                            have hlb := hl.fr (fun K k1 k2 => hKb K (by omega))
                                                            have hcb := hc.fr (fun K k1 k2 => hKb K (by omega))
                                                            have hqb := q5 D hlb hcb hv hb
                                                            have hKc := t_nd_fr hX rfl
                                                            obtain ⟨a0, a1, a2, a3, a4, a5⟩ := hqa
                                                            obtain ⟨c0, c1, c2, c3, c4, c5⟩ := hqb
                                                            have fb := t_F_X hC5
                                                            have fa := t_F_X hC4
                                                            have b1 := hb.2.1
                                                            have b2 := hb.2.2
                                                            have e29 : gi5 29 = gi4 29 := t_F_nc fb rfl (by decide)
                                                            have e31 : gi5 31 = gi4 31 := t_F_nc fb rfl (by decide)
                                                            have e32 : gi5 32 = gi4 32 := t_F_nc fb rfl (by decide)
                                                            have e33 : gi5 33 = gi4 33 := t_F_nc fb rfl (by decide)
                                                            have e34 : gi5 34 = gi4 34 := t_F_nc fb rfl (by decide)
                                                            have er : gr5 28 0 = .ref ar1 := by rw [(fb 28 0 (by decide) rfl).2.2, (fa 28 0 (by decide) rfl).2.2, e2, x_up2_at]
                                                            have e1 : (gi5 28 1).toInt = D 4 := by rw [(fb 28 1 (by decide) rfl).1, (fa 28 1 (by decide) rfl).1, e3, x_up2_at]; exact hc.2.1.1
                                                            refine ⟨⟨⟨?_, ?_⟩, fun s hs => ?_, fun c hc3 => ?_, Or.inr ⟨ar1, er, hv, fun m => ?_⟩⟩, er, hc.fr (fun K k1 k2 => hKc K (by omega)), e1⟩
                                                            · rw [e29, a0]; show D 1 = (((D 1).toNat : Nat) : Int); omega
                                                            · rw [c0]; show D 2 = (((D 2).toNat : Nat) : Int); omega
                                                            · have hs2 : s < (D 1).toNat := Int.ofNat_lt.mp (show (s : Int) < (((D 1).toNat : Nat) : Int) from hs)
                                                              rw [e31, e32, e33, e34]
                                                              exact ⟨a2 s hs2, a3 s hs2, a4 s hs2, a5 s hs2⟩
                                                            · have hc4 : c < (D 2).toNat := Int.ofNat_lt.mp (show (c : Int) < (((D 2).toNat : Nat) : Int) from hc3)
                                                              exact ⟨c2 c hc4, c3 c hc4, c4 c hc4, c5 c hc4⟩
                                                            · rw [e1, (hKc ar1 (by omega)).1, hc.2.1.2.1, hc.2.1.2.2.1]; rfl))⟩⟩
noncomputable def wl_d_least : List (Nat × Nat) := [(0, 0), (28, 0), (28, 1), (28, 4), (28, 5), (29, 0), (30, 9999), (31, 9999), (32, 9999), (33, 9999), (34, 9999), (35, 0), (36, 9999), (37, 9999), (38, 9999), (39, 9999), (40, 9999)]
noncomputable def Q_d_least (gi : Nat → Nat → Int32) (gl : Nat → Nat → Int64) (gr : Nat → Nat → Value) : Int32 → (Nat → Nat → Int32) → (Nat → Nat → Int64) → (Nat → Nat → Value) → Prop := fun (v : Int32) (gi2 : Nat → Nat → Int32) (gl2 : Nat → Nat → Int64) (gr2 : Nat → Nat → Value) => ∀ (u : Nat) (D : s_D), gr 0 6 = .ref u → t_VL gr u → t_CV gi gl u D → t_Cb D → (u = 3 ∨ 102 ≤ u) → (∀ s : Nat, (s : Int) < D 1 → 0 ≤ D (56 + 5 * s) ∧ D (56 + 5 * s) ≤ 1) → s_DB D → v.toInt = s_an (s_LS (s_PD D (D 4)) 0 0 0 0)
theorem c_d_least {X : x_Ext} {d : Nat} {sh : List (Nat ⊕ (Nat × Nat))} {gi : Nat → Nat → Int32} {gl : Nat → Nat → Int64} {gr : Nat → Nat → Value} (hI : t_I sh gi gr) : x_Me X (d + 19) n_X11_least [.ref 0] (sh, gi, gl, gr) (t_PI wl_d_least sh gi gl gr (-2147483648) 999999999 (Q_d_least gi gl gr)) := by
  have hX : t_X wl_d_least sh gi gl gr gi gl gr := t_X.rf
  refine me_i f_X11_least (hI.wf.s rfl) rfl rfl rfl ?_
  refine ev_loc f_X11_least (nx := 1) rfl rfl rfl rfl ?_
  refine ev_loc f_X11_least (nx := 2) rfl rfl rfl rfl ?_
  refine ev_inV1 f_X11_least (nx := 5) (lo2 := [(0, .ref 0)]) rfl rfl rfl rfl f_X11_leastAsTold (hI.wf.s rfl) rfl rfl rfl rfl rfl ?_
  refine ev_loc f_X11_leastAsTold (nx := 1) rfl rfl rfl rfl ?_
  refine ev_getR f_X11_leastAsTold (nx := 4) rfl (hI.wf.s rfl) rfl rfl (hI.wf.r rfl) rfl rfl ?_
  refine ev_loc f_X11_leastAsTold (nx := 5) rfl rfl rfl rfl ?_
  obtain ⟨a1, e1, p1⟩ := hI.2.2.2.1.1
  refine ev_getR f_X11_leastAsTold (nx := 8) rfl (hI.wf.s rfl) rfl rfl e1 rfl rfl ?_
  refine ev_qN f_X11_leastAsTold (nx := 11) (r := []) rfl rfl rfl rfl rfl rfl rfl (c_d_takeAll hI (a1) p1) rfl hX rfl (fun gi2 gl2 gr2 hI hX hC2 q2 => ?_)
  have q2 : ∀ D : s_D, t_VL gr a1 → t_CV gi gl a1 D → (a1 = 3 ∨ 102 ≤ a1) → t_Cb D → (∀ s : Nat, (s : Int) < D 1 → 0 ≤ D (56 + 5 * s) ∧ D (56 + 5 * s) ≤ 1) → s_CP (s_PD D (D 4)) gi2 gr2 ∧ gr2 28 0 = .ref a1 ∧ t_CV gi2 gl2 a1 D ∧ (gi2 28 1).toInt = D 4 := q2
  replace p1 := p1.ext hC2.2
  refine ev_loc f_X11_leastAsTold (nx := 12) rfl rfl rfl rfl ?_
  refine ev_getR f_X11_leastAsTold (nx := 15) rfl (hI.wf.s rfl) rfl rfl (hI.wf.r rfl) rfl rfl ?_
  refine ev_qI f_X11_leastAsTold (nx := 18) (r := []) rfl rfl rfl rfl rfl rfl rfl (c_d_leastWaits hI ) rfl hX rfl (fun w3 gi3 gl3 gr3 l3 u3 hI hX hC3 q3 => ?_)
  have q3 : ∀ P : Nat → Nat → Int, s_CP P gi2 gr2 → s_PB P → s_PO P → w3.toInt = s_LS P 0 0 0 0 := q3
  replace p1 := p1.ext hC3.2
  refine ev_retK1 f_X11_leastAsTold rfl rfl rfl ?_
  refine ev_inV2 f_X11_least (nx := 8) (lo2 := [(0, .ref 0), (1, .int w3)]) rfl rfl rfl rfl f_X11_answerWaits (hI.wf.s rfl) rfl rfl rfl rfl rfl ?_
  refine ev_loc f_X11_answerWaits (nx := 1) rfl rfl rfl rfl ?_
  refine ev_ldW f_X11_answerWaits (nx := 4) (v := 1000000000) rfl (by decide) rfl ?_
  refine ev_if f_X11_answerWaits (t1 := 16) (t2 := 7) rfl rfl rfl (fun h4 => ?_) (fun h4 => ?_)
  · have u5 : w3.toInt ≤ 999999999 := t_ltu h4 (by decide : (1000000000:Int32).toInt ≤ (1000000000:Int)) rfl
    refine ev_loc f_X11_answerWaits (nx := 17) rfl rfl rfl rfl ?_
    refine ev_loc f_X11_answerWaits (nx := 18) rfl rfl rfl rfl ?_
    refine ev_inV2 f_X11_answerWaits (nx := 21) (lo2 := [(0, .ref 0), (1, .int w3)]) rfl rfl rfl rfl f_X11_answer (hI.wf.s rfl) rfl rfl rfl rfl rfl ?_
    refine ev_loc f_X11_answer (nx := 1) rfl rfl rfl rfl ?_
    refine ev_ic f_X11_answer (nx := 2) (v := 0) rfl (by decide) rfl ?_
    refine ev_putIT f_X11_answer (nx := 5) rfl (hI.wf.s rfl) rfl rfl rfl (hI.put0 (hI.wf.s rfl) rfl rfl) (hX.upI rfl) (fun g6 e6 hI hX => ?_)
    refine ev_loc f_X11_answer (nx := 6) rfl rfl rfl rfl ?_
    refine ev_retK1 f_X11_answer rfl rfl rfl ?_
    refine ev_retK1 f_X11_answerWaits rfl rfl rfl ?_
    exact ev_ret f_X11_least rfl rfl rfl ⟨_, _, _, rfl, hI, hX, ⟨_, rfl, l3, u5, (show ∀ (u : Nat) (D : s_D), gr 0 6 = .ref u → t_VL gr u → t_CV gi gl u D → t_Cb D → (u = 3 ∨ 102 ≤ u) → (∀ s : Nat, (s : Int) < D 1 → 0 ≤ D (56 + 5 * s) ∧ D (56 + 5 * s) ≤ 1) → s_DB D → w3.toInt = s_an (s_LS (s_PD D (D 4)) 0 0 0 0) from (by
                                                            intro u D hu hl hc hb hv hsl hd
                                                            have ha : a1 = u := Value.ref.inj (e1.symm.trans hu)
                                                            subst ha
                                                            have hq := q2 D hl hc hv hb hsl
                                                            have hq2 := q3 _ hq.1 (s_PD_B hb hd ⟨hd.2.2.1.1, hd.2.2.1.2⟩) (s_PD_O hb hd hd.2.2.1.1)
                                                            rw [← hq2]
                                                            unfold s_an
                                                            split
                                                            · omega
                                                            · omega))⟩⟩
  · have l7 : 1000000000 ≤ w3.toInt := t_lel (t_nlt h4) (by decide : (1000000000:Int) ≤ (1000000000:Int32).toInt)
    refine ev_loc f_X11_answerWaits (nx := 8) rfl rfl rfl rfl ?_
    refine ev_bp f_X11_answerWaits (nx := 10) (v := 6) rfl (by decide) rfl ?_
    refine ev_inV2 f_X11_answerWaits (nx := 13) (lo2 := [(0, .ref 0), (1, .int 6)]) rfl rfl rfl rfl f_X11_refuse (hI.wf.s rfl) rfl rfl rfl rfl rfl ?_
    refine ev_loc f_X11_refuse (nx := 1) rfl rfl rfl rfl ?_
    refine ev_loc f_X11_refuse (nx := 2) rfl rfl rfl rfl ?_
    refine ev_putIT f_X11_refuse (nx := 5) rfl (hI.wf.s rfl) rfl rfl rfl (hI.put0 (hI.wf.s rfl) rfl rfl) (hX.upI rfl) (fun g8 e8 hI hX => ?_)
    refine ev_ic f_X11_refuse (nx := 6) (v := -1) rfl (by decide) rfl ?_
    refine ev_retK1 f_X11_refuse rfl rfl rfl ?_
    refine ev_jmp f_X11_answerWaits (nx := 21) rfl rfl rfl ?_
    refine ev_retK1 f_X11_answerWaits rfl rfl rfl ?_
    exact ev_ret f_X11_least rfl rfl rfl ⟨_, _, _, rfl, hI, hX, ⟨_, rfl, (Int.le_trans (by decide : ((-2147483648):Int) ≤ (-1)) (by decide : ((-1):Int) ≤ ((-1):Int32).toInt)), (Int.le_trans (by decide : ((-1):Int32).toInt ≤ ((-1):Int)) (by decide : ((-1):Int) ≤ 999999999)), (show ∀ (u : Nat) (D : s_D), gr 0 6 = .ref u → t_VL gr u → t_CV gi gl u D → t_Cb D → (u = 3 ∨ 102 ≤ u) → (∀ s : Nat, (s : Int) < D 1 → 0 ≤ D (56 + 5 * s) ∧ D (56 + 5 * s) ≤ 1) → s_DB D → ((-1) : Int) = s_an (s_LS (s_PD D (D 4)) 0 0 0 0) from (by
                                                            intro u D hu hl hc hb hv hsl hd
                                                            have ha : a1 = u := Value.ref.inj (e1.symm.trans hu)
                                                            subst ha
                                                            have hq := q2 D hl hc hv hb hsl
                                                            have hq2 := q3 _ hq.1 (s_PD_B hb hd ⟨hd.2.2.1.1, hd.2.2.1.2⟩) (s_PD_O hb hd hd.2.2.1.1)
                                                            rw [← hq2]
                                                            unfold s_an
                                                            split
                                                            · omega
                                                            · omega))⟩⟩
noncomputable def wl_d_quicker : List (Nat × Nat) := [(0, 0), (28, 0), (28, 1), (28, 4), (28, 5), (29, 0), (30, 9999), (31, 9999), (32, 9999), (33, 9999), (34, 9999), (35, 0), (36, 9999), (37, 9999), (38, 9999), (39, 9999), (40, 9999)]
noncomputable def Q_d_quicker (gi : Nat → Nat → Int32) (gl : Nat → Nat → Int64) (gr : Nat → Nat → Value) (ar1 : Int32) : Int32 → (Nat → Nat → Int32) → (Nat → Nat → Int64) → (Nat → Nat → Value) → Prop := fun (v : Int32) (gi2 : Nat → Nat → Int32) (gl2 : Nat → Nat → Int64) (gr2 : Nat → Nat → Value) => ∀ (u : Nat) (D : s_D), gr 0 6 = .ref u → t_VL gr u → t_CV gi gl u D → t_Cb D → (u = 3 ∨ 102 ≤ u) → (∀ s : Nat, (s : Int) < D 1 → 0 ≤ D (56 + 5 * s) ∧ D (56 + 5 * s) ≤ 1) → s_DB D → ((1 ≤ ar1.toInt ∧ ar1.toInt ≤ 20) → v.toInt = s_an (s_LS (s_PD D ar1.toInt) 0 0 0 0)) ∧ (¬ (1 ≤ ar1.toInt ∧ ar1.toInt ≤ 20) → v.toInt = -1)
theorem c_d_quicker {X : x_Ext} {d : Nat} {sh : List (Nat ⊕ (Nat × Nat))} {gi : Nat → Nat → Int32} {gl : Nat → Nat → Int64} {gr : Nat → Nat → Value} (hI : t_I sh gi gr) (ar1 : Int32) : x_Me X (d + 18) n_X11_quicker [.ref 0, .int ar1] (sh, gi, gl, gr) (t_PI wl_d_quicker sh gi gl gr (-2147483648) 999999999 (Q_d_quicker gi gl gr ar1)) := by
  have hX : t_X wl_d_quicker sh gi gl gr gi gl gr := t_X.rf
  refine me_i f_X11_quicker (hI.wf.s rfl) rfl rfl rfl ?_
  refine ev_loc f_X11_quicker (nx := 1) rfl rfl rfl rfl ?_
  refine ev_ic f_X11_quicker (nx := 2) (v := 1) rfl (by decide) rfl ?_
  refine ev_if f_X11_quicker (t1 := 11) (t2 := 5) rfl rfl rfl (fun h1 => ?_) (fun h1 => ?_)
  · have u2 : ar1.toInt ≤ 0 := t_ltu h1 (by decide : (1:Int32).toInt ≤ (1:Int)) rfl
    refine ev_loc f_X11_quicker (nx := 12) rfl rfl rfl rfl ?_
    refine ev_ic f_X11_quicker (nx := 13) (v := 1) rfl (by decide) rfl ?_
    refine ev_inV2 f_X11_quicker (nx := 16) (lo2 := [(0, .ref 0), (1, .int 1)]) rfl rfl rfl rfl f_X11_refuse (hI.wf.s rfl) rfl rfl rfl rfl rfl ?_
    refine ev_loc f_X11_refuse (nx := 1) rfl rfl rfl rfl ?_
    refine ev_loc f_X11_refuse (nx := 2) rfl rfl rfl rfl ?_
    refine ev_putIT f_X11_refuse (nx := 5) rfl (hI.wf.s rfl) rfl rfl rfl (hI.put0 (hI.wf.s rfl) rfl rfl) (hX.upI rfl) (fun g3 e3 hI hX => ?_)
    refine ev_ic f_X11_refuse (nx := 6) (v := -1) rfl (by decide) rfl ?_
    refine ev_retK1 f_X11_refuse rfl rfl rfl ?_
    exact ev_ret f_X11_quicker rfl rfl rfl ⟨_, _, _, rfl, hI, hX, ⟨_, rfl, (Int.le_trans (by decide : ((-2147483648):Int) ≤ (-1)) (by decide : ((-1):Int) ≤ ((-1):Int32).toInt)), (Int.le_trans (by decide : ((-1):Int32).toInt ≤ ((-1):Int)) (by decide : ((-1):Int) ≤ 999999999)), (show ∀ (u : Nat) (D : s_D), gr 0 6 = .ref u → t_VL gr u → t_CV gi gl u D → t_Cb D → (u = 3 ∨ 102 ≤ u) → (∀ s : Nat, (s : Int) < D 1 → 0 ≤ D (56 + 5 * s) ∧ D (56 + 5 * s) ≤ 1) → s_DB D → ((1 ≤ ar1.toInt ∧ ar1.toInt ≤ 20) → ((-1) : Int) = s_an (s_LS (s_PD D ar1.toInt) 0 0 0 0)) ∧ (¬ (1 ≤ ar1.toInt ∧ ar1.toInt ≤ 20) → ((-1) : Int) = -1) from (by
                                                            intro u D hu hl hc hb hv hsl hd
                                                            exact ⟨fun h => absurd h (by omega), fun _ => rfl⟩))⟩⟩
  · have l4 : 1 ≤ ar1.toInt := t_lel (t_nlt h1) (by decide : (1:Int) ≤ (1:Int32).toInt)
    refine ev_loc f_X11_quicker (nx := 6) rfl rfl rfl rfl ?_
    refine ev_bp f_X11_quicker (nx := 8) (v := 20) rfl (by decide) rfl ?_
    refine ev_if f_X11_quicker (t1 := 17) (t2 := 11) rfl rfl rfl (fun h5 => ?_) (fun h5 => ?_)
    · have u6 : ar1.toInt ≤ 20 := t_leu h5 (by decide : (20:Int32).toInt ≤ (20:Int))
      refine ev_loc f_X11_quicker (nx := 18) rfl rfl rfl rfl ?_
      refine ev_getR f_X11_quicker (nx := 21) rfl (hI.wf.s rfl) rfl rfl (hI.wf.r rfl) rfl rfl ?_
      refine ev_loc f_X11_quicker (nx := 22) rfl rfl rfl rfl ?_
      obtain ⟨a7, e7, p7⟩ := hI.2.2.2.1.1
      refine ev_getR f_X11_quicker (nx := 25) rfl (hI.wf.s rfl) rfl rfl e7 rfl rfl ?_
      refine ev_qN f_X11_quicker (nx := 28) (r := []) rfl rfl rfl rfl rfl rfl rfl (c_d_takeAll hI (a7) p7) rfl hX rfl (fun gi8 gl8 gr8 hI hX hC8 q8 => ?_)
      have q8 : ∀ D : s_D, t_VL gr a7 → t_CV gi gl a7 D → (a7 = 3 ∨ 102 ≤ a7) → t_Cb D → (∀ s : Nat, (s : Int) < D 1 → 0 ≤ D (56 + 5 * s) ∧ D (56 + 5 * s) ≤ 1) → s_CP (s_PD D (D 4)) gi8 gr8 ∧ gr8 28 0 = .ref a7 ∧ t_CV gi8 gl8 a7 D ∧ (gi8 28 1).toInt = D 4 := q8
      replace p7 := p7.ext hC8.2
      refine ev_loc f_X11_quicker (nx := 29) rfl rfl rfl rfl ?_
      refine ev_getR f_X11_quicker (nx := 32) rfl (hI.wf.s rfl) rfl rfl (hI.wf.r rfl) rfl rfl ?_
      refine ev_loc f_X11_quicker (nx := 33) rfl rfl rfl rfl ?_
      refine ev_putIT f_X11_quicker (nx := 36) rfl (hI.wf.s rfl) rfl rfl rfl (hI.put0 (hI.wf.s rfl) rfl rfl) (hX.upI rfl) (fun g9 e9 hI hX => ?_)
      refine ev_loc f_X11_quicker (nx := 37) rfl rfl rfl rfl ?_
      refine ev_loc f_X11_quicker (nx := 38) rfl rfl rfl rfl ?_
      refine ev_getR f_X11_quicker (nx := 41) rfl (hI.wf.s rfl) rfl rfl (hI.wf.r rfl) rfl rfl ?_
      refine ev_qI f_X11_quicker (nx := 44) (r := [.ref 0]) rfl rfl rfl rfl rfl rfl rfl (c_d_leastWaits hI ) rfl hX rfl (fun w10 gi10 gl10 gr10 l10 u10 hI hX hC10 q10 => ?_)
      have q10 : ∀ P : Nat → Nat → Int, s_CP P g9 gr8 → s_PB P → s_PO P → w10.toInt = s_LS P 0 0 0 0 := q10
      replace p7 := p7.ext hC10.2
      refine ev_inV2 f_X11_quicker (nx := 47) (lo2 := [(0, .ref 0), (1, .int w10)]) rfl rfl rfl rfl f_X11_answerWaits (hI.wf.s rfl) rfl rfl rfl rfl rfl ?_
      refine ev_loc f_X11_answerWaits (nx := 1) rfl rfl rfl rfl ?_
      refine ev_ldW f_X11_answerWaits (nx := 4) (v := 1000000000) rfl (by decide) rfl ?_
      refine ev_if f_X11_answerWaits (t1 := 16) (t2 := 7) rfl rfl rfl (fun h11 => ?_) (fun h11 => ?_)
      · have u12 : w10.toInt ≤ 999999999 := t_ltu h11 (by decide : (1000000000:Int32).toInt ≤ (1000000000:Int)) rfl
        refine ev_loc f_X11_answerWaits (nx := 17) rfl rfl rfl rfl ?_
        refine ev_loc f_X11_answerWaits (nx := 18) rfl rfl rfl rfl ?_
        refine ev_inV2 f_X11_answerWaits (nx := 21) (lo2 := [(0, .ref 0), (1, .int w10)]) rfl rfl rfl rfl f_X11_answer (hI.wf.s rfl) rfl rfl rfl rfl rfl ?_
        refine ev_loc f_X11_answer (nx := 1) rfl rfl rfl rfl ?_
        refine ev_ic f_X11_answer (nx := 2) (v := 0) rfl (by decide) rfl ?_
        refine ev_putIT f_X11_answer (nx := 5) rfl (hI.wf.s rfl) rfl rfl rfl (hI.put0 (hI.wf.s rfl) rfl rfl) (hX.upI rfl) (fun g13 e13 hI hX => ?_)
        refine ev_loc f_X11_answer (nx := 6) rfl rfl rfl rfl ?_
        refine ev_retK1 f_X11_answer rfl rfl rfl ?_
        refine ev_retK1 f_X11_answerWaits rfl rfl rfl ?_
        exact ev_ret f_X11_quicker rfl rfl rfl ⟨_, _, _, rfl, hI, hX, ⟨_, rfl, l10, u12, (show ∀ (u : Nat) (D : s_D), gr 0 6 = .ref u → t_VL gr u → t_CV gi gl u D → t_Cb D → (u = 3 ∨ 102 ≤ u) → (∀ s : Nat, (s : Int) < D 1 → 0 ≤ D (56 + 5 * s) ∧ D (56 + 5 * s) ≤ 1) → s_DB D → ((1 ≤ ar1.toInt ∧ ar1.toInt ≤ 20) → w10.toInt = s_an (s_LS (s_PD D ar1.toInt) 0 0 0 0)) ∧ (¬ (1 ≤ ar1.toInt ∧ ar1.toInt ≤ 20) → w10.toInt = -1) from (by
                                                            intro u D hu hl hc hb hv hsl hd
                                                            have ha : a7 = u := Value.ref.inj (e7.symm.trans hu)
                                                            subst ha
                                                            have hq := q8 D hl hc hv hb hsl
                                                            refine ⟨fun h => ?_, fun h => absurd (show _ from ⟨by omega, by omega⟩) h⟩
                                                            have hcp := hq.1.qk e9 hq.2.1 hv hq.2.2.1 (P' := s_PD D ar1.toInt) rfl (fun k j hk => s_PD_q D _ _ k j hk) (fun j => rfl)
                                                            have hq2 := q10 _ hcp (s_PD_B hb hd ⟨h.1, by omega⟩) (s_PD_O hb hd h.1)
                                                            rw [← hq2]
                                                            unfold s_an
                                                            split
                                                            · omega
                                                            · omega))⟩⟩
      · have l14 : 1000000000 ≤ w10.toInt := t_lel (t_nlt h11) (by decide : (1000000000:Int) ≤ (1000000000:Int32).toInt)
        refine ev_loc f_X11_answerWaits (nx := 8) rfl rfl rfl rfl ?_
        refine ev_bp f_X11_answerWaits (nx := 10) (v := 6) rfl (by decide) rfl ?_
        refine ev_inV2 f_X11_answerWaits (nx := 13) (lo2 := [(0, .ref 0), (1, .int 6)]) rfl rfl rfl rfl f_X11_refuse (hI.wf.s rfl) rfl rfl rfl rfl rfl ?_
        refine ev_loc f_X11_refuse (nx := 1) rfl rfl rfl rfl ?_
        refine ev_loc f_X11_refuse (nx := 2) rfl rfl rfl rfl ?_
        refine ev_putIT f_X11_refuse (nx := 5) rfl (hI.wf.s rfl) rfl rfl rfl (hI.put0 (hI.wf.s rfl) rfl rfl) (hX.upI rfl) (fun g15 e15 hI hX => ?_)
        refine ev_ic f_X11_refuse (nx := 6) (v := -1) rfl (by decide) rfl ?_
        refine ev_retK1 f_X11_refuse rfl rfl rfl ?_
        refine ev_jmp f_X11_answerWaits (nx := 21) rfl rfl rfl ?_
        refine ev_retK1 f_X11_answerWaits rfl rfl rfl ?_
        exact ev_ret f_X11_quicker rfl rfl rfl ⟨_, _, _, rfl, hI, hX, ⟨_, rfl, (Int.le_trans (by decide : ((-2147483648):Int) ≤ (-1)) (by decide : ((-1):Int) ≤ ((-1):Int32).toInt)), (Int.le_trans (by decide : ((-1):Int32).toInt ≤ ((-1):Int)) (by decide : ((-1):Int) ≤ 999999999)), (show ∀ (u : Nat) (D : s_D), gr 0 6 = .ref u → t_VL gr u → t_CV gi gl u D → t_Cb D → (u = 3 ∨ 102 ≤ u) → (∀ s : Nat, (s : Int) < D 1 → 0 ≤ D (56 + 5 * s) ∧ D (56 + 5 * s) ≤ 1) → s_DB D → ((1 ≤ ar1.toInt ∧ ar1.toInt ≤ 20) → ((-1) : Int) = s_an (s_LS (s_PD D ar1.toInt) 0 0 0 0)) ∧ (¬ (1 ≤ ar1.toInt ∧ ar1.toInt ≤ 20) → ((-1) : Int) = -1) from (by
                                                            intro u D hu hl hc hb hv hsl hd
                                                            have ha : a7 = u := Value.ref.inj (e7.symm.trans hu)
                                                            subst ha
                                                            have hq := q8 D hl hc hv hb hsl
                                                            refine ⟨fun h => ?_, fun h => absurd (show _ from ⟨by omega, by omega⟩) h⟩
                                                            have hcp := hq.1.qk e9 hq.2.1 hv hq.2.2.1 (P' := s_PD D ar1.toInt) rfl (fun k j hk => s_PD_q D _ _ k j hk) (fun j => rfl)
                                                            have hq2 := q10 _ hcp (s_PD_B hb hd ⟨h.1, by omega⟩) (s_PD_O hb hd h.1)
                                                            rw [← hq2]
                                                            unfold s_an
                                                            split
                                                            · omega
                                                            · omega))⟩⟩
    · have l16 : 21 ≤ ar1.toInt := t_ltl (t_nle h5) (by decide : (20:Int) ≤ (20:Int32).toInt) rfl
      refine ev_loc f_X11_quicker (nx := 12) rfl rfl rfl rfl ?_
      refine ev_ic f_X11_quicker (nx := 13) (v := 1) rfl (by decide) rfl ?_
      refine ev_inV2 f_X11_quicker (nx := 16) (lo2 := [(0, .ref 0), (1, .int 1)]) rfl rfl rfl rfl f_X11_refuse (hI.wf.s rfl) rfl rfl rfl rfl rfl ?_
      refine ev_loc f_X11_refuse (nx := 1) rfl rfl rfl rfl ?_
      refine ev_loc f_X11_refuse (nx := 2) rfl rfl rfl rfl ?_
      refine ev_putIT f_X11_refuse (nx := 5) rfl (hI.wf.s rfl) rfl rfl rfl (hI.put0 (hI.wf.s rfl) rfl rfl) (hX.upI rfl) (fun g17 e17 hI hX => ?_)
      refine ev_ic f_X11_refuse (nx := 6) (v := -1) rfl (by decide) rfl ?_
      refine ev_retK1 f_X11_refuse rfl rfl rfl ?_
      exact ev_ret f_X11_quicker rfl rfl rfl ⟨_, _, _, rfl, hI, hX, ⟨_, rfl, (Int.le_trans (by decide : ((-2147483648):Int) ≤ (-1)) (by decide : ((-1):Int) ≤ ((-1):Int32).toInt)), (Int.le_trans (by decide : ((-1):Int32).toInt ≤ ((-1):Int)) (by decide : ((-1):Int) ≤ 999999999)), (show ∀ (u : Nat) (D : s_D), gr 0 6 = .ref u → t_VL gr u → t_CV gi gl u D → t_Cb D → (u = 3 ∨ 102 ≤ u) → (∀ s : Nat, (s : Int) < D 1 → 0 ≤ D (56 + 5 * s) ∧ D (56 + 5 * s) ≤ 1) → s_DB D → ((1 ≤ ar1.toInt ∧ ar1.toInt ≤ 20) → ((-1) : Int) = s_an (s_LS (s_PD D ar1.toInt) 0 0 0 0)) ∧ (¬ (1 ≤ ar1.toInt ∧ ar1.toInt ≤ 20) → ((-1) : Int) = -1) from (by
                                                            intro u D hu hl hc hb hv hsl hd
                                                            exact ⟨fun h => absurd h (by omega), fun _ => rfl⟩))⟩⟩
/-! ===== printed by riv.py: the least, of the other side ===== -/
noncomputable def wl_n_leastBy : List (Nat × Nat) := [(69, 44), (69, 45), (69, 48), (89, 10005), (89, 610011), (90, 9999), (91, 9999), (92, 9999)]
noncomputable def Q_n_leastBy (gi : Nat → Nat → Int32) (gl : Nat → Nat → Int64) (gr : Nat → Nat → Value) (ar2 : Int32) : Int32 → (Nat → Nat → Int32) → (Nat → Nat → Int64) → (Nat → Nat → Value) → Prop := fun (v : Int32) (gi2 : Nat → Nat → Int32) (gl2 : Nat → Nat → Int64) (gr2 : Nat → Nat → Value) => ∀ D : s_D, t_ME 0 gi D → t_Cb D → s_DB D → (gi 69 46).toInt = -1 → v.toInt = s_an (s_LS (s_PD D ar2.toInt) 0 0 0 0)
theorem c_n_leastBy {X : x_Ext} {d : Nat} {sh : List (Nat ⊕ (Nat × Nat))} {gi : Nat → Nat → Int32} {gl : Nat → Nat → Int64} {gr : Nat → Nat → Value} (hI : t_I sh gi gr) (ar2 : Int32) (l_a2 : 0 ≤ ar2.toInt) (u_a2 : ar2.toInt ≤ 20) (e_p0 : 1 ≤ ar2.toInt) : x_Me X (d + 5) n_X12_leastBy [.ref 69, .int 0, .int ar2] (sh, gi, gl, gr) (t_PI wl_n_leastBy sh gi gl gr (-2147483648) 999999999 (Q_n_leastBy gi gl gr ar2)) := by
  have hX : t_X wl_n_leastBy sh gi gl gr gi gl gr := t_X.rf
  refine me_i f_X12_leastBy (hI.wf.s rfl) rfl rfl rfl ?_
  have hI0 := hI
  refine ev_loc f_X12_leastBy (nx := 1) rfl rfl rfl rfl ?_
  refine ev_qN f_X12_leastBy (nx := 4) (r := []) rfl rfl rfl rfl rfl rfl rfl (c_n_tellsMinutes hI ) rfl hX rfl (fun gi2 gl2 gr2 hI hX hC2 q2 => ?_)
  have q2 : (∀ j, gi2 70 j = gi 70 j) ∧ (∀ j : Nat, j < 6 → gi2 89 j = gi 70 (53 + 5 * j)) ∧ (∀ j : Nat, j < 6 → gi2 89 (6 + j) = gi 70 (82 + 3 * j)) := q2
  refine ev_loc f_X12_leastBy (nx := 5) rfl rfl rfl rfl ?_
  refine ev_loc f_X12_leastBy (nx := 6) rfl rfl rfl rfl ?_
  refine ev_qN f_X12_leastBy (nx := 9) (r := []) rfl rfl rfl rfl rfl rfl rfl (c_n_orders0 hI ) rfl hX rfl (fun gi3 gl3 gr3 hI hX hC3 q3 => ?_)
  have ff4 : (gi2 69 46).toInt = (gi 69 46).toInt := congrArg Int32.toInt ((hC2.1 69 46 rfl).1.trans rfl)
  have q3 : (∀ j, gi3 70 j = gi2 70 j) ∧ (∀ j, gi3 89 j = gi2 89 j) ∧ (∀ D : s_D, t_ME 0 gi2 D → t_Cb D → (∀ j : Nat, j < 6 → gi2 89 j = gi2 70 (53 + 5 * j)) → (gi3 69 44).toInt = D 1 ∧ s_RO (s_A D) (gi3 90) (D 1).toNat) ∧ (∀ D : s_D, t_ME 0 gi2 D → t_Cb D → (∀ j : Nat, j < 6 → gi2 89 (6 + j) = gi2 70 (82 + 3 * j)) → (gi2 69 46).toInt = -1 → (gi3 69 45).toInt = D 2 ∧ s_RO (s_B D) (gi3 91) (D 2).toNat) := q3
  refine ev_loc f_X12_leastBy (nx := 10) rfl rfl rfl rfl ?_
  refine ev_loc f_X12_leastBy (nx := 11) rfl rfl rfl rfl ?_
  refine ev_putIT f_X12_leastBy (nx := 14) rfl (hI.wf.s rfl) rfl rfl rfl (hI.putB (hI.wf.s rfl) rfl rfl l_a2 (by decide) u_a2 (by decide)) (hX.upI rfl) (fun g5 e5 hI hX => ?_)
  refine ev_loc f_X12_leastBy (nx := 15) rfl rfl rfl rfl ?_
  refine ev_qI f_X12_leastBy (nx := 18) (r := []) rfl rfl rfl rfl rfl rfl rfl (c_m_reckons hI  (by have ff7 : (g5 69 48).toInt = ar2.toInt := congrArg Int32.toInt (by rw [e5]; exact x_up2_at _ _ _ _ : g5 69 48 = ar2); omega) (by
                                                            have h89 : g5 89 = gi2 89 := by rw [show g5 89 = gi3 89 from funext fun j => by rw [e5, x_up2_off (Or.inl (by decide))]]; exact funext fun j => q3.2.1 j
                                                            rw [h89]
                                                            exact s_min12 hI0 q2.2.1 q2.2.2)) rfl hX rfl (fun w6 gi6 gl6 gr6 l6 u6 hI hX hC6 q6 => ?_)
  have q6 : t_pr gi6 (gi6 92) (gi6 69 48).toInt 23618 ∧ t_rk w6.toInt (t_la (gi6 92) (t_S gi6) (t_C gi6) 0 0 0 0) := q6
  exact ev_ret f_X12_leastBy rfl rfl rfl ⟨_, _, _, rfl, hI, hX, ⟨_, rfl, l6, u6, (show ∀ D : s_D, t_ME 0 gi D → t_Cb D → s_DB D → (gi 69 46).toInt = -1 → w6.toInt = s_an (s_LS (s_PD D ar2.toInt) 0 0 0 0) from (by
                                                            intro D hm hb hd h46
                                                            have b1 := hb.2.1
                                                            have b2 := hb.2.2
                                                            have fd := t_F_X hC6
                                                            have fa := t_F_X hC2
                                                            have hmA : t_ME 0 gi2 D := hm.mv hb (fun j _ _ _ => q2.1 (0 + j))
                                                            have k46 : (gi2 69 46).toInt = -1 := by rw [(fa 69 46 (by decide) rfl).1]; exact h46
                                                            have hS := q3.2.2.1 D hmA hb (fun j h => (q2.2.1 j h).trans (q2.1 _).symm)
                                                            have hC := q3.2.2.2 D hmA hb (fun j h => (q2.2.2 j h).trans (q2.1 _).symm) k46
                                                            have w89 : gi6 89 = gi3 89 := by rw [t_F_nc fd rfl (by decide)]; exact funext fun j => by rw [e5, x_up2_off (Or.inl (by decide))]
                                                            have w90 : gi6 90 = gi3 90 := by rw [t_F_nc fd rfl (by decide)]; exact funext fun j => by rw [e5, x_up2_off (Or.inl (by decide))]
                                                            have w91 : gi6 91 = gi3 91 := by rw [t_F_nc fd rfl (by decide)]; exact funext fun j => by rw [e5, x_up2_off (Or.inl (by decide))]
                                                            have w70 : gi6 70 = gi3 70 := by rw [t_F_nc fd rfl (by decide)]; exact funext fun j => by rw [e5, x_up2_off (Or.inl (by decide))]
                                                            have w44 : gi6 69 44 = gi3 69 44 := by rw [(fd 69 44 (by decide) rfl).1, e5, x_up2_off (Or.inr (by decide))]
                                                            have w45 : gi6 69 45 = gi3 69 45 := by rw [(fd 69 45 (by decide) rfl).1, e5, x_up2_off (Or.inr (by decide))]
                                                            have w48 : gi6 69 48 = ar2 := by rw [(fd 69 48 (by decide) rfl).1, e5, x_up2_at]
                                                            have e70 : ∀ j, gi6 70 j = gi 70 j := fun j => by rw [w70, q3.1 j, q2.1 j]
                                                            have hmD : t_ME 0 gi6 D := hm.mv hb (fun j _ _ _ => e70 (0 + j))
                                                            have k70 : ∀ j : Nat, (j : Int) < D 1 → (gi 70 (53 + 5 * j)).toInt = s_A D j := fun j hj => by have hh := hm.2.2.1 (53 + 5 * j) (by omega) (by omega); rw [Nat.zero_add] at hh; exact hh
                                                            have c70 : ∀ j : Nat, (j : Int) < D 2 → (gi 70 (82 + 3 * j)).toInt = s_B D j := fun j hj => by have hh := hm.2.2.2 (82 + 3 * j) (by omega) (by omega); rw [Nat.zero_add] at hh; exact hh
                                                            have hT := s_TP_of (q := ar2.toInt) hb hd e_p0 hmD (by rw [w44]; exact hS.1) (by rw [w45]; exact hC.1) (by rw [w90]; exact hS.2) (by rw [w91]; exact hC.2) (fun j hj => by rw [w89, q3.2.1, q2.2.1 j (by omega)]; exact k70 j hj) (fun j hj => by rw [w89, q3.2.1, q2.2.2 j (by omega)]; exact c70 j hj)
                                                            have hP := s_PD_O (q := ar2.toInt) hb hd e_p0
                                                            have hr := q6.1
                                                            rw [w48] at hr
                                                            have hV := s_VLS (m := 0) (o := 0) (s := 0) (c := 0) hr hT hP (by unfold t_S; rw [w44, hS.1]; omega) (by unfold t_C; rw [w45, hC.1]; omega) (by decide) (Nat.zero_le _) (Nat.zero_le _)
                                                            have hk := s_an_rk q6.2
                                                            rw [hV] at hk
                                                            exact hk))⟩⟩
noncomputable def wl_e_least : List (Nat × Nat) := [(69, 2), (69, 44), (69, 45), (69, 48), (89, 10005), (89, 610011), (90, 9999), (91, 9999), (92, 9999)]
noncomputable def Q_e_least (gi : Nat → Nat → Int32) (gl : Nat → Nat → Int64) (gr : Nat → Nat → Value) : Int32 → (Nat → Nat → Int32) → (Nat → Nat → Int64) → (Nat → Nat → Value) → Prop := fun (v : Int32) (gi2 : Nat → Nat → Int32) (gl2 : Nat → Nat → Int64) (gr2 : Nat → Nat → Value) => ∀ D : s_D, t_ME 0 gi D → t_Cb D → s_DB D → (gi 69 46).toInt = -1 → v.toInt = s_an (s_LS (s_PD D (D 4)) 0 0 0 0)
theorem c_e_least {X : x_Ext} {d : Nat} {sh : List (Nat ⊕ (Nat × Nat))} {gi : Nat → Nat → Int32} {gl : Nat → Nat → Int64} {gr : Nat → Nat → Value} (hI : t_I sh gi gr) (e_p0 : 1 ≤ (gi 70 4).toInt) : x_Me X (d + 6) n_X12_least [.ref 69] (sh, gi, gl, gr) (t_PI wl_e_least sh gi gl gr (-2147483648) 999999999 (Q_e_least gi gl gr)) := by
  have hX : t_X wl_e_least sh gi gl gr gi gl gr := t_X.rf
  refine me_i f_X12_least (hI.wf.s rfl) rfl rfl rfl ?_
  obtain ⟨l2, u2⟩ := hI.ab (by decide +kernel : t_abr 70 4 4 0 20 = true) (Nat.le_refl _) (Nat.le_refl _)
  refine ev_loc f_X12_least (nx := 1) rfl rfl rfl rfl ?_
  refine ev_loc f_X12_least (nx := 2) rfl rfl rfl rfl ?_
  refine ev_ic f_X12_least (nx := 3) (v := 0) rfl (by decide) rfl ?_
  refine ev_loc f_X12_least (nx := 4) rfl rfl rfl rfl ?_
  refine ev_getR f_X12_least (nx := 7) rfl (hI.wf.s rfl) rfl rfl (hI.wf.r rfl) rfl rfl ?_
  refine ev_ic f_X12_least (nx := 8) (v := 4) rfl (by decide) rfl ?_
  refine ev_ialdv f_X12_least (nx := 9) (w := (gi 70 4)) rfl (hI.wf.s rfl) (by decide) (rfl : (4 : Int32).toNatClampNeg = 4) (by decide) rfl rfl ?_
  refine ev_qI f_X12_least (nx := 12) (r := [.ref 69]) rfl rfl rfl rfl rfl rfl rfl (c_n_leastBy hI ((gi 70 4)) l2 u2 (by omega)) rfl hX rfl (fun w4 gi4 gl4 gr4 l4 u4 hI hX hC4 q4 => ?_)
  have q4 : ∀ D : s_D, t_ME 0 gi D → t_Cb D → s_DB D → (gi 69 46).toInt = -1 → w4.toInt = s_an (s_LS (s_PD D (gi 70 4).toInt) 0 0 0 0) := q4
  refine ev_inV2 f_X12_least (nx := 15) (lo2 := [(0, .ref 69), (1, .int w4)]) rfl rfl rfl rfl f_X12_orNone (hI.wf.s rfl) rfl rfl rfl rfl rfl ?_
  refine ev_loc f_X12_orNone (nx := 1) rfl rfl rfl rfl ?_
  refine ev_ic f_X12_orNone (nx := 2) (v := -1) rfl (by decide) rfl ?_
  refine ev_if f_X12_orNone (t1 := 5) (t2 := 14) rfl rfl rfl (fun h5 => ?_) (fun h5 => ?_)
  · have u6 : w4.toInt ≤ (-1) := t_equ h5 (by decide : ((-1):Int32).toInt ≤ ((-1):Int))
    have l7 : (-1) ≤ w4.toInt := t_eql h5 (by decide : ((-1):Int) ≤ ((-1):Int32).toInt)
    refine ev_loc f_X12_orNone (nx := 6) rfl rfl rfl rfl ?_
    refine ev_bp f_X12_orNone (nx := 8) (v := 6) rfl (by decide) rfl ?_
    refine ev_inV2 f_X12_orNone (nx := 11) (lo2 := [(0, .ref 69), (1, .int 6)]) rfl rfl rfl rfl f_X12_refuse (hI.wf.s rfl) rfl rfl rfl rfl rfl ?_
    refine ev_loc f_X12_refuse (nx := 1) rfl rfl rfl rfl ?_
    refine ev_loc f_X12_refuse (nx := 2) rfl rfl rfl rfl ?_
    refine ev_putIT f_X12_refuse (nx := 5) rfl (hI.wf.s rfl) rfl rfl rfl (hI.put0 (hI.wf.s rfl) rfl rfl) (hX.upI rfl) (fun g8 e8 hI hX => ?_)
    refine ev_ic f_X12_refuse (nx := 6) (v := -1) rfl (by decide) rfl ?_
    refine ev_retK1 f_X12_refuse rfl rfl rfl ?_
    refine ev_jmp f_X12_orNone (nx := 19) rfl rfl rfl ?_
    refine ev_retK1 f_X12_orNone rfl rfl rfl ?_
    exact ev_ret f_X12_least rfl rfl rfl ⟨_, _, _, rfl, hI, hX, ⟨_, rfl, (Int.le_trans (by decide : ((-2147483648):Int) ≤ (-1)) (by decide : ((-1):Int) ≤ ((-1):Int32).toInt)), (Int.le_trans (by decide : ((-1):Int32).toInt ≤ ((-1):Int)) (by decide : ((-1):Int) ≤ 999999999)), (show ∀ D : s_D, t_ME 0 gi D → t_Cb D → s_DB D → (gi 69 46).toInt = -1 → ((-1) : Int) = s_an (s_LS (s_PD D (D 4)) 0 0 0 0) from (by
                                                            intro D hm hb hd h46
                                                            have h4 : (gi 70 4).toInt = D 4 := hm.1.2.1
                                                            have hq := q4 D hm hb hd h46
                                                            rw [h4] at hq
                                                            omega))⟩⟩
  · have r9 : w4.toInt ≠ (-1) := fun e => h5 (Int32.toInt_inj.mp (e.trans (by decide : ((-1):Int) = ((-1) : Int32).toInt)))
    refine ev_loc f_X12_orNone (nx := 15) rfl rfl rfl rfl ?_
    refine ev_loc f_X12_orNone (nx := 16) rfl rfl rfl rfl ?_
    refine ev_inV2 f_X12_orNone (nx := 19) (lo2 := [(0, .ref 69), (1, .int w4)]) rfl rfl rfl rfl f_X12_gives (hI.wf.s rfl) rfl rfl rfl rfl rfl ?_
    refine ev_loc f_X12_gives (nx := 1) rfl rfl rfl rfl ?_
    refine ev_ic f_X12_gives (nx := 2) (v := 0) rfl (by decide) rfl ?_
    refine ev_putIT f_X12_gives (nx := 5) rfl (hI.wf.s rfl) rfl rfl rfl (hI.put0 (hI.wf.s rfl) rfl rfl) (hX.upI rfl) (fun g10 e10 hI hX => ?_)
    refine ev_loc f_X12_gives (nx := 6) rfl rfl rfl rfl ?_
    refine ev_retK1 f_X12_gives rfl rfl rfl ?_
    refine ev_retK1 f_X12_orNone rfl rfl rfl ?_
    exact ev_ret f_X12_least rfl rfl rfl ⟨_, _, _, rfl, hI, hX, ⟨_, rfl, l4, u4, (show ∀ D : s_D, t_ME 0 gi D → t_Cb D → s_DB D → (gi 69 46).toInt = -1 → w4.toInt = s_an (s_LS (s_PD D (D 4)) 0 0 0 0) from (by
                                                            intro D hm hb hd h46
                                                            have h4 : (gi 70 4).toInt = D 4 := hm.1.2.1
                                                            have hq := q4 D hm hb hd h46
                                                            rw [h4] at hq
                                                            omega))⟩⟩
noncomputable def wl_e_quicker : List (Nat × Nat) := [(69, 2), (69, 44), (69, 45), (69, 48), (89, 10005), (89, 610011), (90, 9999), (91, 9999), (92, 9999)]
noncomputable def Q_e_quicker (gi : Nat → Nat → Int32) (gl : Nat → Nat → Int64) (gr : Nat → Nat → Value) (ar1 : Int32) : Int32 → (Nat → Nat → Int32) → (Nat → Nat → Int64) → (Nat → Nat → Value) → Prop := fun (v : Int32) (gi2 : Nat → Nat → Int32) (gl2 : Nat → Nat → Int64) (gr2 : Nat → Nat → Value) => ∀ D : s_D, t_ME 0 gi D → t_Cb D → s_DB D → (gi 69 46).toInt = -1 → ((1 ≤ ar1.toInt ∧ ar1.toInt ≤ 20) → v.toInt = s_an (s_LS (s_PD D ar1.toInt) 0 0 0 0)) ∧ (¬ (1 ≤ ar1.toInt ∧ ar1.toInt ≤ 20) → v.toInt = -1)
theorem c_e_quicker {X : x_Ext} {d : Nat} {sh : List (Nat ⊕ (Nat × Nat))} {gi : Nat → Nat → Int32} {gl : Nat → Nat → Int64} {gr : Nat → Nat → Value} (hI : t_I sh gi gr) (ar1 : Int32) : x_Me X (d + 6) n_X12_quicker [.ref 69, .int ar1] (sh, gi, gl, gr) (t_PI wl_e_quicker sh gi gl gr (-2147483648) 999999999 (Q_e_quicker gi gl gr ar1)) := by
  have hX : t_X wl_e_quicker sh gi gl gr gi gl gr := t_X.rf
  refine me_i f_X12_quicker (hI.wf.s rfl) rfl rfl rfl ?_
  refine ev_loc f_X12_quicker (nx := 1) rfl rfl rfl rfl ?_
  refine ev_anyLE f_X12_quicker (nx := 2) rfl rfl rfl rfl (fun z2 e2 => ?_)
  have i2 : z2.toInt = ar1.toInt := by rw [e2]; exact Int32.toInt_toInt64 _
  refine ev_lc f_X12_quicker (nx := 3) (v := 1) rfl (by decide) rfl ?_
  refine ev_ldL f_X12_quicker (nx := 6) (v := 20) rfl (by decide) rfl ?_
  refine ev_inS3 f_X12_quicker (nx := 9) (lo2 := [(0, .long z2), (2, .long 1), (4, .long 20)]) rfl rfl rfl rfl f_X12_isFrom rfl rfl rfl rfl ?_
  refine ev_loc f_X12_isFrom (nx := 1) rfl rfl rfl rfl ?_
  refine ev_loc f_X12_isFrom (nx := 2) rfl rfl rfl rfl ?_
  refine ev_anyIE f_X12_isFrom (nx := 3) rfl rfl rfl rfl (fun z3 e3 => ?_)
  refine ev_if f_X12_isFrom (t1 := 17) (t2 := 6) rfl rfl rfl (fun h4 => ?_) (fun h4 => ?_)
  · have u5 : ar1.toInt ≤ (0:Int) := Int.le_sub_one_of_lt ((lgc_lt (by decide : (1 : Int64).toInt = 1)).mp (by have hh := h4; rw [e3, e2] at hh; exact hh))
    have u6 : z3.toInt ≤ (-1) := t_ltu h4 (by decide : (0:Int32).toInt ≤ (0:Int)) rfl
    refine ev_ic f_X12_isFrom (nx := 18) (v := 0) rfl (by decide) rfl ?_
    refine ev_retK1 f_X12_isFrom rfl rfl rfl ?_
    refine ev_t f_X12_quicker (t1 := 25) (t2 := 12) rfl rfl rfl (by decide) ?_
    refine ev_loc f_X12_quicker (nx := 26) rfl rfl rfl rfl ?_
    refine ev_ic f_X12_quicker (nx := 27) (v := 1) rfl (by decide) rfl ?_
    refine ev_inV2 f_X12_quicker (nx := 30) (lo2 := [(0, .ref 69), (1, .int 1)]) rfl rfl rfl rfl f_X12_refuse (hI.wf.s rfl) rfl rfl rfl rfl rfl ?_
    refine ev_loc f_X12_refuse (nx := 1) rfl rfl rfl rfl ?_
    refine ev_loc f_X12_refuse (nx := 2) rfl rfl rfl rfl ?_
    refine ev_putIT f_X12_refuse (nx := 5) rfl (hI.wf.s rfl) rfl rfl rfl (hI.put0 (hI.wf.s rfl) rfl rfl) (hX.upI rfl) (fun g7 e7 hI hX => ?_)
    refine ev_ic f_X12_refuse (nx := 6) (v := -1) rfl (by decide) rfl ?_
    refine ev_retK1 f_X12_refuse rfl rfl rfl ?_
    exact ev_ret f_X12_quicker rfl rfl rfl ⟨_, _, _, rfl, hI, hX, ⟨_, rfl, (Int.le_trans (by decide : ((-2147483648):Int) ≤ (-1)) (by decide : ((-1):Int) ≤ ((-1):Int32).toInt)), (Int.le_trans (by decide : ((-1):Int32).toInt ≤ ((-1):Int)) (by decide : ((-1):Int) ≤ 999999999)), (show ∀ D : s_D, t_ME 0 gi D → t_Cb D → s_DB D → (gi 69 46).toInt = -1 → ((1 ≤ ar1.toInt ∧ ar1.toInt ≤ 20) → ((-1) : Int) = s_an (s_LS (s_PD D ar1.toInt) 0 0 0 0)) ∧ (¬ (1 ≤ ar1.toInt ∧ ar1.toInt ≤ 20) → ((-1) : Int) = -1) from (by
                                                            intro D hm hb hd h46
                                                            exact ⟨fun h => absurd h (by omega), fun _ => rfl⟩))⟩⟩
  · have l8 : (1:Int) ≤ ar1.toInt := (lgc_ge (by decide : (1 : Int64).toInt = 1)).mp (by have hh := (t_nlt h4); rw [e3, e2] at hh; exact hh)
    have l9 : 0 ≤ z3.toInt := t_lel (t_nlt h4) (by decide : (0:Int) ≤ (0:Int32).toInt)
    refine ev_loc f_X12_isFrom (nx := 7) rfl rfl rfl rfl ?_
    refine ev_loc f_X12_isFrom (nx := 9) rfl rfl rfl rfl ?_
    refine ev_anyIE f_X12_isFrom (nx := 10) rfl rfl rfl rfl (fun z10 e10 => ?_)
    refine ev_if f_X12_isFrom (t1 := 17) (t2 := 13) rfl rfl rfl (fun h11 => ?_) (fun h11 => ?_)
    · have l12 : (21:Int) ≤ ar1.toInt := Int.add_one_le_of_lt ((lgc_gt (by decide : (20 : Int64).toInt = 20)).mp (by have hh := h11; rw [e10, e2] at hh; exact hh))
      have l13 : 1 ≤ z10.toInt := t_ltl h11 (by decide : (0:Int) ≤ (0:Int32).toInt) rfl
      refine ev_ic f_X12_isFrom (nx := 18) (v := 0) rfl (by decide) rfl ?_
      refine ev_retK1 f_X12_isFrom rfl rfl rfl ?_
      refine ev_t f_X12_quicker (t1 := 25) (t2 := 12) rfl rfl rfl (by decide) ?_
      refine ev_loc f_X12_quicker (nx := 26) rfl rfl rfl rfl ?_
      refine ev_ic f_X12_quicker (nx := 27) (v := 1) rfl (by decide) rfl ?_
      refine ev_inV2 f_X12_quicker (nx := 30) (lo2 := [(0, .ref 69), (1, .int 1)]) rfl rfl rfl rfl f_X12_refuse (hI.wf.s rfl) rfl rfl rfl rfl rfl ?_
      refine ev_loc f_X12_refuse (nx := 1) rfl rfl rfl rfl ?_
      refine ev_loc f_X12_refuse (nx := 2) rfl rfl rfl rfl ?_
      refine ev_putIT f_X12_refuse (nx := 5) rfl (hI.wf.s rfl) rfl rfl rfl (hI.put0 (hI.wf.s rfl) rfl rfl) (hX.upI rfl) (fun g14 e14 hI hX => ?_)
      refine ev_ic f_X12_refuse (nx := 6) (v := -1) rfl (by decide) rfl ?_
      refine ev_retK1 f_X12_refuse rfl rfl rfl ?_
      exact ev_ret f_X12_quicker rfl rfl rfl ⟨_, _, _, rfl, hI, hX, ⟨_, rfl, (Int.le_trans (by decide : ((-2147483648):Int) ≤ (-1)) (by decide : ((-1):Int) ≤ ((-1):Int32).toInt)), (Int.le_trans (by decide : ((-1):Int32).toInt ≤ ((-1):Int)) (by decide : ((-1):Int) ≤ 999999999)), (show ∀ D : s_D, t_ME 0 gi D → t_Cb D → s_DB D → (gi 69 46).toInt = -1 → ((1 ≤ ar1.toInt ∧ ar1.toInt ≤ 20) → ((-1) : Int) = s_an (s_LS (s_PD D ar1.toInt) 0 0 0 0)) ∧ (¬ (1 ≤ ar1.toInt ∧ ar1.toInt ≤ 20) → ((-1) : Int) = -1) from (by
                                                            intro D hm hb hd h46
                                                            exact ⟨fun h => absurd h (by omega), fun _ => rfl⟩))⟩⟩
    · have u15 : ar1.toInt ≤ (20:Int) := (lgc_le (by decide : (20 : Int64).toInt = 20)).mp (by have hh := (t_nlt h11); rw [e10, e2] at hh; exact hh)
      have u16 : z10.toInt ≤ 0 := t_leu (t_nlt h11) (by decide : (0:Int32).toInt ≤ (0:Int))
      refine ev_ic f_X12_isFrom (nx := 14) (v := 1) rfl (by decide) rfl ?_
      refine ev_jmp f_X12_isFrom (nx := 18) rfl rfl rfl ?_
      refine ev_retK1 f_X12_isFrom rfl rfl rfl ?_
      refine ev_f f_X12_quicker (t1 := 25) (t2 := 12) rfl rfl rfl (by decide) ?_
      refine ev_loc f_X12_quicker (nx := 13) rfl rfl rfl rfl ?_
      refine ev_loc f_X12_quicker (nx := 14) rfl rfl rfl rfl ?_
      refine ev_ic f_X12_quicker (nx := 15) (v := 0) rfl (by decide) rfl ?_
      refine ev_loc f_X12_quicker (nx := 16) rfl rfl rfl rfl ?_
      refine ev_qI f_X12_quicker (nx := 19) (r := [.ref 69]) rfl rfl rfl rfl rfl rfl rfl (c_n_leastBy hI (ar1) (Int.le_trans (by decide : (0:Int) ≤ 1) l8) u15 (by omega)) rfl hX rfl (fun w17 gi17 gl17 gr17 l17 u17 hI hX hC17 q17 => ?_)
      have q17 : ∀ D : s_D, t_ME 0 gi D → t_Cb D → s_DB D → (gi 69 46).toInt = -1 → w17.toInt = s_an (s_LS (s_PD D ar1.toInt) 0 0 0 0) := q17
      refine ev_inV2 f_X12_quicker (nx := 22) (lo2 := [(0, .ref 69), (1, .int w17)]) rfl rfl rfl rfl f_X12_orNone (hI.wf.s rfl) rfl rfl rfl rfl rfl ?_
      refine ev_loc f_X12_orNone (nx := 1) rfl rfl rfl rfl ?_
      refine ev_ic f_X12_orNone (nx := 2) (v := -1) rfl (by decide) rfl ?_
      refine ev_if f_X12_orNone (t1 := 5) (t2 := 14) rfl rfl rfl (fun h18 => ?_) (fun h18 => ?_)
      · have u19 : w17.toInt ≤ (-1) := t_equ h18 (by decide : ((-1):Int32).toInt ≤ ((-1):Int))
        have l20 : (-1) ≤ w17.toInt := t_eql h18 (by decide : ((-1):Int) ≤ ((-1):Int32).toInt)
        refine ev_loc f_X12_orNone (nx := 6) rfl rfl rfl rfl ?_
        refine ev_bp f_X12_orNone (nx := 8) (v := 6) rfl (by decide) rfl ?_
        refine ev_inV2 f_X12_orNone (nx := 11) (lo2 := [(0, .ref 69), (1, .int 6)]) rfl rfl rfl rfl f_X12_refuse (hI.wf.s rfl) rfl rfl rfl rfl rfl ?_
        refine ev_loc f_X12_refuse (nx := 1) rfl rfl rfl rfl ?_
        refine ev_loc f_X12_refuse (nx := 2) rfl rfl rfl rfl ?_
        refine ev_putIT f_X12_refuse (nx := 5) rfl (hI.wf.s rfl) rfl rfl rfl (hI.put0 (hI.wf.s rfl) rfl rfl) (hX.upI rfl) (fun g21 e21 hI hX => ?_)
        refine ev_ic f_X12_refuse (nx := 6) (v := -1) rfl (by decide) rfl ?_
        refine ev_retK1 f_X12_refuse rfl rfl rfl ?_
        refine ev_jmp f_X12_orNone (nx := 19) rfl rfl rfl ?_
        refine ev_retK1 f_X12_orNone rfl rfl rfl ?_
        refine ev_jmp f_X12_quicker (nx := 30) rfl rfl rfl ?_
        exact ev_ret f_X12_quicker rfl rfl rfl ⟨_, _, _, rfl, hI, hX, ⟨_, rfl, (Int.le_trans (by decide : ((-2147483648):Int) ≤ (-1)) (by decide : ((-1):Int) ≤ ((-1):Int32).toInt)), (Int.le_trans (by decide : ((-1):Int32).toInt ≤ ((-1):Int)) (by decide : ((-1):Int) ≤ 999999999)), (show ∀ D : s_D, t_ME 0 gi D → t_Cb D → s_DB D → (gi 69 46).toInt = -1 → ((1 ≤ ar1.toInt ∧ ar1.toInt ≤ 20) → ((-1) : Int) = s_an (s_LS (s_PD D ar1.toInt) 0 0 0 0)) ∧ (¬ (1 ≤ ar1.toInt ∧ ar1.toInt ≤ 20) → ((-1) : Int) = -1) from (by
                                                            intro D hm hb hd h46
                                                            have hq := q17 D hm hb hd h46
                                                            exact ⟨fun h => (by omega), fun h => absurd (show _ from ⟨by omega, by omega⟩) h⟩))⟩⟩
      · have r22 : w17.toInt ≠ (-1) := fun e => h18 (Int32.toInt_inj.mp (e.trans (by decide : ((-1):Int) = ((-1) : Int32).toInt)))
        refine ev_loc f_X12_orNone (nx := 15) rfl rfl rfl rfl ?_
        refine ev_loc f_X12_orNone (nx := 16) rfl rfl rfl rfl ?_
        refine ev_inV2 f_X12_orNone (nx := 19) (lo2 := [(0, .ref 69), (1, .int w17)]) rfl rfl rfl rfl f_X12_gives (hI.wf.s rfl) rfl rfl rfl rfl rfl ?_
        refine ev_loc f_X12_gives (nx := 1) rfl rfl rfl rfl ?_
        refine ev_ic f_X12_gives (nx := 2) (v := 0) rfl (by decide) rfl ?_
        refine ev_putIT f_X12_gives (nx := 5) rfl (hI.wf.s rfl) rfl rfl rfl (hI.put0 (hI.wf.s rfl) rfl rfl) (hX.upI rfl) (fun g23 e23 hI hX => ?_)
        refine ev_loc f_X12_gives (nx := 6) rfl rfl rfl rfl ?_
        refine ev_retK1 f_X12_gives rfl rfl rfl ?_
        refine ev_retK1 f_X12_orNone rfl rfl rfl ?_
        refine ev_jmp f_X12_quicker (nx := 30) rfl rfl rfl ?_
        exact ev_ret f_X12_quicker rfl rfl rfl ⟨_, _, _, rfl, hI, hX, ⟨_, rfl, l17, u17, (show ∀ D : s_D, t_ME 0 gi D → t_Cb D → s_DB D → (gi 69 46).toInt = -1 → ((1 ≤ ar1.toInt ∧ ar1.toInt ≤ 20) → w17.toInt = s_an (s_LS (s_PD D ar1.toInt) 0 0 0 0)) ∧ (¬ (1 ≤ ar1.toInt ∧ ar1.toInt ≤ 20) → w17.toInt = -1) from (by
                                                            intro D hm hb hd h46
                                                            have hq := q17 D hm hb hd h46
                                                            exact ⟨fun h => (by omega), fun h => absurd (show _ from ⟨by omega, by omega⟩) h⟩))⟩⟩
noncomputable def wl_e_nextCart : List (Nat × Nat) := [(69, 2), (69, 44), (69, 45), (89, 10005), (89, 610011), (90, 9999), (91, 9999)]
noncomputable def Q_e_nextCart (gi : Nat → Nat → Int32) (gl : Nat → Nat → Int64) (gr : Nat → Nat → Value) (ar1 : Int32) : Int32 → (Nat → Nat → Int32) → (Nat → Nat → Int64) → (Nat → Nat → Value) → Prop := fun (v : Int32) (gi2 : Nat → Nat → Int32) (gl2 : Nat → Nat → Int64) (gr2 : Nat → Nat → Value) => ∀ D : s_D, t_ME 0 gi D → t_Cb D → (gi 69 46).toInt = -1 → ((0 ≤ ar1.toInt ∧ ar1.toInt < D 2) → v.toInt = ((s_or (s_B D) (D 2).toNat ar1.toNatClampNeg : Nat) : Int)) ∧ (¬ (0 ≤ ar1.toInt ∧ ar1.toInt < D 2) → v.toInt = -1)
theorem c_e_nextCart {X : x_Ext} {d : Nat} {sh : List (Nat ⊕ (Nat × Nat))} {gi : Nat → Nat → Int32} {gl : Nat → Nat → Int64} {gr : Nat → Nat → Value} (hI : t_I sh gi gr) (ar1 : Int32) : x_Me X (d + 2) n_X12_nextCart [.ref 69, .int ar1] (sh, gi, gl, gr) (t_PI wl_e_nextCart sh gi gl gr (-1) 5 (Q_e_nextCart gi gl gr ar1)) := by
  have hX : t_X wl_e_nextCart sh gi gl gr gi gl gr := t_X.rf
  refine me_i f_X12_nextCart (hI.wf.s rfl) rfl rfl rfl ?_
  refine ev_loc f_X12_nextCart (nx := 1) rfl rfl rfl rfl ?_
  refine ev_qN f_X12_nextCart (nx := 4) (r := []) rfl rfl rfl rfl rfl rfl rfl (c_n_tellsMinutes hI ) rfl hX rfl (fun gi2 gl2 gr2 hI hX hC2 q2 => ?_)
  have q2 : (∀ j, gi2 70 j = gi 70 j) ∧ (∀ j : Nat, j < 6 → gi2 89 j = gi 70 (53 + 5 * j)) ∧ (∀ j : Nat, j < 6 → gi2 89 (6 + j) = gi 70 (82 + 3 * j)) := q2
  refine ev_loc f_X12_nextCart (nx := 5) rfl rfl rfl rfl ?_
  refine ev_ic f_X12_nextCart (nx := 6) (v := 0) rfl (by decide) rfl ?_
  refine ev_qN f_X12_nextCart (nx := 9) (r := []) rfl rfl rfl rfl rfl rfl rfl (c_n_orders0 hI ) rfl hX rfl (fun gi3 gl3 gr3 hI hX hC3 q3 => ?_)
  have ff4 : (gi2 69 46).toInt = (gi 69 46).toInt := congrArg Int32.toInt ((hC2.1 69 46 rfl).1.trans rfl)
  have q3 : (∀ j, gi3 70 j = gi2 70 j) ∧ (∀ j, gi3 89 j = gi2 89 j) ∧ (∀ D : s_D, t_ME 0 gi2 D → t_Cb D → (∀ j : Nat, j < 6 → gi2 89 j = gi2 70 (53 + 5 * j)) → (gi3 69 44).toInt = D 1 ∧ s_RO (s_A D) (gi3 90) (D 1).toNat) ∧ (∀ D : s_D, t_ME 0 gi2 D → t_Cb D → (∀ j : Nat, j < 6 → gi2 89 (6 + j) = gi2 70 (82 + 3 * j)) → (gi2 69 46).toInt = -1 → (gi3 69 45).toInt = D 2 ∧ s_RO (s_B D) (gi3 91) (D 2).toNat) := q3
  refine ev_loc f_X12_nextCart (nx := 10) rfl rfl rfl rfl ?_
  refine ev_if f_X12_nextCart (t1 := 21) (t2 := 13) rfl rfl rfl (fun h5 => ?_) (fun h5 => ?_)
  · have u6 : ar1.toInt ≤ (-1) := t_ltu h5 (by decide : (0:Int32).toInt ≤ (0:Int)) rfl
    refine ev_loc f_X12_nextCart (nx := 22) rfl rfl rfl rfl ?_
    refine ev_bp f_X12_nextCart (nx := 24) (v := 6) rfl (by decide) rfl ?_
    refine ev_inV2 f_X12_nextCart (nx := 27) (lo2 := [(0, .ref 69), (1, .int 6)]) rfl rfl rfl rfl f_X12_refuse (hI.wf.s rfl) rfl rfl rfl rfl rfl ?_
    refine ev_loc f_X12_refuse (nx := 1) rfl rfl rfl rfl ?_
    refine ev_loc f_X12_refuse (nx := 2) rfl rfl rfl rfl ?_
    refine ev_putIT f_X12_refuse (nx := 5) rfl (hI.wf.s rfl) rfl rfl rfl (hI.put0 (hI.wf.s rfl) rfl rfl) (hX.upI rfl) (fun g7 e7 hI hX => ?_)
    refine ev_ic f_X12_refuse (nx := 6) (v := -1) rfl (by decide) rfl ?_
    refine ev_retK1 f_X12_refuse rfl rfl rfl ?_
    refine ev_jmp f_X12_nextCart (nx := 40) rfl rfl rfl ?_
    exact ev_ret f_X12_nextCart rfl rfl rfl ⟨_, _, _, rfl, hI, hX, ⟨_, rfl, (by decide : ((-1):Int) ≤ ((-1):Int32).toInt), (Int.le_trans (by decide : ((-1):Int32).toInt ≤ ((-1):Int)) (by decide : ((-1):Int) ≤ 5)), (show ∀ D : s_D, t_ME 0 gi D → t_Cb D → (gi 69 46).toInt = -1 → ((0 ≤ ar1.toInt ∧ ar1.toInt < D 2) → ((-1) : Int) = ((s_or (s_B D) (D 2).toNat ar1.toNatClampNeg : Nat) : Int)) ∧ (¬ (0 ≤ ar1.toInt ∧ ar1.toInt < D 2) → ((-1) : Int) = -1) from (by
                                                            intro D hm hb h46
                                                            have fa := t_F_X hC2
                                                            have hmA : t_ME 0 gi2 D := hm.mv hb (fun j _ _ _ => q2.1 (0 + j))
                                                            have k46 : (gi2 69 46).toInt = -1 := by rw [(fa 69 46 (by decide) rfl).1]; exact h46
                                                            have hq := q3.2.2.2 D hmA hb (fun j h => (q2.2.2 j h).trans (q2.1 _).symm) k46
                                                            exact ⟨fun h => absurd h (by omega), fun _ => rfl⟩))⟩⟩
  · have l8 : 0 ≤ ar1.toInt := t_lel (t_nlt h5) (by decide : (0:Int) ≤ (0:Int32).toInt)
    refine ev_loc f_X12_nextCart (nx := 14) rfl rfl rfl rfl ?_
    refine ev_loc f_X12_nextCart (nx := 15) rfl rfl rfl rfl ?_
    refine ev_getI f_X12_nextCart (nx := 18) rfl (hI.wf.s rfl) rfl rfl rfl ?_
    obtain ⟨l9, u9⟩ := hI.b (hI.wf.s (k := 69) rfl) (t_bdK rfl : t_bd 11 45 = some (0, 6))
    refine ev_if f_X12_nextCart (t1 := 30) (t2 := 21) rfl rfl rfl (fun h10 => ?_) (fun h10 => ?_)
    · have r11 : ar1.toInt < (gi3 69 45).toInt := Int32.lt_iff_toInt_lt.mp h10
      have u12 : ar1.toInt ≤ 5 := t_ltu h10 u9 rfl
      have l13 : 1 ≤ (gi3 69 45).toInt := t_ltl h10 l8 rfl
      refine ev_loc f_X12_nextCart (nx := 31) rfl rfl rfl rfl ?_
      refine ev_loc f_X12_nextCart (nx := 32) rfl rfl rfl rfl ?_
      refine ev_getR f_X12_nextCart (nx := 35) rfl (hI.wf.s rfl) rfl rfl (hI.wf.r rfl) rfl rfl ?_
      refine ev_loc f_X12_nextCart (nx := 36) rfl rfl rfl rfl ?_
      refine ev_ialdT f_X12_nextCart (nx := 37) rfl (hI.wf.s rfl) l8 (by decide) u12 (by decide) rfl (fun w14 e14 => ?_)
      obtain ⟨l14, u14⟩ := hI.abi e14 (by decide +kernel : t_abr 91 0 5 0 5 = true) l8 (by decide) u12 (by decide)
      refine ev_inV2 f_X12_nextCart (nx := 40) (lo2 := [(0, .ref 69), (1, .int w14)]) rfl rfl rfl rfl f_X12_gives (hI.wf.s rfl) rfl rfl rfl rfl rfl ?_
      refine ev_loc f_X12_gives (nx := 1) rfl rfl rfl rfl ?_
      refine ev_ic f_X12_gives (nx := 2) (v := 0) rfl (by decide) rfl ?_
      refine ev_putIT f_X12_gives (nx := 5) rfl (hI.wf.s rfl) rfl rfl rfl (hI.put0 (hI.wf.s rfl) rfl rfl) (hX.upI rfl) (fun g15 e15 hI hX => ?_)
      refine ev_loc f_X12_gives (nx := 6) rfl rfl rfl rfl ?_
      refine ev_retK1 f_X12_gives rfl rfl rfl ?_
      exact ev_ret f_X12_nextCart rfl rfl rfl ⟨_, _, _, rfl, hI, hX, ⟨_, rfl, (Int.le_trans (by decide : ((-1):Int) ≤ 0) l14), u14, (show ∀ D : s_D, t_ME 0 gi D → t_Cb D → (gi 69 46).toInt = -1 → ((0 ≤ ar1.toInt ∧ ar1.toInt < D 2) → w14.toInt = ((s_or (s_B D) (D 2).toNat ar1.toNatClampNeg : Nat) : Int)) ∧ (¬ (0 ≤ ar1.toInt ∧ ar1.toInt < D 2) → w14.toInt = -1) from (by
                                                            intro D hm hb h46
                                                            have fa := t_F_X hC2
                                                            have hmA : t_ME 0 gi2 D := hm.mv hb (fun j _ _ _ => q2.1 (0 + j))
                                                            have k46 : (gi2 69 46).toInt = -1 := by rw [(fa 69 46 (by decide) rfl).1]; exact h46
                                                            have hq := q3.2.2.2 D hmA hb (fun j h => (q2.2.2 j h).trans (q2.1 _).symm) k46
                                                            have ka := t_clamp (i := ar1) (by omega)
                                                            refine ⟨fun _ => ?_, fun h => absurd (show _ from ⟨by omega, by omega⟩) h⟩
                                                            rw [e14]; exact hq.2 ar1.toNatClampNeg (by omega)))⟩⟩
    · have r16 : (gi3 69 45).toInt ≤ ar1.toInt := Int32.le_iff_toInt_le.mp (t_nlt h10)
      refine ev_loc f_X12_nextCart (nx := 22) rfl rfl rfl rfl ?_
      refine ev_bp f_X12_nextCart (nx := 24) (v := 6) rfl (by decide) rfl ?_
      refine ev_inV2 f_X12_nextCart (nx := 27) (lo2 := [(0, .ref 69), (1, .int 6)]) rfl rfl rfl rfl f_X12_refuse (hI.wf.s rfl) rfl rfl rfl rfl rfl ?_
      refine ev_loc f_X12_refuse (nx := 1) rfl rfl rfl rfl ?_
      refine ev_loc f_X12_refuse (nx := 2) rfl rfl rfl rfl ?_
      refine ev_putIT f_X12_refuse (nx := 5) rfl (hI.wf.s rfl) rfl rfl rfl (hI.put0 (hI.wf.s rfl) rfl rfl) (hX.upI rfl) (fun g17 e17 hI hX => ?_)
      refine ev_ic f_X12_refuse (nx := 6) (v := -1) rfl (by decide) rfl ?_
      refine ev_retK1 f_X12_refuse rfl rfl rfl ?_
      refine ev_jmp f_X12_nextCart (nx := 40) rfl rfl rfl ?_
      exact ev_ret f_X12_nextCart rfl rfl rfl ⟨_, _, _, rfl, hI, hX, ⟨_, rfl, (by decide : ((-1):Int) ≤ ((-1):Int32).toInt), (Int.le_trans (by decide : ((-1):Int32).toInt ≤ ((-1):Int)) (by decide : ((-1):Int) ≤ 5)), (show ∀ D : s_D, t_ME 0 gi D → t_Cb D → (gi 69 46).toInt = -1 → ((0 ≤ ar1.toInt ∧ ar1.toInt < D 2) → ((-1) : Int) = ((s_or (s_B D) (D 2).toNat ar1.toNatClampNeg : Nat) : Int)) ∧ (¬ (0 ≤ ar1.toInt ∧ ar1.toInt < D 2) → ((-1) : Int) = -1) from (by
                                                            intro D hm hb h46
                                                            have fa := t_F_X hC2
                                                            have hmA : t_ME 0 gi2 D := hm.mv hb (fun j _ _ _ => q2.1 (0 + j))
                                                            have k46 : (gi2 69 46).toInt = -1 := by rw [(fa 69 46 (by decide) rfl).1]; exact h46
                                                            have hq := q3.2.2.2 D hmA hb (fun j h => (q2.2.2 j h).trans (q2.1 _).symm) k46
                                                            exact ⟨fun h => absurd h (by omega), fun _ => rfl⟩))⟩⟩
noncomputable def wl_n_without : List (Nat × Nat) := [(69, 2), (69, 44), (69, 45), (69, 46), (69, 48), (89, 10005), (89, 610011), (90, 9999), (91, 9999), (92, 9999)]
noncomputable def Q_n_without (gi : Nat → Nat → Int32) (gl : Nat → Nat → Int64) (gr : Nat → Nat → Value) (ar1 : Int32) : Int32 → (Nat → Nat → Int32) → (Nat → Nat → Int64) → (Nat → Nat → Value) → Prop := fun (v : Int32) (gi2 : Nat → Nat → Int32) (gl2 : Nat → Nat → Int64) (gr2 : Nat → Nat → Value) => (gi 69 46).toInt = -1 → (gi2 69 46).toInt = -1
theorem c_n_without {X : x_Ext} {d : Nat} {sh : List (Nat ⊕ (Nat × Nat))} {gi : Nat → Nat → Int32} {gl : Nat → Nat → Int64} {gr : Nat → Nat → Value} (hI : t_I sh gi gr) (ar1 : Int32) (e_p0 : 1 ≤ (gi 70 4).toInt) : x_Me X (d + 6) n_X12_without [.ref 69, .int ar1] (sh, gi, gl, gr) (t_PI wl_n_without sh gi gl gr (-2147483648) 999999999 (Q_n_without gi gl gr ar1)) := by
  have hX : t_X wl_n_without sh gi gl gr gi gl gr := t_X.rf
  refine me_i f_X12_without (hI.wf.s rfl) rfl rfl rfl ?_
  obtain ⟨l2, u2⟩ := hI.ab (by decide +kernel : t_abr 70 4 4 0 20 = true) (Nat.le_refl _) (Nat.le_refl _)
  refine ev_loc f_X12_without (nx := 1) rfl rfl rfl rfl ?_
  refine ev_loc f_X12_without (nx := 2) rfl rfl rfl rfl ?_
  refine ev_inV2 f_X12_without (nx := 5) (lo2 := [(0, .ref 69), (1, .int ar1)]) rfl rfl rfl rfl f_X12_isCart (hI.wf.s rfl) rfl rfl rfl rfl rfl ?_
  refine ev_loc f_X12_isCart (nx := 1) rfl rfl rfl rfl ?_
  refine ev_if f_X12_isCart (t1 := 18) (t2 := 4) rfl rfl rfl (fun h3 => ?_) (fun h3 => ?_)
  · have u4 : ar1.toInt ≤ (-1) := t_ltu h3 (by decide : (0:Int32).toInt ≤ (0:Int)) rfl
    refine ev_ic f_X12_isCart (nx := 19) (v := 0) rfl (by decide) rfl ?_
    refine ev_retK1 f_X12_isCart rfl rfl rfl ?_
    refine ev_t f_X12_without (t1 := 8) (t2 := 14) rfl rfl rfl (by decide) ?_
    refine ev_loc f_X12_without (nx := 9) rfl rfl rfl rfl ?_
    refine ev_ic f_X12_without (nx := 10) (v := 1) rfl (by decide) rfl ?_
    refine ev_inV2 f_X12_without (nx := 13) (lo2 := [(0, .ref 69), (1, .int 1)]) rfl rfl rfl rfl f_X12_refuse (hI.wf.s rfl) rfl rfl rfl rfl rfl ?_
    refine ev_loc f_X12_refuse (nx := 1) rfl rfl rfl rfl ?_
    refine ev_loc f_X12_refuse (nx := 2) rfl rfl rfl rfl ?_
    refine ev_putIT f_X12_refuse (nx := 5) rfl (hI.wf.s rfl) rfl rfl rfl (hI.put0 (hI.wf.s rfl) rfl rfl) (hX.upI rfl) (fun g5 e5 hI hX => ?_)
    refine ev_ic f_X12_refuse (nx := 6) (v := -1) rfl (by decide) rfl ?_
    refine ev_retK1 f_X12_refuse rfl rfl rfl ?_
    exact ev_ret f_X12_without rfl rfl rfl ⟨_, _, _, rfl, hI, hX, ⟨_, rfl, (Int.le_trans (by decide : ((-2147483648):Int) ≤ (-1)) (by decide : ((-1):Int) ≤ ((-1):Int32).toInt)), (Int.le_trans (by decide : ((-1):Int32).toInt ≤ ((-1):Int)) (by decide : ((-1):Int) ≤ 999999999)), (show (gi 69 46).toInt = -1 → (g5 69 46).toInt = -1 from (by
                                                            intro h46
                                                            have ff6 : (g5 69 46).toInt = (gi 69 46).toInt := congrArg Int32.toInt ((by rw [e5]; exact x_up2_off (Or.inr (by decide)) : g5 69 46 = gi 69 46).trans rfl)
                                                            have e46 : g5 69 46 = gi 69 46 := by rw [e5, x_up2_off (Or.inr (by decide))]
                                                            rw [e46]; exact h46))⟩⟩
  · have l7 : 0 ≤ ar1.toInt := t_lel (t_nlt h3) (by decide : (0:Int) ≤ (0:Int32).toInt)
    refine ev_loc f_X12_isCart (nx := 5) rfl rfl rfl rfl ?_
    refine ev_loc f_X12_isCart (nx := 6) rfl rfl rfl rfl ?_
    refine ev_getR f_X12_isCart (nx := 9) rfl (hI.wf.s rfl) rfl rfl (hI.wf.r rfl) rfl rfl ?_
    refine ev_ic f_X12_isCart (nx := 10) (v := 2) rfl (by decide) rfl ?_
    obtain ⟨l8, u8⟩ := hI.ab (by decide +kernel : t_abr 70 2 2 0 6 = true) (Nat.le_refl _) (Nat.le_refl _)
    refine ev_ialdv f_X12_isCart (nx := 11) (w := (gi 70 2)) rfl (hI.wf.s rfl) (by decide) (rfl : (2 : Int32).toNatClampNeg = 2) (by decide) rfl rfl ?_
    refine ev_if f_X12_isCart (t1 := 18) (t2 := 14) rfl rfl rfl (fun h9 => ?_) (fun h9 => ?_)
    · have r10 : (gi 70 2).toInt ≤ ar1.toInt := Int32.le_iff_toInt_le.mp h9
      refine ev_ic f_X12_isCart (nx := 19) (v := 0) rfl (by decide) rfl ?_
      refine ev_retK1 f_X12_isCart rfl rfl rfl ?_
      refine ev_t f_X12_without (t1 := 8) (t2 := 14) rfl rfl rfl (by decide) ?_
      refine ev_loc f_X12_without (nx := 9) rfl rfl rfl rfl ?_
      refine ev_ic f_X12_without (nx := 10) (v := 1) rfl (by decide) rfl ?_
      refine ev_inV2 f_X12_without (nx := 13) (lo2 := [(0, .ref 69), (1, .int 1)]) rfl rfl rfl rfl f_X12_refuse (hI.wf.s rfl) rfl rfl rfl rfl rfl ?_
      refine ev_loc f_X12_refuse (nx := 1) rfl rfl rfl rfl ?_
      refine ev_loc f_X12_refuse (nx := 2) rfl rfl rfl rfl ?_
      refine ev_putIT f_X12_refuse (nx := 5) rfl (hI.wf.s rfl) rfl rfl rfl (hI.put0 (hI.wf.s rfl) rfl rfl) (hX.upI rfl) (fun g11 e11 hI hX => ?_)
      refine ev_ic f_X12_refuse (nx := 6) (v := -1) rfl (by decide) rfl ?_
      refine ev_retK1 f_X12_refuse rfl rfl rfl ?_
      exact ev_ret f_X12_without rfl rfl rfl ⟨_, _, _, rfl, hI, hX, ⟨_, rfl, (Int.le_trans (by decide : ((-2147483648):Int) ≤ (-1)) (by decide : ((-1):Int) ≤ ((-1):Int32).toInt)), (Int.le_trans (by decide : ((-1):Int32).toInt ≤ ((-1):Int)) (by decide : ((-1):Int) ≤ 999999999)), (show (gi 69 46).toInt = -1 → (g11 69 46).toInt = -1 from (by
                                                            intro h46
                                                            have ff12 : (g11 69 46).toInt = (gi 69 46).toInt := congrArg Int32.toInt ((by rw [e11]; exact x_up2_off (Or.inr (by decide)) : g11 69 46 = gi 69 46).trans rfl)
                                                            have e46 : g11 69 46 = gi 69 46 := by rw [e11, x_up2_off (Or.inr (by decide))]
                                                            rw [e46]; exact h46))⟩⟩
    · have r13 : ar1.toInt < (gi 70 2).toInt := Int32.lt_iff_toInt_lt.mp (t_nle h9)
      have u14 : ar1.toInt ≤ 5 := t_ltu (t_nle h9) u8 rfl
      have l15 : 1 ≤ (gi 70 2).toInt := t_ltl (t_nle h9) l7 rfl
      refine ev_ic f_X12_isCart (nx := 15) (v := 1) rfl (by decide) rfl ?_
      refine ev_jmp f_X12_isCart (nx := 19) rfl rfl rfl ?_
      refine ev_retK1 f_X12_isCart rfl rfl rfl ?_
      refine ev_f f_X12_without (t1 := 8) (t2 := 14) rfl rfl rfl (by decide) ?_
      refine ev_loc f_X12_without (nx := 15) rfl rfl rfl rfl ?_
      refine ev_loc f_X12_without (nx := 16) rfl rfl rfl rfl ?_
      refine ev_putIT f_X12_without (nx := 19) rfl (hI.wf.s rfl) rfl rfl rfl (hI.put0 (hI.wf.s rfl) rfl rfl) (hX.upI rfl) (fun g16 e16 hI hX => ?_)
      refine ev_loc f_X12_without (nx := 20) rfl rfl rfl rfl ?_
      refine ev_ic f_X12_without (nx := 21) (v := 0) rfl (by decide) rfl ?_
      refine ev_loc f_X12_without (nx := 22) rfl rfl rfl rfl ?_
      refine ev_getR f_X12_without (nx := 25) rfl (hI.wf.s rfl) rfl rfl (hI.wf.r rfl) rfl rfl ?_
      refine ev_ic f_X12_without (nx := 26) (v := 4) rfl (by decide) rfl ?_
      refine ev_ialdv f_X12_without (nx := 27) (w := (gi 70 4)) rfl (hI.wf.s rfl) (by decide) (rfl : (4 : Int32).toNatClampNeg = 4) (by decide) ((by rw [e16]; exact x_up2_off (Or.inr (by decide)) : g16 70 4 = gi 70 4).trans rfl) rfl ?_
      refine ev_qI f_X12_without (nx := 30) (r := []) rfl rfl rfl rfl rfl rfl rfl (c_m_leastBy hI (0) ((gi 70 4)) l2 u2 (by omega)) rfl hX rfl (fun w18 gi18 gl18 gr18 l18 u18 hI hX hC18 q18 => ?_)
      have q18 : Q_m_leastBy g16 gl gr (0 : Int32) (gi 70 4) w18 gi18 gl18 gr18 := q18
      refine ev_loc f_X12_without (nx := 31) (lo' := [(2, .int w18), (0, .ref 69), (1, .int ar1)]) rfl rfl rfl rfl ?_
      refine ev_loc f_X12_without (nx := 32) rfl rfl rfl rfl ?_
      refine ev_ic f_X12_without (nx := 33) (v := -1) rfl (by decide) rfl ?_
      refine ev_putIT f_X12_without (nx := 36) rfl (hI.wf.s rfl) rfl rfl rfl (hI.put0 (hI.wf.s rfl) rfl rfl) (hX.upI rfl) (fun g19 e19 hI hX => ?_)
      refine ev_loc f_X12_without (nx := 37) rfl rfl rfl rfl ?_
      refine ev_loc f_X12_without (nx := 38) rfl rfl rfl rfl ?_
      refine ev_inV2 f_X12_without (nx := 41) (lo2 := [(0, .ref 69), (1, .int w18)]) rfl rfl rfl rfl f_X12_orNone (hI.wf.s rfl) rfl rfl rfl rfl rfl ?_
      refine ev_loc f_X12_orNone (nx := 1) rfl rfl rfl rfl ?_
      refine ev_ic f_X12_orNone (nx := 2) (v := -1) rfl (by decide) rfl ?_
      refine ev_if f_X12_orNone (t1 := 5) (t2 := 14) rfl rfl rfl (fun h20 => ?_) (fun h20 => ?_)
      · have u21 : w18.toInt ≤ (-1) := t_equ h20 (by decide : ((-1):Int32).toInt ≤ ((-1):Int))
        have l22 : (-1) ≤ w18.toInt := t_eql h20 (by decide : ((-1):Int) ≤ ((-1):Int32).toInt)
        refine ev_loc f_X12_orNone (nx := 6) rfl rfl rfl rfl ?_
        refine ev_bp f_X12_orNone (nx := 8) (v := 6) rfl (by decide) rfl ?_
        refine ev_inV2 f_X12_orNone (nx := 11) (lo2 := [(0, .ref 69), (1, .int 6)]) rfl rfl rfl rfl f_X12_refuse (hI.wf.s rfl) rfl rfl rfl rfl rfl ?_
        refine ev_loc f_X12_refuse (nx := 1) rfl rfl rfl rfl ?_
        refine ev_loc f_X12_refuse (nx := 2) rfl rfl rfl rfl ?_
        refine ev_putIT f_X12_refuse (nx := 5) rfl (hI.wf.s rfl) rfl rfl rfl (hI.put0 (hI.wf.s rfl) rfl rfl) (hX.upI rfl) (fun g23 e23 hI hX => ?_)
        refine ev_ic f_X12_refuse (nx := 6) (v := -1) rfl (by decide) rfl ?_
        refine ev_retK1 f_X12_refuse rfl rfl rfl ?_
        refine ev_jmp f_X12_orNone (nx := 19) rfl rfl rfl ?_
        refine ev_retK1 f_X12_orNone rfl rfl rfl ?_
        exact ev_ret f_X12_without rfl rfl rfl ⟨_, _, _, rfl, hI, hX, ⟨_, rfl, (Int.le_trans (by decide : ((-2147483648):Int) ≤ (-1)) (by decide : ((-1):Int) ≤ ((-1):Int32).toInt)), (Int.le_trans (by decide : ((-1):Int32).toInt ≤ ((-1):Int)) (by decide : ((-1):Int) ≤ 999999999)), (show (gi 69 46).toInt = -1 → (g23 69 46).toInt = -1 from (by
                                                            intro _
                                                            rw [e23, x_up2_off (Or.inr (by decide)), e19, x_up2_at]; rfl))⟩⟩
      · have r24 : w18.toInt ≠ (-1) := fun e => h20 (Int32.toInt_inj.mp (e.trans (by decide : ((-1):Int) = ((-1) : Int32).toInt)))
        refine ev_loc f_X12_orNone (nx := 15) rfl rfl rfl rfl ?_
        refine ev_loc f_X12_orNone (nx := 16) rfl rfl rfl rfl ?_
        refine ev_inV2 f_X12_orNone (nx := 19) (lo2 := [(0, .ref 69), (1, .int w18)]) rfl rfl rfl rfl f_X12_gives (hI.wf.s rfl) rfl rfl rfl rfl rfl ?_
        refine ev_loc f_X12_gives (nx := 1) rfl rfl rfl rfl ?_
        refine ev_ic f_X12_gives (nx := 2) (v := 0) rfl (by decide) rfl ?_
        refine ev_putIT f_X12_gives (nx := 5) rfl (hI.wf.s rfl) rfl rfl rfl (hI.put0 (hI.wf.s rfl) rfl rfl) (hX.upI rfl) (fun g25 e25 hI hX => ?_)
        refine ev_loc f_X12_gives (nx := 6) rfl rfl rfl rfl ?_
        refine ev_retK1 f_X12_gives rfl rfl rfl ?_
        refine ev_retK1 f_X12_orNone rfl rfl rfl ?_
        exact ev_ret f_X12_without rfl rfl rfl ⟨_, _, _, rfl, hI, hX, ⟨_, rfl, l18, u18, (show (gi 69 46).toInt = -1 → (g25 69 46).toInt = -1 from (by
                                                            intro _
                                                            rw [e25, x_up2_off (Or.inr (by decide)), e19, x_up2_at]; rfl))⟩⟩
/-! ===== no CART is left out between calls; least: the answers are alike; nextCart too ===== -/
noncomputable def t_LE (c : Nat) (sh : List (Nat ⊕ (Nat × Nat))) (gi : Nat → Nat → Int32) (gl : Nat → Nat → Int64) (gr : Nat → Nat → Value) : Prop := t_LD c sh gi gl gr ∧ (gi 69 46).toInt = -1
theorem W1_N {sh : List (Nat ⊕ (Nat × Nat))} {gi : Nat → Nat → Int32} {gl : Nat → Nat → Int64} {gr : Nat → Nat → Value} (hR : x_R W1 (sh, gi, gl, gr)) : (gi 69 46).toInt = -1 := by
  have h : gi 69 46 = x_cI w1_c69 46 := ((x_gc_R hR (c := w1_c69) rfl).2.2.2 _ (by decide)).1
  rw [h]
  decide +kernel
section LEAL
variable {sh : List (Nat ⊕ (Nat × Nat))} {gi g1 g2 : Nat → Nat → Int32} {gl l1 l2 : Nat → Nat → Int64} {gr r1 r2 : Nat → Nat → Value} {w1 w2 : List (Nat × Nat)} {A : Int32} {x1 x2 : Int32}
theorem t_N46 (hN : (gi 69 46).toInt = -1) (f1 : t_F w1 gi gl gr g1 l1 r1) (f2 : t_F w2 g1 l1 r1 g2 l2 r2) (h : (t_un w1 (69, 46) && t_un w2 (69, 46)) = true) : (g2 69 46).toInt = -1 := by
  rw [Bool.and_eq_true] at h
  rw [(f2 69 46 (by decide) (t_un_ok h.2)).1, (f1 69 46 (by decide) (t_un_ok h.1)).1]; exact hN
theorem t_N46a (hN : (gi 69 46).toInt = -1) (f1 : t_F w1 gi gl gr g1 l1 r1) (h : t_un w1 (69, 46) = true) : (g1 69 46).toInt = -1 := by
  rw [(f1 69 46 (by decide) (t_un_ok h)).1]; exact hN
theorem t_L_least (hI : t_I sh gi gr) (hD : t_DR sh.length gi gl gr) (f1 : t_F w1 gi gl gr g1 l1 r1) (h70 : t_nc w1 70 = true) (hN1 : (g1 69 46).toInt = -1) (h4 : 1 ≤ (g1 70 4).toInt) (q1 : Q_d_least gi gl gr x1 g1 l1 r1) (q2 : Q_e_least g1 l1 r1 x2 g2 l2 r2) : x1 = x2 := by
  obtain ⟨u, hu, D, hb, hv, hl, hc, hm⟩ := hD.1
  have r70 : g1 70 = gi 70 := t_F_nc f1 h70 (by decide)
  have hm2 : t_ME 0 g1 D := by unfold t_ME; rw [r70]; exact hm
  have hd : s_DB D := s_DB_of hI hm hb (by rw [← r70]; exact h4)
  have k1 := q1 u D hu hl hc hb hv.1 (t_D_sail hI hb hm) hd
  have k2 := q2 D hm2 hb hd hN1
  exact Int32.toInt_inj.mp (k1.trans k2.symm)
theorem t_L_quicker (hI : t_I sh gi gr) (hD : t_DR sh.length gi gl gr) (f1 : t_F w1 gi gl gr g1 l1 r1) (h70 : t_nc w1 70 = true) (hN1 : (g1 69 46).toInt = -1) (h4 : 1 ≤ (g1 70 4).toInt) (q1 : Q_d_quicker gi gl gr A x1 g1 l1 r1) (q2 : Q_e_quicker g1 l1 r1 A x2 g2 l2 r2) : x1 = x2 := by
  obtain ⟨u, hu, D, hb, hv, hl, hc, hm⟩ := hD.1
  have r70 : g1 70 = gi 70 := t_F_nc f1 h70 (by decide)
  have hm2 : t_ME 0 g1 D := by unfold t_ME; rw [r70]; exact hm
  have hd : s_DB D := s_DB_of hI hm hb (by rw [← r70]; exact h4)
  have k1 := q1 u D hu hl hc hb hv.1 (t_D_sail hI hb hm) hd
  have k2 := q2 D hm2 hb hd hN1
  apply Int32.toInt_inj.mp
  by_cases hin : 1 ≤ A.toInt ∧ A.toInt ≤ 20
  · rw [k1.1 hin, k2.1 hin]
  · rw [k1.2 hin, k2.2 hin]
theorem t_L_nextCart (hD : t_DR sh.length gi gl gr) (f1 : t_F w1 gi gl gr g1 l1 r1) (h70 : t_nc w1 70 = true) (hN1 : (g1 69 46).toInt = -1) (q1 : Q_d_nextCart gi gl gr A x1 g1 l1 r1) (q2 : Q_e_nextCart g1 l1 r1 A x2 g2 l2 r2) : x1 = x2 := by
  obtain ⟨u, hu, D, hb, hv, hl, hc, hm⟩ := hD.1
  have r70 : g1 70 = gi 70 := t_F_nc f1 h70 (by decide)
  have hm2 : t_ME 0 g1 D := by unfold t_ME; rw [r70]; exact hm
  have k1 := q1 u D hu hl hc hb hv.1
  have k2 := q2 D hm2 hb hN1
  apply Int32.toInt_inj.mp
  by_cases hin : 0 ≤ A.toInt ∧ A.toInt < D 2
  · rw [k1.1 hin, k2.1 hin]
  · rw [k1.2 hin, k2.2 hin]
end LEAL
/-! ===== the order of some of them ===== -/
/-- how many of the first i are kept; their order -/
noncomputable def s_fn (B : Nat → Bool) : Nat → Nat
  | 0 => 0
  | i + 1 => if B i = true then s_fn B i + 1 else s_fn B i
noncomputable def s_ff (A : Nat → Int) (B : Nat → Bool) : Nat → Nat → Nat
  | 0 => fun _ => 0
  | i + 1 => if B i = true then s_ins (s_ff A B i) i (s_pk (fun j => A (s_ff A B i j)) (A i) (s_fn B i)) else s_ff A B i
/-- f tells X of each, in the order F -/
noncomputable def s_RF (F : Nat → Nat) (X : Nat → Int) (f : Nat → Int32) (n : Nat) : Prop := ∀ j, j < n → (f j).toInt = X (F j)
/-- who isn't sent away by a set; who isn't the one left out -/
noncomputable def s_mk (m : Int32) (j : Nat) : Bool := decide (¬ (m >>> (Int32.ofNat j &&& 31)) &&& 1 = 1)
noncomputable def s_ck (x : Int) (j : Nat) : Bool := decide (¬ (j : Int) = x)
/-- one comes later -/
noncomputable def s_Al (A : Nat → Int) (w l : Int) (j : Nat) : Int := A j + (if (j : Int) = w then l else 0)
section GEN
variable {f g : Nat → Int32} {K A X : Nat → Int} {B : Nat → Bool} {F : Nat → Nat} {n i : Nat} {a : Int} {v m z z1 y : Int32}
theorem s_fn_y (h : B i = true) : s_fn B (i + 1) = s_fn B i + 1 := if_pos h
theorem s_fn_n (h : ¬ B i = true) : s_fn B (i + 1) = s_fn B i := if_neg h
theorem s_ff_y (h : B i = true) : s_ff A B (i + 1) = s_ins (s_ff A B i) i (s_pk (fun j => A (s_ff A B i j)) (A i) (s_fn B i)) := if_pos h
theorem s_ff_n (h : ¬ B i = true) : s_ff A B (i + 1) = s_ff A B i := if_neg h
theorem s_fn_le (B : Nat → Bool) : ∀ i : Nat, s_fn B i ≤ i
  | 0 => Nat.le_refl _
  | i + 1 => by
    have h := s_fn_le B i
    by_cases hb : B i = true
    · rw [s_fn_y hb]; omega
    · rw [s_fn_n hb]; omega
theorem s_ff_lt (A : Nat → Int) (B : Nat → Bool) : ∀ i j : Nat, j < s_fn B i → s_ff A B i j < i
  | 0, _, h => absurd h (Nat.not_lt_zero _)
  | i + 1, j, h => by
    by_cases hb : B i = true
    · rw [s_fn_y hb] at h
      rw [s_ff_y hb]
      have hp := s_pk_le (fun j => A (s_ff A B i j)) (A i) (s_fn B i)
      unfold s_ins
      split
      · have := s_ff_lt A B i j (by omega); omega
      · split
        · omega
        · have := s_ff_lt A B i (j - 1) (by omega); omega
    · rw [s_fn_n hb] at h
      rw [s_ff_n hb]
      have := s_ff_lt A B i j h; omega
theorem s_ff_all (A : Nat → Int) (B : Nat → Bool) : ∀ i : Nat, (∀ j, j < i → B j = true) → s_fn B i = i ∧ s_ff A B i = s_or A i
  | 0, _ => ⟨rfl, rfl⟩
  | i + 1, h => by
    obtain ⟨h1, h2⟩ := s_ff_all A B i (fun j hj => h j (by omega))
    have hb := h i (Nat.lt_succ_self i)
    refine ⟨by rw [s_fn_y hb, h1], ?_⟩
    rw [s_ff_y hb, h1, h2]
    rfl
theorem s_RF_s (h : s_RF F X f n) (hv : v.toInt = X i) (hK : ∀ j, j < n → K j = A (F j)) (ha : a = A i) (e : ∀ j, j ≤ n → g j = s_is f v (s_pk K a n) j) : s_RF (s_ins F i (s_pk (fun j => A (F j)) (A i) n)) X g (n + 1) := by
  intro j hj
  rw [e j (by omega), s_pk_cg (K' := fun j => A (F j)) n hK, ha]
  have hp := s_pk_le (fun j => A (F j)) (A i) n
  unfold s_is s_ins
  split
  · exact h j (by omega)
  · split
    · exact hv
    · exact h (j - 1) (by omega)
theorem s_ofc (h : 0 ≤ y.toInt) : Int32.ofNat y.toNatClampNeg = y := by
  apply Int32.toInt_inj.mp
  have c := t_clamp (i := y) h
  have hl := y.toInt_lt
  rw [Int32.toInt_ofNat_of_lt (by omega), c]
theorem s_bit1 (x : Int32) : x &&& 1 = 0 ∨ x &&& 1 = 1 := by
  have h := t_and1 x
  rcases (show (x &&& 1).toInt = 0 ∨ (x &&& 1).toInt = 1 by omega) with e | e
  · exact Or.inl (Int32.toInt_inj.mp e)
  · exact Or.inr (Int32.toInt_inj.mp e)
theorem s_mk_y (h0 : 0 ≤ y.toInt) (e1 : z1 = m >>> (y &&& 31)) (e : z = z1 &&& 1) (h : z ≠ 1) : s_mk m y.toNatClampNeg = true := by
  unfold s_mk; rw [s_ofc h0, ← e1, ← e]; exact decide_eq_true h
theorem s_mk_n (h0 : 0 ≤ y.toInt) (e1 : z1 = m >>> (y &&& 31)) (e : z = z1 &&& 1) (h : z ≠ 0) : ¬ s_mk m y.toNatClampNeg = true := by
  unfold s_mk; rw [s_ofc h0, ← e1, ← e]
  rcases s_bit1 z1 with h2 | h2
  · exact absurd (e.trans h2) h
  · rw [e, h2]; decide
theorem s_ck_y {x : Int} (h : ¬ (i : Int) = x) : s_ck x i = true := decide_eq_true h
theorem s_ck_n {x : Int} (h : (i : Int) = x) : ¬ s_ck x i = true := by unfold s_ck; rw [decide_eq_true_eq]; exact fun hh => hh h
end GEN
/-! ===== printed by riv.py: the order of some of them: the class ===== -/
noncomputable def wl_d_takeShipsG : List (Nat × Nat) := [(29, 0), (30, 9999), (31, 9999), (32, 9999), (33, 9999), (34, 9999)]
noncomputable def Q_d_takeShipsG (gi : Nat → Nat → Int32) (gl : Nat → Nat → Int64) (gr : Nat → Nat → Value) (ar1 : Nat) (ar2 : Int32) (ar3 : Int32) (ar4 : Int32) : (Nat → Nat → Int32) → (Nat → Nat → Int64) → (Nat → Nat → Value) → Prop := fun (gi2 : Nat → Nat → Int32) (gl2 : Nat → Nat → Int64) (gr2 : Nat → Nat → Value) => ∀ D : s_D, t_VL gr ar1 → t_CV gi gl ar1 D → (ar1 = 3 ∨ 102 ≤ ar1) → t_Cb D → s_DB D → (∀ s : Nat, (s : Int) < D 1 → 0 ≤ D (56 + 5 * s) ∧ D (56 + 5 * s) ≤ 1) → (gi2 29 0).toInt = ((s_fn (s_mk ar2) (D 1).toNat : Nat) : Int) ∧ s_RF (s_ff (s_Al (s_A D) ar3.toInt ar4.toInt) (s_mk ar2) (D 1).toNat) (fun k => (k : Int)) (gi2 30) (s_fn (s_mk ar2) (D 1).toNat) ∧ s_RF (s_ff (s_Al (s_A D) ar3.toInt ar4.toInt) (s_mk ar2) (D 1).toNat) (s_Al (s_A D) ar3.toInt ar4.toInt) (gi2 31) (s_fn (s_mk ar2) (D 1).toNat) ∧ s_RF (s_ff (s_Al (s_A D) ar3.toInt ar4.toInt) (s_mk ar2) (D 1).toNat) (fun k => D (54 + 5 * k)) (gi2 32) (s_fn (s_mk ar2) (D 1).toNat) ∧ s_RF (s_ff (s_Al (s_A D) ar3.toInt ar4.toInt) (s_mk ar2) (D 1).toNat) (fun k => D (55 + 5 * k)) (gi2 33) (s_fn (s_mk ar2) (D 1).toNat) ∧ s_RF (s_ff (s_Al (s_A D) ar3.toInt ar4.toInt) (s_mk ar2) (D 1).toNat) (fun k => D (56 + 5 * k)) (gi2 34) (s_fn (s_mk ar2) (D 1).toNat)
theorem c_d_takeShipsG {X : x_Ext} {d : Nat} {sh : List (Nat ⊕ (Nat × Nat))} {gi : Nat → Nat → Int32} {gl : Nat → Nat → Int64} {gr : Nat → Nat → Value} (hI : t_I sh gi gr) (ar1 : Nat) (p_a1 : t_Rv sh gr ar1) (ar2 : Int32) (ar3 : Int32) (ar4 : Int32) (l_a4 : 0 ≤ ar4.toInt) (u_a4 : ar4.toInt ≤ 500) : x_Me X (d + 3) n_X1_takeShips [.ref 28, .ref ar1, .int ar2, .int ar3, .int ar4] (sh, gi, gl, gr) (t_PN wl_d_takeShipsG sh gi gl gr (Q_d_takeShipsG gi gl gr ar1 ar2 ar3 ar4)) := by
  have hX : t_X wl_d_takeShipsG sh gi gl gr gi gl gr := t_X.rf
  refine me_i f_X1_takeShips (hI.wf.s rfl) rfl rfl rfl ?_
  obtain ⟨l1, u1⟩ := hI.b (hI.wf.s (k := 29) rfl) (t_bdK rfl : t_bd 3 0 = some (0, 6))
  refine ev_loc f_X1_takeShips (nx := 1) rfl rfl rfl rfl ?_
  refine ev_getR f_X1_takeShips (nx := 4) rfl (hI.wf.s rfl) rfl rfl (hI.wf.r rfl) rfl rfl ?_
  refine ev_inV1 f_X1_takeShips (nx := 7) (lo2 := [(0, .ref 29)]) rfl rfl rfl rfl f_X4_clear (hI.wf.s rfl) rfl rfl rfl rfl rfl ?_
  refine ev_loc f_X4_clear (nx := 1) rfl rfl rfl rfl ?_
  refine ev_ic f_X4_clear (nx := 2) (v := 0) rfl (by decide) rfl ?_
  refine ev_putIT f_X4_clear (nx := 5) rfl (hI.wf.s rfl) rfl rfl rfl (hI.putB (hI.wf.s rfl) rfl rfl (by decide : (0:Int) ≤ (0:Int32).toInt) (by decide) (by decide : (0:Int32).toInt ≤ (0:Int)) (by decide)) (hX.upI rfl) (fun g2 e2 hI hX => ?_)
  refine ev_retK0 f_X4_clear rfl rfl rfl ?_
  refine ev_ic f_X1_takeShips (nx := 8) (v := 0) rfl (by decide) rfl ?_
  refine ev_loc f_X1_takeShips (nx := 10) (lo' := [(5, .int 0), (0, .ref 28), (1, .ref ar1), (2, .int ar2), (3, .int ar3), (4, .int ar4)]) rfl rfl rfl rfl ?_
  have L3 : ∀ (m3 : Nat) (gi3 : Nat → Nat → Int32) (gl3 : Nat → Nat → Int64) (gr3 : Nat → Nat → Value) (y3_5 : Int32), t_I sh gi3 gr3 → t_X wl_d_takeShipsG sh gi gl gr gi3 gl3 gr3 → t_Rv sh gr3 ar1 → 0 ≤ y3_5.toInt → y3_5.toInt ≤ 6 → (∀ D : s_D, t_VL gr ar1 → t_CV gi gl ar1 D → (ar1 = 3 ∨ 102 ≤ ar1) → t_Cb D → s_DB D → (∀ s : Nat, (s : Int) < D 1 → 0 ≤ D (56 + 5 * s) ∧ D (56 + 5 * s) ≤ 1) → y3_5.toInt ≤ D 1 ∧ (gi3 29 0).toInt = ((s_fn (s_mk ar2) y3_5.toNatClampNeg : Nat) : Int) ∧ s_RF (s_ff (s_Al (s_A D) ar3.toInt ar4.toInt) (s_mk ar2) y3_5.toNatClampNeg) (fun k => (k : Int)) (gi3 30) (s_fn (s_mk ar2) y3_5.toNatClampNeg) ∧ s_RF (s_ff (s_Al (s_A D) ar3.toInt ar4.toInt) (s_mk ar2) y3_5.toNatClampNeg) (s_Al (s_A D) ar3.toInt ar4.toInt) (gi3 31) (s_fn (s_mk ar2) y3_5.toNatClampNeg) ∧ s_RF (s_ff (s_Al (s_A D) ar3.toInt ar4.toInt) (s_mk ar2) y3_5.toNatClampNeg) (fun k => D (54 + 5 * k)) (gi3 32) (s_fn (s_mk ar2) y3_5.toNatClampNeg) ∧ s_RF (s_ff (s_Al (s_A D) ar3.toInt ar4.toInt) (s_mk ar2) y3_5.toNatClampNeg) (fun k => D (55 + 5 * k)) (gi3 33) (s_fn (s_mk ar2) y3_5.toNatClampNeg) ∧ s_RF (s_ff (s_Al (s_A D) ar3.toInt ar4.toInt) (s_mk ar2) y3_5.toNatClampNeg) (fun k => D (56 + 5 * k)) (gi3 34) (s_fn (s_mk ar2) y3_5.toNatClampNeg)) → (6 - y3_5.toInt).toNat = m3 → x_Ev X (d + 3) n_X1_takeShips 10 [(5, .int y3_5), (0, .ref 28), (1, .ref ar1), (2, .int ar2), (3, .int ar3), (4, .int ar4)] [] (sh, gi3, gl3, gr3) (t_PN wl_d_takeShipsG sh gi gl gr (Q_d_takeShipsG gi gl gr ar1 ar2 ar3 ar4)) := by
    intro m3
    induction m3 using Nat.strongRecOn with
    | _ m3 ih3 =>
    intro gi3 gl3 gr3 y3_5 hI hX p_a1 l3_5 u3_5 j3_0 hm3
    obtain ⟨l4, u4⟩ := hI.b (hI.wf.s (k := 29) rfl) (t_bdK rfl : t_bd 3 0 = some (0, 6))
    refine ev_loc f_X1_takeShips (nx := 12) rfl rfl rfl rfl ?_
    have hXh := hX
    refine ev_loc f_X1_takeShips (nx := 13) rfl rfl rfl rfl ?_
    obtain ⟨a5, e5, p5⟩ := p_a1.2.2.2.2.1
    refine ev_getR f_X1_takeShips (nx := 16) rfl p_a1.1 rfl rfl e5 rfl rfl ?_
    refine ev_getI f_X1_takeShips (nx := 19) rfl p5.1 rfl rfl rfl ?_
    obtain ⟨l6, u6⟩ := hI.b p5.1 (t_bdK rfl : t_bd 3 0 = some (0, 6))
    refine ev_if f_X1_takeShips (t1 := 77) (t2 := 22) rfl rfl rfl (fun h7 => ?_) (fun h7 => ?_)
    · have r8 : (gi3 a5 0).toInt ≤ y3_5.toInt := Int32.le_iff_toInt_le.mp h7
      exact ev_ret f_X1_takeShips rfl rfl rfl ⟨_, _, _, rfl, hI, hX, ⟨rfl, (show ∀ D : s_D, t_VL gr ar1 → t_CV gi gl ar1 D → (ar1 = 3 ∨ 102 ≤ ar1) → t_Cb D → s_DB D → (∀ s : Nat, (s : Int) < D 1 → 0 ≤ D (56 + 5 * s) ∧ D (56 + 5 * s) ≤ 1) → (gi3 29 0).toInt = ((s_fn (s_mk ar2) (D 1).toNat : Nat) : Int) ∧ s_RF (s_ff (s_Al (s_A D) ar3.toInt ar4.toInt) (s_mk ar2) (D 1).toNat) (fun k => (k : Int)) (gi3 30) (s_fn (s_mk ar2) (D 1).toNat) ∧ s_RF (s_ff (s_Al (s_A D) ar3.toInt ar4.toInt) (s_mk ar2) (D 1).toNat) (s_Al (s_A D) ar3.toInt ar4.toInt) (gi3 31) (s_fn (s_mk ar2) (D 1).toNat) ∧ s_RF (s_ff (s_Al (s_A D) ar3.toInt ar4.toInt) (s_mk ar2) (D 1).toNat) (fun k => D (54 + 5 * k)) (gi3 32) (s_fn (s_mk ar2) (D 1).toNat) ∧ s_RF (s_ff (s_Al (s_A D) ar3.toInt ar4.toInt) (s_mk ar2) (D 1).toNat) (fun k => D (55 + 5 * k)) (gi3 33) (s_fn (s_mk ar2) (D 1).toNat) ∧ s_RF (s_ff (s_Al (s_A D) ar3.toInt ar4.toInt) (s_mk ar2) (D 1).toNat) (fun k => D (56 + 5 * k)) (gi3 34) (s_fn (s_mk ar2) (D 1).toNat) from (fun D hl hc hv hb hd hsl => (by
                                                            obtain ⟨g0, g1, g2⟩ := j3_0 D hl hc hv hb hd hsl
                                                            have hK := t_nd_fr hXh rfl
                                                            have hl2 := hl.fr (fun K k1 k2 => hK K (by omega))
                                                            have hc2 := hc.fr (fun K k1 k2 => hK K (by omega))
                                                            have hb0 : a5 = (ar1 + 3) := (Value.ref.inj ((hl2.1.2.2.2.1).symm.trans e5)).symm
                                                            subst hb0
                                                            have hL := hc2.2.2.1.1
                                                            have cy := t_clamp (i := y3_5) (by omega)
                                                            rw [show (D 1).toNat = y3_5.toNatClampNeg from (by omega)]
                                                            exact ⟨g1, g2⟩)))⟩⟩
    · have r9 : y3_5.toInt < (gi3 a5 0).toInt := Int32.lt_iff_toInt_lt.mp (t_nle h7)
      have u10 : y3_5.toInt ≤ 5 := t_ltu (t_nle h7) u6 rfl
      have l11 : 1 ≤ (gi3 a5 0).toInt := t_ltl (t_nle h7) l3_5 rfl
      refine ev_loc f_X1_takeShips (nx := 23) rfl rfl rfl rfl ?_
      refine ev_loc f_X1_takeShips (nx := 25) rfl rfl rfl rfl ?_
      refine ev_anyIE f_X1_takeShips (nx := 26) rfl rfl rfl rfl (fun z12 e12 => ?_)
      refine ev_ic f_X1_takeShips (nx := 27) (v := 1) rfl (by decide) rfl ?_
      refine ev_anyIE f_X1_takeShips (nx := 28) rfl rfl rfl rfl (fun z13 e13 => ?_)
      refine ev_if f_X1_takeShips (t1 := 31) (t2 := 71) rfl rfl rfl (fun h14 => ?_) (fun h14 => ?_)
      · have u15 : z13.toInt ≤ 0 := t_equ h14 (by decide : (0:Int32).toInt ≤ (0:Int))
        have l16 : 0 ≤ z13.toInt := t_eql h14 (by decide : (0:Int) ≤ (0:Int32).toInt)
        refine ev_loc f_X1_takeShips (nx := 32) rfl rfl rfl rfl ?_
        refine ev_getR f_X1_takeShips (nx := 35) (v := .ref a5) rfl p_a1.1 rfl rfl e5 rfl rfl ?_
        obtain ⟨a17, e17, s17, o17⟩ := p5.2.2.1
        refine ev_getR f_X1_takeShips (nx := 38) rfl p5.1 rfl rfl e17 rfl rfl ?_
        refine ev_loc f_X1_takeShips (nx := 40) rfl rfl rfl rfl ?_
        refine ev_ialdT f_X1_takeShips (nx := 41) rfl s17 l3_5 (by decide) u10 (by decide) rfl (fun w18 e18 => ?_)
        refine ev_loc f_X1_takeShips (nx := 43) rfl rfl rfl rfl ?_
        refine ev_loc f_X1_takeShips (nx := 44) rfl rfl rfl rfl ?_
        refine ev_if f_X1_takeShips (t1 := 47) (t2 := 52) rfl rfl rfl (fun h19 => ?_) (fun h19 => ?_)
        · have r20 : y3_5.toInt = ar3.toInt := t_eqi h19
          have u21 : ar3.toInt ≤ 5 := t_equ (Eq.symm h19) u10
          have l22 : 0 ≤ ar3.toInt := t_eql (Eq.symm h19) l3_5
          refine ev_loc f_X1_takeShips (nx := 49) rfl rfl rfl rfl ?_
          refine ev_jmp f_X1_takeShips (nx := 53) rfl rfl rfl ?_
          refine ev_anyIE f_X1_takeShips (nx := 54) rfl rfl rfl rfl (fun z23 e23 => ?_)
          refine ev_loc f_X1_takeShips (nx := 56) (lo' := [(6, .int z23), (5, .int y3_5), (0, .ref 28), (1, .ref ar1), (2, .int ar2), (3, .int ar3), (4, .int ar4)]) rfl rfl rfl rfl ?_
          refine ev_loc f_X1_takeShips (nx := 57) rfl rfl rfl rfl ?_
          refine ev_getR f_X1_takeShips (nx := 60) rfl (hI.wf.s rfl) rfl rfl (hI.wf.r rfl) rfl rfl ?_
          refine ev_loc f_X1_takeShips (nx := 61) rfl rfl rfl rfl ?_
          refine ev_getR f_X1_takeShips (nx := 64) (v := .ref a5) rfl p_a1.1 rfl rfl e5 rfl rfl ?_
          refine ev_loc f_X1_takeShips (nx := 66) rfl rfl rfl rfl ?_
          refine ev_loc f_X1_takeShips (nx := 68) rfl rfl rfl rfl ?_
          refine ev_qN f_X1_takeShips (nx := 71) (r := []) rfl rfl rfl rfl rfl rfl rfl (c_d_join_29 hI (a5) p5 (y3_5) (z23)) rfl hX rfl (fun gi24 gl24 gr24 hI hX hC24 q24 => ?_)
          have q24 : (∀ n t w l : Nat, (gi3 29 0).toInt = n → n ≤ 5 → 0 ≤ y3_5.toInt → y3_5.toInt < (gi3 a5 0).toInt → s_LR a5 → s_LR t → s_LR w → s_LR l → gr3 a5 3 = .ref t → gr3 a5 4 = .ref w → gr3 a5 5 = .ref l → (∀ j : Nat, j < n → gi3 34 j &&& 1 = gi3 34 j) → (gi24 29 0).toInt = n + 1 ∧ ∀ j, j ≤ n → gi24 30 j = s_is (gi3 30) (y3_5) (s_pk (fun j => (gi3 31 j).toInt) z23.toInt n) j ∧ gi24 31 j = s_is (gi3 31) (z23) (s_pk (fun j => (gi3 31 j).toInt) z23.toInt n) j ∧ gi24 32 j = s_is (gi3 32) (gi3 t y3_5.toNatClampNeg) (s_pk (fun j => (gi3 31 j).toInt) z23.toInt n) j ∧ gi24 33 j = s_is (gi3 33) (gi3 w y3_5.toNatClampNeg) (s_pk (fun j => (gi3 31 j).toInt) z23.toInt n) j ∧ gi24 34 j = s_is (gi3 34) (gi3 l y3_5.toNatClampNeg &&& 1) (s_pk (fun j => (gi3 31 j).toInt) z23.toInt n) j) := q24
          replace p_a1 := p_a1.ext hC24.2
          replace p5 := p5.ext hC24.2
          obtain ⟨l25, u25⟩ := hI.b (hI.wf.s (k := 29) rfl) (t_bdK rfl : t_bd 3 0 = some (0, 6))
          refine ev_incR f_X1_takeShips (nx := 74) (c := 1) (l := 1) (u := 6) rfl rfl (by decide) (by decide) l3_5 u10 rfl rfl (by decide) (by decide) rfl (fun z26 e26 l26 u26 => ?_)
          refine ev_jmp f_X1_takeShips (nx := 10) rfl rfl rfl ?_
          refine ev_sub (lo := [(5, .int z26), (0, .ref 28), (1, .ref ar1), (2, .int ar2), (3, .int ar3), (4, .int ar4)]) rfl (t_sc rfl (t_sc rfl (t_sc rfl (t_sc rfl (t_sc rfl (t_sc rfl t_sn)))))) ?_
          exact ih3 _ (by omega) gi24 gl24 gr24 (z26) hI hX p_a1 (Int.le_trans (by decide : (0:Int) ≤ 1) l26) u26 (fun D hl hc hv hb hd hsl => (by
                                                            obtain ⟨g0, g1, g2, g3, g4, g5, g6⟩ := j3_0 D hl hc hv hb hd hsl
                                                            have hK := t_nd_fr hXh rfl
                                                            have hl2 := hl.fr (fun K k1 k2 => hK K (by omega))
                                                            have hc2 := hc.fr (fun K k1 k2 => hK K (by omega))
                                                            have hb0 : a5 = (ar1 + 3) := (Value.ref.inj ((hl2.1.2.2.2.1).symm.trans e5)).symm
                                                            subst hb0
                                                            have hb1 : a17 = (ar1 + 3 + 2) := (Value.ref.inj ((hl2.2.1.2.1).symm.trans e17)).symm
                                                            subst hb1
                                                            have hL := hc2.2.2.1.1
                                                            have b1 := hb.2.1
                                                            have b2 := hb.2.2
                                                            have cy := t_clamp (i := y3_5) (by omega)
                                                            have hB := s_mk_y (m := ar2) (y := y3_5) (by omega) e12 e13 (fun hh => by have h9 := congrArg Int32.toInt hh; have k9 : (1 : Int32).toInt = 1 := rfl; omega)
                                                            have hnl := s_fn_le (s_mk ar2) y3_5.toNatClampNeg
                                                            have hzz : ∀ j : Nat, j < (s_fn (s_mk ar2) y3_5.toNatClampNeg) → gi3 34 j &&& 1 = gi3 34 j := fun j hj => s_and1 (by rw [g6 j hj]; exact hsl _ (by have := s_ff_lt (s_Al (s_A D) ar3.toInt ar4.toInt) (s_mk ar2) _ _ hj; omega))
                                                            have hq := q24 (s_fn (s_mk ar2) y3_5.toNatClampNeg) (ar1 + 3 + 3) (ar1 + 3 + 4) (ar1 + 3 + 5) g1 (by omega) (by omega) (by omega) (by unfold s_LR; omega) (by unfold s_LR; omega) (by unfold s_LR; omega) (by unfold s_LR; omega) hl2.2.1.2.2.1 hl2.2.1.2.2.2.1 hl2.2.1.2.2.2.2 hzz
                                                            have hs := hc2.2.2.1.2 y3_5.toNatClampNeg (by omega)
                                                            have hw : w18.toInt = s_A D y3_5.toNatClampNeg := by rw [e18]; exact hs.2.1
                                                            have hdb := (hd.1 y3_5.toNatClampNeg (by omega)).1
                                                            have hz : z23.toInt = s_Al (s_A D) ar3.toInt ar4.toInt y3_5.toNatClampNeg := by unfold s_Al; rw [if_pos (by omega)]; exact s_add e23 hw rfl (by unfold s_A; omega)
                                                            have hsl2 : (gi3 (ar1 + 3 + 5) y3_5.toNatClampNeg &&& 1).toInt = D (56 + 5 * y3_5.toNatClampNeg) := by rw [s_and1 (by rw [hs.2.2.2.2]; exact hsl _ (by omega))]; exact hs.2.2.2.2
                                                            rw [s_cp (by omega) e26, s_fn_y hB, s_ff_y hB]
                                                            exact ⟨by omega, hq.1.trans (by omega), s_RF_s g2 cy.symm (fun j hj => g3 j hj) hz (fun j hj => (hq.2 j hj).1), s_RF_s g3 hz (fun j hj => g3 j hj) hz (fun j hj => (hq.2 j hj).2.1), s_RF_s g4 hs.2.2.1 (fun j hj => g3 j hj) hz (fun j hj => (hq.2 j hj).2.2.1), s_RF_s g5 hs.2.2.2.1 (fun j hj => g3 j hj) hz (fun j hj => (hq.2 j hj).2.2.2.1), s_RF_s g6 hsl2 (fun j hj => g3 j hj) hz (fun j hj => (hq.2 j hj).2.2.2.2)⟩)) rfl
        · have r27 : y3_5.toInt ≠ ar3.toInt := t_nei h19
          refine ev_ic f_X1_takeShips (nx := 53) (v := 0) rfl (by decide) rfl ?_
          refine ev_addC f_X1_takeShips (nx := 54) (c := 0) (l := (-2147483648)) (u := 2147483647) rfl (by decide) (t_lo w18) (t_hi w18) rfl rfl (by decide) (by decide) rfl (fun z28 e28 l28 u28 => ?_)
          refine ev_loc f_X1_takeShips (nx := 56) (lo' := [(6, .int z28), (5, .int y3_5), (0, .ref 28), (1, .ref ar1), (2, .int ar2), (3, .int ar3), (4, .int ar4)]) rfl rfl rfl rfl ?_
          refine ev_loc f_X1_takeShips (nx := 57) rfl rfl rfl rfl ?_
          refine ev_getR f_X1_takeShips (nx := 60) rfl (hI.wf.s rfl) rfl rfl (hI.wf.r rfl) rfl rfl ?_
          refine ev_loc f_X1_takeShips (nx := 61) rfl rfl rfl rfl ?_
          refine ev_getR f_X1_takeShips (nx := 64) (v := .ref a5) rfl p_a1.1 rfl rfl e5 rfl rfl ?_
          refine ev_loc f_X1_takeShips (nx := 66) rfl rfl rfl rfl ?_
          refine ev_loc f_X1_takeShips (nx := 68) rfl rfl rfl rfl ?_
          refine ev_qN f_X1_takeShips (nx := 71) (r := []) rfl rfl rfl rfl rfl rfl rfl (c_d_join_29 hI (a5) p5 (y3_5) (z28)) rfl hX rfl (fun gi29 gl29 gr29 hI hX hC29 q29 => ?_)
          have q29 : (∀ n t w l : Nat, (gi3 29 0).toInt = n → n ≤ 5 → 0 ≤ y3_5.toInt → y3_5.toInt < (gi3 a5 0).toInt → s_LR a5 → s_LR t → s_LR w → s_LR l → gr3 a5 3 = .ref t → gr3 a5 4 = .ref w → gr3 a5 5 = .ref l → (∀ j : Nat, j < n → gi3 34 j &&& 1 = gi3 34 j) → (gi29 29 0).toInt = n + 1 ∧ ∀ j, j ≤ n → gi29 30 j = s_is (gi3 30) (y3_5) (s_pk (fun j => (gi3 31 j).toInt) z28.toInt n) j ∧ gi29 31 j = s_is (gi3 31) (z28) (s_pk (fun j => (gi3 31 j).toInt) z28.toInt n) j ∧ gi29 32 j = s_is (gi3 32) (gi3 t y3_5.toNatClampNeg) (s_pk (fun j => (gi3 31 j).toInt) z28.toInt n) j ∧ gi29 33 j = s_is (gi3 33) (gi3 w y3_5.toNatClampNeg) (s_pk (fun j => (gi3 31 j).toInt) z28.toInt n) j ∧ gi29 34 j = s_is (gi3 34) (gi3 l y3_5.toNatClampNeg &&& 1) (s_pk (fun j => (gi3 31 j).toInt) z28.toInt n) j) := q29
          replace p_a1 := p_a1.ext hC29.2
          replace p5 := p5.ext hC29.2
          obtain ⟨l30, u30⟩ := hI.b (hI.wf.s (k := 29) rfl) (t_bdK rfl : t_bd 3 0 = some (0, 6))
          refine ev_incR f_X1_takeShips (nx := 74) (c := 1) (l := 1) (u := 6) rfl rfl (by decide) (by decide) l3_5 u10 rfl rfl (by decide) (by decide) rfl (fun z31 e31 l31 u31 => ?_)
          refine ev_jmp f_X1_takeShips (nx := 10) rfl rfl rfl ?_
          refine ev_sub (lo := [(5, .int z31), (0, .ref 28), (1, .ref ar1), (2, .int ar2), (3, .int ar3), (4, .int ar4)]) rfl (t_sc rfl (t_sc rfl (t_sc rfl (t_sc rfl (t_sc rfl (t_sc rfl t_sn)))))) ?_
          exact ih3 _ (by omega) gi29 gl29 gr29 (z31) hI hX p_a1 (Int.le_trans (by decide : (0:Int) ≤ 1) l31) u31 (fun D hl hc hv hb hd hsl => (by
                                                            obtain ⟨g0, g1, g2, g3, g4, g5, g6⟩ := j3_0 D hl hc hv hb hd hsl
                                                            have hK := t_nd_fr hXh rfl
                                                            have hl2 := hl.fr (fun K k1 k2 => hK K (by omega))
                                                            have hc2 := hc.fr (fun K k1 k2 => hK K (by omega))
                                                            have hb0 : a5 = (ar1 + 3) := (Value.ref.inj ((hl2.1.2.2.2.1).symm.trans e5)).symm
                                                            subst hb0
                                                            have hb1 : a17 = (ar1 + 3 + 2) := (Value.ref.inj ((hl2.2.1.2.1).symm.trans e17)).symm
                                                            subst hb1
                                                            have hL := hc2.2.2.1.1
                                                            have b1 := hb.2.1
                                                            have b2 := hb.2.2
                                                            have cy := t_clamp (i := y3_5) (by omega)
                                                            have hB := s_mk_y (m := ar2) (y := y3_5) (by omega) e12 e13 (fun hh => by have h9 := congrArg Int32.toInt hh; have k9 : (1 : Int32).toInt = 1 := rfl; omega)
                                                            have hnl := s_fn_le (s_mk ar2) y3_5.toNatClampNeg
                                                            have hzz : ∀ j : Nat, j < (s_fn (s_mk ar2) y3_5.toNatClampNeg) → gi3 34 j &&& 1 = gi3 34 j := fun j hj => s_and1 (by rw [g6 j hj]; exact hsl _ (by have := s_ff_lt (s_Al (s_A D) ar3.toInt ar4.toInt) (s_mk ar2) _ _ hj; omega))
                                                            have hq := q29 (s_fn (s_mk ar2) y3_5.toNatClampNeg) (ar1 + 3 + 3) (ar1 + 3 + 4) (ar1 + 3 + 5) g1 (by omega) (by omega) (by omega) (by unfold s_LR; omega) (by unfold s_LR; omega) (by unfold s_LR; omega) (by unfold s_LR; omega) hl2.2.1.2.2.1 hl2.2.1.2.2.2.1 hl2.2.1.2.2.2.2 hzz
                                                            have hs := hc2.2.2.1.2 y3_5.toNatClampNeg (by omega)
                                                            have hw : w18.toInt = s_A D y3_5.toNatClampNeg := by rw [e18]; exact hs.2.1
                                                            have hdb := (hd.1 y3_5.toNatClampNeg (by omega)).1
                                                            have hz : z28.toInt = s_Al (s_A D) ar3.toInt ar4.toInt y3_5.toNatClampNeg := by unfold s_Al; rw [if_neg (by omega)]; omega
                                                            have hsl2 : (gi3 (ar1 + 3 + 5) y3_5.toNatClampNeg &&& 1).toInt = D (56 + 5 * y3_5.toNatClampNeg) := by rw [s_and1 (by rw [hs.2.2.2.2]; exact hsl _ (by omega))]; exact hs.2.2.2.2
                                                            rw [s_cp (by omega) e31, s_fn_y hB, s_ff_y hB]
                                                            exact ⟨by omega, hq.1.trans (by omega), s_RF_s g2 cy.symm (fun j hj => g3 j hj) hz (fun j hj => (hq.2 j hj).1), s_RF_s g3 hz (fun j hj => g3 j hj) hz (fun j hj => (hq.2 j hj).2.1), s_RF_s g4 hs.2.2.1 (fun j hj => g3 j hj) hz (fun j hj => (hq.2 j hj).2.2.1), s_RF_s g5 hs.2.2.2.1 (fun j hj => g3 j hj) hz (fun j hj => (hq.2 j hj).2.2.2.1), s_RF_s g6 hsl2 (fun j hj => g3 j hj) hz (fun j hj => (hq.2 j hj).2.2.2.2)⟩)) rfl
      · have r32 : z13.toInt ≠ 0 := fun e => h14 (Int32.toInt_inj.mp (e.trans (by decide : (0:Int) = (0 : Int32).toInt)))
        refine ev_incR f_X1_takeShips (nx := 74) (c := 1) (l := 1) (u := 6) rfl rfl (by decide) (by decide) l3_5 u10 rfl rfl (by decide) (by decide) rfl (fun z33 e33 l33 u33 => ?_)
        refine ev_jmp f_X1_takeShips (nx := 10) rfl rfl rfl ?_
        refine ev_sub (lo := [(5, .int z33), (0, .ref 28), (1, .ref ar1), (2, .int ar2), (3, .int ar3), (4, .int ar4)]) rfl (t_sc rfl (t_sc rfl (t_sc rfl (t_sc rfl (t_sc rfl (t_sc rfl t_sn)))))) ?_
        exact ih3 _ (by omega) gi3 gl3 gr3 (z33) hI hX p_a1 (Int.le_trans (by decide : (0:Int) ≤ 1) l33) u33 (fun D hl hc hv hb hd hsl => (by
                                                            obtain ⟨g0, g1, g2, g3, g4, g5, g6⟩ := j3_0 D hl hc hv hb hd hsl
                                                            have hK := t_nd_fr hXh rfl
                                                            have hl2 := hl.fr (fun K k1 k2 => hK K (by omega))
                                                            have hc2 := hc.fr (fun K k1 k2 => hK K (by omega))
                                                            have hb0 : a5 = (ar1 + 3) := (Value.ref.inj ((hl2.1.2.2.2.1).symm.trans e5)).symm
                                                            subst hb0
                                                            have hL := hc2.2.2.1.1
                                                            have b1 := hb.2.1
                                                            have b2 := hb.2.2
                                                            have cy := t_clamp (i := y3_5) (by omega)
                                                            have hB := s_mk_n (m := ar2) (y := y3_5) (by omega) e12 e13 (fun hh => by have h9 := congrArg Int32.toInt hh; have k9 : (0 : Int32).toInt = 0 := rfl; omega)
                                                            rw [s_cp (by omega) e33, s_fn_n hB, s_ff_n hB]
                                                            exact ⟨by omega, g1, g2, g3, g4, g5, g6⟩)) rfl
  refine ev_sub (lo := [(5, .int 0), (0, .ref 28), (1, .ref ar1), (2, .int ar2), (3, .int ar3), (4, .int ar4)]) rfl (t_sc rfl (t_sc rfl (t_sc rfl (t_sc rfl (t_sc rfl (t_sc rfl t_sn)))))) ?_
  exact L3 _ g2 gl gr (0) hI hX p_a1 (by decide : (0:Int) ≤ (0:Int32).toInt) (Int.le_trans (by decide : (0:Int32).toInt ≤ (0:Int)) (by decide : (0:Int) ≤ 6)) (fun D hl hc hv hb hd hsl => ⟨by have h1 := hb.2.1; have h2 := hb.2.2; have z0 : (0 : Int32).toInt = 0 := rfl; omega, (by have z0 : (0 : Int32).toInt = 0 := rfl; have ff34 : (g2 29 0).toInt = 0 := (congrArg Int32.toInt (by rw [e2]; exact x_up2_at _ _ _ _ : g2 29 0 = 0)).trans (by decide); show _ = (0 : Int); omega), fun j hj => absurd hj (Nat.not_lt_zero _), fun j hj => absurd hj (Nat.not_lt_zero _), fun j hj => absurd hj (Nat.not_lt_zero _), fun j hj => absurd hj (Nat.not_lt_zero _), fun j hj => absurd hj (Nat.not_lt_zero _)⟩) rfl
noncomputable def wl_d_takeCartsG : List (Nat × Nat) := [(35, 0), (36, 9999), (37, 9999), (38, 9999), (39, 9999), (40, 9999)]
noncomputable def Q_d_takeCartsG (gi : Nat → Nat → Int32) (gl : Nat → Nat → Int64) (gr : Nat → Nat → Value) (ar1 : Nat) (ar2 : Int32) : (Nat → Nat → Int32) → (Nat → Nat → Int64) → (Nat → Nat → Value) → Prop := fun (gi2 : Nat → Nat → Int32) (gl2 : Nat → Nat → Int64) (gr2 : Nat → Nat → Value) => ∀ D : s_D, t_VL gr ar1 → t_CV gi gl ar1 D → (ar1 = 3 ∨ 102 ≤ ar1) → t_Cb D → s_DB D → (gi2 35 0).toInt = ((s_fn (s_ck ar2.toInt) (D 2).toNat : Nat) : Int) ∧ s_RF (s_ff (s_B D) (s_ck ar2.toInt) (D 2).toNat) (fun k => (k : Int)) (gi2 36) (s_fn (s_ck ar2.toInt) (D 2).toNat) ∧ s_RF (s_ff (s_B D) (s_ck ar2.toInt) (D 2).toNat) (s_B D) (gi2 37) (s_fn (s_ck ar2.toInt) (D 2).toNat) ∧ s_RF (s_ff (s_B D) (s_ck ar2.toInt) (D 2).toNat) (fun k => D (83 + 3 * k)) (gi2 38) (s_fn (s_ck ar2.toInt) (D 2).toNat) ∧ s_RF (s_ff (s_B D) (s_ck ar2.toInt) (D 2).toNat) (fun k => D (84 + 3 * k)) (gi2 39) (s_fn (s_ck ar2.toInt) (D 2).toNat) ∧ s_RF (s_ff (s_B D) (s_ck ar2.toInt) (D 2).toNat) (fun _ => 0) (gi2 40) (s_fn (s_ck ar2.toInt) (D 2).toNat)
theorem c_d_takeCartsG {X : x_Ext} {d : Nat} {sh : List (Nat ⊕ (Nat × Nat))} {gi : Nat → Nat → Int32} {gl : Nat → Nat → Int64} {gr : Nat → Nat → Value} (hI : t_I sh gi gr) (ar1 : Nat) (p_a1 : t_Rv sh gr ar1) (ar2 : Int32) : x_Me X (d + 3) n_X1_takeCarts [.ref 28, .ref ar1, .int ar2] (sh, gi, gl, gr) (t_PN wl_d_takeCartsG sh gi gl gr (Q_d_takeCartsG gi gl gr ar1 ar2)) := by
  have hX : t_X wl_d_takeCartsG sh gi gl gr gi gl gr := t_X.rf
  refine me_i f_X1_takeCarts (hI.wf.s rfl) rfl rfl rfl ?_
  obtain ⟨l1, u1⟩ := hI.b (hI.wf.s (k := 35) rfl) (t_bdK rfl : t_bd 3 0 = some (0, 6))
  refine ev_loc f_X1_takeCarts (nx := 1) rfl rfl rfl rfl ?_
  refine ev_getR f_X1_takeCarts (nx := 4) rfl (hI.wf.s rfl) rfl rfl (hI.wf.r rfl) rfl rfl ?_
  refine ev_inV1 f_X1_takeCarts (nx := 7) (lo2 := [(0, .ref 35)]) rfl rfl rfl rfl f_X4_clear (hI.wf.s rfl) rfl rfl rfl rfl rfl ?_
  refine ev_loc f_X4_clear (nx := 1) rfl rfl rfl rfl ?_
  refine ev_ic f_X4_clear (nx := 2) (v := 0) rfl (by decide) rfl ?_
  refine ev_putIT f_X4_clear (nx := 5) rfl (hI.wf.s rfl) rfl rfl rfl (hI.putB (hI.wf.s rfl) rfl rfl (by decide : (0:Int) ≤ (0:Int32).toInt) (by decide) (by decide : (0:Int32).toInt ≤ (0:Int)) (by decide)) (hX.upI rfl) (fun g2 e2 hI hX => ?_)
  refine ev_retK0 f_X4_clear rfl rfl rfl ?_
  refine ev_ic f_X1_takeCarts (nx := 8) (v := 0) rfl (by decide) rfl ?_
  refine ev_loc f_X1_takeCarts (nx := 9) (lo' := [(3, .int 0), (0, .ref 28), (1, .ref ar1), (2, .int ar2)]) rfl rfl rfl rfl ?_
  have L3 : ∀ (m3 : Nat) (gi3 : Nat → Nat → Int32) (gl3 : Nat → Nat → Int64) (gr3 : Nat → Nat → Value) (y3_3 : Int32), t_I sh gi3 gr3 → t_X wl_d_takeCartsG sh gi gl gr gi3 gl3 gr3 → t_Rv sh gr3 ar1 → 0 ≤ y3_3.toInt → y3_3.toInt ≤ 6 → (∀ D : s_D, t_VL gr ar1 → t_CV gi gl ar1 D → (ar1 = 3 ∨ 102 ≤ ar1) → t_Cb D → s_DB D → y3_3.toInt ≤ D 2 ∧ (gi3 35 0).toInt = ((s_fn (s_ck ar2.toInt) y3_3.toNatClampNeg : Nat) : Int) ∧ s_RF (s_ff (s_B D) (s_ck ar2.toInt) y3_3.toNatClampNeg) (fun k => (k : Int)) (gi3 36) (s_fn (s_ck ar2.toInt) y3_3.toNatClampNeg) ∧ s_RF (s_ff (s_B D) (s_ck ar2.toInt) y3_3.toNatClampNeg) (s_B D) (gi3 37) (s_fn (s_ck ar2.toInt) y3_3.toNatClampNeg) ∧ s_RF (s_ff (s_B D) (s_ck ar2.toInt) y3_3.toNatClampNeg) (fun k => D (83 + 3 * k)) (gi3 38) (s_fn (s_ck ar2.toInt) y3_3.toNatClampNeg) ∧ s_RF (s_ff (s_B D) (s_ck ar2.toInt) y3_3.toNatClampNeg) (fun k => D (84 + 3 * k)) (gi3 39) (s_fn (s_ck ar2.toInt) y3_3.toNatClampNeg) ∧ s_RF (s_ff (s_B D) (s_ck ar2.toInt) y3_3.toNatClampNeg) (fun _ => 0) (gi3 40) (s_fn (s_ck ar2.toInt) y3_3.toNatClampNeg)) → (6 - y3_3.toInt).toNat = m3 → x_Ev X (d + 3) n_X1_takeCarts 9 [(3, .int y3_3), (0, .ref 28), (1, .ref ar1), (2, .int ar2)] [] (sh, gi3, gl3, gr3) (t_PN wl_d_takeCartsG sh gi gl gr (Q_d_takeCartsG gi gl gr ar1 ar2)) := by
    intro m3
    induction m3 using Nat.strongRecOn with
    | _ m3 ih3 =>
    intro gi3 gl3 gr3 y3_3 hI hX p_a1 l3_3 u3_3 j3_0 hm3
    obtain ⟨l4, u4⟩ := hI.b (hI.wf.s (k := 35) rfl) (t_bdK rfl : t_bd 3 0 = some (0, 6))
    refine ev_loc f_X1_takeCarts (nx := 10) rfl rfl rfl rfl ?_
    have hXh := hX
    refine ev_loc f_X1_takeCarts (nx := 11) rfl rfl rfl rfl ?_
    obtain ⟨a5, e5, p5⟩ := p_a1.2.2.2.2.2
    refine ev_getR f_X1_takeCarts (nx := 14) rfl p_a1.1 rfl rfl e5 rfl rfl ?_
    refine ev_getI f_X1_takeCarts (nx := 17) rfl p5.1 rfl rfl rfl ?_
    obtain ⟨l6, u6⟩ := hI.b p5.1 (t_bdK rfl : t_bd 3 0 = some (0, 6))
    refine ev_if f_X1_takeCarts (t1 := 52) (t2 := 20) rfl rfl rfl (fun h7 => ?_) (fun h7 => ?_)
    · have r8 : (gi3 a5 0).toInt ≤ y3_3.toInt := Int32.le_iff_toInt_le.mp h7
      exact ev_ret f_X1_takeCarts rfl rfl rfl ⟨_, _, _, rfl, hI, hX, ⟨rfl, (show ∀ D : s_D, t_VL gr ar1 → t_CV gi gl ar1 D → (ar1 = 3 ∨ 102 ≤ ar1) → t_Cb D → s_DB D → (gi3 35 0).toInt = ((s_fn (s_ck ar2.toInt) (D 2).toNat : Nat) : Int) ∧ s_RF (s_ff (s_B D) (s_ck ar2.toInt) (D 2).toNat) (fun k => (k : Int)) (gi3 36) (s_fn (s_ck ar2.toInt) (D 2).toNat) ∧ s_RF (s_ff (s_B D) (s_ck ar2.toInt) (D 2).toNat) (s_B D) (gi3 37) (s_fn (s_ck ar2.toInt) (D 2).toNat) ∧ s_RF (s_ff (s_B D) (s_ck ar2.toInt) (D 2).toNat) (fun k => D (83 + 3 * k)) (gi3 38) (s_fn (s_ck ar2.toInt) (D 2).toNat) ∧ s_RF (s_ff (s_B D) (s_ck ar2.toInt) (D 2).toNat) (fun k => D (84 + 3 * k)) (gi3 39) (s_fn (s_ck ar2.toInt) (D 2).toNat) ∧ s_RF (s_ff (s_B D) (s_ck ar2.toInt) (D 2).toNat) (fun _ => 0) (gi3 40) (s_fn (s_ck ar2.toInt) (D 2).toNat) from (fun D hl hc hv hb hd => (by
                                                            obtain ⟨g0, g1, g2⟩ := j3_0 D hl hc hv hb hd
                                                            have hK := t_nd_fr hXh rfl
                                                            have hl2 := hl.fr (fun K k1 k2 => hK K (by omega))
                                                            have hc2 := hc.fr (fun K k1 k2 => hK K (by omega))
                                                            have hb0 : a5 = (ar1 + 10) := (Value.ref.inj ((hl2.1.2.2.2.2).symm.trans e5)).symm
                                                            subst hb0
                                                            have hL := hc2.2.2.2.1
                                                            have cy := t_clamp (i := y3_3) (by omega)
                                                            rw [show (D 2).toNat = y3_3.toNatClampNeg from (by omega)]
                                                            exact ⟨g1, g2⟩)))⟩⟩
    · have r9 : y3_3.toInt < (gi3 a5 0).toInt := Int32.lt_iff_toInt_lt.mp (t_nle h7)
      have u10 : y3_3.toInt ≤ 5 := t_ltu (t_nle h7) u6 rfl
      have l11 : 1 ≤ (gi3 a5 0).toInt := t_ltl (t_nle h7) l3_3 rfl
      refine ev_loc f_X1_takeCarts (nx := 21) rfl rfl rfl rfl ?_
      refine ev_loc f_X1_takeCarts (nx := 22) rfl rfl rfl rfl ?_
      refine ev_if f_X1_takeCarts (t1 := 46) (t2 := 25) rfl rfl rfl (fun h12 => ?_) (fun h12 => ?_)
      · have r13 : y3_3.toInt = ar2.toInt := t_eqi h12
        have u14 : ar2.toInt ≤ 5 := t_equ (Eq.symm h12) u10
        have l15 : 0 ≤ ar2.toInt := t_eql (Eq.symm h12) l3_3
        refine ev_incR f_X1_takeCarts (nx := 49) (c := 1) (l := 1) (u := 6) rfl rfl (by decide) (by decide) l3_3 u10 rfl rfl (by decide) (by decide) rfl (fun z16 e16 l16 u16 => ?_)
        refine ev_jmp f_X1_takeCarts (nx := 9) rfl rfl rfl ?_
        refine ev_sub (lo := [(3, .int z16), (0, .ref 28), (1, .ref ar1), (2, .int ar2)]) rfl (t_sc rfl (t_sc rfl (t_sc rfl (t_sc rfl t_sn)))) ?_
        exact ih3 _ (by omega) gi3 gl3 gr3 (z16) hI hX p_a1 (Int.le_trans (by decide : (0:Int) ≤ 1) l16) u16 (fun D hl hc hv hb hd => (by
                                                            obtain ⟨g0, g1, g2, g3, g4, g5, g6⟩ := j3_0 D hl hc hv hb hd
                                                            have hK := t_nd_fr hXh rfl
                                                            have hl2 := hl.fr (fun K k1 k2 => hK K (by omega))
                                                            have hc2 := hc.fr (fun K k1 k2 => hK K (by omega))
                                                            have hb0 : a5 = (ar1 + 10) := (Value.ref.inj ((hl2.1.2.2.2.2).symm.trans e5)).symm
                                                            subst hb0
                                                            have hL := hc2.2.2.2.1
                                                            have b1 := hb.2.1
                                                            have b2 := hb.2.2
                                                            have cy := t_clamp (i := y3_3) (by omega)
                                                            have hB := s_ck_n (x := ar2.toInt) (i := y3_3.toNatClampNeg) (by omega)
                                                            rw [s_cp (by omega) e16, s_fn_n hB, s_ff_n hB]
                                                            exact ⟨by omega, g1, g2, g3, g4, g5, g6⟩)) rfl
      · have r17 : y3_3.toInt ≠ ar2.toInt := t_nei h12
        refine ev_loc f_X1_takeCarts (nx := 26) rfl rfl rfl rfl ?_
        refine ev_getR f_X1_takeCarts (nx := 29) rfl (hI.wf.s rfl) rfl rfl (hI.wf.r rfl) rfl rfl ?_
        refine ev_loc f_X1_takeCarts (nx := 30) rfl rfl rfl rfl ?_
        refine ev_getR f_X1_takeCarts (nx := 33) (v := .ref a5) rfl p_a1.1 rfl rfl e5 rfl rfl ?_
        refine ev_loc f_X1_takeCarts (nx := 34) rfl rfl rfl rfl ?_
        refine ev_loc f_X1_takeCarts (nx := 35) rfl rfl rfl rfl ?_
        refine ev_getR f_X1_takeCarts (nx := 38) (v := .ref a5) rfl p_a1.1 rfl rfl e5 rfl rfl ?_
        obtain ⟨a18, e18, s18, o18⟩ := p5.2.2.1
        refine ev_getR f_X1_takeCarts (nx := 41) rfl p5.1 rfl rfl e18 rfl rfl ?_
        refine ev_loc f_X1_takeCarts (nx := 42) rfl rfl rfl rfl ?_
        refine ev_ialdT f_X1_takeCarts (nx := 43) rfl s18 l3_3 (by decide) u10 (by decide) rfl (fun w19 e19 => ?_)
        refine ev_qN f_X1_takeCarts (nx := 46) (r := []) rfl rfl rfl rfl rfl rfl rfl (c_d_join_35 hI (a5) p5 (y3_3) (w19)) rfl hX rfl (fun gi20 gl20 gr20 hI hX hC20 q20 => ?_)
        have q20 : (∀ n t w l : Nat, (gi3 35 0).toInt = n → n ≤ 5 → 0 ≤ y3_3.toInt → y3_3.toInt < (gi3 a5 0).toInt → s_LR a5 → s_LR t → s_LR w → s_LR l → gr3 a5 3 = .ref t → gr3 a5 4 = .ref w → gr3 a5 5 = .ref l → (∀ j : Nat, j < n → gi3 40 j &&& 1 = gi3 40 j) → (gi20 35 0).toInt = n + 1 ∧ ∀ j, j ≤ n → gi20 36 j = s_is (gi3 36) (y3_3) (s_pk (fun j => (gi3 37 j).toInt) w19.toInt n) j ∧ gi20 37 j = s_is (gi3 37) (w19) (s_pk (fun j => (gi3 37 j).toInt) w19.toInt n) j ∧ gi20 38 j = s_is (gi3 38) (gi3 t y3_3.toNatClampNeg) (s_pk (fun j => (gi3 37 j).toInt) w19.toInt n) j ∧ gi20 39 j = s_is (gi3 39) (gi3 w y3_3.toNatClampNeg) (s_pk (fun j => (gi3 37 j).toInt) w19.toInt n) j ∧ gi20 40 j = s_is (gi3 40) (gi3 l y3_3.toNatClampNeg &&& 1) (s_pk (fun j => (gi3 37 j).toInt) w19.toInt n) j) := q20
        replace p_a1 := p_a1.ext hC20.2
        replace p5 := p5.ext hC20.2
        obtain ⟨l21, u21⟩ := hI.b (hI.wf.s (k := 35) rfl) (t_bdK rfl : t_bd 3 0 = some (0, 6))
        refine ev_incR f_X1_takeCarts (nx := 49) (c := 1) (l := 1) (u := 6) rfl rfl (by decide) (by decide) l3_3 u10 rfl rfl (by decide) (by decide) rfl (fun z22 e22 l22 u22 => ?_)
        refine ev_jmp f_X1_takeCarts (nx := 9) rfl rfl rfl ?_
        refine ev_sub (lo := [(3, .int z22), (0, .ref 28), (1, .ref ar1), (2, .int ar2)]) rfl (t_sc rfl (t_sc rfl (t_sc rfl (t_sc rfl t_sn)))) ?_
        exact ih3 _ (by omega) gi20 gl20 gr20 (z22) hI hX p_a1 (Int.le_trans (by decide : (0:Int) ≤ 1) l22) u22 (fun D hl hc hv hb hd => (by
                                                            obtain ⟨g0, g1, g2, g3, g4, g5, g6⟩ := j3_0 D hl hc hv hb hd
                                                            have hK := t_nd_fr hXh rfl
                                                            have hl2 := hl.fr (fun K k1 k2 => hK K (by omega))
                                                            have hc2 := hc.fr (fun K k1 k2 => hK K (by omega))
                                                            have hb0 : a5 = (ar1 + 10) := (Value.ref.inj ((hl2.1.2.2.2.2).symm.trans e5)).symm
                                                            subst hb0
                                                            have hb1 : a18 = (ar1 + 10 + 2) := (Value.ref.inj ((hl2.2.2.2.1).symm.trans e18)).symm
                                                            subst hb1
                                                            have hL := hc2.2.2.2.1
                                                            have b1 := hb.2.1
                                                            have b2 := hb.2.2
                                                            have cy := t_clamp (i := y3_3) (by omega)
                                                            have hB := s_ck_y (x := ar2.toInt) (i := y3_3.toNatClampNeg) (by omega)
                                                            have hnl := s_fn_le (s_ck ar2.toInt) y3_3.toNatClampNeg
                                                            have hzz : ∀ j : Nat, j < (s_fn (s_ck ar2.toInt) y3_3.toNatClampNeg) → gi3 40 j &&& 1 = gi3 40 j := fun j hj => s_and1 (by rw [g6 j hj]; exact ⟨Int.le_refl 0, (by decide : (0 : Int) ≤ 1)⟩)
                                                            have hq := q20 (s_fn (s_ck ar2.toInt) y3_3.toNatClampNeg) (ar1 + 10 + 3) (ar1 + 10 + 4) (ar1 + 10 + 5) g1 (by omega) (by omega) (by omega) (by unfold s_LR; omega) (by unfold s_LR; omega) (by unfold s_LR; omega) (by unfold s_LR; omega) hl2.2.2.2.2.1 hl2.2.2.2.2.2.1 hl2.2.2.2.2.2.2 hzz
                                                            have hs := hc2.2.2.2.2 y3_3.toNatClampNeg (by omega)
                                                            have hw : w19.toInt = s_B D y3_3.toNatClampNeg := by rw [e19]; exact hs.1
                                                            have hz := hw
                                                            have hsl2 : (gi3 (ar1 + 10 + 5) y3_3.toNatClampNeg &&& 1).toInt = 0 := by rw [s_and1 (by rw [hs.2.2.2]; decide)]; exact hs.2.2.2
                                                            rw [s_cp (by omega) e22, s_fn_y hB, s_ff_y hB]
                                                            exact ⟨by omega, hq.1.trans (by omega), s_RF_s g2 cy.symm (fun j hj => g3 j hj) hz (fun j hj => (hq.2 j hj).1), s_RF_s g3 hz (fun j hj => g3 j hj) hz (fun j hj => (hq.2 j hj).2.1), s_RF_s g4 hs.2.1 (fun j hj => g3 j hj) hz (fun j hj => (hq.2 j hj).2.2.1), s_RF_s g5 hs.2.2.1 (fun j hj => g3 j hj) hz (fun j hj => (hq.2 j hj).2.2.2.1), s_RF_s g6 hsl2 (fun j hj => g3 j hj) hz (fun j hj => (hq.2 j hj).2.2.2.2)⟩)) rfl
  refine ev_sub (lo := [(3, .int 0), (0, .ref 28), (1, .ref ar1), (2, .int ar2)]) rfl (t_sc rfl (t_sc rfl (t_sc rfl (t_sc rfl t_sn)))) ?_
  exact L3 _ g2 gl gr (0) hI hX p_a1 (by decide : (0:Int) ≤ (0:Int32).toInt) (Int.le_trans (by decide : (0:Int32).toInt ≤ (0:Int)) (by decide : (0:Int) ≤ 6)) (fun D hl hc hv hb hd => ⟨by have h1 := hb.2.1; have h2 := hb.2.2; have z0 : (0 : Int32).toInt = 0 := rfl; omega, (by have z0 : (0 : Int32).toInt = 0 := rfl; have ff23 : (g2 35 0).toInt = 0 := (congrArg Int32.toInt (by rw [e2]; exact x_up2_at _ _ _ _ : g2 35 0 = 0)).trans (by decide); show _ = (0 : Int); omega), fun j hj => absurd hj (Nat.not_lt_zero _), fun j hj => absurd hj (Nat.not_lt_zero _), fun j hj => absurd hj (Nat.not_lt_zero _), fun j hj => absurd hj (Nat.not_lt_zero _), fun j hj => absurd hj (Nat.not_lt_zero _)⟩) rfl
/-! ===== printed by riv.py: the order of some of them: the other side ===== -/
noncomputable def wl_n_ordersG : List (Nat × Nat) := [(69, 44), (69, 45), (90, 9999), (91, 9999)]
noncomputable def Q_n_ordersG (gi : Nat → Nat → Int32) (gl : Nat → Nat → Int64) (gr : Nat → Nat → Value) (ar1 : Int32) : (Nat → Nat → Int32) → (Nat → Nat → Int64) → (Nat → Nat → Value) → Prop := fun (gi2 : Nat → Nat → Int32) (gl2 : Nat → Nat → Int64) (gr2 : Nat → Nat → Value) => (∀ j, gi2 70 j = gi 70 j) ∧ (∀ j, gi2 89 j = gi 89 j) ∧ (∀ (D : s_D) (A : Nat → Int), t_ME 0 gi D → t_Cb D → (∀ j : Nat, (j : Int) < D 1 → (gi 89 j).toInt = A j) → (gi2 69 44).toInt = ((s_fn (s_mk ar1) (D 1).toNat : Nat) : Int) ∧ s_RF (s_ff A (s_mk ar1) (D 1).toNat) (fun k => (k : Int)) (gi2 90) (s_fn (s_mk ar1) (D 1).toNat)) ∧ (∀ (D : s_D) (A : Nat → Int), t_ME 0 gi D → t_Cb D → (∀ j : Nat, (j : Int) < D 2 → (gi 89 (6 + j)).toInt = A j) → (gi2 69 45).toInt = ((s_fn (s_ck (gi 69 46).toInt) (D 2).toNat : Nat) : Int) ∧ s_RF (s_ff A (s_ck (gi 69 46).toInt) (D 2).toNat) (fun k => (k : Int)) (gi2 91) (s_fn (s_ck (gi 69 46).toInt) (D 2).toNat))
theorem c_n_ordersG {X : x_Ext} {d : Nat} {sh : List (Nat ⊕ (Nat × Nat))} {gi : Nat → Nat → Int32} {gl : Nat → Nat → Int64} {gr : Nat → Nat → Value} (hI : t_I sh gi gr) (ar1 : Int32) : x_Me X (d + 1) n_X12_orders [.ref 69, .int ar1] (sh, gi, gl, gr) (t_PN wl_n_ordersG sh gi gl gr (Q_n_ordersG gi gl gr ar1)) := by
  have hX : t_X wl_n_ordersG sh gi gl gr gi gl gr := t_X.rf
  refine me_i f_X12_orders (hI.wf.s rfl) rfl rfl rfl ?_
  obtain ⟨l1, u1⟩ := hI.b (hI.wf.s (k := 69) rfl) (t_bdK rfl : t_bd 11 44 = some (0, 6))
  obtain ⟨l2, u2⟩ := hI.b (hI.wf.s (k := 69) rfl) (t_bdK rfl : t_bd 11 45 = some (0, 6))
  refine ev_loc f_X12_orders (nx := 1) rfl rfl rfl rfl ?_
  refine ev_ic f_X12_orders (nx := 2) (v := 0) rfl (by decide) rfl ?_
  refine ev_putIT f_X12_orders (nx := 5) rfl (hI.wf.s rfl) rfl rfl rfl (hI.putB (hI.wf.s rfl) rfl rfl (by decide : (0:Int) ≤ (0:Int32).toInt) (by decide) (by decide : (0:Int32).toInt ≤ (0:Int)) (by decide)) (hX.upI rfl) (fun g4 e4 hI hX => ?_)
  refine ev_loc f_X12_orders (nx := 6) rfl rfl rfl rfl ?_
  refine ev_ic f_X12_orders (nx := 7) (v := 0) rfl (by decide) rfl ?_
  refine ev_putIT f_X12_orders (nx := 10) rfl (hI.wf.s rfl) rfl rfl rfl (hI.putB (hI.wf.s rfl) rfl rfl (by decide : (0:Int) ≤ (0:Int32).toInt) (by decide) (by decide : (0:Int32).toInt ≤ (0:Int)) (by decide)) (hX.upI rfl) (fun g5 e5 hI hX => ?_)
  refine ev_ic f_X12_orders (nx := 11) (v := 0) rfl (by decide) rfl ?_
  refine ev_loc f_X12_orders (nx := 12) (lo' := [(2, .int 0), (0, .ref 69), (1, .int ar1)]) rfl rfl rfl rfl ?_
  have L6 : ∀ (m6 : Nat) (gi6 : Nat → Nat → Int32) (gl6 : Nat → Nat → Int64) (gr6 : Nat → Nat → Value) (y6_2 : Int32), t_I sh gi6 gr6 → t_X wl_n_ordersG sh gi gl gr gi6 gl6 gr6 → 0 ≤ y6_2.toInt → y6_2.toInt ≤ 6 → gi6 69 45 = 0 → gi6 69 46 = (gi 69 46) → (gi6 69 44).toInt ≤ y6_2.toInt → (∀ j, gi6 70 j = gi 70 j) → (∀ j, gi6 89 j = gi 89 j) → (∀ (D : s_D) (A : Nat → Int), t_ME 0 gi D → t_Cb D → (∀ j : Nat, (j : Int) < D 1 → (gi 89 j).toInt = A j) → (gi6 69 44).toInt = (((s_fn (s_mk ar1) y6_2.toNatClampNeg) : Nat) : Int) ∧ y6_2.toInt ≤ D 1 ∧ s_RF (s_ff A (s_mk ar1) y6_2.toNatClampNeg) (fun k => (k : Int)) (gi6 90) (s_fn (s_mk ar1) y6_2.toNatClampNeg)) → (6 - y6_2.toInt).toNat = m6 → x_Ev X (d + 1) n_X12_orders 12 [(2, .int y6_2), (0, .ref 69), (1, .int ar1)] [] (sh, gi6, gl6, gr6) (t_PN wl_n_ordersG sh gi gl gr (Q_n_ordersG gi gl gr ar1)) := by
    intro m6
    induction m6 using Nat.strongRecOn with
    | _ m6 ih6 =>
    intro gi6 gl6 gr6 y6_2 hI hX l6_2 u6_2 c6_0 c6_1 j6_0 j6_1 j6_2 j6_3 hm6
    obtain ⟨l7, u7⟩ := hI.b (hI.wf.s (k := 69) rfl) (t_bdK rfl : t_bd 11 44 = some (0, 6))
    refine ev_loc f_X12_orders (nx := 13) rfl rfl rfl rfl ?_
    refine ev_loc f_X12_orders (nx := 14) rfl rfl rfl rfl ?_
    refine ev_getR f_X12_orders (nx := 17) rfl (hI.wf.s rfl) rfl rfl (hI.wf.r rfl) rfl rfl ?_
    refine ev_ic f_X12_orders (nx := 18) (v := 1) rfl (by decide) rfl ?_
    obtain ⟨l8, u8⟩ := hI.ab (by decide +kernel : t_abr 70 1 1 0 6 = true) (Nat.le_refl _) (Nat.le_refl _)
    refine ev_ialdv f_X12_orders (nx := 19) (w := (gi6 70 1)) rfl (hI.wf.s rfl) (by decide) (rfl : (1 : Int32).toNatClampNeg = 1) (by decide) rfl rfl ?_
    refine ev_if f_X12_orders (t1 := 108) (t2 := 22) rfl rfl rfl (fun h9 => ?_) (fun h9 => ?_)
    · have r10 : (gi6 70 1).toInt ≤ y6_2.toInt := Int32.le_iff_toInt_le.mp h9
      refine ev_ic f_X12_orders (nx := 109) (v := 0) rfl (by decide) rfl ?_
      refine ev_loc f_X12_orders (nx := 110) (lo' := [(2, .int 0), (0, .ref 69), (1, .int ar1)]) rfl rfl rfl rfl ?_
      have L11 : ∀ (m11 : Nat) (gi11 : Nat → Nat → Int32) (gl11 : Nat → Nat → Int64) (gr11 : Nat → Nat → Value) (y11_2 : Int32), t_I sh gi11 gr11 → t_X wl_n_ordersG sh gi gl gr gi11 gl11 gr11 → 0 ≤ y11_2.toInt → y11_2.toInt ≤ 6 → gi11 69 46 = (gi 69 46) → gi11 70 1 = (gi6 70 1) → (gi11 69 45).toInt ≤ y11_2.toInt → (∀ j, gi11 70 j = gi 70 j) → (∀ j, gi11 89 j = gi 89 j) → (∀ (D : s_D) (A : Nat → Int), t_ME 0 gi D → t_Cb D → (∀ j : Nat, (j : Int) < D 1 → (gi 89 j).toInt = A j) → (gi11 69 44).toInt = ((s_fn (s_mk ar1) (D 1).toNat : Nat) : Int) ∧ s_RF (s_ff A (s_mk ar1) (D 1).toNat) (fun k => (k : Int)) (gi11 90) (s_fn (s_mk ar1) (D 1).toNat)) → (∀ (D : s_D) (A : Nat → Int), t_ME 0 gi D → t_Cb D → (∀ j : Nat, (j : Int) < D 2 → (gi 89 (6 + j)).toInt = A j) → (gi11 69 45).toInt = (((s_fn (s_ck (gi 69 46).toInt) y11_2.toNatClampNeg) : Nat) : Int) ∧ y11_2.toInt ≤ D 2 ∧ gi11 69 46 = gi 69 46 ∧ s_RF (s_ff A (s_ck (gi 69 46).toInt) y11_2.toNatClampNeg) (fun k => (k : Int)) (gi11 91) (s_fn (s_ck (gi 69 46).toInt) y11_2.toNatClampNeg)) → (6 - y11_2.toInt).toNat = m11 → x_Ev X (d + 1) n_X12_orders 110 [(2, .int y11_2), (0, .ref 69), (1, .int ar1)] [] (sh, gi11, gl11, gr11) (t_PN wl_n_ordersG sh gi gl gr (Q_n_ordersG gi gl gr ar1)) := by
        intro m11
        induction m11 using Nat.strongRecOn with
        | _ m11 ih11 =>
        intro gi11 gl11 gr11 y11_2 hI hX l11_2 u11_2 c11_0 c11_1 j11_0 j11_1 j11_2 j11_3 j11_4 hm11
        obtain ⟨l12, u12⟩ := hI.b (hI.wf.s (k := 69) rfl) (t_bdK rfl : t_bd 11 44 = some (0, 6))
        obtain ⟨l13, u13⟩ := hI.b (hI.wf.s (k := 69) rfl) (t_bdK rfl : t_bd 11 45 = some (0, 6))
        refine ev_loc f_X12_orders (nx := 111) rfl rfl rfl rfl ?_
        refine ev_loc f_X12_orders (nx := 112) rfl rfl rfl rfl ?_
        refine ev_getR f_X12_orders (nx := 115) rfl (hI.wf.s rfl) rfl rfl (hI.wf.r rfl) rfl rfl ?_
        refine ev_ic f_X12_orders (nx := 116) (v := 2) rfl (by decide) rfl ?_
        obtain ⟨l14, u14⟩ := hI.ab (by decide +kernel : t_abr 70 2 2 0 6 = true) (Nat.le_refl _) (Nat.le_refl _)
        refine ev_ialdv f_X12_orders (nx := 117) (w := (gi11 70 2)) rfl (hI.wf.s rfl) (by decide) (rfl : (2 : Int32).toNatClampNeg = 2) (by decide) rfl rfl ?_
        refine ev_if f_X12_orders (t1 := 211) (t2 := 120) rfl rfl rfl (fun h15 => ?_) (fun h15 => ?_)
        · have r16 : (gi11 70 2).toInt ≤ y11_2.toInt := Int32.le_iff_toInt_le.mp h15
          exact ev_ret f_X12_orders rfl rfl rfl ⟨_, _, _, rfl, hI, hX, ⟨rfl, (show (∀ j, gi11 70 j = gi 70 j) ∧ (∀ j, gi11 89 j = gi 89 j) ∧ (∀ (D : s_D) (A : Nat → Int), t_ME 0 gi D → t_Cb D → (∀ j : Nat, (j : Int) < D 1 → (gi 89 j).toInt = A j) → (gi11 69 44).toInt = ((s_fn (s_mk ar1) (D 1).toNat : Nat) : Int) ∧ s_RF (s_ff A (s_mk ar1) (D 1).toNat) (fun k => (k : Int)) (gi11 90) (s_fn (s_mk ar1) (D 1).toNat)) ∧ (∀ (D : s_D) (A : Nat → Int), t_ME 0 gi D → t_Cb D → (∀ j : Nat, (j : Int) < D 2 → (gi 89 (6 + j)).toInt = A j) → (gi11 69 45).toInt = ((s_fn (s_ck (gi 69 46).toInt) (D 2).toNat : Nat) : Int) ∧ s_RF (s_ff A (s_ck (gi 69 46).toInt) (D 2).toNat) (fun k => (k : Int)) (gi11 91) (s_fn (s_ck (gi 69 46).toInt) (D 2).toNat)) from ⟨j11_1, j11_2, fun D A hm hb ht => j11_3 D A hm hb ht, (by
                                                            intro D A hm hb ht
                                                            have b1 := hb.2.2
                                                            have z0 : (0 : Int32).toInt = 0 := rfl
                                                            obtain ⟨g1, g2, g3, g4⟩ := j11_4 D A hm hb ht
                                                            have hd : (gi11 70 2).toInt = D 2 := by rw [j11_1 2]; exact hm.1.1.2.2
                                                            have ci := t_clamp (i := y11_2) (by omega)
                                                            rw [show (D 2).toNat = y11_2.toNatClampNeg from (by omega)]
                                                            exact ⟨g1, g4⟩)⟩)⟩⟩
        · have r17 : y11_2.toInt < (gi11 70 2).toInt := Int32.lt_iff_toInt_lt.mp (t_nle h15)
          have u18 : y11_2.toInt ≤ 5 := t_ltu (t_nle h15) u14 rfl
          have l19 : 1 ≤ (gi11 70 2).toInt := t_ltl (t_nle h15) l11_2 rfl
          refine ev_loc f_X12_orders (nx := 121) rfl rfl rfl rfl ?_
          refine ev_loc f_X12_orders (nx := 122) rfl rfl rfl rfl ?_
          refine ev_gvI f_X12_orders (nx := 125) (w := (gi 69 46)) rfl (hI.wf.s rfl) rfl rfl c11_0 rfl ?_
          refine ev_if f_X12_orders (t1 := 128) (t2 := 131) rfl rfl rfl (fun h20 => ?_) (fun h20 => ?_)
          · have r21 : y11_2.toInt = (gi 69 46).toInt := t_eqi h20
            have u22 : (gi 69 46).toInt ≤ 5 := t_equ (Eq.symm h20) u18
            have l23 : 0 ≤ (gi 69 46).toInt := t_eql (Eq.symm h20) l11_2
            refine ev_jmp f_X12_orders (nx := 205) rfl rfl rfl ?_
            refine ev_incR f_X12_orders (nx := 208) (c := 1) (l := 1) (u := 6) rfl rfl (by decide) (by decide) l11_2 u18 rfl rfl (by decide) (by decide) rfl (fun z24 e24 l24 u24 => ?_)
            refine ev_jmp f_X12_orders (nx := 110) rfl rfl rfl ?_
            refine ev_sub (lo := [(2, .int z24), (0, .ref 69), (1, .int ar1)]) rfl (t_sc rfl (t_sc rfl (t_sc rfl t_sn))) ?_
            exact ih11 _ (by omega) gi11 gl11 gr11 (z24) hI hX  (Int.le_trans (by decide : (0:Int) ≤ 1) l24) u24 c11_0 c11_1 (by omega) j11_1 j11_2 (by
                                                            intro D A hm hb ht
                                                            obtain ⟨g1, g2⟩ := j11_3 D A hm hb ht
                                                            exact ⟨by omega, g2⟩) (by
                                                            intro D A hm hb ht
                                                            have b1 := hb.2.2
                                                            have z0 : (0 : Int32).toInt = 0 := rfl
                                                            obtain ⟨g1, g2, g3, g4⟩ := j11_4 D A hm hb ht
                                                            have ci := t_clamp (i := y11_2) (by omega)
                                                            have hN := s_ck_n (x := (gi 69 46).toInt) (i := y11_2.toNatClampNeg) (by omega)
                                                            have hl9 : (gi11 69 45) = gi11 69 45 := rfl
                                                            rw [s_cp (by omega) e24, s_fn_n hN, s_ff_n hN]
                                                            have hd : (gi11 70 2).toInt = D 2 := by rw [j11_1 2]; exact hm.1.1.2.2
                                                            exact ⟨g1, by omega, g3, g4⟩) rfl
          · have r25 : y11_2.toInt ≠ (gi 69 46).toInt := t_nei h20
            refine ev_loc f_X12_orders (nx := 132) rfl rfl rfl rfl ?_
            refine ev_gvI f_X12_orders (nx := 135) (w := (gi11 69 45)) rfl (hI.wf.s rfl) rfl rfl rfl rfl ?_
            refine ev_loc f_X12_orders (nx := 136) (lo' := [(3, .int (gi11 69 45)), (2, .int y11_2), (0, .ref 69), (1, .int ar1)]) rfl rfl rfl rfl ?_
            have L26 : ∀ (m26 : Nat) (gi26 : Nat → Nat → Int32) (gl26 : Nat → Nat → Int64) (gr26 : Nat → Nat → Value) (y26_3 : Int32), t_I sh gi26 gr26 → t_X wl_n_ordersG sh gi gl gr gi26 gl26 gr26 → 0 ≤ y26_3.toInt → y26_3.toInt ≤ 6 → gi26 69 46 = (gi 69 46) → gi26 70 1 = (gi6 70 1) → gi26 70 2 = (gi11 70 2) → y26_3.toInt ≤ (gi26 69 45).toInt → (gi26 69 45).toInt ≤ y11_2.toInt → (∀ j, gi26 70 j = gi 70 j) → (∀ j, gi26 89 j = gi 89 j) → (∀ (D : s_D) (A : Nat → Int), t_ME 0 gi D → t_Cb D → (∀ j : Nat, (j : Int) < D 1 → (gi 89 j).toInt = A j) → (gi26 69 44).toInt = ((s_fn (s_mk ar1) (D 1).toNat : Nat) : Int) ∧ s_RF (s_ff A (s_mk ar1) (D 1).toNat) (fun k => (k : Int)) (gi26 90) (s_fn (s_mk ar1) (D 1).toNat)) → (∀ (D : s_D) (A : Nat → Int), t_ME 0 gi D → t_Cb D → (∀ j : Nat, (j : Int) < D 2 → (gi 89 (6 + j)).toInt = A j) → (gi26 69 45).toInt = (((s_fn (s_ck (gi 69 46).toInt) y11_2.toNatClampNeg) : Nat) : Int) ∧ y11_2.toInt < D 2 ∧ gi26 69 46 = gi 69 46 ∧ (s_ck (gi 69 46).toInt) y11_2.toNatClampNeg = true ∧ ∃ f, s_RF (s_ff A (s_ck (gi 69 46).toInt) y11_2.toNatClampNeg) (fun k => (k : Int)) f (s_fn (s_ck (gi 69 46).toInt) y11_2.toNatClampNeg) ∧ s_J f (gi26 91) (fun j => A ((s_ff A (s_ck (gi 69 46).toInt) y11_2.toNatClampNeg) j)) (s_fn (s_ck (gi 69 46).toInt) y11_2.toNatClampNeg) (A y11_2.toNatClampNeg) y26_3.toNatClampNeg) → (y26_3.toInt - 0).toNat = m26 → x_Ev X (d + 1) n_X12_orders 136 [(3, .int y26_3), (2, .int y11_2), (0, .ref 69), (1, .int ar1)] [] (sh, gi26, gl26, gr26) (t_PN wl_n_ordersG sh gi gl gr (Q_n_ordersG gi gl gr ar1)) := by
              intro m26
              induction m26 using Nat.strongRecOn with
              | _ m26 ih26 =>
              intro gi26 gl26 gr26 y26_3 hI hX l26_3 u26_3 c26_0 c26_1 c26_2 j26_0 j26_1 j26_2 j26_3 j26_4 j26_5 hm26
              obtain ⟨l27, u27⟩ := hI.b (hI.wf.s (k := 69) rfl) (t_bdK rfl : t_bd 11 44 = some (0, 6))
              obtain ⟨l28, u28⟩ := hI.b (hI.wf.s (k := 69) rfl) (t_bdK rfl : t_bd 11 45 = some (0, 6))
              refine ev_loc f_X12_orders (nx := 137) rfl rfl rfl rfl ?_
              refine ev_if f_X12_orders (t1 := 188) (t2 := 140) rfl rfl rfl (fun h29 => ?_) (fun h29 => ?_)
              · have u30 : y26_3.toInt ≤ 0 := t_leu h29 (by decide : (0:Int32).toInt ≤ (0:Int))
                refine ev_loc f_X12_orders (nx := 189) rfl rfl rfl rfl ?_
                refine ev_getR f_X12_orders (nx := 192) rfl (hI.wf.s rfl) rfl rfl (hI.wf.r rfl) rfl rfl ?_
                refine ev_loc f_X12_orders (nx := 193) rfl rfl rfl rfl ?_
                refine ev_loc f_X12_orders (nx := 194) rfl rfl rfl rfl ?_
                refine ev_iastT f_X12_orders (nx := 195) rfl (hI.wf.s rfl) l26_3 (by decide) u30 (by decide) rfl (hI.astL (hI.wf.s rfl) (by decide +kernel : t_abw 91 0 0 0 5 = true) (t_cl1 l26_3 (by decide)) (t_cl2 l26_3 u30 (by decide) (by decide)) l11_2 u18 rfl) (hX.upI (t_inA_ok rfl)) (fun g31 e31 hI hX => ?_)
                refine ev_loc f_X12_orders (nx := 196) rfl rfl rfl rfl ?_
                refine ev_alu f_X12_orders (nx := 197) rfl rfl rfl rfl ?_
                refine ev_gvI f_X12_orders (nx := 200) (w := (gi26 69 45)) rfl (hI.wf.s rfl) rfl rfl ((by rw [e31]; exact x_up2_off (Or.inl (by decide)) : g31 69 45 = gi26 69 45).trans rfl) rfl ?_
                refine ev_ic f_X12_orders (nx := 201) (v := 1) rfl (by decide) rfl ?_
                refine ev_addC f_X12_orders (nx := 202) (c := 1) (l := 1) (u := 7) rfl (by decide) l28 u28 rfl rfl (by decide) (by decide) rfl (fun z32 e32 l32 u32 => ?_)
                have u34 : z32.toInt ≤ (6:Int) := (by omega)
                refine ev_putIT f_X12_orders (nx := 205) rfl (hI.wf.s rfl) rfl rfl rfl (hI.putB (hI.wf.s rfl) rfl rfl l32 (by decide) u34 (by decide)) (hX.upI rfl) (fun g33 e33 hI hX => ?_)
                refine ev_incR f_X12_orders (nx := 208) (c := 1) (l := 1) (u := 6) rfl rfl (by decide) (by decide) l11_2 u18 rfl rfl (by decide) (by decide) rfl (fun z35 e35 l35 u35 => ?_)
                refine ev_jmp f_X12_orders (nx := 110) rfl rfl rfl ?_
                refine ev_sub (lo := [(2, .int z35), (0, .ref 69), (1, .int ar1)]) rfl (t_sc rfl (t_sc rfl (t_sc rfl t_sn))) ?_
                exact ih11 _ (by omega) g33 gl26 gr26 (z35) hI hX  (Int.le_trans (by decide : (0:Int) ≤ 1) l35) u35 ((by rw [e33]; exact x_up2_off (Or.inr (by decide)) : g33 69 46 = g31 69 46).trans ((by rw [e31]; exact x_up2_off (Or.inl (by decide)) : g31 69 46 = gi26 69 46).trans c26_0)) ((by rw [e33]; exact x_up2_off (Or.inr (by decide)) : g33 70 1 = g31 70 1).trans ((by rw [e31]; exact x_up2_off (Or.inl (by decide)) : g31 70 1 = gi26 70 1).trans c26_1)) (by have ff36 : (g33 69 45).toInt = z32.toInt := congrArg Int32.toInt (by rw [e33]; exact x_up2_at _ _ _ _ : g33 69 45 = z32); omega) (fun j => (congrFun ((by rw [e33]; exact x_up2_ne (by decide) : g33 70 = g31 70).trans ((by rw [e31]; exact x_up2_ne (by decide) : g31 70 = gi26 70))) j).trans (j26_2 j)) (fun j => (congrFun ((by rw [e33]; exact x_up2_ne (by decide) : g33 89 = g31 89).trans ((by rw [e31]; exact x_up2_ne (by decide) : g31 89 = gi26 89))) j).trans (j26_3 j)) (by
                                                            intro D A hm hb ht
                                                            obtain ⟨g1, g2⟩ := j26_4 D A hm hb ht
                                                            have ff37 : (g33 69 44).toInt = (gi26 69 44).toInt := congrArg Int32.toInt ((by rw [e33]; exact x_up2_off (Or.inr (by decide)) : g33 69 44 = g31 69 44).trans ((by rw [e31]; exact x_up2_off (Or.inl (by decide)) : g31 69 44 = gi26 69 44).trans rfl))
                                                            rw [show g33 90 = gi26 90 from (funext fun j => by rw [e33, x_up2_off (Or.inl (by decide)), e31, x_up2_off (Or.inl (by decide))])]
                                                            exact ⟨by omega, g2⟩) (by
                                                            intro D A hm hb ht
                                                            have b1 := hb.2.2
                                                            have z0 : (0 : Int32).toInt = 0 := rfl
                                                            obtain ⟨g1, g2, g3, hB, f, hR, hJ⟩ := j26_5 D A hm hb ht
                                                            have ff38 : (g33 69 45).toInt = z32.toInt := congrArg Int32.toInt (by rw [e33]; exact x_up2_at _ _ _ _ : g33 69 45 = z32)
                                                            have h89 : ∀ j : Nat, (j : Int) < D 2 → (gi26 89 (6 + j)).toInt = A j := fun j hj => by rw [j26_3 (6 + j)]; exact ht j hj
                                                            have hst : ∀ j, g33 91 j = if j = y26_3.toNatClampNeg then y11_2 else gi26 91 j := fun j => by rw [e33, x_up2_off (Or.inl (by decide)), e31]; by_cases hj : j = y26_3.toNatClampNeg; (rw [if_pos hj, hj, x_up2_at]); (rw [if_neg hj, x_up2_off (Or.inr hj)])
                                                            have ci := t_clamp (i := y11_2) (by omega)
                                                            have hs : y26_3.toNatClampNeg = 0 ∨ A (s_ff A (s_ck (gi 69 46).toInt) y11_2.toNatClampNeg (y26_3.toNatClampNeg - 1)) ≤ A y11_2.toNatClampNeg := Or.inl (s_c00 (by omega) (by omega))
                                                            rw [s_cp (by omega) e35, s_fn_y hB, s_ff_y hB]
                                                            exact ⟨by omega, by omega, (by rw [e33, x_up2_off (Or.inr (by decide)), e31, x_up2_off (Or.inl (by decide))]; exact g3), s_RF_s hR ci.symm (fun j hj => rfl) rfl (s_J_e hJ hs hst)⟩) rfl
              · have l39 : 1 ≤ y26_3.toInt := t_ltl (t_nle h29) (by decide : (0:Int) ≤ (0:Int32).toInt) rfl
                refine ev_loc f_X12_orders (nx := 141) rfl rfl rfl rfl ?_
                refine ev_getR f_X12_orders (nx := 144) rfl (hI.wf.s rfl) rfl rfl (hI.wf.r rfl) rfl rfl ?_
                refine ev_bp f_X12_orders (nx := 146) (v := 6) rfl (by decide) rfl ?_
                refine ev_loc f_X12_orders (nx := 147) rfl rfl rfl rfl ?_
                refine ev_getR f_X12_orders (nx := 150) rfl (hI.wf.s rfl) rfl rfl (hI.wf.r rfl) rfl rfl ?_
                refine ev_loc f_X12_orders (nx := 151) rfl rfl rfl rfl ?_
                refine ev_ic f_X12_orders (nx := 152) (v := 1) rfl (by decide) rfl ?_
                refine ev_subC f_X12_orders (nx := 153) (c := 1) (l := 0) (u := 5) rfl (by decide) l39 u26_3 rfl rfl (by decide) (by decide) rfl (fun z40 e40 l40 u40 => ?_)
                refine ev_ialdT f_X12_orders (nx := 154) rfl (hI.wf.s rfl) l40 (by decide) u40 (by decide) rfl (fun w41 e41 => ?_)
                obtain ⟨l41, u41⟩ := hI.abi e41 (by decide +kernel : t_abr 91 0 5 0 5 = true) l40 (by decide) u40 (by decide)
                refine ev_addK f_X12_orders (nx := 155) (c := 6) (l := 6) (u := 11) rfl (by decide) l41 u41 rfl rfl (by decide) (by decide) rfl (fun z42 e42 l42 u42 => ?_)
                refine ev_ialdT f_X12_orders (nx := 156) rfl (hI.wf.s rfl) l42 (by decide) u42 (by decide) rfl (fun w43 e43 => ?_)
                refine ev_loc f_X12_orders (nx := 157) rfl rfl rfl rfl ?_
                refine ev_getR f_X12_orders (nx := 160) rfl (hI.wf.s rfl) rfl rfl (hI.wf.r rfl) rfl rfl ?_
                refine ev_bp f_X12_orders (nx := 162) (v := 6) rfl (by decide) rfl ?_
                refine ev_loc f_X12_orders (nx := 163) rfl rfl rfl rfl ?_
                refine ev_addK f_X12_orders (nx := 164) (c := 6) (l := 6) (u := 11) rfl (by decide) l11_2 u18 rfl rfl (by decide) (by decide) rfl (fun z44 e44 l44 u44 => ?_)
                refine ev_ialdT f_X12_orders (nx := 165) rfl (hI.wf.s rfl) l44 (by decide) u44 (by decide) rfl (fun w45 e45 => ?_)
                refine ev_if f_X12_orders (t1 := 188) (t2 := 168) rfl rfl rfl (fun h46 => ?_) (fun h46 => ?_)
                · have r47 : w43.toInt ≤ w45.toInt := Int32.le_iff_toInt_le.mp h46
                  refine ev_loc f_X12_orders (nx := 189) rfl rfl rfl rfl ?_
                  refine ev_getR f_X12_orders (nx := 192) rfl (hI.wf.s rfl) rfl rfl (hI.wf.r rfl) rfl rfl ?_
                  refine ev_loc f_X12_orders (nx := 193) rfl rfl rfl rfl ?_
                  refine ev_loc f_X12_orders (nx := 194) rfl rfl rfl rfl ?_
                  have u49 : y26_3.toInt ≤ (5:Int) := (by omega)
                  refine ev_iastT f_X12_orders (nx := 195) rfl (hI.wf.s rfl) l39 (by decide) u49 (by decide) rfl (hI.astL (hI.wf.s rfl) (by decide +kernel : t_abw 91 1 5 0 5 = true) (t_cl1 l39 (by decide)) (t_cl2 l39 u49 (by decide) (by decide)) l11_2 u18 rfl) (hX.upI (t_inA_ok rfl)) (fun g48 e48 hI hX => ?_)
                  refine ev_loc f_X12_orders (nx := 196) rfl rfl rfl rfl ?_
                  refine ev_alu f_X12_orders (nx := 197) rfl rfl rfl rfl ?_
                  refine ev_gvI f_X12_orders (nx := 200) (w := (gi26 69 45)) rfl (hI.wf.s rfl) rfl rfl ((by rw [e48]; exact x_up2_off (Or.inl (by decide)) : g48 69 45 = gi26 69 45).trans rfl) rfl ?_
                  refine ev_ic f_X12_orders (nx := 201) (v := 1) rfl (by decide) rfl ?_
                  refine ev_addC f_X12_orders (nx := 202) (c := 1) (l := 1) (u := 7) rfl (by decide) l28 u28 rfl rfl (by decide) (by decide) rfl (fun z50 e50 l50 u50 => ?_)
                  have u52 : z50.toInt ≤ (6:Int) := (by omega)
                  refine ev_putIT f_X12_orders (nx := 205) rfl (hI.wf.s rfl) rfl rfl rfl (hI.putB (hI.wf.s rfl) rfl rfl l50 (by decide) u52 (by decide)) (hX.upI rfl) (fun g51 e51 hI hX => ?_)
                  refine ev_incR f_X12_orders (nx := 208) (c := 1) (l := 1) (u := 6) rfl rfl (by decide) (by decide) l11_2 u18 rfl rfl (by decide) (by decide) rfl (fun z53 e53 l53 u53 => ?_)
                  refine ev_jmp f_X12_orders (nx := 110) rfl rfl rfl ?_
                  refine ev_sub (lo := [(2, .int z53), (0, .ref 69), (1, .int ar1)]) rfl (t_sc rfl (t_sc rfl (t_sc rfl t_sn))) ?_
                  exact ih11 _ (by omega) g51 gl26 gr26 (z53) hI hX  (Int.le_trans (by decide : (0:Int) ≤ 1) l53) u53 ((by rw [e51]; exact x_up2_off (Or.inr (by decide)) : g51 69 46 = g48 69 46).trans ((by rw [e48]; exact x_up2_off (Or.inl (by decide)) : g48 69 46 = gi26 69 46).trans c26_0)) ((by rw [e51]; exact x_up2_off (Or.inr (by decide)) : g51 70 1 = g48 70 1).trans ((by rw [e48]; exact x_up2_off (Or.inl (by decide)) : g48 70 1 = gi26 70 1).trans c26_1)) (by have ff54 : (g51 69 45).toInt = z50.toInt := congrArg Int32.toInt (by rw [e51]; exact x_up2_at _ _ _ _ : g51 69 45 = z50); omega) (fun j => (congrFun ((by rw [e51]; exact x_up2_ne (by decide) : g51 70 = g48 70).trans ((by rw [e48]; exact x_up2_ne (by decide) : g48 70 = gi26 70))) j).trans (j26_2 j)) (fun j => (congrFun ((by rw [e51]; exact x_up2_ne (by decide) : g51 89 = g48 89).trans ((by rw [e48]; exact x_up2_ne (by decide) : g48 89 = gi26 89))) j).trans (j26_3 j)) (by
                                                            intro D A hm hb ht
                                                            obtain ⟨g1, g2⟩ := j26_4 D A hm hb ht
                                                            have ff55 : (g51 69 44).toInt = (gi26 69 44).toInt := congrArg Int32.toInt ((by rw [e51]; exact x_up2_off (Or.inr (by decide)) : g51 69 44 = g48 69 44).trans ((by rw [e48]; exact x_up2_off (Or.inl (by decide)) : g48 69 44 = gi26 69 44).trans rfl))
                                                            rw [show g51 90 = gi26 90 from (funext fun j => by rw [e51, x_up2_off (Or.inl (by decide)), e48, x_up2_off (Or.inl (by decide))])]
                                                            exact ⟨by omega, g2⟩) (by
                                                            intro D A hm hb ht
                                                            have b1 := hb.2.2
                                                            have z0 : (0 : Int32).toInt = 0 := rfl
                                                            obtain ⟨g1, g2, g3, hB, f, hR, hJ⟩ := j26_5 D A hm hb ht
                                                            have ff56 : (g51 69 45).toInt = z50.toInt := congrArg Int32.toInt (by rw [e51]; exact x_up2_at _ _ _ _ : g51 69 45 = z50)
                                                            have h89 : ∀ j : Nat, (j : Int) < D 2 → (gi26 89 (6 + j)).toInt = A j := fun j hj => by rw [j26_3 (6 + j)]; exact ht j hj
                                                            have hst : ∀ j, g51 91 j = if j = y26_3.toNatClampNeg then y11_2 else gi26 91 j := fun j => by rw [e51, x_up2_off (Or.inl (by decide)), e48]; by_cases hj : j = y26_3.toNatClampNeg; (rw [if_pos hj, hj, x_up2_at]); (rw [if_neg hj, x_up2_off (Or.inr hj)])
                                                            have hp : 0 < y26_3.toNatClampNeg := s_c0 (by omega)
                                                            have hv1 : w41.toInt = ((s_ff A (s_ck (gi 69 46).toInt) y11_2.toNatClampNeg (y26_3.toNatClampNeg - 1) : Nat) : Int) := by rw [e41, s_cm l40 e40, s_J_at hJ hp]; exact hR _ (by have := hJ.1; omega)
                                                            have hlt := s_ff_lt A (s_ck (gi 69 46).toInt) y11_2.toNatClampNeg (y26_3.toNatClampNeg - 1) (by have := hJ.1; omega)
                                                            have ci := t_clamp (i := y11_2) (by omega)
                                                            have hv2 : w43.toInt = A (s_ff A (s_ck (gi 69 46).toInt) y11_2.toNatClampNeg (y26_3.toNatClampNeg - 1)) := by rw [e43, s_c5 (x := z42) (k := 6 + s_ff A (s_ck (gi 69 46).toInt) y11_2.toNatClampNeg (y26_3.toNatClampNeg - 1)) (show z42.toInt = _ from (by omega))]; exact h89 _ (by omega)
                                                            have hv3 : w45.toInt = A y11_2.toNatClampNeg := by rw [e45, s_c5 (x := z44) (k := 6 + y11_2.toNatClampNeg) (show z44.toInt = _ from (by omega))]; exact h89 _ (by omega)
                                                            have hs : y26_3.toNatClampNeg = 0 ∨ A (s_ff A (s_ck (gi 69 46).toInt) y11_2.toNatClampNeg (y26_3.toNatClampNeg - 1)) ≤ A y11_2.toNatClampNeg := Or.inr (by omega)
                                                            rw [s_cp (by omega) e53, s_fn_y hB, s_ff_y hB]
                                                            exact ⟨by omega, by omega, (by rw [e51, x_up2_off (Or.inr (by decide)), e48, x_up2_off (Or.inl (by decide))]; exact g3), s_RF_s hR ci.symm (fun j hj => rfl) rfl (s_J_e hJ hs hst)⟩) rfl
                · have r57 : w45.toInt < w43.toInt := Int32.lt_iff_toInt_lt.mp (t_nle h46)
                  have u58 : w45.toInt ≤ 2147483646 := t_ltu (t_nle h46) (t_hi w43) rfl
                  have l59 : (-2147483647) ≤ w43.toInt := t_ltl (t_nle h46) (t_lo w45) rfl
                  refine ev_loc f_X12_orders (nx := 169) rfl rfl rfl rfl ?_
                  refine ev_getR f_X12_orders (nx := 172) rfl (hI.wf.s rfl) rfl rfl (hI.wf.r rfl) rfl rfl ?_
                  refine ev_loc f_X12_orders (nx := 173) rfl rfl rfl rfl ?_
                  refine ev_loc f_X12_orders (nx := 174) rfl rfl rfl rfl ?_
                  refine ev_getR f_X12_orders (nx := 177) rfl (hI.wf.s rfl) rfl rfl (hI.wf.r rfl) rfl rfl ?_
                  refine ev_loc f_X12_orders (nx := 178) rfl rfl rfl rfl ?_
                  refine ev_ic f_X12_orders (nx := 179) (v := 1) rfl (by decide) rfl ?_
                  refine ev_subC f_X12_orders (nx := 180) (c := 1) (l := 0) (u := 5) rfl (by decide) l39 u26_3 rfl rfl (by decide) (by decide) rfl (fun z60 e60 l60 u60 => ?_)
                  refine ev_ialdT f_X12_orders (nx := 181) rfl (hI.wf.s rfl) l60 (by decide) u60 (by decide) rfl (fun w61 e61 => ?_)
                  obtain ⟨l61, u61⟩ := hI.abi e61 (by decide +kernel : t_abr 91 0 5 0 5 = true) l60 (by decide) u60 (by decide)
                  have u63 : y26_3.toInt ≤ (5:Int) := (by omega)
                  refine ev_iastT f_X12_orders (nx := 182) rfl (hI.wf.s rfl) l39 (by decide) u63 (by decide) rfl (hI.astL (hI.wf.s rfl) (by decide +kernel : t_abw 91 1 5 0 5 = true) (t_cl1 l39 (by decide)) (t_cl2 l39 u63 (by decide) (by decide)) l61 u61 rfl) (hX.upI (t_inA_ok rfl)) (fun g62 e62 hI hX => ?_)
                  refine ev_incR f_X12_orders (nx := 185) (c := (-1)) (l := 0) (u := 4) rfl rfl (by decide) (by decide) l39 u63 rfl rfl (by decide) (by decide) rfl (fun z64 e64 l64 u64 => ?_)
                  refine ev_jmp f_X12_orders (nx := 136) rfl rfl rfl ?_
                  refine ev_sub (lo := [(3, .int z64), (2, .int y11_2), (0, .ref 69), (1, .int ar1)]) rfl (t_sc rfl (t_sc rfl (t_sc rfl (t_sc rfl t_sn)))) ?_
                  exact ih26 _ (by omega) g62 gl26 gr26 (z64) hI hX  l64 (Int.le_trans u64 (by decide : (4:Int) ≤ 6)) ((by rw [e62]; exact x_up2_off (Or.inl (by decide)) : g62 69 46 = gi26 69 46).trans c26_0) ((by rw [e62]; exact x_up2_off (Or.inl (by decide)) : g62 70 1 = gi26 70 1).trans c26_1) ((by rw [e62]; exact x_up2_off (Or.inl (by decide)) : g62 70 2 = gi26 70 2).trans c26_2) (by have ff65 : (g62 69 45).toInt = (gi26 69 45).toInt := congrArg Int32.toInt ((by rw [e62]; exact x_up2_off (Or.inl (by decide)) : g62 69 45 = gi26 69 45).trans rfl); omega) (by have ff66 : (g62 69 45).toInt = (gi26 69 45).toInt := congrArg Int32.toInt ((by rw [e62]; exact x_up2_off (Or.inl (by decide)) : g62 69 45 = gi26 69 45).trans rfl); omega) (fun j => (congrFun ((by rw [e62]; exact x_up2_ne (by decide) : g62 70 = gi26 70)) j).trans (j26_2 j)) (fun j => (congrFun ((by rw [e62]; exact x_up2_ne (by decide) : g62 89 = gi26 89)) j).trans (j26_3 j)) (by
                                                            intro D A hm hb ht
                                                            obtain ⟨g1, g2⟩ := j26_4 D A hm hb ht
                                                            have ff67 : (g62 69 44).toInt = (gi26 69 44).toInt := congrArg Int32.toInt ((by rw [e62]; exact x_up2_off (Or.inl (by decide)) : g62 69 44 = gi26 69 44).trans rfl)
                                                            rw [show g62 90 = gi26 90 from (funext fun j => by rw [e62, x_up2_off (Or.inl (by decide))])]
                                                            exact ⟨by omega, g2⟩) (by
                                                            intro D A hm hb ht
                                                            have b1 := hb.2.2
                                                            have z0 : (0 : Int32).toInt = 0 := rfl
                                                            obtain ⟨g1, g2, g3, hB, f, hR, hJ⟩ := j26_5 D A hm hb ht
                                                            have ff68 : (g62 69 45).toInt = (gi26 69 45).toInt := congrArg Int32.toInt ((by rw [e62]; exact x_up2_off (Or.inl (by decide)) : g62 69 45 = gi26 69 45).trans rfl)
                                                            have h89 : ∀ j : Nat, (j : Int) < D 2 → (gi26 89 (6 + j)).toInt = A j := fun j hj => by rw [j26_3 (6 + j)]; exact ht j hj
                                                            have hp : 0 < y26_3.toNatClampNeg := s_c0 (by omega)
                                                            have hv1 : w41.toInt = ((s_ff A (s_ck (gi 69 46).toInt) y11_2.toNatClampNeg (y26_3.toNatClampNeg - 1) : Nat) : Int) := by rw [e41, s_cm l40 e40, s_J_at hJ hp]; exact hR _ (by have := hJ.1; omega)
                                                            have hlt := s_ff_lt A (s_ck (gi 69 46).toInt) y11_2.toNatClampNeg (y26_3.toNatClampNeg - 1) (by have := hJ.1; omega)
                                                            have ci := t_clamp (i := y11_2) (by omega)
                                                            have hv2 : w43.toInt = A (s_ff A (s_ck (gi 69 46).toInt) y11_2.toNatClampNeg (y26_3.toNatClampNeg - 1)) := by rw [e43, s_c5 (x := z42) (k := 6 + s_ff A (s_ck (gi 69 46).toInt) y11_2.toNatClampNeg (y26_3.toNatClampNeg - 1)) (show z42.toInt = _ from (by omega))]; exact h89 _ (by omega)
                                                            have hv3 : w45.toInt = A y11_2.toNatClampNeg := by rw [e45, s_c5 (x := z44) (k := 6 + y11_2.toNatClampNeg) (show z44.toInt = _ from (by omega))]; exact h89 _ (by omega)
                                                            have hst : ∀ j, g62 91 j = if j = y26_3.toNatClampNeg then w61 else gi26 91 j := fun j => by rw [e62]; by_cases hj : j = y26_3.toNatClampNeg; (rw [if_pos hj, hj, x_up2_at]); (rw [if_neg hj, x_up2_off (Or.inr hj)])
                                                            have hw : w61 = gi26 91 (y26_3.toNatClampNeg - 1) := by rw [e61, s_cm l60 e60]
                                                            rw [s_cm2 l64 e64]
                                                            exact ⟨by omega, g2, (by rw [e62, x_up2_off (Or.inl (by decide))]; exact g3), hB, f, hR, s_J_s hJ hp (show A y11_2.toNatClampNeg < A (s_ff A (s_ck (gi 69 46).toInt) y11_2.toNatClampNeg (y26_3.toNatClampNeg - 1)) from (by omega)) hst hw⟩) rfl
            refine ev_sub (lo := [(3, .int (gi11 69 45)), (2, .int y11_2), (0, .ref 69), (1, .int ar1)]) rfl (t_sc rfl (t_sc rfl (t_sc rfl (t_sc rfl t_sn)))) ?_
            exact L26 _ gi11 gl11 gr11 ((gi11 69 45)) hI hX  l13 u13 c11_0 c11_1 rfl (by omega) (by omega) j11_1 j11_2 (by
                                                            intro D A hm hb ht
                                                            obtain ⟨g1, g2⟩ := j11_3 D A hm hb ht
                                                            exact ⟨by omega, g2⟩) (by
                                                            intro D A hm hb ht
                                                            have b1 := hb.2.2
                                                            have z0 : (0 : Int32).toInt = 0 := rfl
                                                            obtain ⟨g1, g2, g3, g4⟩ := j11_4 D A hm hb ht
                                                            have ci := t_clamp (i := y11_2) (by omega)
                                                            have hd : (gi11 70 2).toInt = D 2 := by rw [j11_1 2]; exact hm.1.1.2.2
                                                            have hY := s_ck_y (x := (gi 69 46).toInt) (i := y11_2.toNatClampNeg) (by omega)
                                                            have hx : ((gi11 69 45)).toNatClampNeg = s_fn (s_ck (gi 69 46).toInt) y11_2.toNatClampNeg := by have c1 := t_clamp (i := ((gi11 69 45))) (by omega); omega
                                                            rw [hx]
                                                            exact ⟨g1, by omega, g3, hY, _, g4, s_J_b (fun j _ => rfl)⟩) rfl
      refine ev_sub (lo := [(2, .int 0), (0, .ref 69), (1, .int ar1)]) rfl (t_sc rfl (t_sc rfl (t_sc rfl t_sn))) ?_
      exact L11 _ gi6 gl6 gr6 (0) hI hX  (by decide : (0:Int) ≤ (0:Int32).toInt) (Int.le_trans (by decide : (0:Int32).toInt ≤ (0:Int)) (by decide : (0:Int) ≤ 6)) c6_1 rfl (by have kf69 : (0 : Int32).toInt = 0 := (by decide); have ff70 : (gi6 69 45).toInt = 0 := (congrArg Int32.toInt c6_0).trans (by decide); omega) j6_1 j6_2 (by
                                                            intro D A hm hb ht
                                                            have b1 := hb.2.1
                                                            have z0 : (0 : Int32).toInt = 0 := rfl
                                                            obtain ⟨g1, g2, g4⟩ := j6_3 D A hm hb ht
                                                            have ci := t_clamp (i := y6_2) (by omega)
                                                            have hd : (gi6 70 1).toInt = D 1 := by rw [j6_1 1]; exact hm.1.1.2.1
                                                            rw [show (D 1).toNat = y6_2.toNatClampNeg from (by omega)]
                                                            exact ⟨by omega, g4⟩) (by
                                                            intro D A hm hb ht
                                                            have b1 := hb.2.2
                                                            have z0 : (0 : Int32).toInt = 0 := rfl
                                                            have ff71 : (gi6 69 45).toInt = 0 := (congrArg Int32.toInt c6_0).trans (by decide)
                                                            exact ⟨(by show _ = (0 : Int); omega), by omega, (hX.1 69 46 rfl).1, fun j hj => absurd hj (Nat.not_lt_zero _)⟩) rfl
    · have r72 : y6_2.toInt < (gi6 70 1).toInt := Int32.lt_iff_toInt_lt.mp (t_nle h9)
      have u73 : y6_2.toInt ≤ 5 := t_ltu (t_nle h9) u8 rfl
      have l74 : 1 ≤ (gi6 70 1).toInt := t_ltl (t_nle h9) l6_2 rfl
      refine ev_loc f_X12_orders (nx := 23) rfl rfl rfl rfl ?_
      refine ev_loc f_X12_orders (nx := 24) rfl rfl rfl rfl ?_
      refine ev_anyIE f_X12_orders (nx := 25) rfl rfl rfl rfl (fun z75 e75 => ?_)
      refine ev_ic f_X12_orders (nx := 26) (v := 1) rfl (by decide) rfl ?_
      refine ev_anyIE f_X12_orders (nx := 27) rfl rfl rfl rfl (fun z76 e76 => ?_)
      refine ev_ic f_X12_orders (nx := 28) (v := 1) rfl (by decide) rfl ?_
      refine ev_if f_X12_orders (t1 := 31) (t2 := 34) rfl rfl rfl (fun h77 => ?_) (fun h77 => ?_)
      · have u78 : z76.toInt ≤ 1 := t_equ h77 (by decide : (1:Int32).toInt ≤ (1:Int))
        have l79 : 1 ≤ z76.toInt := t_eql h77 (by decide : (1:Int) ≤ (1:Int32).toInt)
        refine ev_jmp f_X12_orders (nx := 102) rfl rfl rfl ?_
        refine ev_incR f_X12_orders (nx := 105) (c := 1) (l := 1) (u := 6) rfl rfl (by decide) (by decide) l6_2 u73 rfl rfl (by decide) (by decide) rfl (fun z80 e80 l80 u80 => ?_)
        refine ev_jmp f_X12_orders (nx := 12) rfl rfl rfl ?_
        refine ev_sub (lo := [(2, .int z80), (0, .ref 69), (1, .int ar1)]) rfl (t_sc rfl (t_sc rfl (t_sc rfl t_sn))) ?_
        exact ih6 _ (by omega) gi6 gl6 gr6 (z80) hI hX  (Int.le_trans (by decide : (0:Int) ≤ 1) l80) u80 c6_0 c6_1 (by omega) j6_1 j6_2 (by
                                                            intro D A hm hb ht
                                                            have b1 := hb.2.1
                                                            have z0 : (0 : Int32).toInt = 0 := rfl
                                                            obtain ⟨g1, g2, g4⟩ := j6_3 D A hm hb ht
                                                            have ci := t_clamp (i := y6_2) (by omega)
                                                            have hN := s_mk_n (m := ar1) (y := y6_2) (by omega) e75 e76 (fun hh => by have h9 := congrArg Int32.toInt hh; have k9 : (1 : Int32).toInt = 1 := rfl; omega)
                                                            have hl9 : (gi6 69 44) = gi6 69 44 := rfl
                                                            rw [s_cp (by omega) e80, s_fn_n hN, s_ff_n hN]
                                                            have hd : (gi6 70 1).toInt = D 1 := by rw [j6_1 1]; exact hm.1.1.2.1
                                                            exact ⟨g1, by omega, g4⟩) rfl
      · have r81 : z76.toInt ≠ 1 := fun e => h77 (Int32.toInt_inj.mp (e.trans (by decide : (1:Int) = (1 : Int32).toInt)))
        refine ev_loc f_X12_orders (nx := 35) rfl rfl rfl rfl ?_
        refine ev_gvI f_X12_orders (nx := 38) (w := (gi6 69 44)) rfl (hI.wf.s rfl) rfl rfl rfl rfl ?_
        refine ev_loc f_X12_orders (nx := 39) (lo' := [(3, .int (gi6 69 44)), (2, .int y6_2), (0, .ref 69), (1, .int ar1)]) rfl rfl rfl rfl ?_
        have L82 : ∀ (m82 : Nat) (gi82 : Nat → Nat → Int32) (gl82 : Nat → Nat → Int64) (gr82 : Nat → Nat → Value) (y82_3 : Int32), t_I sh gi82 gr82 → t_X wl_n_ordersG sh gi gl gr gi82 gl82 gr82 → 0 ≤ y82_3.toInt → y82_3.toInt ≤ 6 → gi82 69 45 = 0 → gi82 69 46 = (gi 69 46) → gi82 70 1 = (gi6 70 1) → y82_3.toInt ≤ (gi82 69 44).toInt → (gi82 69 44).toInt ≤ y6_2.toInt → (∀ j, gi82 70 j = gi 70 j) → (∀ j, gi82 89 j = gi 89 j) → (∀ (D : s_D) (A : Nat → Int), t_ME 0 gi D → t_Cb D → (∀ j : Nat, (j : Int) < D 1 → (gi 89 j).toInt = A j) → (gi82 69 44).toInt = (((s_fn (s_mk ar1) y6_2.toNatClampNeg) : Nat) : Int) ∧ y6_2.toInt < D 1 ∧ (s_mk ar1) y6_2.toNatClampNeg = true ∧ ∃ f, s_RF (s_ff A (s_mk ar1) y6_2.toNatClampNeg) (fun k => (k : Int)) f (s_fn (s_mk ar1) y6_2.toNatClampNeg) ∧ s_J f (gi82 90) (fun j => A ((s_ff A (s_mk ar1) y6_2.toNatClampNeg) j)) (s_fn (s_mk ar1) y6_2.toNatClampNeg) (A y6_2.toNatClampNeg) y82_3.toNatClampNeg) → (y82_3.toInt - 0).toNat = m82 → x_Ev X (d + 1) n_X12_orders 39 [(3, .int y82_3), (2, .int y6_2), (0, .ref 69), (1, .int ar1)] [] (sh, gi82, gl82, gr82) (t_PN wl_n_ordersG sh gi gl gr (Q_n_ordersG gi gl gr ar1)) := by
          intro m82
          induction m82 using Nat.strongRecOn with
          | _ m82 ih82 =>
          intro gi82 gl82 gr82 y82_3 hI hX l82_3 u82_3 c82_0 c82_1 c82_2 j82_0 j82_1 j82_2 j82_3 j82_4 hm82
          obtain ⟨l83, u83⟩ := hI.b (hI.wf.s (k := 69) rfl) (t_bdK rfl : t_bd 11 44 = some (0, 6))
          refine ev_loc f_X12_orders (nx := 40) rfl rfl rfl rfl ?_
          refine ev_if f_X12_orders (t1 := 85) (t2 := 43) rfl rfl rfl (fun h84 => ?_) (fun h84 => ?_)
          · have u85 : y82_3.toInt ≤ 0 := t_leu h84 (by decide : (0:Int32).toInt ≤ (0:Int))
            refine ev_loc f_X12_orders (nx := 86) rfl rfl rfl rfl ?_
            refine ev_getR f_X12_orders (nx := 89) rfl (hI.wf.s rfl) rfl rfl (hI.wf.r rfl) rfl rfl ?_
            refine ev_loc f_X12_orders (nx := 90) rfl rfl rfl rfl ?_
            refine ev_loc f_X12_orders (nx := 91) rfl rfl rfl rfl ?_
            refine ev_iastT f_X12_orders (nx := 92) rfl (hI.wf.s rfl) l82_3 (by decide) u85 (by decide) rfl (hI.astL (hI.wf.s rfl) (by decide +kernel : t_abw 90 0 0 0 5 = true) (t_cl1 l82_3 (by decide)) (t_cl2 l82_3 u85 (by decide) (by decide)) l6_2 u73 rfl) (hX.upI (t_inA_ok rfl)) (fun g86 e86 hI hX => ?_)
            refine ev_loc f_X12_orders (nx := 93) rfl rfl rfl rfl ?_
            refine ev_alu f_X12_orders (nx := 94) rfl rfl rfl rfl ?_
            refine ev_gvI f_X12_orders (nx := 97) (w := (gi82 69 44)) rfl (hI.wf.s rfl) rfl rfl ((by rw [e86]; exact x_up2_off (Or.inl (by decide)) : g86 69 44 = gi82 69 44).trans rfl) rfl ?_
            refine ev_ic f_X12_orders (nx := 98) (v := 1) rfl (by decide) rfl ?_
            refine ev_addC f_X12_orders (nx := 99) (c := 1) (l := 1) (u := 7) rfl (by decide) l83 u83 rfl rfl (by decide) (by decide) rfl (fun z87 e87 l87 u87 => ?_)
            have u89 : z87.toInt ≤ (6:Int) := (by omega)
            refine ev_putIT f_X12_orders (nx := 102) rfl (hI.wf.s rfl) rfl rfl rfl (hI.putB (hI.wf.s rfl) rfl rfl l87 (by decide) u89 (by decide)) (hX.upI rfl) (fun g88 e88 hI hX => ?_)
            refine ev_incR f_X12_orders (nx := 105) (c := 1) (l := 1) (u := 6) rfl rfl (by decide) (by decide) l6_2 u73 rfl rfl (by decide) (by decide) rfl (fun z90 e90 l90 u90 => ?_)
            refine ev_jmp f_X12_orders (nx := 12) rfl rfl rfl ?_
            refine ev_sub (lo := [(2, .int z90), (0, .ref 69), (1, .int ar1)]) rfl (t_sc rfl (t_sc rfl (t_sc rfl t_sn))) ?_
            exact ih6 _ (by omega) g88 gl82 gr82 (z90) hI hX  (Int.le_trans (by decide : (0:Int) ≤ 1) l90) u90 ((by rw [e88]; exact x_up2_off (Or.inr (by decide)) : g88 69 45 = g86 69 45).trans ((by rw [e86]; exact x_up2_off (Or.inl (by decide)) : g86 69 45 = gi82 69 45).trans c82_0)) ((by rw [e88]; exact x_up2_off (Or.inr (by decide)) : g88 69 46 = g86 69 46).trans ((by rw [e86]; exact x_up2_off (Or.inl (by decide)) : g86 69 46 = gi82 69 46).trans c82_1)) (by have ff91 : (g88 69 44).toInt = z87.toInt := congrArg Int32.toInt (by rw [e88]; exact x_up2_at _ _ _ _ : g88 69 44 = z87); omega) (fun j => (congrFun ((by rw [e88]; exact x_up2_ne (by decide) : g88 70 = g86 70).trans ((by rw [e86]; exact x_up2_ne (by decide) : g86 70 = gi82 70))) j).trans (j82_2 j)) (fun j => (congrFun ((by rw [e88]; exact x_up2_ne (by decide) : g88 89 = g86 89).trans ((by rw [e86]; exact x_up2_ne (by decide) : g86 89 = gi82 89))) j).trans (j82_3 j)) (by
                                                            intro D A hm hb ht
                                                            have b1 := hb.2.1
                                                            have z0 : (0 : Int32).toInt = 0 := rfl
                                                            obtain ⟨g1, g2, hB, f, hR, hJ⟩ := j82_4 D A hm hb ht
                                                            have ff92 : (g88 69 44).toInt = z87.toInt := congrArg Int32.toInt (by rw [e88]; exact x_up2_at _ _ _ _ : g88 69 44 = z87)
                                                            have h89 : ∀ j : Nat, (j : Int) < D 1 → (gi82 89 j).toInt = A j := fun j hj => by rw [j82_3 j]; exact ht j hj
                                                            have hst : ∀ j, g88 90 j = if j = y82_3.toNatClampNeg then y6_2 else gi82 90 j := fun j => by rw [e88, x_up2_off (Or.inl (by decide)), e86]; by_cases hj : j = y82_3.toNatClampNeg; (rw [if_pos hj, hj, x_up2_at]); (rw [if_neg hj, x_up2_off (Or.inr hj)])
                                                            have ci := t_clamp (i := y6_2) (by omega)
                                                            have hs : y82_3.toNatClampNeg = 0 ∨ A (s_ff A (s_mk ar1) y6_2.toNatClampNeg (y82_3.toNatClampNeg - 1)) ≤ A y6_2.toNatClampNeg := Or.inl (s_c00 (by omega) (by omega))
                                                            rw [s_cp (by omega) e90, s_fn_y hB, s_ff_y hB]
                                                            exact ⟨by omega, by omega, s_RF_s hR ci.symm (fun j hj => rfl) rfl (s_J_e hJ hs hst)⟩) rfl
          · have l93 : 1 ≤ y82_3.toInt := t_ltl (t_nle h84) (by decide : (0:Int) ≤ (0:Int32).toInt) rfl
            refine ev_loc f_X12_orders (nx := 44) rfl rfl rfl rfl ?_
            refine ev_getR f_X12_orders (nx := 47) rfl (hI.wf.s rfl) rfl rfl (hI.wf.r rfl) rfl rfl ?_
            refine ev_loc f_X12_orders (nx := 48) rfl rfl rfl rfl ?_
            refine ev_getR f_X12_orders (nx := 51) rfl (hI.wf.s rfl) rfl rfl (hI.wf.r rfl) rfl rfl ?_
            refine ev_loc f_X12_orders (nx := 52) rfl rfl rfl rfl ?_
            refine ev_ic f_X12_orders (nx := 53) (v := 1) rfl (by decide) rfl ?_
            refine ev_subC f_X12_orders (nx := 54) (c := 1) (l := 0) (u := 5) rfl (by decide) l93 u82_3 rfl rfl (by decide) (by decide) rfl (fun z94 e94 l94 u94 => ?_)
            refine ev_ialdT f_X12_orders (nx := 55) rfl (hI.wf.s rfl) l94 (by decide) u94 (by decide) rfl (fun w95 e95 => ?_)
            obtain ⟨l95, u95⟩ := hI.abi e95 (by decide +kernel : t_abr 90 0 5 0 5 = true) l94 (by decide) u94 (by decide)
            refine ev_ialdT f_X12_orders (nx := 56) rfl (hI.wf.s rfl) l95 (by decide) u95 (by decide) rfl (fun w96 e96 => ?_)
            refine ev_loc f_X12_orders (nx := 57) rfl rfl rfl rfl ?_
            refine ev_getR f_X12_orders (nx := 60) rfl (hI.wf.s rfl) rfl rfl (hI.wf.r rfl) rfl rfl ?_
            refine ev_loc f_X12_orders (nx := 61) rfl rfl rfl rfl ?_
            refine ev_ialdT f_X12_orders (nx := 62) rfl (hI.wf.s rfl) l6_2 (by decide) u73 (by decide) rfl (fun w97 e97 => ?_)
            refine ev_if f_X12_orders (t1 := 85) (t2 := 65) rfl rfl rfl (fun h98 => ?_) (fun h98 => ?_)
            · have r99 : w96.toInt ≤ w97.toInt := Int32.le_iff_toInt_le.mp h98
              refine ev_loc f_X12_orders (nx := 86) rfl rfl rfl rfl ?_
              refine ev_getR f_X12_orders (nx := 89) rfl (hI.wf.s rfl) rfl rfl (hI.wf.r rfl) rfl rfl ?_
              refine ev_loc f_X12_orders (nx := 90) rfl rfl rfl rfl ?_
              refine ev_loc f_X12_orders (nx := 91) rfl rfl rfl rfl ?_
              have u101 : y82_3.toInt ≤ (5:Int) := (by omega)
              refine ev_iastT f_X12_orders (nx := 92) rfl (hI.wf.s rfl) l93 (by decide) u101 (by decide) rfl (hI.astL (hI.wf.s rfl) (by decide +kernel : t_abw 90 1 5 0 5 = true) (t_cl1 l93 (by decide)) (t_cl2 l93 u101 (by decide) (by decide)) l6_2 u73 rfl) (hX.upI (t_inA_ok rfl)) (fun g100 e100 hI hX => ?_)
              refine ev_loc f_X12_orders (nx := 93) rfl rfl rfl rfl ?_
              refine ev_alu f_X12_orders (nx := 94) rfl rfl rfl rfl ?_
              refine ev_gvI f_X12_orders (nx := 97) (w := (gi82 69 44)) rfl (hI.wf.s rfl) rfl rfl ((by rw [e100]; exact x_up2_off (Or.inl (by decide)) : g100 69 44 = gi82 69 44).trans rfl) rfl ?_
              refine ev_ic f_X12_orders (nx := 98) (v := 1) rfl (by decide) rfl ?_
              refine ev_addC f_X12_orders (nx := 99) (c := 1) (l := 1) (u := 7) rfl (by decide) l83 u83 rfl rfl (by decide) (by decide) rfl (fun z102 e102 l102 u102 => ?_)
              have u104 : z102.toInt ≤ (6:Int) := (by omega)
              refine ev_putIT f_X12_orders (nx := 102) rfl (hI.wf.s rfl) rfl rfl rfl (hI.putB (hI.wf.s rfl) rfl rfl l102 (by decide) u104 (by decide)) (hX.upI rfl) (fun g103 e103 hI hX => ?_)
              refine ev_incR f_X12_orders (nx := 105) (c := 1) (l := 1) (u := 6) rfl rfl (by decide) (by decide) l6_2 u73 rfl rfl (by decide) (by decide) rfl (fun z105 e105 l105 u105 => ?_)
              refine ev_jmp f_X12_orders (nx := 12) rfl rfl rfl ?_
              refine ev_sub (lo := [(2, .int z105), (0, .ref 69), (1, .int ar1)]) rfl (t_sc rfl (t_sc rfl (t_sc rfl t_sn))) ?_
              exact ih6 _ (by omega) g103 gl82 gr82 (z105) hI hX  (Int.le_trans (by decide : (0:Int) ≤ 1) l105) u105 ((by rw [e103]; exact x_up2_off (Or.inr (by decide)) : g103 69 45 = g100 69 45).trans ((by rw [e100]; exact x_up2_off (Or.inl (by decide)) : g100 69 45 = gi82 69 45).trans c82_0)) ((by rw [e103]; exact x_up2_off (Or.inr (by decide)) : g103 69 46 = g100 69 46).trans ((by rw [e100]; exact x_up2_off (Or.inl (by decide)) : g100 69 46 = gi82 69 46).trans c82_1)) (by have ff106 : (g103 69 44).toInt = z102.toInt := congrArg Int32.toInt (by rw [e103]; exact x_up2_at _ _ _ _ : g103 69 44 = z102); omega) (fun j => (congrFun ((by rw [e103]; exact x_up2_ne (by decide) : g103 70 = g100 70).trans ((by rw [e100]; exact x_up2_ne (by decide) : g100 70 = gi82 70))) j).trans (j82_2 j)) (fun j => (congrFun ((by rw [e103]; exact x_up2_ne (by decide) : g103 89 = g100 89).trans ((by rw [e100]; exact x_up2_ne (by decide) : g100 89 = gi82 89))) j).trans (j82_3 j)) (by
                                                            intro D A hm hb ht
                                                            have b1 := hb.2.1
                                                            have z0 : (0 : Int32).toInt = 0 := rfl
                                                            obtain ⟨g1, g2, hB, f, hR, hJ⟩ := j82_4 D A hm hb ht
                                                            have ff107 : (g103 69 44).toInt = z102.toInt := congrArg Int32.toInt (by rw [e103]; exact x_up2_at _ _ _ _ : g103 69 44 = z102)
                                                            have h89 : ∀ j : Nat, (j : Int) < D 1 → (gi82 89 j).toInt = A j := fun j hj => by rw [j82_3 j]; exact ht j hj
                                                            have hst : ∀ j, g103 90 j = if j = y82_3.toNatClampNeg then y6_2 else gi82 90 j := fun j => by rw [e103, x_up2_off (Or.inl (by decide)), e100]; by_cases hj : j = y82_3.toNatClampNeg; (rw [if_pos hj, hj, x_up2_at]); (rw [if_neg hj, x_up2_off (Or.inr hj)])
                                                            have hp : 0 < y82_3.toNatClampNeg := s_c0 (by omega)
                                                            have hv1 : w95.toInt = ((s_ff A (s_mk ar1) y6_2.toNatClampNeg (y82_3.toNatClampNeg - 1) : Nat) : Int) := by rw [e95, s_cm l94 e94, s_J_at hJ hp]; exact hR _ (by have := hJ.1; omega)
                                                            have hlt := s_ff_lt A (s_mk ar1) y6_2.toNatClampNeg (y82_3.toNatClampNeg - 1) (by have := hJ.1; omega)
                                                            have ci := t_clamp (i := y6_2) (by omega)
                                                            have hv2 : w96.toInt = A (s_ff A (s_mk ar1) y6_2.toNatClampNeg (y82_3.toNatClampNeg - 1)) := by rw [e96, s_c5 (x := w95) hv1]; exact h89 _ (by omega)
                                                            have hv3 : w97.toInt = A y6_2.toNatClampNeg := by rw [e97]; exact h89 _ (by omega)
                                                            have hs : y82_3.toNatClampNeg = 0 ∨ A (s_ff A (s_mk ar1) y6_2.toNatClampNeg (y82_3.toNatClampNeg - 1)) ≤ A y6_2.toNatClampNeg := Or.inr (by omega)
                                                            rw [s_cp (by omega) e105, s_fn_y hB, s_ff_y hB]
                                                            exact ⟨by omega, by omega, s_RF_s hR ci.symm (fun j hj => rfl) rfl (s_J_e hJ hs hst)⟩) rfl
            · have r108 : w97.toInt < w96.toInt := Int32.lt_iff_toInt_lt.mp (t_nle h98)
              have u109 : w97.toInt ≤ 2147483646 := t_ltu (t_nle h98) (t_hi w96) rfl
              have l110 : (-2147483647) ≤ w96.toInt := t_ltl (t_nle h98) (t_lo w97) rfl
              refine ev_loc f_X12_orders (nx := 66) rfl rfl rfl rfl ?_
              refine ev_getR f_X12_orders (nx := 69) rfl (hI.wf.s rfl) rfl rfl (hI.wf.r rfl) rfl rfl ?_
              refine ev_loc f_X12_orders (nx := 70) rfl rfl rfl rfl ?_
              refine ev_loc f_X12_orders (nx := 71) rfl rfl rfl rfl ?_
              refine ev_getR f_X12_orders (nx := 74) rfl (hI.wf.s rfl) rfl rfl (hI.wf.r rfl) rfl rfl ?_
              refine ev_loc f_X12_orders (nx := 75) rfl rfl rfl rfl ?_
              refine ev_ic f_X12_orders (nx := 76) (v := 1) rfl (by decide) rfl ?_
              refine ev_subC f_X12_orders (nx := 77) (c := 1) (l := 0) (u := 5) rfl (by decide) l93 u82_3 rfl rfl (by decide) (by decide) rfl (fun z111 e111 l111 u111 => ?_)
              refine ev_ialdT f_X12_orders (nx := 78) rfl (hI.wf.s rfl) l111 (by decide) u111 (by decide) rfl (fun w112 e112 => ?_)
              obtain ⟨l112, u112⟩ := hI.abi e112 (by decide +kernel : t_abr 90 0 5 0 5 = true) l111 (by decide) u111 (by decide)
              have u114 : y82_3.toInt ≤ (5:Int) := (by omega)
              refine ev_iastT f_X12_orders (nx := 79) rfl (hI.wf.s rfl) l93 (by decide) u114 (by decide) rfl (hI.astL (hI.wf.s rfl) (by decide +kernel : t_abw 90 1 5 0 5 = true) (t_cl1 l93 (by decide)) (t_cl2 l93 u114 (by decide) (by decide)) l112 u112 rfl) (hX.upI (t_inA_ok rfl)) (fun g113 e113 hI hX => ?_)
              refine ev_incR f_X12_orders (nx := 82) (c := (-1)) (l := 0) (u := 4) rfl rfl (by decide) (by decide) l93 u114 rfl rfl (by decide) (by decide) rfl (fun z115 e115 l115 u115 => ?_)
              refine ev_jmp f_X12_orders (nx := 39) rfl rfl rfl ?_
              refine ev_sub (lo := [(3, .int z115), (2, .int y6_2), (0, .ref 69), (1, .int ar1)]) rfl (t_sc rfl (t_sc rfl (t_sc rfl (t_sc rfl t_sn)))) ?_
              exact ih82 _ (by omega) g113 gl82 gr82 (z115) hI hX  l115 (Int.le_trans u115 (by decide : (4:Int) ≤ 6)) ((by rw [e113]; exact x_up2_off (Or.inl (by decide)) : g113 69 45 = gi82 69 45).trans c82_0) ((by rw [e113]; exact x_up2_off (Or.inl (by decide)) : g113 69 46 = gi82 69 46).trans c82_1) ((by rw [e113]; exact x_up2_off (Or.inl (by decide)) : g113 70 1 = gi82 70 1).trans c82_2) (by have ff116 : (g113 69 44).toInt = (gi82 69 44).toInt := congrArg Int32.toInt ((by rw [e113]; exact x_up2_off (Or.inl (by decide)) : g113 69 44 = gi82 69 44).trans rfl); omega) (by have ff117 : (g113 69 44).toInt = (gi82 69 44).toInt := congrArg Int32.toInt ((by rw [e113]; exact x_up2_off (Or.inl (by decide)) : g113 69 44 = gi82 69 44).trans rfl); omega) (fun j => (congrFun ((by rw [e113]; exact x_up2_ne (by decide) : g113 70 = gi82 70)) j).trans (j82_2 j)) (fun j => (congrFun ((by rw [e113]; exact x_up2_ne (by decide) : g113 89 = gi82 89)) j).trans (j82_3 j)) (by
                                                            intro D A hm hb ht
                                                            have b1 := hb.2.1
                                                            have z0 : (0 : Int32).toInt = 0 := rfl
                                                            obtain ⟨g1, g2, hB, f, hR, hJ⟩ := j82_4 D A hm hb ht
                                                            have ff118 : (g113 69 44).toInt = (gi82 69 44).toInt := congrArg Int32.toInt ((by rw [e113]; exact x_up2_off (Or.inl (by decide)) : g113 69 44 = gi82 69 44).trans rfl)
                                                            have h89 : ∀ j : Nat, (j : Int) < D 1 → (gi82 89 j).toInt = A j := fun j hj => by rw [j82_3 j]; exact ht j hj
                                                            have hp : 0 < y82_3.toNatClampNeg := s_c0 (by omega)
                                                            have hv1 : w95.toInt = ((s_ff A (s_mk ar1) y6_2.toNatClampNeg (y82_3.toNatClampNeg - 1) : Nat) : Int) := by rw [e95, s_cm l94 e94, s_J_at hJ hp]; exact hR _ (by have := hJ.1; omega)
                                                            have hlt := s_ff_lt A (s_mk ar1) y6_2.toNatClampNeg (y82_3.toNatClampNeg - 1) (by have := hJ.1; omega)
                                                            have ci := t_clamp (i := y6_2) (by omega)
                                                            have hv2 : w96.toInt = A (s_ff A (s_mk ar1) y6_2.toNatClampNeg (y82_3.toNatClampNeg - 1)) := by rw [e96, s_c5 (x := w95) hv1]; exact h89 _ (by omega)
                                                            have hv3 : w97.toInt = A y6_2.toNatClampNeg := by rw [e97]; exact h89 _ (by omega)
                                                            have hst : ∀ j, g113 90 j = if j = y82_3.toNatClampNeg then w112 else gi82 90 j := fun j => by rw [e113]; by_cases hj : j = y82_3.toNatClampNeg; (rw [if_pos hj, hj, x_up2_at]); (rw [if_neg hj, x_up2_off (Or.inr hj)])
                                                            have hw : w112 = gi82 90 (y82_3.toNatClampNeg - 1) := by rw [e112, s_cm l111 e111]
                                                            rw [s_cm2 l115 e115]
                                                            exact ⟨by omega, g2, hB, f, hR, s_J_s hJ hp (show A y6_2.toNatClampNeg < A (s_ff A (s_mk ar1) y6_2.toNatClampNeg (y82_3.toNatClampNeg - 1)) from (by omega)) hst hw⟩) rfl
        refine ev_sub (lo := [(3, .int (gi6 69 44)), (2, .int y6_2), (0, .ref 69), (1, .int ar1)]) rfl (t_sc rfl (t_sc rfl (t_sc rfl (t_sc rfl t_sn)))) ?_
        exact L82 _ gi6 gl6 gr6 ((gi6 69 44)) hI hX  l7 u7 c6_0 c6_1 rfl (by omega) (by omega) j6_1 j6_2 (by
                                                            intro D A hm hb ht
                                                            have b1 := hb.2.1
                                                            have z0 : (0 : Int32).toInt = 0 := rfl
                                                            obtain ⟨g1, g2, g4⟩ := j6_3 D A hm hb ht
                                                            have ci := t_clamp (i := y6_2) (by omega)
                                                            have hd : (gi6 70 1).toInt = D 1 := by rw [j6_1 1]; exact hm.1.1.2.1
                                                            have hY := s_mk_y (m := ar1) (y := y6_2) (by omega) e75 e76 (fun hh => by have h9 := congrArg Int32.toInt hh; have k9 : (1 : Int32).toInt = 1 := rfl; omega)
                                                            have hx : ((gi6 69 44)).toNatClampNeg = s_fn (s_mk ar1) y6_2.toNatClampNeg := by have c1 := t_clamp (i := ((gi6 69 44))) (by omega); omega
                                                            rw [hx]
                                                            exact ⟨g1, by omega, hY, _, g4, s_J_b (fun j _ => rfl)⟩) rfl
  refine ev_sub (lo := [(2, .int 0), (0, .ref 69), (1, .int ar1)]) rfl (t_sc rfl (t_sc rfl (t_sc rfl t_sn))) ?_
  exact L6 _ g5 gl gr (0) hI hX  (by decide : (0:Int) ≤ (0:Int32).toInt) (Int.le_trans (by decide : (0:Int32).toInt ≤ (0:Int)) (by decide : (0:Int) ≤ 6)) (by rw [e5]; exact x_up2_at _ _ _ _ : g5 69 45 = 0) ((by rw [e5]; exact x_up2_off (Or.inr (by decide)) : g5 69 46 = g4 69 46).trans ((by rw [e4]; exact x_up2_off (Or.inr (by decide)) : g4 69 46 = gi 69 46).trans rfl)) (by have kf119 : (0 : Int32).toInt = 0 := (by decide); have ff120 : (g5 69 44).toInt = 0 := (congrArg Int32.toInt ((by rw [e5]; exact x_up2_off (Or.inr (by decide)) : g5 69 44 = g4 69 44).trans (by rw [e4]; exact x_up2_at _ _ _ _ : g4 69 44 = 0))).trans (by decide); omega) (fun j => (congrFun ((by rw [e5]; exact x_up2_ne (by decide) : g5 70 = g4 70).trans ((by rw [e4]; exact x_up2_ne (by decide) : g4 70 = gi 70))) j).trans ((fun _ => rfl) j)) (fun j => (congrFun ((by rw [e5]; exact x_up2_ne (by decide) : g5 89 = g4 89).trans ((by rw [e4]; exact x_up2_ne (by decide) : g4 89 = gi 89))) j).trans ((fun _ => rfl) j)) (by
                                                            intro D A hm hb ht
                                                            have b1 := hb.2.1
                                                            have z0 : (0 : Int32).toInt = 0 := rfl
                                                            have ff121 : (g5 69 44).toInt = 0 := (congrArg Int32.toInt ((by rw [e5]; exact x_up2_off (Or.inr (by decide)) : g5 69 44 = g4 69 44).trans (by rw [e4]; exact x_up2_at _ _ _ _ : g4 69 44 = 0))).trans (by decide)
                                                            exact ⟨(by show _ = (0 : Int); omega), by omega, fun j hj => absurd hj (Nat.not_lt_zero _)⟩) rfl
/-! ===== the numbers of a crossing of some of them ===== -/
/-- those whom the set m doesn't send away, who come at A; the CARTS but x -/
noncomputable def s_PX (D : s_D) (q : Int) (A : Nat → Int) (m : Int32) (x : Int) : Nat → Nat → Int := s_PG D q A (s_fn (s_mk m) (D 1).toNat) (s_ff A (s_mk m) (D 1).toNat) (s_fn (s_ck x) (D 2).toNat) (s_ff (s_B D) (s_ck x) (D 2).toNat)
section PX
variable {D : s_D} {q x : Int} {A : Nat → Int} {m : Int32} {g : Nat → Nat → Int32}
theorem s_PX_F (h : 0 ≤ D 1) (j : Nat) (hj : j < s_fn (s_mk m) (D 1).toNat) : ((s_ff A (s_mk m) (D 1).toNat j : Nat) : Int) < D 1 := by
  have := s_ff_lt A (s_mk m) _ _ hj; omega
theorem s_PX_G (h : 0 ≤ D 2) (j : Nat) (hj : j < s_fn (s_ck x) (D 2).toNat) : ((s_ff (s_B D) (s_ck x) (D 2).toNat j : Nat) : Int) < D 2 := by
  have := s_ff_lt (s_B D) (s_ck x) _ _ hj; omega
theorem s_PX_O (hb : t_Cb D) (hD : s_DB D) (hq : 1 ≤ q) (hA : ∀ j : Nat, (j : Int) < D 1 → 0 ≤ A j) : s_PO (s_PX D q A m x) :=
  s_PG_O hD hq (s_PX_F hb.2.1.1) (fun j hj => hA _ (s_PX_F hb.2.1.1 j hj)) (s_PX_G hb.2.2.1)
theorem s_PX_B (hb : t_Cb D) (hD : s_DB D) (hq : 1 ≤ q ∧ q ≤ 500) (hA : ∀ j : Nat, (j : Int) < D 1 → A j ≤ 1000) : s_PB (s_PX D q A m x) :=
  s_PG_B hD hq (by have := hb.2.1.2; have := s_fn_le (s_mk m) (D 1).toNat; omega) (by have := hb.2.2.2; have := s_fn_le (s_ck x) (D 2).toNat; omega) (s_PX_F hb.2.1.1) (fun j hj => hA _ (s_PX_F hb.2.1.1 j hj)) (s_PX_G hb.2.2.1)
/-- no CART left out -/
theorem s_ck_all (M : Nat) : s_fn (s_ck (-1)) M = M ∧ s_ff (s_B D) (s_ck (-1)) M = s_or (s_B D) M := s_ff_all (s_B D) (s_ck (-1)) M (fun j _ => s_ck_y (by omega))
theorem s_mk_all (N : Nat) (hN : N ≤ 6) : s_fn (s_mk 0) N = N ∧ s_ff A (s_mk 0) N = s_or A N := s_ff_all A (s_mk 0) N (fun j hj => by
  have hj : j = 0 ∨ j = 1 ∨ j = 2 ∨ j = 3 ∨ j = 4 ∨ j = 5 := by omega
  rcases hj with rfl | rfl | rfl | rfl | rfl | rfl <;> decide)
theorem s_PX_c : s_PX D q A m (-1) = s_PG D q A (s_fn (s_mk m) (D 1).toNat) (s_ff A (s_mk m) (D 1).toNat) (D 2).toNat (s_or (s_B D) (D 2).toNat) := by
  unfold s_PX; rw [(s_ck_all (D := D) _).1, (s_ck_all (D := D) _).2]
theorem s_PX_m (h : D 1 ≤ 6) : s_PX D q A 0 x = s_PG D q A (D 1).toNat (s_or A (D 1).toNat) (s_fn (s_ck x) (D 2).toNat) (s_ff (s_B D) (s_ck x) (D 2).toNat) := by
  unfold s_PX; rw [(s_mk_all (A := A) _ (by omega)).1, (s_mk_all (A := A) _ (by omega)).2]
theorem s_PX_D (h : D 1 ≤ 6) : s_PX D q (s_A D) 0 (-1) = s_PD D q := by
  rw [s_PX_m h, (s_ck_all (D := D) _).1, (s_ck_all (D := D) _).2]; rfl
theorem s_Al_0 (w : Int) : s_Al A w 0 = A := funext fun j => by unfold s_Al; split <;> omega
theorem s_Al_n {w l : Int} (h : w < 0) : s_Al A w l = A := funext fun j => by unfold s_Al; rw [if_neg (by omega)]; omega
/-- the other side's numbers are these -/
theorem s_TP_X (hb : t_Cb D) (hD : s_DB D) (hq : 1 ≤ q) (hm : t_ME 0 g D) (h44 : (g 69 44).toInt = ((s_fn (s_mk m) (D 1).toNat : Nat) : Int)) (h45 : (g 69 45).toInt = ((s_fn (s_ck x) (D 2).toNat : Nat) : Int)) (hR : s_RF (s_ff A (s_mk m) (D 1).toNat) (fun k => (k : Int)) (g 90) (s_fn (s_mk m) (D 1).toNat)) (hS : s_RF (s_ff (s_B D) (s_ck x) (D 2).toNat) (fun k => (k : Int)) (g 91) (s_fn (s_ck x) (D 2).toNat)) (hA : ∀ j : Nat, (j : Int) < D 1 → (g 89 j).toInt = A j) (hB : ∀ j : Nat, (j : Int) < D 2 → (g 89 (6 + j)).toInt = s_B D j) : s_TP g q (s_PX D q A m x) := by
  have b1 := hb.2.1
  have b2 := hb.2.2
  have k70 : ∀ j : Nat, 52 ≤ j → (j : Int) < 52 + 5 * D 1 → (g 70 j).toInt = D j := fun j h1 h2 => by have h := hm.2.2.1 j h1 h2; rw [Nat.zero_add] at h; exact h
  have c70 : ∀ j : Nat, 82 ≤ j → (j : Int) < 82 + 3 * D 2 → (g 70 j).toInt = D j := fun j h1 h2 => by have h := hm.2.2.2 j h1 h2; rw [Nat.zero_add] at h; exact h
  have eS : t_S g = s_fn (s_mk m) (D 1).toNat := by unfold t_S; rw [h44]; rfl
  have eC : t_C g = s_fn (s_ck x) (D 2).toNat := by unfold t_C; rw [h45]; rfl
  refine ⟨⟨?_, ?_⟩, fun s hs => ?_, fun c hc => ?_, fun n => ?_⟩
  · rw [eS]; rfl
  · rw [eC]; rfl
  · rw [eS] at hs
    have hl := s_PX_F (A := A) (D := D) b1.1 s hs
    have e : t_si g s = s_ff A (s_mk m) (D 1).toNat s := by
      have h := hR s hs
      unfold t_si; rw [h]; rfl
    have hd := hD.1 _ hl
    refine ⟨?_, ?_, ?_, ?_⟩
    · show A _ = t_sa g s
      unfold t_sa; rw [e, hA _ hl]
    · show D _ = ((t_st g s : Nat) : Int)
      unfold t_st; rw [e, k70 _ (by omega) (by omega)]; omega
    · show D _ = t_so g s
      unfold t_so; rw [e, k70 _ (by omega) (by omega)]
    · show D _ = t_ss g s
      unfold t_ss; rw [e, k70 _ (by omega) (by omega)]
  · rw [eC] at hc
    have hl := s_PX_G (D := D) b2.1 c hc
    have e : t_ci g c = s_ff (s_B D) (s_ck x) (D 2).toNat c := by
      have h := hS c hc
      unfold t_ci; rw [h]; rfl
    have hd := hD.2.1 _ hl
    refine ⟨?_, ?_, ?_⟩
    · show s_B D _ = t_ca g c
      unfold t_ca; rw [e, hB _ hl]
    · show D _ = ((t_ct g c : Nat) : Int)
      unfold t_ct; rw [e, c70 _ (by omega) (by omega)]; omega
    · show D _ = t_cc g c
      unfold t_cc; rw [e, c70 _ (by omega) (by omega)]
  · have h5 : (g 70 5).toInt = D 5 := hm.1.2.2.1
    have h6 : (g 70 6).toInt = D 6 := hm.1.2.2.2.1
    have hd := hD.2.2.2
    show q + (if (n : Int) < D 6 then 0 else D 5) = ((t_tt g q n : Nat) : Int)
    unfold t_tt
    rw [h5, h6]
    by_cases h1 : (n : Int) < D 6
    · rw [if_pos h1, if_neg (by omega)]; omega
    · rw [if_neg h1]
      by_cases h2 : 0 < D 5
      · rw [if_pos ⟨h2, by omega⟩]; omega
      · rw [if_neg (by omega)]; omega
/-- the class's numbers, taken anew in part -/
theorem s_CP.of {P : Nat → Nat → Int} {gi : Nat → Nat → Int32} {gl : Nat → Nat → Int64} {gr : Nat → Nat → Value} {v : Nat} {q : Int} (h1 : (gi 29 0).toInt = P 0 0) (h2 : (gi 35 0).toInt = P 0 1) (hs : ∀ s : Nat, (s : Int) < P 0 0 → (gi 31 s).toInt = P 1 s ∧ (gi 32 s).toInt = P 2 s ∧ (gi 33 s).toInt = P 3 s ∧ (gi 34 s).toInt = P 4 s) (hc : ∀ c : Nat, (c : Int) < P 0 1 → (gi 37 c).toInt = P 5 c ∧ (gi 38 c).toInt = P 6 c ∧ (gi 39 c).toInt = P 7 c ∧ (gi 40 c).toInt = 0) (hr : gr 28 0 = .ref v) (hv : v = 3 ∨ 102 ≤ v) (ht : t_CV gi gl v D) (hq : (gi 28 1).toInt = q) (h8 : ∀ j : Nat, P 8 j = q + (if (j : Int) < D 6 then 0 else D 5)) : s_CP P gi gr :=
  ⟨⟨h1, h2⟩, hs, hc, Or.inr ⟨v, hr, hv, fun m => by rw [h8, hq, ht.2.1.2.1, ht.2.1.2.2.1]⟩⟩
end PX
theorem s_Al_b {D : s_D} {w l : Int} (hd : s_DB D) (h0 : 0 ≤ l) (h1 : l ≤ 500) : (∀ j : Nat, (j : Int) < D 1 → 0 ≤ s_Al (s_A D) w l j) ∧ ∀ j : Nat, (j : Int) < D 1 → s_Al (s_A D) w l j ≤ 1000 := by
  refine ⟨fun j hj => ?_, fun j hj => ?_⟩
  all_goals
    have h := (hd.1 j hj).1
    unfold s_Al s_A
    split <;> omega
theorem s_A_b {D : s_D} (hd : s_DB D) : (∀ j : Nat, (j : Int) < D 1 → 0 ≤ s_A D j) ∧ ∀ j : Nat, (j : Int) < D 1 → s_A D j ≤ 1000 :=
  ⟨fun j hj => (hd.1 j hj).1.1, fun j hj => Int.le_trans (hd.1 j hj).1.2 (by decide)⟩
/-- a minute told later by l -/
theorem s_min13 {sh : List (Nat ⊕ (Nat × Nat))} {gi ga gb : Nat → Nat → Int32} {gr : Nat → Nat → Value} {k : Nat} {z : Int32} {l : Int} (hI : t_I sh gi gr) (h1 : ∀ j : Nat, j < 6 → ga 89 j = gi 70 (53 + 5 * j)) (h2 : ∀ j : Nat, j < 6 → ga 89 (6 + j) = gi 70 (82 + 3 * j)) (hk : k < 6) (e : ∀ j, gb 89 j = if j = k then z else ga 89 j) (hz : z.toInt = (ga 89 k).toInt + l) (h0 : 0 ≤ l) (hl : l ≤ 60) : ∀ j : Nat, j < 12 → 0 ≤ (gb 89 j).toInt ∧ (gb 89 j).toInt ≤ 300 := by
  intro j hj
  rw [e j]
  by_cases h : j = k
  · rw [if_pos h, hz, h1 k hk]
    have h9 := (s_ab6 hI k hk).1.1
    omega
  · rw [if_neg h]; exact s_min12 hI h1 h2 j hj
/-! ===== printed by riv.py: later, without: the class ===== -/
noncomputable def wl_d_later : List (Nat × Nat) := [(0, 0), (28, 0), (28, 1), (28, 4), (28, 5), (29, 0), (30, 9999), (31, 9999), (32, 9999), (33, 9999), (34, 9999), (35, 0), (36, 9999), (37, 9999), (38, 9999), (39, 9999), (40, 9999)]
noncomputable def Q_d_later (gi : Nat → Nat → Int32) (gl : Nat → Nat → Int64) (gr : Nat → Nat → Value) (ar1 : Int32) (ar2 : Int32) : Int32 → (Nat → Nat → Int32) → (Nat → Nat → Int64) → (Nat → Nat → Value) → Prop := fun (v : Int32) (gi2 : Nat → Nat → Int32) (gl2 : Nat → Nat → Int64) (gr2 : Nat → Nat → Value) => ∀ (u : Nat) (D : s_D), gr 0 6 = .ref u → t_VL gr u → t_CV gi gl u D → t_Cb D → (u = 3 ∨ 102 ≤ u) → (∀ s : Nat, (s : Int) < D 1 → 0 ≤ D (56 + 5 * s) ∧ D (56 + 5 * s) ≤ 1) → s_DB D → ((0 ≤ ar1.toInt ∧ ar1.toInt < D 1 ∧ 0 ≤ ar2.toInt ∧ ar2.toInt ≤ 60) → v.toInt = s_an (s_LS (s_PX D (D 4) (s_Al (s_A D) ar1.toInt ar2.toInt) 0 (-1)) 0 0 0 0)) ∧ (¬ (0 ≤ ar1.toInt ∧ ar1.toInt < D 1 ∧ 0 ≤ ar2.toInt ∧ ar2.toInt ≤ 60) → v.toInt = -1)
theorem c_d_later {X : x_Ext} {d : Nat} {sh : List (Nat ⊕ (Nat × Nat))} {gi : Nat → Nat → Int32} {gl : Nat → Nat → Int64} {gr : Nat → Nat → Value} (hI : t_I sh gi gr) (ar1 : Int32) (ar2 : Int32) : x_Me X (d + 18) n_X11_later [.ref 0, .int ar1, .int ar2] (sh, gi, gl, gr) (t_PI wl_d_later sh gi gl gr (-2147483648) 999999999 (Q_d_later gi gl gr ar1 ar2)) := by
  have hX : t_X wl_d_later sh gi gl gr gi gl gr := t_X.rf
  refine me_i f_X11_later (hI.wf.s rfl) rfl rfl rfl ?_
  refine ev_loc f_X11_later (nx := 1) rfl rfl rfl rfl ?_
  refine ev_loc f_X11_later (nx := 2) rfl rfl rfl rfl ?_
  refine ev_inV2 f_X11_later (nx := 5) (lo2 := [(0, .ref 0), (1, .int ar1)]) rfl rfl rfl rfl f_X11_isShip (hI.wf.s rfl) rfl rfl rfl rfl rfl ?_
  refine ev_loc f_X11_isShip (nx := 1) rfl rfl rfl rfl ?_
  refine ev_if f_X11_isShip (t1 := 22) (t2 := 4) rfl rfl rfl (fun h1 => ?_) (fun h1 => ?_)
  · have u2 : ar1.toInt ≤ (-1) := t_ltu h1 (by decide : (0:Int32).toInt ≤ (0:Int)) rfl
    refine ev_ic f_X11_isShip (nx := 23) (v := 0) rfl (by decide) rfl ?_
    refine ev_retK1 f_X11_isShip rfl rfl rfl ?_
    refine ev_t f_X11_later (t1 := 18) (t2 := 8) rfl rfl rfl (by decide) ?_
    refine ev_loc f_X11_later (nx := 19) rfl rfl rfl rfl ?_
    refine ev_ic f_X11_later (nx := 20) (v := 1) rfl (by decide) rfl ?_
    refine ev_inV2 f_X11_later (nx := 23) (lo2 := [(0, .ref 0), (1, .int 1)]) rfl rfl rfl rfl f_X11_refuse (hI.wf.s rfl) rfl rfl rfl rfl rfl ?_
    refine ev_loc f_X11_refuse (nx := 1) rfl rfl rfl rfl ?_
    refine ev_loc f_X11_refuse (nx := 2) rfl rfl rfl rfl ?_
    refine ev_putIT f_X11_refuse (nx := 5) rfl (hI.wf.s rfl) rfl rfl rfl (hI.put0 (hI.wf.s rfl) rfl rfl) (hX.upI rfl) (fun g3 e3 hI hX => ?_)
    refine ev_ic f_X11_refuse (nx := 6) (v := -1) rfl (by decide) rfl ?_
    refine ev_retK1 f_X11_refuse rfl rfl rfl ?_
    exact ev_ret f_X11_later rfl rfl rfl ⟨_, _, _, rfl, hI, hX, ⟨_, rfl, (Int.le_trans (by decide : ((-2147483648):Int) ≤ (-1)) (by decide : ((-1):Int) ≤ ((-1):Int32).toInt)), (Int.le_trans (by decide : ((-1):Int32).toInt ≤ ((-1):Int)) (by decide : ((-1):Int) ≤ 999999999)), (show ∀ (u : Nat) (D : s_D), gr 0 6 = .ref u → t_VL gr u → t_CV gi gl u D → t_Cb D → (u = 3 ∨ 102 ≤ u) → (∀ s : Nat, (s : Int) < D 1 → 0 ≤ D (56 + 5 * s) ∧ D (56 + 5 * s) ≤ 1) → s_DB D → ((0 ≤ ar1.toInt ∧ ar1.toInt < D 1 ∧ 0 ≤ ar2.toInt ∧ ar2.toInt ≤ 60) → ((-1) : Int) = s_an (s_LS (s_PX D (D 4) (s_Al (s_A D) ar1.toInt ar2.toInt) 0 (-1)) 0 0 0 0)) ∧ (¬ (0 ≤ ar1.toInt ∧ ar1.toInt < D 1 ∧ 0 ≤ ar2.toInt ∧ ar2.toInt ≤ 60) → ((-1) : Int) = -1) from (by
                                                            intro u D hu hl hc hb hv hsl hd
                                                            have hL := hc.2.2.1.1
                                                            exact ⟨fun h => absurd h (by omega), fun _ => rfl⟩))⟩⟩
  · have l4 : 0 ≤ ar1.toInt := t_lel (t_nlt h1) (by decide : (0:Int) ≤ (0:Int32).toInt)
    refine ev_loc f_X11_isShip (nx := 5) rfl rfl rfl rfl ?_
    refine ev_loc f_X11_isShip (nx := 6) rfl rfl rfl rfl ?_
    obtain ⟨a5, e5, p5⟩ := hI.2.2.2.1.1
    refine ev_getR f_X11_isShip (nx := 9) rfl (hI.wf.s rfl) rfl rfl e5 rfl rfl ?_
    obtain ⟨a6, e6, p6⟩ := p5.2.2.2.2.1
    refine ev_getR f_X11_isShip (nx := 12) rfl p5.1 rfl rfl e6 rfl rfl ?_
    refine ev_getI f_X11_isShip (nx := 15) rfl p6.1 rfl rfl rfl ?_
    obtain ⟨l7, u7⟩ := hI.b p6.1 (t_bdK rfl : t_bd 3 0 = some (0, 6))
    refine ev_if f_X11_isShip (t1 := 22) (t2 := 18) rfl rfl rfl (fun h8 => ?_) (fun h8 => ?_)
    · have r9 : (gi a6 0).toInt ≤ ar1.toInt := Int32.le_iff_toInt_le.mp h8
      refine ev_ic f_X11_isShip (nx := 23) (v := 0) rfl (by decide) rfl ?_
      refine ev_retK1 f_X11_isShip rfl rfl rfl ?_
      refine ev_t f_X11_later (t1 := 18) (t2 := 8) rfl rfl rfl (by decide) ?_
      refine ev_loc f_X11_later (nx := 19) rfl rfl rfl rfl ?_
      refine ev_ic f_X11_later (nx := 20) (v := 1) rfl (by decide) rfl ?_
      refine ev_inV2 f_X11_later (nx := 23) (lo2 := [(0, .ref 0), (1, .int 1)]) rfl rfl rfl rfl f_X11_refuse (hI.wf.s rfl) rfl rfl rfl rfl rfl ?_
      refine ev_loc f_X11_refuse (nx := 1) rfl rfl rfl rfl ?_
      refine ev_loc f_X11_refuse (nx := 2) rfl rfl rfl rfl ?_
      refine ev_putIT f_X11_refuse (nx := 5) rfl (hI.wf.s rfl) rfl rfl rfl (hI.put0 (hI.wf.s rfl) rfl rfl) (hX.upI rfl) (fun g10 e10 hI hX => ?_)
      refine ev_ic f_X11_refuse (nx := 6) (v := -1) rfl (by decide) rfl ?_
      refine ev_retK1 f_X11_refuse rfl rfl rfl ?_
      exact ev_ret f_X11_later rfl rfl rfl ⟨_, _, _, rfl, hI, hX, ⟨_, rfl, (Int.le_trans (by decide : ((-2147483648):Int) ≤ (-1)) (by decide : ((-1):Int) ≤ ((-1):Int32).toInt)), (Int.le_trans (by decide : ((-1):Int32).toInt ≤ ((-1):Int)) (by decide : ((-1):Int) ≤ 999999999)), (show ∀ (u : Nat) (D : s_D), gr 0 6 = .ref u → t_VL gr u → t_CV gi gl u D → t_Cb D → (u = 3 ∨ 102 ≤ u) → (∀ s : Nat, (s : Int) < D 1 → 0 ≤ D (56 + 5 * s) ∧ D (56 + 5 * s) ≤ 1) → s_DB D → ((0 ≤ ar1.toInt ∧ ar1.toInt < D 1 ∧ 0 ≤ ar2.toInt ∧ ar2.toInt ≤ 60) → ((-1) : Int) = s_an (s_LS (s_PX D (D 4) (s_Al (s_A D) ar1.toInt ar2.toInt) 0 (-1)) 0 0 0 0)) ∧ (¬ (0 ≤ ar1.toInt ∧ ar1.toInt < D 1 ∧ 0 ≤ ar2.toInt ∧ ar2.toInt ≤ 60) → ((-1) : Int) = -1) from (by
                                                            intro u D hu hl hc hb hv hsl hd
                                                            have ha : a5 = u := Value.ref.inj (e5.symm.trans hu)
                                                            subst ha
                                                            have hb1 : (a5 + 3) = a6 := Value.ref.inj ((hl.1.2.2.2.1).symm.trans e6)
                                                            subst hb1
                                                            have hL := hc.2.2.1.1
                                                            exact ⟨fun h => absurd h (by omega), fun _ => rfl⟩))⟩⟩
    · have r11 : ar1.toInt < (gi a6 0).toInt := Int32.lt_iff_toInt_lt.mp (t_nle h8)
      have u12 : ar1.toInt ≤ 5 := t_ltu (t_nle h8) u7 rfl
      have l13 : 1 ≤ (gi a6 0).toInt := t_ltl (t_nle h8) l4 rfl
      refine ev_ic f_X11_isShip (nx := 19) (v := 1) rfl (by decide) rfl ?_
      refine ev_jmp f_X11_isShip (nx := 23) rfl rfl rfl ?_
      refine ev_retK1 f_X11_isShip rfl rfl rfl ?_
      refine ev_f f_X11_later (t1 := 18) (t2 := 8) rfl rfl rfl (by decide) ?_
      refine ev_loc f_X11_later (nx := 9) rfl rfl rfl rfl ?_
      refine ev_if f_X11_later (t1 := 18) (t2 := 12) rfl rfl rfl (fun h14 => ?_) (fun h14 => ?_)
      · have u15 : ar2.toInt ≤ (-1) := t_ltu h14 (by decide : (0:Int32).toInt ≤ (0:Int)) rfl
        refine ev_loc f_X11_later (nx := 19) rfl rfl rfl rfl ?_
        refine ev_ic f_X11_later (nx := 20) (v := 1) rfl (by decide) rfl ?_
        refine ev_inV2 f_X11_later (nx := 23) (lo2 := [(0, .ref 0), (1, .int 1)]) rfl rfl rfl rfl f_X11_refuse (hI.wf.s rfl) rfl rfl rfl rfl rfl ?_
        refine ev_loc f_X11_refuse (nx := 1) rfl rfl rfl rfl ?_
        refine ev_loc f_X11_refuse (nx := 2) rfl rfl rfl rfl ?_
        refine ev_putIT f_X11_refuse (nx := 5) rfl (hI.wf.s rfl) rfl rfl rfl (hI.put0 (hI.wf.s rfl) rfl rfl) (hX.upI rfl) (fun g16 e16 hI hX => ?_)
        refine ev_ic f_X11_refuse (nx := 6) (v := -1) rfl (by decide) rfl ?_
        refine ev_retK1 f_X11_refuse rfl rfl rfl ?_
        exact ev_ret f_X11_later rfl rfl rfl ⟨_, _, _, rfl, hI, hX, ⟨_, rfl, (Int.le_trans (by decide : ((-2147483648):Int) ≤ (-1)) (by decide : ((-1):Int) ≤ ((-1):Int32).toInt)), (Int.le_trans (by decide : ((-1):Int32).toInt ≤ ((-1):Int)) (by decide : ((-1):Int) ≤ 999999999)), (show ∀ (u : Nat) (D : s_D), gr 0 6 = .ref u → t_VL gr u → t_CV gi gl u D → t_Cb D → (u = 3 ∨ 102 ≤ u) → (∀ s : Nat, (s : Int) < D 1 → 0 ≤ D (56 + 5 * s) ∧ D (56 + 5 * s) ≤ 1) → s_DB D → ((0 ≤ ar1.toInt ∧ ar1.toInt < D 1 ∧ 0 ≤ ar2.toInt ∧ ar2.toInt ≤ 60) → ((-1) : Int) = s_an (s_LS (s_PX D (D 4) (s_Al (s_A D) ar1.toInt ar2.toInt) 0 (-1)) 0 0 0 0)) ∧ (¬ (0 ≤ ar1.toInt ∧ ar1.toInt < D 1 ∧ 0 ≤ ar2.toInt ∧ ar2.toInt ≤ 60) → ((-1) : Int) = -1) from (by
                                                            intro u D hu hl hc hb hv hsl hd
                                                            have ha : a5 = u := Value.ref.inj (e5.symm.trans hu)
                                                            subst ha
                                                            have hb1 : (a5 + 3) = a6 := Value.ref.inj ((hl.1.2.2.2.1).symm.trans e6)
                                                            subst hb1
                                                            have hL := hc.2.2.1.1
                                                            exact ⟨fun h => absurd h (by omega), fun _ => rfl⟩))⟩⟩
      · have l17 : 0 ≤ ar2.toInt := t_lel (t_nlt h14) (by decide : (0:Int) ≤ (0:Int32).toInt)
        refine ev_loc f_X11_later (nx := 13) rfl rfl rfl rfl ?_
        refine ev_bp f_X11_later (nx := 15) (v := 60) rfl (by decide) rfl ?_
        refine ev_if f_X11_later (t1 := 24) (t2 := 18) rfl rfl rfl (fun h18 => ?_) (fun h18 => ?_)
        · have u19 : ar2.toInt ≤ 60 := t_leu h18 (by decide : (60:Int32).toInt ≤ (60:Int))
          refine ev_loc f_X11_later (nx := 25) rfl rfl rfl rfl ?_
          refine ev_getR f_X11_later (nx := 28) rfl (hI.wf.s rfl) rfl rfl (hI.wf.r rfl) rfl rfl ?_
          refine ev_loc f_X11_later (nx := 29) rfl rfl rfl rfl ?_
          refine ev_getR f_X11_later (nx := 32) (v := .ref a5) rfl (hI.wf.s rfl) rfl rfl e5 rfl rfl ?_
          refine ev_qN f_X11_later (nx := 35) (r := []) rfl rfl rfl rfl rfl rfl rfl (c_d_takeAll hI (a5) p5) rfl hX rfl (fun gi20 gl20 gr20 hI hX hC20 q20 => ?_)
          have q20 : ∀ D : s_D, t_VL gr a5 → t_CV gi gl a5 D → (a5 = 3 ∨ 102 ≤ a5) → t_Cb D → (∀ s : Nat, (s : Int) < D 1 → 0 ≤ D (56 + 5 * s) ∧ D (56 + 5 * s) ≤ 1) → s_CP (s_PD D (D 4)) gi20 gr20 ∧ gr20 28 0 = .ref a5 ∧ t_CV gi20 gl20 a5 D ∧ (gi20 28 1).toInt = D 4 := q20
          replace p5 := p5.ext hC20.2
          replace p6 := p6.ext hC20.2
          refine ev_loc f_X11_later (nx := 36) rfl rfl rfl rfl ?_
          have hXa := hX
          refine ev_getR f_X11_later (nx := 39) rfl (hI.wf.s rfl) rfl rfl (hI.wf.r rfl) rfl rfl ?_
          refine ev_loc f_X11_later (nx := 40) rfl rfl rfl rfl ?_
          refine ev_getR f_X11_later (nx := 43) (v := .ref a5) rfl (hI.wf.s rfl) rfl rfl ((hC20.1 0 6 rfl).2.2.trans e5) rfl rfl ?_
          refine ev_ic f_X11_later (nx := 44) (v := 0) rfl (by decide) rfl ?_
          refine ev_loc f_X11_later (nx := 45) rfl rfl rfl rfl ?_
          refine ev_loc f_X11_later (nx := 46) rfl rfl rfl rfl ?_
          refine ev_qN f_X11_later (nx := 49) (r := []) rfl rfl rfl rfl rfl rfl rfl (c_d_takeShipsG hI (a5) p5 (0) (ar1) (ar2) l17 (Int.le_trans u19 (by decide : (60:Int) ≤ 500))) rfl hX rfl (fun gi21 gl21 gr21 hI hX hC21 q21 => ?_)
          have q21 : ∀ D : s_D, t_VL gr20 a5 → t_CV gi20 gl20 a5 D → (a5 = 3 ∨ 102 ≤ a5) → t_Cb D → s_DB D → (∀ s : Nat, (s : Int) < D 1 → 0 ≤ D (56 + 5 * s) ∧ D (56 + 5 * s) ≤ 1) → (gi21 29 0).toInt = ((s_fn (s_mk (0 : Int32)) (D 1).toNat : Nat) : Int) ∧ s_RF (s_ff (s_Al (s_A D) ar1.toInt ar2.toInt) (s_mk (0 : Int32)) (D 1).toNat) (fun k => (k : Int)) (gi21 30) (s_fn (s_mk (0 : Int32)) (D 1).toNat) ∧ s_RF (s_ff (s_Al (s_A D) ar1.toInt ar2.toInt) (s_mk (0 : Int32)) (D 1).toNat) (s_Al (s_A D) ar1.toInt ar2.toInt) (gi21 31) (s_fn (s_mk (0 : Int32)) (D 1).toNat) ∧ s_RF (s_ff (s_Al (s_A D) ar1.toInt ar2.toInt) (s_mk (0 : Int32)) (D 1).toNat) (fun k => D (54 + 5 * k)) (gi21 32) (s_fn (s_mk (0 : Int32)) (D 1).toNat) ∧ s_RF (s_ff (s_Al (s_A D) ar1.toInt ar2.toInt) (s_mk (0 : Int32)) (D 1).toNat) (fun k => D (55 + 5 * k)) (gi21 33) (s_fn (s_mk (0 : Int32)) (D 1).toNat) ∧ s_RF (s_ff (s_Al (s_A D) ar1.toInt ar2.toInt) (s_mk (0 : Int32)) (D 1).toNat) (fun k => D (56 + 5 * k)) (gi21 34) (s_fn (s_mk (0 : Int32)) (D 1).toNat) := q21
          replace p5 := p5.ext hC21.2
          replace p6 := p6.ext hC21.2
          refine ev_loc f_X11_later (nx := 50) rfl rfl rfl rfl ?_
          have hXb := hX
          refine ev_loc f_X11_later (nx := 51) rfl rfl rfl rfl ?_
          refine ev_getR f_X11_later (nx := 54) rfl (hI.wf.s rfl) rfl rfl (hI.wf.r rfl) rfl rfl ?_
          refine ev_qI f_X11_later (nx := 57) (r := [.ref 0]) rfl rfl rfl rfl rfl rfl rfl (c_d_leastWaits hI ) rfl hX rfl (fun w22 gi22 gl22 gr22 l22 u22 hI hX hC22 q22 => ?_)
          have q22 : ∀ P : Nat → Nat → Int, s_CP P gi21 gr21 → s_PB P → s_PO P → w22.toInt = s_LS P 0 0 0 0 := q22
          replace p5 := p5.ext hC22.2
          replace p6 := p6.ext hC22.2
          refine ev_inV2 f_X11_later (nx := 60) (lo2 := [(0, .ref 0), (1, .int w22)]) rfl rfl rfl rfl f_X11_answerWaits (hI.wf.s rfl) rfl rfl rfl rfl rfl ?_
          refine ev_loc f_X11_answerWaits (nx := 1) rfl rfl rfl rfl ?_
          refine ev_ldW f_X11_answerWaits (nx := 4) (v := 1000000000) rfl (by decide) rfl ?_
          refine ev_if f_X11_answerWaits (t1 := 16) (t2 := 7) rfl rfl rfl (fun h23 => ?_) (fun h23 => ?_)
          · have u24 : w22.toInt ≤ 999999999 := t_ltu h23 (by decide : (1000000000:Int32).toInt ≤ (1000000000:Int)) rfl
            refine ev_loc f_X11_answerWaits (nx := 17) rfl rfl rfl rfl ?_
            refine ev_loc f_X11_answerWaits (nx := 18) rfl rfl rfl rfl ?_
            refine ev_inV2 f_X11_answerWaits (nx := 21) (lo2 := [(0, .ref 0), (1, .int w22)]) rfl rfl rfl rfl f_X11_answer (hI.wf.s rfl) rfl rfl rfl rfl rfl ?_
            refine ev_loc f_X11_answer (nx := 1) rfl rfl rfl rfl ?_
            refine ev_ic f_X11_answer (nx := 2) (v := 0) rfl (by decide) rfl ?_
            refine ev_putIT f_X11_answer (nx := 5) rfl (hI.wf.s rfl) rfl rfl rfl (hI.put0 (hI.wf.s rfl) rfl rfl) (hX.upI rfl) (fun g25 e25 hI hX => ?_)
            refine ev_loc f_X11_answer (nx := 6) rfl rfl rfl rfl ?_
            refine ev_retK1 f_X11_answer rfl rfl rfl ?_
            refine ev_retK1 f_X11_answerWaits rfl rfl rfl ?_
            exact ev_ret f_X11_later rfl rfl rfl ⟨_, _, _, rfl, hI, hX, ⟨_, rfl, l22, u24, (show ∀ (u : Nat) (D : s_D), gr 0 6 = .ref u → t_VL gr u → t_CV gi gl u D → t_Cb D → (u = 3 ∨ 102 ≤ u) → (∀ s : Nat, (s : Int) < D 1 → 0 ≤ D (56 + 5 * s) ∧ D (56 + 5 * s) ≤ 1) → s_DB D → ((0 ≤ ar1.toInt ∧ ar1.toInt < D 1 ∧ 0 ≤ ar2.toInt ∧ ar2.toInt ≤ 60) → w22.toInt = s_an (s_LS (s_PX D (D 4) (s_Al (s_A D) ar1.toInt ar2.toInt) 0 (-1)) 0 0 0 0)) ∧ (¬ (0 ≤ ar1.toInt ∧ ar1.toInt < D 1 ∧ 0 ≤ ar2.toInt ∧ ar2.toInt ≤ 60) → w22.toInt = -1) from (by
                                                            intro u D hu hl hc hb hv hsl hd
                                                            have ha : a5 = u := Value.ref.inj (e5.symm.trans hu)
                                                            subst ha
                                                            have hb1 : (a5 + 3) = a6 := Value.ref.inj ((hl.1.2.2.2.1).symm.trans e6)
                                                            subst hb1
                                                            have hL := hc.2.2.1.1
                                                            have hq := q20 D hl hc hv hb hsl
                                                            have hKa := t_nd_fr hXa rfl
                                                            have hla := hl.fr (fun K k1 k2 => hKa K (by omega))
                                                            have hs := q21 D hla hq.2.2.1 hv hb hd hsl
                                                            have fb := t_F_X hC21
                                                            have hKb := t_nd_fr hXb rfl
                                                            have hcb := hc.fr (fun K k1 k2 => hKb K (by omega))
                                                            have er : gr21 28 0 = .ref _ := (fb 28 0 (by decide) rfl).2.2.trans hq.2.1
                                                            have e1 : (gi21 28 1).toInt = D 4 := by rw [(fb 28 1 (by decide) rfl).1]; exact hq.2.2.2
                                                            have e35 : gi21 35 = gi20 35 := t_F_nc fb rfl (by decide)
                                                            have e37 : gi21 37 = gi20 37 := t_F_nc fb rfl (by decide)
                                                            have e38 : gi21 38 = gi20 38 := t_F_nc fb rfl (by decide)
                                                            have e39 : gi21 39 = gi20 39 := t_F_nc fb rfl (by decide)
                                                            have e40 : gi21 40 = gi20 40 := t_F_nc fb rfl (by decide)
                                                            have hcp : s_CP (s_PX D (D 4) (s_Al (s_A D) ar1.toInt ar2.toInt) 0 (-1)) gi21 gr21 := by
                                                              rw [s_PX_c]
                                                              refine s_CP.of hs.1 (by rw [e35]; exact hq.1.1.2) (fun s hs9 => ?_) (fun c hc9 => ?_) er hv hcb e1 (fun j => rfl)
                                                              · have h9 : s < s_fn _ _ := Int.ofNat_lt.mp hs9
                                                                exact ⟨hs.2.2.1 s h9, hs.2.2.2.1 s h9, hs.2.2.2.2.1 s h9, hs.2.2.2.2.2 s h9⟩
                                                              · rw [e37, e38, e39, e40]; exact hq.1.2.2.1 c hc9
                                                            have hAb := s_Al_b (w := ar1.toInt) (l := ar2.toInt) hd (by omega) (by omega)
                                                            have hq2 := q22 _ hcp (s_PX_B hb hd ⟨hd.2.2.1.1, hd.2.2.1.2⟩ hAb.2) (s_PX_O hb hd hd.2.2.1.1 hAb.1)
                                                            refine ⟨fun h => ?_, fun h => absurd (show _ from ⟨by omega, by omega, by omega, by omega⟩) h⟩
                                                            rw [← hq2]
                                                            unfold s_an
                                                            split
                                                            · omega
                                                            · omega))⟩⟩
          · have l26 : 1000000000 ≤ w22.toInt := t_lel (t_nlt h23) (by decide : (1000000000:Int) ≤ (1000000000:Int32).toInt)
            refine ev_loc f_X11_answerWaits (nx := 8) rfl rfl rfl rfl ?_
            refine ev_bp f_X11_answerWaits (nx := 10) (v := 6) rfl (by decide) rfl ?_
            refine ev_inV2 f_X11_answerWaits (nx := 13) (lo2 := [(0, .ref 0), (1, .int 6)]) rfl rfl rfl rfl f_X11_refuse (hI.wf.s rfl) rfl rfl rfl rfl rfl ?_
            refine ev_loc f_X11_refuse (nx := 1) rfl rfl rfl rfl ?_
            refine ev_loc f_X11_refuse (nx := 2) rfl rfl rfl rfl ?_
            refine ev_putIT f_X11_refuse (nx := 5) rfl (hI.wf.s rfl) rfl rfl rfl (hI.put0 (hI.wf.s rfl) rfl rfl) (hX.upI rfl) (fun g27 e27 hI hX => ?_)
            refine ev_ic f_X11_refuse (nx := 6) (v := -1) rfl (by decide) rfl ?_
            refine ev_retK1 f_X11_refuse rfl rfl rfl ?_
            refine ev_jmp f_X11_answerWaits (nx := 21) rfl rfl rfl ?_
            refine ev_retK1 f_X11_answerWaits rfl rfl rfl ?_
            exact ev_ret f_X11_later rfl rfl rfl ⟨_, _, _, rfl, hI, hX, ⟨_, rfl, (Int.le_trans (by decide : ((-2147483648):Int) ≤ (-1)) (by decide : ((-1):Int) ≤ ((-1):Int32).toInt)), (Int.le_trans (by decide : ((-1):Int32).toInt ≤ ((-1):Int)) (by decide : ((-1):Int) ≤ 999999999)), (show ∀ (u : Nat) (D : s_D), gr 0 6 = .ref u → t_VL gr u → t_CV gi gl u D → t_Cb D → (u = 3 ∨ 102 ≤ u) → (∀ s : Nat, (s : Int) < D 1 → 0 ≤ D (56 + 5 * s) ∧ D (56 + 5 * s) ≤ 1) → s_DB D → ((0 ≤ ar1.toInt ∧ ar1.toInt < D 1 ∧ 0 ≤ ar2.toInt ∧ ar2.toInt ≤ 60) → ((-1) : Int) = s_an (s_LS (s_PX D (D 4) (s_Al (s_A D) ar1.toInt ar2.toInt) 0 (-1)) 0 0 0 0)) ∧ (¬ (0 ≤ ar1.toInt ∧ ar1.toInt < D 1 ∧ 0 ≤ ar2.toInt ∧ ar2.toInt ≤ 60) → ((-1) : Int) = -1) from (by
                                                            intro u D hu hl hc hb hv hsl hd
                                                            have ha : a5 = u := Value.ref.inj (e5.symm.trans hu)
                                                            subst ha
                                                            have hb1 : (a5 + 3) = a6 := Value.ref.inj ((hl.1.2.2.2.1).symm.trans e6)
                                                            subst hb1
                                                            have hL := hc.2.2.1.1
                                                            have hq := q20 D hl hc hv hb hsl
                                                            have hKa := t_nd_fr hXa rfl
                                                            have hla := hl.fr (fun K k1 k2 => hKa K (by omega))
                                                            have hs := q21 D hla hq.2.2.1 hv hb hd hsl
                                                            have fb := t_F_X hC21
                                                            have hKb := t_nd_fr hXb rfl
                                                            have hcb := hc.fr (fun K k1 k2 => hKb K (by omega))
                                                            have er : gr21 28 0 = .ref _ := (fb 28 0 (by decide) rfl).2.2.trans hq.2.1
                                                            have e1 : (gi21 28 1).toInt = D 4 := by rw [(fb 28 1 (by decide) rfl).1]; exact hq.2.2.2
                                                            have e35 : gi21 35 = gi20 35 := t_F_nc fb rfl (by decide)
                                                            have e37 : gi21 37 = gi20 37 := t_F_nc fb rfl (by decide)
                                                            have e38 : gi21 38 = gi20 38 := t_F_nc fb rfl (by decide)
                                                            have e39 : gi21 39 = gi20 39 := t_F_nc fb rfl (by decide)
                                                            have e40 : gi21 40 = gi20 40 := t_F_nc fb rfl (by decide)
                                                            have hcp : s_CP (s_PX D (D 4) (s_Al (s_A D) ar1.toInt ar2.toInt) 0 (-1)) gi21 gr21 := by
                                                              rw [s_PX_c]
                                                              refine s_CP.of hs.1 (by rw [e35]; exact hq.1.1.2) (fun s hs9 => ?_) (fun c hc9 => ?_) er hv hcb e1 (fun j => rfl)
                                                              · have h9 : s < s_fn _ _ := Int.ofNat_lt.mp hs9
                                                                exact ⟨hs.2.2.1 s h9, hs.2.2.2.1 s h9, hs.2.2.2.2.1 s h9, hs.2.2.2.2.2 s h9⟩
                                                              · rw [e37, e38, e39, e40]; exact hq.1.2.2.1 c hc9
                                                            have hAb := s_Al_b (w := ar1.toInt) (l := ar2.toInt) hd (by omega) (by omega)
                                                            have hq2 := q22 _ hcp (s_PX_B hb hd ⟨hd.2.2.1.1, hd.2.2.1.2⟩ hAb.2) (s_PX_O hb hd hd.2.2.1.1 hAb.1)
                                                            refine ⟨fun h => ?_, fun h => absurd (show _ from ⟨by omega, by omega, by omega, by omega⟩) h⟩
                                                            rw [← hq2]
                                                            unfold s_an
                                                            split
                                                            · omega
                                                            · omega))⟩⟩
        · have l28 : 61 ≤ ar2.toInt := t_ltl (t_nle h18) (by decide : (60:Int) ≤ (60:Int32).toInt) rfl
          refine ev_loc f_X11_later (nx := 19) rfl rfl rfl rfl ?_
          refine ev_ic f_X11_later (nx := 20) (v := 1) rfl (by decide) rfl ?_
          refine ev_inV2 f_X11_later (nx := 23) (lo2 := [(0, .ref 0), (1, .int 1)]) rfl rfl rfl rfl f_X11_refuse (hI.wf.s rfl) rfl rfl rfl rfl rfl ?_
          refine ev_loc f_X11_refuse (nx := 1) rfl rfl rfl rfl ?_
          refine ev_loc f_X11_refuse (nx := 2) rfl rfl rfl rfl ?_
          refine ev_putIT f_X11_refuse (nx := 5) rfl (hI.wf.s rfl) rfl rfl rfl (hI.put0 (hI.wf.s rfl) rfl rfl) (hX.upI rfl) (fun g29 e29 hI hX => ?_)
          refine ev_ic f_X11_refuse (nx := 6) (v := -1) rfl (by decide) rfl ?_
          refine ev_retK1 f_X11_refuse rfl rfl rfl ?_
          exact ev_ret f_X11_later rfl rfl rfl ⟨_, _, _, rfl, hI, hX, ⟨_, rfl, (Int.le_trans (by decide : ((-2147483648):Int) ≤ (-1)) (by decide : ((-1):Int) ≤ ((-1):Int32).toInt)), (Int.le_trans (by decide : ((-1):Int32).toInt ≤ ((-1):Int)) (by decide : ((-1):Int) ≤ 999999999)), (show ∀ (u : Nat) (D : s_D), gr 0 6 = .ref u → t_VL gr u → t_CV gi gl u D → t_Cb D → (u = 3 ∨ 102 ≤ u) → (∀ s : Nat, (s : Int) < D 1 → 0 ≤ D (56 + 5 * s) ∧ D (56 + 5 * s) ≤ 1) → s_DB D → ((0 ≤ ar1.toInt ∧ ar1.toInt < D 1 ∧ 0 ≤ ar2.toInt ∧ ar2.toInt ≤ 60) → ((-1) : Int) = s_an (s_LS (s_PX D (D 4) (s_Al (s_A D) ar1.toInt ar2.toInt) 0 (-1)) 0 0 0 0)) ∧ (¬ (0 ≤ ar1.toInt ∧ ar1.toInt < D 1 ∧ 0 ≤ ar2.toInt ∧ ar2.toInt ≤ 60) → ((-1) : Int) = -1) from (by
                                                            intro u D hu hl hc hb hv hsl hd
                                                            have ha : a5 = u := Value.ref.inj (e5.symm.trans hu)
                                                            subst ha
                                                            have hb1 : (a5 + 3) = a6 := Value.ref.inj ((hl.1.2.2.2.1).symm.trans e6)
                                                            subst hb1
                                                            have hL := hc.2.2.1.1
                                                            exact ⟨fun h => absurd h (by omega), fun _ => rfl⟩))⟩⟩
noncomputable def wl_d_without : List (Nat × Nat) := [(0, 0), (28, 0), (28, 1), (28, 4), (28, 5), (29, 0), (30, 9999), (31, 9999), (32, 9999), (33, 9999), (34, 9999), (35, 0), (36, 9999), (37, 9999), (38, 9999), (39, 9999), (40, 9999)]
noncomputable def Q_d_without (gi : Nat → Nat → Int32) (gl : Nat → Nat → Int64) (gr : Nat → Nat → Value) (ar1 : Int32) : Int32 → (Nat → Nat → Int32) → (Nat → Nat → Int64) → (Nat → Nat → Value) → Prop := fun (v : Int32) (gi2 : Nat → Nat → Int32) (gl2 : Nat → Nat → Int64) (gr2 : Nat → Nat → Value) => ∀ (u : Nat) (D : s_D), gr 0 6 = .ref u → t_VL gr u → t_CV gi gl u D → t_Cb D → (u = 3 ∨ 102 ≤ u) → (∀ s : Nat, (s : Int) < D 1 → 0 ≤ D (56 + 5 * s) ∧ D (56 + 5 * s) ≤ 1) → s_DB D → ((0 ≤ ar1.toInt ∧ ar1.toInt < D 2) → v.toInt = s_an (s_LS (s_PX D (D 4) (s_A D) 0 ar1.toInt) 0 0 0 0)) ∧ (¬ (0 ≤ ar1.toInt ∧ ar1.toInt < D 2) → v.toInt = -1)
theorem c_d_without {X : x_Ext} {d : Nat} {sh : List (Nat ⊕ (Nat × Nat))} {gi : Nat → Nat → Int32} {gl : Nat → Nat → Int64} {gr : Nat → Nat → Value} (hI : t_I sh gi gr) (ar1 : Int32) : x_Me X (d + 18) n_X11_without [.ref 0, .int ar1] (sh, gi, gl, gr) (t_PI wl_d_without sh gi gl gr (-2147483648) 999999999 (Q_d_without gi gl gr ar1)) := by
  have hX : t_X wl_d_without sh gi gl gr gi gl gr := t_X.rf
  refine me_i f_X11_without (hI.wf.s rfl) rfl rfl rfl ?_
  refine ev_loc f_X11_without (nx := 1) rfl rfl rfl rfl ?_
  refine ev_loc f_X11_without (nx := 2) rfl rfl rfl rfl ?_
  refine ev_inV2 f_X11_without (nx := 5) (lo2 := [(0, .ref 0), (1, .int ar1)]) rfl rfl rfl rfl f_X11_isCart (hI.wf.s rfl) rfl rfl rfl rfl rfl ?_
  refine ev_loc f_X11_isCart (nx := 1) rfl rfl rfl rfl ?_
  refine ev_if f_X11_isCart (t1 := 22) (t2 := 4) rfl rfl rfl (fun h1 => ?_) (fun h1 => ?_)
  · have u2 : ar1.toInt ≤ (-1) := t_ltu h1 (by decide : (0:Int32).toInt ≤ (0:Int)) rfl
    refine ev_ic f_X11_isCart (nx := 23) (v := 0) rfl (by decide) rfl ?_
    refine ev_retK1 f_X11_isCart rfl rfl rfl ?_
    refine ev_t f_X11_without (t1 := 8) (t2 := 14) rfl rfl rfl (by decide) ?_
    refine ev_loc f_X11_without (nx := 9) rfl rfl rfl rfl ?_
    refine ev_ic f_X11_without (nx := 10) (v := 1) rfl (by decide) rfl ?_
    refine ev_inV2 f_X11_without (nx := 13) (lo2 := [(0, .ref 0), (1, .int 1)]) rfl rfl rfl rfl f_X11_refuse (hI.wf.s rfl) rfl rfl rfl rfl rfl ?_
    refine ev_loc f_X11_refuse (nx := 1) rfl rfl rfl rfl ?_
    refine ev_loc f_X11_refuse (nx := 2) rfl rfl rfl rfl ?_
    refine ev_putIT f_X11_refuse (nx := 5) rfl (hI.wf.s rfl) rfl rfl rfl (hI.put0 (hI.wf.s rfl) rfl rfl) (hX.upI rfl) (fun g3 e3 hI hX => ?_)
    refine ev_ic f_X11_refuse (nx := 6) (v := -1) rfl (by decide) rfl ?_
    refine ev_retK1 f_X11_refuse rfl rfl rfl ?_
    exact ev_ret f_X11_without rfl rfl rfl ⟨_, _, _, rfl, hI, hX, ⟨_, rfl, (Int.le_trans (by decide : ((-2147483648):Int) ≤ (-1)) (by decide : ((-1):Int) ≤ ((-1):Int32).toInt)), (Int.le_trans (by decide : ((-1):Int32).toInt ≤ ((-1):Int)) (by decide : ((-1):Int) ≤ 999999999)), (show ∀ (u : Nat) (D : s_D), gr 0 6 = .ref u → t_VL gr u → t_CV gi gl u D → t_Cb D → (u = 3 ∨ 102 ≤ u) → (∀ s : Nat, (s : Int) < D 1 → 0 ≤ D (56 + 5 * s) ∧ D (56 + 5 * s) ≤ 1) → s_DB D → ((0 ≤ ar1.toInt ∧ ar1.toInt < D 2) → ((-1) : Int) = s_an (s_LS (s_PX D (D 4) (s_A D) 0 ar1.toInt) 0 0 0 0)) ∧ (¬ (0 ≤ ar1.toInt ∧ ar1.toInt < D 2) → ((-1) : Int) = -1) from (by
                                                            intro u D hu hl hc hb hv hsl hd
                                                            have hL := hc.2.2.2.1
                                                            exact ⟨fun h => absurd h (by omega), fun _ => rfl⟩))⟩⟩
  · have l4 : 0 ≤ ar1.toInt := t_lel (t_nlt h1) (by decide : (0:Int) ≤ (0:Int32).toInt)
    refine ev_loc f_X11_isCart (nx := 5) rfl rfl rfl rfl ?_
    refine ev_loc f_X11_isCart (nx := 6) rfl rfl rfl rfl ?_
    obtain ⟨a5, e5, p5⟩ := hI.2.2.2.1.1
    refine ev_getR f_X11_isCart (nx := 9) rfl (hI.wf.s rfl) rfl rfl e5 rfl rfl ?_
    obtain ⟨a6, e6, p6⟩ := p5.2.2.2.2.2
    refine ev_getR f_X11_isCart (nx := 12) rfl p5.1 rfl rfl e6 rfl rfl ?_
    refine ev_getI f_X11_isCart (nx := 15) rfl p6.1 rfl rfl rfl ?_
    obtain ⟨l7, u7⟩ := hI.b p6.1 (t_bdK rfl : t_bd 3 0 = some (0, 6))
    refine ev_if f_X11_isCart (t1 := 22) (t2 := 18) rfl rfl rfl (fun h8 => ?_) (fun h8 => ?_)
    · have r9 : (gi a6 0).toInt ≤ ar1.toInt := Int32.le_iff_toInt_le.mp h8
      refine ev_ic f_X11_isCart (nx := 23) (v := 0) rfl (by decide) rfl ?_
      refine ev_retK1 f_X11_isCart rfl rfl rfl ?_
      refine ev_t f_X11_without (t1 := 8) (t2 := 14) rfl rfl rfl (by decide) ?_
      refine ev_loc f_X11_without (nx := 9) rfl rfl rfl rfl ?_
      refine ev_ic f_X11_without (nx := 10) (v := 1) rfl (by decide) rfl ?_
      refine ev_inV2 f_X11_without (nx := 13) (lo2 := [(0, .ref 0), (1, .int 1)]) rfl rfl rfl rfl f_X11_refuse (hI.wf.s rfl) rfl rfl rfl rfl rfl ?_
      refine ev_loc f_X11_refuse (nx := 1) rfl rfl rfl rfl ?_
      refine ev_loc f_X11_refuse (nx := 2) rfl rfl rfl rfl ?_
      refine ev_putIT f_X11_refuse (nx := 5) rfl (hI.wf.s rfl) rfl rfl rfl (hI.put0 (hI.wf.s rfl) rfl rfl) (hX.upI rfl) (fun g10 e10 hI hX => ?_)
      refine ev_ic f_X11_refuse (nx := 6) (v := -1) rfl (by decide) rfl ?_
      refine ev_retK1 f_X11_refuse rfl rfl rfl ?_
      exact ev_ret f_X11_without rfl rfl rfl ⟨_, _, _, rfl, hI, hX, ⟨_, rfl, (Int.le_trans (by decide : ((-2147483648):Int) ≤ (-1)) (by decide : ((-1):Int) ≤ ((-1):Int32).toInt)), (Int.le_trans (by decide : ((-1):Int32).toInt ≤ ((-1):Int)) (by decide : ((-1):Int) ≤ 999999999)), (show ∀ (u : Nat) (D : s_D), gr 0 6 = .ref u → t_VL gr u → t_CV gi gl u D → t_Cb D → (u = 3 ∨ 102 ≤ u) → (∀ s : Nat, (s : Int) < D 1 → 0 ≤ D (56 + 5 * s) ∧ D (56 + 5 * s) ≤ 1) → s_DB D → ((0 ≤ ar1.toInt ∧ ar1.toInt < D 2) → ((-1) : Int) = s_an (s_LS (s_PX D (D 4) (s_A D) 0 ar1.toInt) 0 0 0 0)) ∧ (¬ (0 ≤ ar1.toInt ∧ ar1.toInt < D 2) → ((-1) : Int) = -1) from (by
                                                            intro u D hu hl hc hb hv hsl hd
                                                            have ha : a5 = u := Value.ref.inj (e5.symm.trans hu)
                                                            subst ha
                                                            have hb1 : (a5 + 10) = a6 := Value.ref.inj ((hl.1.2.2.2.2).symm.trans e6)
                                                            subst hb1
                                                            have hL := hc.2.2.2.1
                                                            exact ⟨fun h => absurd h (by omega), fun _ => rfl⟩))⟩⟩
    · have r11 : ar1.toInt < (gi a6 0).toInt := Int32.lt_iff_toInt_lt.mp (t_nle h8)
      have u12 : ar1.toInt ≤ 5 := t_ltu (t_nle h8) u7 rfl
      have l13 : 1 ≤ (gi a6 0).toInt := t_ltl (t_nle h8) l4 rfl
      refine ev_ic f_X11_isCart (nx := 19) (v := 1) rfl (by decide) rfl ?_
      refine ev_jmp f_X11_isCart (nx := 23) rfl rfl rfl ?_
      refine ev_retK1 f_X11_isCart rfl rfl rfl ?_
      refine ev_f f_X11_without (t1 := 8) (t2 := 14) rfl rfl rfl (by decide) ?_
      refine ev_loc f_X11_without (nx := 15) rfl rfl rfl rfl ?_
      refine ev_getR f_X11_without (nx := 18) rfl (hI.wf.s rfl) rfl rfl (hI.wf.r rfl) rfl rfl ?_
      refine ev_loc f_X11_without (nx := 19) rfl rfl rfl rfl ?_
      refine ev_getR f_X11_without (nx := 22) (v := .ref a5) rfl (hI.wf.s rfl) rfl rfl e5 rfl rfl ?_
      refine ev_qN f_X11_without (nx := 25) (r := []) rfl rfl rfl rfl rfl rfl rfl (c_d_takeAll hI (a5) p5) rfl hX rfl (fun gi14 gl14 gr14 hI hX hC14 q14 => ?_)
      have q14 : ∀ D : s_D, t_VL gr a5 → t_CV gi gl a5 D → (a5 = 3 ∨ 102 ≤ a5) → t_Cb D → (∀ s : Nat, (s : Int) < D 1 → 0 ≤ D (56 + 5 * s) ∧ D (56 + 5 * s) ≤ 1) → s_CP (s_PD D (D 4)) gi14 gr14 ∧ gr14 28 0 = .ref a5 ∧ t_CV gi14 gl14 a5 D ∧ (gi14 28 1).toInt = D 4 := q14
      replace p5 := p5.ext hC14.2
      replace p6 := p6.ext hC14.2
      refine ev_loc f_X11_without (nx := 26) rfl rfl rfl rfl ?_
      have hXa := hX
      refine ev_getR f_X11_without (nx := 29) rfl (hI.wf.s rfl) rfl rfl (hI.wf.r rfl) rfl rfl ?_
      refine ev_loc f_X11_without (nx := 30) rfl rfl rfl rfl ?_
      refine ev_getR f_X11_without (nx := 33) (v := .ref a5) rfl (hI.wf.s rfl) rfl rfl ((hC14.1 0 6 rfl).2.2.trans e5) rfl rfl ?_
      refine ev_loc f_X11_without (nx := 34) rfl rfl rfl rfl ?_
      refine ev_qN f_X11_without (nx := 37) (r := []) rfl rfl rfl rfl rfl rfl rfl (c_d_takeCartsG hI (a5) p5 (ar1)) rfl hX rfl (fun gi15 gl15 gr15 hI hX hC15 q15 => ?_)
      have q15 : ∀ D : s_D, t_VL gr14 a5 → t_CV gi14 gl14 a5 D → (a5 = 3 ∨ 102 ≤ a5) → t_Cb D → s_DB D → (gi15 35 0).toInt = ((s_fn (s_ck ar1.toInt) (D 2).toNat : Nat) : Int) ∧ s_RF (s_ff (s_B D) (s_ck ar1.toInt) (D 2).toNat) (fun k => (k : Int)) (gi15 36) (s_fn (s_ck ar1.toInt) (D 2).toNat) ∧ s_RF (s_ff (s_B D) (s_ck ar1.toInt) (D 2).toNat) (s_B D) (gi15 37) (s_fn (s_ck ar1.toInt) (D 2).toNat) ∧ s_RF (s_ff (s_B D) (s_ck ar1.toInt) (D 2).toNat) (fun k => D (83 + 3 * k)) (gi15 38) (s_fn (s_ck ar1.toInt) (D 2).toNat) ∧ s_RF (s_ff (s_B D) (s_ck ar1.toInt) (D 2).toNat) (fun k => D (84 + 3 * k)) (gi15 39) (s_fn (s_ck ar1.toInt) (D 2).toNat) ∧ s_RF (s_ff (s_B D) (s_ck ar1.toInt) (D 2).toNat) (fun _ => 0) (gi15 40) (s_fn (s_ck ar1.toInt) (D 2).toNat) := q15
      replace p5 := p5.ext hC15.2
      replace p6 := p6.ext hC15.2
      refine ev_loc f_X11_without (nx := 38) rfl rfl rfl rfl ?_
      have hXb := hX
      refine ev_loc f_X11_without (nx := 39) rfl rfl rfl rfl ?_
      refine ev_getR f_X11_without (nx := 42) rfl (hI.wf.s rfl) rfl rfl (hI.wf.r rfl) rfl rfl ?_
      refine ev_qI f_X11_without (nx := 45) (r := [.ref 0]) rfl rfl rfl rfl rfl rfl rfl (c_d_leastWaits hI ) rfl hX rfl (fun w16 gi16 gl16 gr16 l16 u16 hI hX hC16 q16 => ?_)
      have q16 : ∀ P : Nat → Nat → Int, s_CP P gi15 gr15 → s_PB P → s_PO P → w16.toInt = s_LS P 0 0 0 0 := q16
      replace p5 := p5.ext hC16.2
      replace p6 := p6.ext hC16.2
      refine ev_inV2 f_X11_without (nx := 48) (lo2 := [(0, .ref 0), (1, .int w16)]) rfl rfl rfl rfl f_X11_answerWaits (hI.wf.s rfl) rfl rfl rfl rfl rfl ?_
      refine ev_loc f_X11_answerWaits (nx := 1) rfl rfl rfl rfl ?_
      refine ev_ldW f_X11_answerWaits (nx := 4) (v := 1000000000) rfl (by decide) rfl ?_
      refine ev_if f_X11_answerWaits (t1 := 16) (t2 := 7) rfl rfl rfl (fun h17 => ?_) (fun h17 => ?_)
      · have u18 : w16.toInt ≤ 999999999 := t_ltu h17 (by decide : (1000000000:Int32).toInt ≤ (1000000000:Int)) rfl
        refine ev_loc f_X11_answerWaits (nx := 17) rfl rfl rfl rfl ?_
        refine ev_loc f_X11_answerWaits (nx := 18) rfl rfl rfl rfl ?_
        refine ev_inV2 f_X11_answerWaits (nx := 21) (lo2 := [(0, .ref 0), (1, .int w16)]) rfl rfl rfl rfl f_X11_answer (hI.wf.s rfl) rfl rfl rfl rfl rfl ?_
        refine ev_loc f_X11_answer (nx := 1) rfl rfl rfl rfl ?_
        refine ev_ic f_X11_answer (nx := 2) (v := 0) rfl (by decide) rfl ?_
        refine ev_putIT f_X11_answer (nx := 5) rfl (hI.wf.s rfl) rfl rfl rfl (hI.put0 (hI.wf.s rfl) rfl rfl) (hX.upI rfl) (fun g19 e19 hI hX => ?_)
        refine ev_loc f_X11_answer (nx := 6) rfl rfl rfl rfl ?_
        refine ev_retK1 f_X11_answer rfl rfl rfl ?_
        refine ev_retK1 f_X11_answerWaits rfl rfl rfl ?_
        exact ev_ret f_X11_without rfl rfl rfl ⟨_, _, _, rfl, hI, hX, ⟨_, rfl, l16, u18, (show ∀ (u : Nat) (D : s_D), gr 0 6 = .ref u → t_VL gr u → t_CV gi gl u D → t_Cb D → (u = 3 ∨ 102 ≤ u) → (∀ s : Nat, (s : Int) < D 1 → 0 ≤ D (56 + 5 * s) ∧ D (56 + 5 * s) ≤ 1) → s_DB D → ((0 ≤ ar1.toInt ∧ ar1.toInt < D 2) → w16.toInt = s_an (s_LS (s_PX D (D 4) (s_A D) 0 ar1.toInt) 0 0 0 0)) ∧ (¬ (0 ≤ ar1.toInt ∧ ar1.toInt < D 2) → w16.toInt = -1) from (by
                                                            intro u D hu hl hc hb hv hsl hd
                                                            have ha : a5 = u := Value.ref.inj (e5.symm.trans hu)
                                                            subst ha
                                                            have hb1 : (a5 + 10) = a6 := Value.ref.inj ((hl.1.2.2.2.2).symm.trans e6)
                                                            subst hb1
                                                            have hL := hc.2.2.2.1
                                                            have hq := q14 D hl hc hv hb hsl
                                                            have hKa := t_nd_fr hXa rfl
                                                            have hla := hl.fr (fun K k1 k2 => hKa K (by omega))
                                                            have hs := q15 D hla hq.2.2.1 hv hb hd
                                                            have fb := t_F_X hC15
                                                            have hKb := t_nd_fr hXb rfl
                                                            have hcb := hc.fr (fun K k1 k2 => hKb K (by omega))
                                                            have er : gr15 28 0 = .ref _ := (fb 28 0 (by decide) rfl).2.2.trans hq.2.1
                                                            have e1 : (gi15 28 1).toInt = D 4 := by rw [(fb 28 1 (by decide) rfl).1]; exact hq.2.2.2
                                                            have e29 : gi15 29 = gi14 29 := t_F_nc fb rfl (by decide)
                                                            have e31 : gi15 31 = gi14 31 := t_F_nc fb rfl (by decide)
                                                            have e32 : gi15 32 = gi14 32 := t_F_nc fb rfl (by decide)
                                                            have e33 : gi15 33 = gi14 33 := t_F_nc fb rfl (by decide)
                                                            have e34 : gi15 34 = gi14 34 := t_F_nc fb rfl (by decide)
                                                            have hcp : s_CP (s_PX D (D 4) (s_A D) 0 ar1.toInt) gi15 gr15 := by
                                                              rw [s_PX_m hb.2.1.2]
                                                              refine s_CP.of (by rw [e29]; exact hq.1.1.1) hs.1 (fun s hs9 => ?_) (fun c hc9 => ?_) er hv hcb e1 (fun j => rfl)
                                                              · rw [e31, e32, e33, e34]; exact hq.1.2.1 s hs9
                                                              · have h9 : c < s_fn _ _ := Int.ofNat_lt.mp hc9
                                                                exact ⟨hs.2.2.1 c h9, hs.2.2.2.1 c h9, hs.2.2.2.2.1 c h9, hs.2.2.2.2.2 c h9⟩
                                                            have hAb := s_A_b hd
                                                            have hq2 := q16 _ hcp (s_PX_B hb hd ⟨hd.2.2.1.1, hd.2.2.1.2⟩ hAb.2) (s_PX_O hb hd hd.2.2.1.1 hAb.1)
                                                            refine ⟨fun h => ?_, fun h => absurd (show _ from ⟨by omega, by omega⟩) h⟩
                                                            rw [← hq2]
                                                            unfold s_an
                                                            split
                                                            · omega
                                                            · omega))⟩⟩
      · have l20 : 1000000000 ≤ w16.toInt := t_lel (t_nlt h17) (by decide : (1000000000:Int) ≤ (1000000000:Int32).toInt)
        refine ev_loc f_X11_answerWaits (nx := 8) rfl rfl rfl rfl ?_
        refine ev_bp f_X11_answerWaits (nx := 10) (v := 6) rfl (by decide) rfl ?_
        refine ev_inV2 f_X11_answerWaits (nx := 13) (lo2 := [(0, .ref 0), (1, .int 6)]) rfl rfl rfl rfl f_X11_refuse (hI.wf.s rfl) rfl rfl rfl rfl rfl ?_
        refine ev_loc f_X11_refuse (nx := 1) rfl rfl rfl rfl ?_
        refine ev_loc f_X11_refuse (nx := 2) rfl rfl rfl rfl ?_
        refine ev_putIT f_X11_refuse (nx := 5) rfl (hI.wf.s rfl) rfl rfl rfl (hI.put0 (hI.wf.s rfl) rfl rfl) (hX.upI rfl) (fun g21 e21 hI hX => ?_)
        refine ev_ic f_X11_refuse (nx := 6) (v := -1) rfl (by decide) rfl ?_
        refine ev_retK1 f_X11_refuse rfl rfl rfl ?_
        refine ev_jmp f_X11_answerWaits (nx := 21) rfl rfl rfl ?_
        refine ev_retK1 f_X11_answerWaits rfl rfl rfl ?_
        exact ev_ret f_X11_without rfl rfl rfl ⟨_, _, _, rfl, hI, hX, ⟨_, rfl, (Int.le_trans (by decide : ((-2147483648):Int) ≤ (-1)) (by decide : ((-1):Int) ≤ ((-1):Int32).toInt)), (Int.le_trans (by decide : ((-1):Int32).toInt ≤ ((-1):Int)) (by decide : ((-1):Int) ≤ 999999999)), (show ∀ (u : Nat) (D : s_D), gr 0 6 = .ref u → t_VL gr u → t_CV gi gl u D → t_Cb D → (u = 3 ∨ 102 ≤ u) → (∀ s : Nat, (s : Int) < D 1 → 0 ≤ D (56 + 5 * s) ∧ D (56 + 5 * s) ≤ 1) → s_DB D → ((0 ≤ ar1.toInt ∧ ar1.toInt < D 2) → ((-1) : Int) = s_an (s_LS (s_PX D (D 4) (s_A D) 0 ar1.toInt) 0 0 0 0)) ∧ (¬ (0 ≤ ar1.toInt ∧ ar1.toInt < D 2) → ((-1) : Int) = -1) from (by
                                                            intro u D hu hl hc hb hv hsl hd
                                                            have ha : a5 = u := Value.ref.inj (e5.symm.trans hu)
                                                            subst ha
                                                            have hb1 : (a5 + 10) = a6 := Value.ref.inj ((hl.1.2.2.2.2).symm.trans e6)
                                                            subst hb1
                                                            have hL := hc.2.2.2.1
                                                            have hq := q14 D hl hc hv hb hsl
                                                            have hKa := t_nd_fr hXa rfl
                                                            have hla := hl.fr (fun K k1 k2 => hKa K (by omega))
                                                            have hs := q15 D hla hq.2.2.1 hv hb hd
                                                            have fb := t_F_X hC15
                                                            have hKb := t_nd_fr hXb rfl
                                                            have hcb := hc.fr (fun K k1 k2 => hKb K (by omega))
                                                            have er : gr15 28 0 = .ref _ := (fb 28 0 (by decide) rfl).2.2.trans hq.2.1
                                                            have e1 : (gi15 28 1).toInt = D 4 := by rw [(fb 28 1 (by decide) rfl).1]; exact hq.2.2.2
                                                            have e29 : gi15 29 = gi14 29 := t_F_nc fb rfl (by decide)
                                                            have e31 : gi15 31 = gi14 31 := t_F_nc fb rfl (by decide)
                                                            have e32 : gi15 32 = gi14 32 := t_F_nc fb rfl (by decide)
                                                            have e33 : gi15 33 = gi14 33 := t_F_nc fb rfl (by decide)
                                                            have e34 : gi15 34 = gi14 34 := t_F_nc fb rfl (by decide)
                                                            have hcp : s_CP (s_PX D (D 4) (s_A D) 0 ar1.toInt) gi15 gr15 := by
                                                              rw [s_PX_m hb.2.1.2]
                                                              refine s_CP.of (by rw [e29]; exact hq.1.1.1) hs.1 (fun s hs9 => ?_) (fun c hc9 => ?_) er hv hcb e1 (fun j => rfl)
                                                              · rw [e31, e32, e33, e34]; exact hq.1.2.1 s hs9
                                                              · have h9 : c < s_fn _ _ := Int.ofNat_lt.mp hc9
                                                                exact ⟨hs.2.2.1 c h9, hs.2.2.2.1 c h9, hs.2.2.2.2.1 c h9, hs.2.2.2.2.2 c h9⟩
                                                            have hAb := s_A_b hd
                                                            have hq2 := q16 _ hcp (s_PX_B hb hd ⟨hd.2.2.1.1, hd.2.2.1.2⟩ hAb.2) (s_PX_O hb hd hd.2.2.1.1 hAb.1)
                                                            refine ⟨fun h => ?_, fun h => absurd (show _ from ⟨by omega, by omega⟩) h⟩
                                                            rw [← hq2]
                                                            unfold s_an
                                                            split
                                                            · omega
                                                            · omega))⟩⟩
/-! ===== printed by riv.py: later, without: the other side ===== -/
noncomputable def wl_n_leastByG : List (Nat × Nat) := [(69, 44), (69, 45), (69, 48), (89, 10005), (89, 610011), (90, 9999), (91, 9999), (92, 9999)]
noncomputable def Q_n_leastByG (gi : Nat → Nat → Int32) (gl : Nat → Nat → Int64) (gr : Nat → Nat → Value) (ar1 : Int32) (ar2 : Int32) : Int32 → (Nat → Nat → Int32) → (Nat → Nat → Int64) → (Nat → Nat → Value) → Prop := fun (v : Int32) (gi2 : Nat → Nat → Int32) (gl2 : Nat → Nat → Int64) (gr2 : Nat → Nat → Value) => ∀ D : s_D, t_ME 0 gi D → t_Cb D → s_DB D → v.toInt = s_an (s_LS (s_PX D ar2.toInt (s_A D) ar1 (gi 69 46).toInt) 0 0 0 0)
theorem c_n_leastByG {X : x_Ext} {d : Nat} {sh : List (Nat ⊕ (Nat × Nat))} {gi : Nat → Nat → Int32} {gl : Nat → Nat → Int64} {gr : Nat → Nat → Value} (hI : t_I sh gi gr) (ar1 : Int32) (ar2 : Int32) (l_a2 : 0 ≤ ar2.toInt) (u_a2 : ar2.toInt ≤ 20) (e_p0 : 1 ≤ ar2.toInt) : x_Me X (d + 5) n_X12_leastBy [.ref 69, .int ar1, .int ar2] (sh, gi, gl, gr) (t_PI wl_n_leastByG sh gi gl gr (-2147483648) 999999999 (Q_n_leastByG gi gl gr ar1 ar2)) := by
  have hX : t_X wl_n_leastByG sh gi gl gr gi gl gr := t_X.rf
  refine me_i f_X12_leastBy (hI.wf.s rfl) rfl rfl rfl ?_
  have hI0 := hI
  refine ev_loc f_X12_leastBy (nx := 1) rfl rfl rfl rfl ?_
  refine ev_qN f_X12_leastBy (nx := 4) (r := []) rfl rfl rfl rfl rfl rfl rfl (c_n_tellsMinutes hI ) rfl hX rfl (fun gi2 gl2 gr2 hI hX hC2 q2 => ?_)
  have q2 : (∀ j, gi2 70 j = gi 70 j) ∧ (∀ j : Nat, j < 6 → gi2 89 j = gi 70 (53 + 5 * j)) ∧ (∀ j : Nat, j < 6 → gi2 89 (6 + j) = gi 70 (82 + 3 * j)) := q2
  refine ev_loc f_X12_leastBy (nx := 5) rfl rfl rfl rfl ?_
  refine ev_loc f_X12_leastBy (nx := 6) rfl rfl rfl rfl ?_
  refine ev_qN f_X12_leastBy (nx := 9) (r := []) rfl rfl rfl rfl rfl rfl rfl (c_n_ordersG hI (ar1)) rfl hX rfl (fun gi3 gl3 gr3 hI hX hC3 q3 => ?_)
  have ff4 : (gi2 69 46).toInt = (gi 69 46).toInt := congrArg Int32.toInt ((hC2.1 69 46 rfl).1.trans rfl)
  have q3 : (∀ j, gi3 70 j = gi2 70 j) ∧ (∀ j, gi3 89 j = gi2 89 j) ∧ (∀ (D : s_D) (A : Nat → Int), t_ME 0 gi2 D → t_Cb D → (∀ j : Nat, (j : Int) < D 1 → (gi2 89 j).toInt = A j) → (gi3 69 44).toInt = ((s_fn (s_mk ar1) (D 1).toNat : Nat) : Int) ∧ s_RF (s_ff A (s_mk ar1) (D 1).toNat) (fun k => (k : Int)) (gi3 90) (s_fn (s_mk ar1) (D 1).toNat)) ∧ (∀ (D : s_D) (A : Nat → Int), t_ME 0 gi2 D → t_Cb D → (∀ j : Nat, (j : Int) < D 2 → (gi2 89 (6 + j)).toInt = A j) → (gi3 69 45).toInt = ((s_fn (s_ck (gi2 69 46).toInt) (D 2).toNat : Nat) : Int) ∧ s_RF (s_ff A (s_ck (gi2 69 46).toInt) (D 2).toNat) (fun k => (k : Int)) (gi3 91) (s_fn (s_ck (gi2 69 46).toInt) (D 2).toNat)) := q3
  refine ev_loc f_X12_leastBy (nx := 10) rfl rfl rfl rfl ?_
  refine ev_loc f_X12_leastBy (nx := 11) rfl rfl rfl rfl ?_
  refine ev_putIT f_X12_leastBy (nx := 14) rfl (hI.wf.s rfl) rfl rfl rfl (hI.putB (hI.wf.s rfl) rfl rfl l_a2 (by decide) u_a2 (by decide)) (hX.upI rfl) (fun g5 e5 hI hX => ?_)
  refine ev_loc f_X12_leastBy (nx := 15) rfl rfl rfl rfl ?_
  refine ev_qI f_X12_leastBy (nx := 18) (r := []) rfl rfl rfl rfl rfl rfl rfl (c_m_reckons hI  (by have ff7 : (g5 69 48).toInt = ar2.toInt := congrArg Int32.toInt (by rw [e5]; exact x_up2_at _ _ _ _ : g5 69 48 = ar2); omega) (by
                                                            have h89 : g5 89 = gi2 89 := by rw [show g5 89 = gi3 89 from funext fun j => by rw [e5, x_up2_off (Or.inl (by decide))]]; exact funext fun j => q3.2.1 j
                                                            rw [h89]
                                                            exact s_min12 hI0 q2.2.1 q2.2.2)) rfl hX rfl (fun w6 gi6 gl6 gr6 l6 u6 hI hX hC6 q6 => ?_)
  have q6 : t_pr gi6 (gi6 92) (gi6 69 48).toInt 23618 ∧ t_rk w6.toInt (t_la (gi6 92) (t_S gi6) (t_C gi6) 0 0 0 0) := q6
  exact ev_ret f_X12_leastBy rfl rfl rfl ⟨_, _, _, rfl, hI, hX, ⟨_, rfl, l6, u6, (show ∀ D : s_D, t_ME 0 gi D → t_Cb D → s_DB D → w6.toInt = s_an (s_LS (s_PX D ar2.toInt (s_A D) ar1 (gi 69 46).toInt) 0 0 0 0) from (by
                                                            intro D hm hb hd
                                                            have b1 := hb.2.1
                                                            have b2 := hb.2.2
                                                            have fd := t_F_X hC6
                                                            have fa := t_F_X hC2
                                                            have m70 : ∀ j, gi2 70 j = gi 70 j := q2.1
                                                            have m46 : gi2 69 46 = gi 69 46 := (fa 69 46 (by decide) rfl).1
                                                            have k70 : ∀ j : Nat, (j : Int) < D 1 → (gi 70 (53 + 5 * j)).toInt = s_A D j := fun j hj => by have hh := hm.2.2.1 (53 + 5 * j) (by omega) (by omega); rw [Nat.zero_add] at hh; exact hh
                                                            have c70 : ∀ j : Nat, (j : Int) < D 2 → (gi 70 (82 + 3 * j)).toInt = s_B D j := fun j hj => by have hh := hm.2.2.2 (82 + 3 * j) (by omega) (by omega); rw [Nat.zero_add] at hh; exact hh
                                                            have hmA : t_ME 0 gi2 D := hm.mv hb (fun j _ _ _ => m70 (0 + j))
                                                            have hAs : ∀ j : Nat, (j : Int) < D 1 → (gi2 89 j).toInt = s_A D j := fun j hj => by rw [q2.2.1 j (by omega)]; exact k70 j hj
                                                            have hAc : ∀ j : Nat, (j : Int) < D 2 → (gi2 89 (6 + j)).toInt = s_B D j := fun j hj => by rw [q2.2.2 j (by omega)]; exact c70 j hj
                                                            have hS := q3.2.2.1 D _ hmA hb hAs
                                                            have hC := q3.2.2.2 D _ hmA hb hAc
                                                            rw [m46] at hC
                                                            have w89 : gi6 89 = gi3 89 := by rw [t_F_nc fd rfl (by decide)]; exact funext fun j => by rw [e5, x_up2_off (Or.inl (by decide))]
                                                            have w90 : gi6 90 = gi3 90 := by rw [t_F_nc fd rfl (by decide)]; exact funext fun j => by rw [e5, x_up2_off (Or.inl (by decide))]
                                                            have w91 : gi6 91 = gi3 91 := by rw [t_F_nc fd rfl (by decide)]; exact funext fun j => by rw [e5, x_up2_off (Or.inl (by decide))]
                                                            have w70 : gi6 70 = gi3 70 := by rw [t_F_nc fd rfl (by decide)]; exact funext fun j => by rw [e5, x_up2_off (Or.inl (by decide))]
                                                            have w44 : gi6 69 44 = gi3 69 44 := by rw [(fd 69 44 (by decide) rfl).1, e5, x_up2_off (Or.inr (by decide))]
                                                            have w45 : gi6 69 45 = gi3 69 45 := by rw [(fd 69 45 (by decide) rfl).1, e5, x_up2_off (Or.inr (by decide))]
                                                            have w48 : gi6 69 48 = ar2 := by rw [(fd 69 48 (by decide) rfl).1, e5, x_up2_at]
                                                            have e70 : ∀ j, gi6 70 j = gi 70 j := fun j => by rw [w70, q3.1 j, m70 j]
                                                            have hmD : t_ME 0 gi6 D := hm.mv hb (fun j _ _ _ => e70 (0 + j))
                                                            have hT := s_TP_X (m := ar1) (q := ar2.toInt) hb hd e_p0 hmD (by rw [w44]; exact hS.1) (by rw [w45]; exact hC.1) (by rw [w90]; exact hS.2) (by rw [w91]; exact hC.2) (fun j hj => by rw [w89, q3.2.1]; exact hAs j hj) (fun j hj => by rw [w89, q3.2.1]; exact hAc j hj)
                                                            have hr := q6.1
                                                            rw [w48] at hr
                                                            have hV := s_VLS (m := 0) (o := 0) (s := 0) (c := 0) hr hT (s_PX_O (A := s_A D) hb hd e_p0 (s_A_b hd).1) (by unfold t_S; rw [w44, hS.1]; have := s_fn_le (s_mk ar1) (D 1).toNat; omega) (by unfold t_C; rw [w45, hC.1]; have := s_fn_le (s_ck (gi 69 46).toInt) (D 2).toNat; omega) (by decide) (Nat.zero_le _) (Nat.zero_le _)
                                                            have hk := s_an_rk q6.2
                                                            rw [hV] at hk
                                                            exact hk))⟩⟩
noncomputable def wl_n_laterBy : List (Nat × Nat) := [(69, 44), (69, 45), (69, 48), (89, 10005), (89, 610011), (90, 9999), (91, 9999), (92, 9999)]
noncomputable def Q_n_laterBy (gi : Nat → Nat → Int32) (gl : Nat → Nat → Int64) (gr : Nat → Nat → Value) (ar1 : Int32) (ar2 : Int32) : Int32 → (Nat → Nat → Int32) → (Nat → Nat → Int64) → (Nat → Nat → Value) → Prop := fun (v : Int32) (gi2 : Nat → Nat → Int32) (gl2 : Nat → Nat → Int64) (gr2 : Nat → Nat → Value) => ∀ D : s_D, t_ME 0 gi D → t_Cb D → s_DB D → (gi 69 46).toInt = -1 → ar1.toInt < D 1 → v.toInt = s_an (s_LS (s_PX D (D 4) (s_Al (s_A D) ar1.toInt ar2.toInt) 0 (-1)) 0 0 0 0)
theorem c_n_laterBy {X : x_Ext} {d : Nat} {sh : List (Nat ⊕ (Nat × Nat))} {gi : Nat → Nat → Int32} {gl : Nat → Nat → Int64} {gr : Nat → Nat → Value} (hI : t_I sh gi gr) (ar1 : Int32) (l_a1 : 0 ≤ ar1.toInt) (u_a1 : ar1.toInt ≤ 5) (ar2 : Int32) (l_a2 : 0 ≤ ar2.toInt) (u_a2 : ar2.toInt ≤ 60) (e_p0 : 1 ≤ (gi 70 4).toInt) : x_Me X (d + 5) n_X12_laterBy [.ref 69, .int ar1, .int ar2] (sh, gi, gl, gr) (t_PI wl_n_laterBy sh gi gl gr (-2147483648) 999999999 (Q_n_laterBy gi gl gr ar1 ar2)) := by
  have hX : t_X wl_n_laterBy sh gi gl gr gi gl gr := t_X.rf
  refine me_i f_X12_laterBy (hI.wf.s rfl) rfl rfl rfl ?_
  obtain ⟨l2, u2⟩ := hI.ab (by decide +kernel : t_abr 70 4 4 0 20 = true) (Nat.le_refl _) (Nat.le_refl _)
  have hI0 := hI
  refine ev_loc f_X12_laterBy (nx := 1) rfl rfl rfl rfl ?_
  refine ev_qN f_X12_laterBy (nx := 4) (r := []) rfl rfl rfl rfl rfl rfl rfl (c_n_tellsMinutes hI ) rfl hX rfl (fun gi3 gl3 gr3 hI hX hC3 q3 => ?_)
  have q3 : (∀ j, gi3 70 j = gi 70 j) ∧ (∀ j : Nat, j < 6 → gi3 89 j = gi 70 (53 + 5 * j)) ∧ (∀ j : Nat, j < 6 → gi3 89 (6 + j) = gi 70 (82 + 3 * j)) := q3
  refine ev_loc f_X12_laterBy (nx := 5) rfl rfl rfl rfl ?_
  refine ev_getR f_X12_laterBy (nx := 8) rfl (hI.wf.s rfl) rfl rfl (hI.wf.r rfl) rfl rfl ?_
  refine ev_loc f_X12_laterBy (nx := 9) rfl rfl rfl rfl ?_
  refine ev_alu f_X12_laterBy (nx := 10) rfl rfl rfl rfl ?_
  refine ev_ialdT f_X12_laterBy (nx := 11) rfl (hI.wf.s rfl) l_a1 (by decide) u_a1 (by decide) rfl (fun w4 e4 => ?_)
  refine ev_loc f_X12_laterBy (nx := 12) rfl rfl rfl rfl ?_
  refine ev_anyIE f_X12_laterBy (nx := 13) rfl rfl rfl rfl (fun z5 e5 => ?_)
  refine ev_iastT f_X12_laterBy (nx := 14) rfl (hI.wf.s rfl) l_a1 (by decide) u_a1 (by decide) rfl (hI.astG (hI.wf.s rfl) (fun lo hi e => absurd e (t_nob (by decide +kernel) _)) (fun k hk e => by have := hk.2.1; omega)) (hX.upI (t_inR (p := 0) (m := 5) rfl l_a1 (by decide) u_a1 (by decide) (by decide))) (fun g6 e6 hI hX => ?_)
  refine ev_loc f_X12_laterBy (nx := 15) rfl rfl rfl rfl ?_
  refine ev_ic f_X12_laterBy (nx := 16) (v := 0) rfl (by decide) rfl ?_
  refine ev_qN f_X12_laterBy (nx := 19) (r := []) rfl rfl rfl rfl rfl rfl rfl (c_n_ordersG hI (0)) rfl hX rfl (fun gi7 gl7 gr7 hI hX hC7 q7 => ?_)
  have ff8 : (g6 69 46).toInt = (gi 69 46).toInt := congrArg Int32.toInt ((by rw [e6]; exact x_up2_off (Or.inl (by decide)) : g6 69 46 = gi3 69 46).trans ((hC3.1 69 46 rfl).1.trans rfl))
  have q7 : (∀ j, gi7 70 j = g6 70 j) ∧ (∀ j, gi7 89 j = g6 89 j) ∧ (∀ (D : s_D) (A : Nat → Int), t_ME 0 g6 D → t_Cb D → (∀ j : Nat, (j : Int) < D 1 → (g6 89 j).toInt = A j) → (gi7 69 44).toInt = ((s_fn (s_mk (0 : Int32)) (D 1).toNat : Nat) : Int) ∧ s_RF (s_ff A (s_mk (0 : Int32)) (D 1).toNat) (fun k => (k : Int)) (gi7 90) (s_fn (s_mk (0 : Int32)) (D 1).toNat)) ∧ (∀ (D : s_D) (A : Nat → Int), t_ME 0 g6 D → t_Cb D → (∀ j : Nat, (j : Int) < D 2 → (g6 89 (6 + j)).toInt = A j) → (gi7 69 45).toInt = ((s_fn (s_ck (g6 69 46).toInt) (D 2).toNat : Nat) : Int) ∧ s_RF (s_ff A (s_ck (g6 69 46).toInt) (D 2).toNat) (fun k => (k : Int)) (gi7 91) (s_fn (s_ck (g6 69 46).toInt) (D 2).toNat)) := q7
  refine ev_loc f_X12_laterBy (nx := 20) rfl rfl rfl rfl ?_
  refine ev_loc f_X12_laterBy (nx := 21) rfl rfl rfl rfl ?_
  refine ev_getR f_X12_laterBy (nx := 24) rfl (hI.wf.s rfl) rfl rfl (hI.wf.r rfl) rfl rfl ?_
  refine ev_ic f_X12_laterBy (nx := 25) (v := 4) rfl (by decide) rfl ?_
  refine ev_ialdv f_X12_laterBy (nx := 26) (w := (gi 70 4)) rfl (hI.wf.s rfl) (by decide) (rfl : (4 : Int32).toNatClampNeg = 4) (by decide) ((hC7.1 70 4 rfl).1.trans ((by rw [e6]; exact x_up2_off (Or.inl (by decide)) : g6 70 4 = gi3 70 4).trans ((hC3.1 70 4 rfl).1.trans rfl))) rfl ?_
  refine ev_putIT f_X12_laterBy (nx := 29) rfl (hI.wf.s rfl) rfl rfl rfl (hI.putB (hI.wf.s rfl) rfl rfl l2 (by decide) u2 (by decide)) (hX.upI rfl) (fun g10 e10 hI hX => ?_)
  refine ev_loc f_X12_laterBy (nx := 30) rfl rfl rfl rfl ?_
  refine ev_qI f_X12_laterBy (nx := 33) (r := []) rfl rfl rfl rfl rfl rfl rfl (c_m_reckons hI  (by have ff12 : (g10 69 48).toInt = (gi 70 4).toInt := congrArg Int32.toInt (by rw [e10]; exact x_up2_at _ _ _ _ : g10 69 48 = (gi 70 4)); omega) (by
                                                            have c1 := t_clamp (i := ar1) (by omega)
                                                            have hst : ∀ j, g6 89 j = if j = ar1.toNatClampNeg then z5 else gi3 89 j := fun j => by rw [e6]; by_cases hj : j = ar1.toNatClampNeg; (rw [if_pos hj, hj, x_up2_at]); (rw [if_neg hj, x_up2_off (Or.inr hj)])
                                                            have hwm := s_min12 hI0 q3.2.1 q3.2.2 ar1.toNatClampNeg (by omega)
                                                            have hz : z5.toInt = (gi3 89 ar1.toNatClampNeg).toInt + ar2.toInt := by rw [← e4]; rw [← e4] at hwm; exact s_add e5 rfl rfl (by omega)
                                                            have h89 : g10 89 = g6 89 := by rw [show g10 89 = gi7 89 from funext fun j => by rw [e10, x_up2_off (Or.inl (by decide))]]; exact funext fun j => q7.2.1 j
                                                            rw [h89]
                                                            exact s_min13 hI0 q3.2.1 q3.2.2 (by omega) hst hz (by omega) (by omega))) rfl hX rfl (fun w11 gi11 gl11 gr11 l11 u11 hI hX hC11 q11 => ?_)
  have q11 : t_pr gi11 (gi11 92) (gi11 69 48).toInt 23618 ∧ t_rk w11.toInt (t_la (gi11 92) (t_S gi11) (t_C gi11) 0 0 0 0) := q11
  exact ev_ret f_X12_laterBy rfl rfl rfl ⟨_, _, _, rfl, hI, hX, ⟨_, rfl, l11, u11, (show ∀ D : s_D, t_ME 0 gi D → t_Cb D → s_DB D → (gi 69 46).toInt = -1 → ar1.toInt < D 1 → w11.toInt = s_an (s_LS (s_PX D (D 4) (s_Al (s_A D) ar1.toInt ar2.toInt) 0 (-1)) 0 0 0 0) from (by
                                                            intro D hm hb hd h46 hs1
                                                            have b1 := hb.2.1
                                                            have b2 := hb.2.2
                                                            have fd := t_F_X hC11
                                                            have fa := t_F_X hC3
                                                            have m70 : ∀ j, g6 70 j = gi 70 j := fun j => by rw [e6, x_up2_off (Or.inl (by decide)), q3.1 j]
                                                            have m46 : g6 69 46 = gi 69 46 := by rw [e6, x_up2_off (Or.inl (by decide))]; exact (fa 69 46 (by decide) rfl).1
                                                            have k70 : ∀ j : Nat, (j : Int) < D 1 → (gi 70 (53 + 5 * j)).toInt = s_A D j := fun j hj => by have hh := hm.2.2.1 (53 + 5 * j) (by omega) (by omega); rw [Nat.zero_add] at hh; exact hh
                                                            have c70 : ∀ j : Nat, (j : Int) < D 2 → (gi 70 (82 + 3 * j)).toInt = s_B D j := fun j hj => by have hh := hm.2.2.2 (82 + 3 * j) (by omega) (by omega); rw [Nat.zero_add] at hh; exact hh
                                                            have hmA : t_ME 0 g6 D := hm.mv hb (fun j _ _ _ => m70 (0 + j))
                                                            have c1 := t_clamp (i := ar1) (by omega)
                                                            have hst : ∀ j, g6 89 j = if j = ar1.toNatClampNeg then z5 else gi3 89 j := fun j => by rw [e6]; by_cases hj : j = ar1.toNatClampNeg; (rw [if_pos hj, hj, x_up2_at]); (rw [if_neg hj, x_up2_off (Or.inr hj)])
                                                            have hwm := s_min12 hI0 q3.2.1 q3.2.2 ar1.toNatClampNeg (by omega)
                                                            have hz : z5.toInt = (gi3 89 ar1.toNatClampNeg).toInt + ar2.toInt := by rw [← e4]; rw [← e4] at hwm; exact s_add e5 rfl rfl (by omega)
                                                            have hAs : ∀ j : Nat, (j : Int) < D 1 → (g6 89 j).toInt = s_Al (s_A D) ar1.toInt ar2.toInt j := fun j hj => by
                                                              rw [hst j]
                                                              unfold s_Al
                                                              by_cases h : j = ar1.toNatClampNeg
                                                              · rw [if_pos h, if_pos (by omega), hz, h, q3.2.1 _ (by omega), k70 _ (by omega)]
                                                              · rw [if_neg h, if_neg (by omega), q3.2.1 _ (by omega), k70 _ hj]; omega
                                                            have hAc : ∀ j : Nat, (j : Int) < D 2 → (g6 89 (6 + j)).toInt = s_B D j := fun j hj => by rw [hst, if_neg (by omega), q3.2.2 j (by omega)]; exact c70 j hj
                                                            have hS := q7.2.2.1 D _ hmA hb hAs
                                                            have hC := q7.2.2.2 D _ hmA hb hAc
                                                            rw [m46] at hC
                                                            rw [h46] at hC
                                                            have w89 : gi11 89 = gi7 89 := by rw [t_F_nc fd rfl (by decide)]; exact funext fun j => by rw [e10, x_up2_off (Or.inl (by decide))]
                                                            have w90 : gi11 90 = gi7 90 := by rw [t_F_nc fd rfl (by decide)]; exact funext fun j => by rw [e10, x_up2_off (Or.inl (by decide))]
                                                            have w91 : gi11 91 = gi7 91 := by rw [t_F_nc fd rfl (by decide)]; exact funext fun j => by rw [e10, x_up2_off (Or.inl (by decide))]
                                                            have w70 : gi11 70 = gi7 70 := by rw [t_F_nc fd rfl (by decide)]; exact funext fun j => by rw [e10, x_up2_off (Or.inl (by decide))]
                                                            have w44 : gi11 69 44 = gi7 69 44 := by rw [(fd 69 44 (by decide) rfl).1, e10, x_up2_off (Or.inr (by decide))]
                                                            have w45 : gi11 69 45 = gi7 69 45 := by rw [(fd 69 45 (by decide) rfl).1, e10, x_up2_off (Or.inr (by decide))]
                                                            have w48 : gi11 69 48 = (gi 70 4) := by rw [(fd 69 48 (by decide) rfl).1, e10, x_up2_at]
                                                            have e70 : ∀ j, gi11 70 j = gi 70 j := fun j => by rw [w70, q7.1 j, m70 j]
                                                            have hmD : t_ME 0 gi11 D := hm.mv hb (fun j _ _ _ => e70 (0 + j))
                                                            have hT := s_TP_X (m := 0) (q := (D 4)) hb hd hd.2.2.1.1 hmD (by rw [w44]; exact hS.1) (by rw [w45]; exact hC.1) (by rw [w90]; exact hS.2) (by rw [w91]; exact hC.2) (fun j hj => by rw [w89, q7.2.1]; exact hAs j hj) (fun j hj => by rw [w89, q7.2.1]; exact hAc j hj)
                                                            have e48 : ((gi 70 4)).toInt = D 4 := by rw [show gi 70 4 = gi 70 4 from rfl]; exact hm.1.2.1
                                                            have hr := q11.1
                                                            rw [w48, e48] at hr
                                                            have hV := s_VLS (m := 0) (o := 0) (s := 0) (c := 0) hr hT (s_PX_O (A := s_Al (s_A D) ar1.toInt ar2.toInt) hb hd hd.2.2.1.1 (s_Al_b hd (by omega) (by omega)).1) (by unfold t_S; rw [w44, hS.1]; have := s_fn_le (s_mk 0) (D 1).toNat; omega) (by unfold t_C; rw [w45, hC.1]; have := s_fn_le (s_ck (-1)) (D 2).toNat; omega) (by decide) (Nat.zero_le _) (Nat.zero_le _)
                                                            have hk := s_an_rk q11.2
                                                            rw [hV] at hk
                                                            exact hk))⟩⟩
noncomputable def wl_e_later : List (Nat × Nat) := [(69, 2), (69, 44), (69, 45), (69, 48), (89, 10005), (89, 610011), (90, 9999), (91, 9999), (92, 9999)]
noncomputable def Q_e_later (gi : Nat → Nat → Int32) (gl : Nat → Nat → Int64) (gr : Nat → Nat → Value) (ar1 : Int32) (ar2 : Int32) : Int32 → (Nat → Nat → Int32) → (Nat → Nat → Int64) → (Nat → Nat → Value) → Prop := fun (v : Int32) (gi2 : Nat → Nat → Int32) (gl2 : Nat → Nat → Int64) (gr2 : Nat → Nat → Value) => ∀ D : s_D, t_ME 0 gi D → t_Cb D → s_DB D → (gi 69 46).toInt = -1 → ((0 ≤ ar1.toInt ∧ ar1.toInt < D 1 ∧ 0 ≤ ar2.toInt ∧ ar2.toInt ≤ 60) → v.toInt = s_an (s_LS (s_PX D (D 4) (s_Al (s_A D) ar1.toInt ar2.toInt) 0 (-1)) 0 0 0 0)) ∧ (¬ (0 ≤ ar1.toInt ∧ ar1.toInt < D 1 ∧ 0 ≤ ar2.toInt ∧ ar2.toInt ≤ 60) → v.toInt = -1)
theorem c_e_later {X : x_Ext} {d : Nat} {sh : List (Nat ⊕ (Nat × Nat))} {gi : Nat → Nat → Int32} {gl : Nat → Nat → Int64} {gr : Nat → Nat → Value} (hI : t_I sh gi gr) (ar1 : Int32) (ar2 : Int32) (e_p0 : 1 ≤ (gi 70 4).toInt) : x_Me X (d + 6) n_X12_later [.ref 69, .int ar1, .int ar2] (sh, gi, gl, gr) (t_PI wl_e_later sh gi gl gr (-2147483648) 999999999 (Q_e_later gi gl gr ar1 ar2)) := by
  have hX : t_X wl_e_later sh gi gl gr gi gl gr := t_X.rf
  refine me_i f_X12_later (hI.wf.s rfl) rfl rfl rfl ?_
  obtain ⟨l2, u2⟩ := hI.ab (by decide +kernel : t_abr 70 4 4 0 20 = true) (Nat.le_refl _) (Nat.le_refl _)
  refine ev_loc f_X12_later (nx := 1) rfl rfl rfl rfl ?_
  refine ev_loc f_X12_later (nx := 2) rfl rfl rfl rfl ?_
  refine ev_inV2 f_X12_later (nx := 5) (lo2 := [(0, .ref 69), (1, .int ar1)]) rfl rfl rfl rfl f_X12_isShip (hI.wf.s rfl) rfl rfl rfl rfl rfl ?_
  refine ev_loc f_X12_isShip (nx := 1) rfl rfl rfl rfl ?_
  refine ev_if f_X12_isShip (t1 := 18) (t2 := 4) rfl rfl rfl (fun h3 => ?_) (fun h3 => ?_)
  · have u4 : ar1.toInt ≤ (-1) := t_ltu h3 (by decide : (0:Int32).toInt ≤ (0:Int)) rfl
    refine ev_ic f_X12_isShip (nx := 19) (v := 0) rfl (by decide) rfl ?_
    refine ev_retK1 f_X12_isShip rfl rfl rfl ?_
    refine ev_t f_X12_later (t1 := 20) (t2 := 8) rfl rfl rfl (by decide) ?_
    refine ev_loc f_X12_later (nx := 21) rfl rfl rfl rfl ?_
    refine ev_ic f_X12_later (nx := 22) (v := 1) rfl (by decide) rfl ?_
    refine ev_inV2 f_X12_later (nx := 25) (lo2 := [(0, .ref 69), (1, .int 1)]) rfl rfl rfl rfl f_X12_refuse (hI.wf.s rfl) rfl rfl rfl rfl rfl ?_
    refine ev_loc f_X12_refuse (nx := 1) rfl rfl rfl rfl ?_
    refine ev_loc f_X12_refuse (nx := 2) rfl rfl rfl rfl ?_
    refine ev_putIT f_X12_refuse (nx := 5) rfl (hI.wf.s rfl) rfl rfl rfl (hI.put0 (hI.wf.s rfl) rfl rfl) (hX.upI rfl) (fun g5 e5 hI hX => ?_)
    refine ev_ic f_X12_refuse (nx := 6) (v := -1) rfl (by decide) rfl ?_
    refine ev_retK1 f_X12_refuse rfl rfl rfl ?_
    exact ev_ret f_X12_later rfl rfl rfl ⟨_, _, _, rfl, hI, hX, ⟨_, rfl, (Int.le_trans (by decide : ((-2147483648):Int) ≤ (-1)) (by decide : ((-1):Int) ≤ ((-1):Int32).toInt)), (Int.le_trans (by decide : ((-1):Int32).toInt ≤ ((-1):Int)) (by decide : ((-1):Int) ≤ 999999999)), (show ∀ D : s_D, t_ME 0 gi D → t_Cb D → s_DB D → (gi 69 46).toInt = -1 → ((0 ≤ ar1.toInt ∧ ar1.toInt < D 1 ∧ 0 ≤ ar2.toInt ∧ ar2.toInt ≤ 60) → ((-1) : Int) = s_an (s_LS (s_PX D (D 4) (s_Al (s_A D) ar1.toInt ar2.toInt) 0 (-1)) 0 0 0 0)) ∧ (¬ (0 ≤ ar1.toInt ∧ ar1.toInt < D 1 ∧ 0 ≤ ar2.toInt ∧ ar2.toInt ≤ 60) → ((-1) : Int) = -1) from (by
                                                            intro D hm hb hd h46
                                                            have ha : (gi 70 1).toInt = D 1 := hm.1.1.2.1
                                                            exact ⟨fun h => absurd h (by omega), fun _ => rfl⟩))⟩⟩
  · have l6 : 0 ≤ ar1.toInt := t_lel (t_nlt h3) (by decide : (0:Int) ≤ (0:Int32).toInt)
    refine ev_loc f_X12_isShip (nx := 5) rfl rfl rfl rfl ?_
    refine ev_loc f_X12_isShip (nx := 6) rfl rfl rfl rfl ?_
    refine ev_getR f_X12_isShip (nx := 9) rfl (hI.wf.s rfl) rfl rfl (hI.wf.r rfl) rfl rfl ?_
    refine ev_ic f_X12_isShip (nx := 10) (v := 1) rfl (by decide) rfl ?_
    obtain ⟨l7, u7⟩ := hI.ab (by decide +kernel : t_abr 70 1 1 0 6 = true) (Nat.le_refl _) (Nat.le_refl _)
    refine ev_ialdv f_X12_isShip (nx := 11) (w := (gi 70 1)) rfl (hI.wf.s rfl) (by decide) (rfl : (1 : Int32).toNatClampNeg = 1) (by decide) rfl rfl ?_
    refine ev_if f_X12_isShip (t1 := 18) (t2 := 14) rfl rfl rfl (fun h8 => ?_) (fun h8 => ?_)
    · have r9 : (gi 70 1).toInt ≤ ar1.toInt := Int32.le_iff_toInt_le.mp h8
      refine ev_ic f_X12_isShip (nx := 19) (v := 0) rfl (by decide) rfl ?_
      refine ev_retK1 f_X12_isShip rfl rfl rfl ?_
      refine ev_t f_X12_later (t1 := 20) (t2 := 8) rfl rfl rfl (by decide) ?_
      refine ev_loc f_X12_later (nx := 21) rfl rfl rfl rfl ?_
      refine ev_ic f_X12_later (nx := 22) (v := 1) rfl (by decide) rfl ?_
      refine ev_inV2 f_X12_later (nx := 25) (lo2 := [(0, .ref 69), (1, .int 1)]) rfl rfl rfl rfl f_X12_refuse (hI.wf.s rfl) rfl rfl rfl rfl rfl ?_
      refine ev_loc f_X12_refuse (nx := 1) rfl rfl rfl rfl ?_
      refine ev_loc f_X12_refuse (nx := 2) rfl rfl rfl rfl ?_
      refine ev_putIT f_X12_refuse (nx := 5) rfl (hI.wf.s rfl) rfl rfl rfl (hI.put0 (hI.wf.s rfl) rfl rfl) (hX.upI rfl) (fun g10 e10 hI hX => ?_)
      refine ev_ic f_X12_refuse (nx := 6) (v := -1) rfl (by decide) rfl ?_
      refine ev_retK1 f_X12_refuse rfl rfl rfl ?_
      exact ev_ret f_X12_later rfl rfl rfl ⟨_, _, _, rfl, hI, hX, ⟨_, rfl, (Int.le_trans (by decide : ((-2147483648):Int) ≤ (-1)) (by decide : ((-1):Int) ≤ ((-1):Int32).toInt)), (Int.le_trans (by decide : ((-1):Int32).toInt ≤ ((-1):Int)) (by decide : ((-1):Int) ≤ 999999999)), (show ∀ D : s_D, t_ME 0 gi D → t_Cb D → s_DB D → (gi 69 46).toInt = -1 → ((0 ≤ ar1.toInt ∧ ar1.toInt < D 1 ∧ 0 ≤ ar2.toInt ∧ ar2.toInt ≤ 60) → ((-1) : Int) = s_an (s_LS (s_PX D (D 4) (s_Al (s_A D) ar1.toInt ar2.toInt) 0 (-1)) 0 0 0 0)) ∧ (¬ (0 ≤ ar1.toInt ∧ ar1.toInt < D 1 ∧ 0 ≤ ar2.toInt ∧ ar2.toInt ≤ 60) → ((-1) : Int) = -1) from (by
                                                            intro D hm hb hd h46
                                                            have ha : (gi 70 1).toInt = D 1 := hm.1.1.2.1
                                                            exact ⟨fun h => absurd h (by omega), fun _ => rfl⟩))⟩⟩
    · have r11 : ar1.toInt < (gi 70 1).toInt := Int32.lt_iff_toInt_lt.mp (t_nle h8)
      have u12 : ar1.toInt ≤ 5 := t_ltu (t_nle h8) u7 rfl
      have l13 : 1 ≤ (gi 70 1).toInt := t_ltl (t_nle h8) l6 rfl
      refine ev_ic f_X12_isShip (nx := 15) (v := 1) rfl (by decide) rfl ?_
      refine ev_jmp f_X12_isShip (nx := 19) rfl rfl rfl ?_
      refine ev_retK1 f_X12_isShip rfl rfl rfl ?_
      refine ev_f f_X12_later (t1 := 20) (t2 := 8) rfl rfl rfl (by decide) ?_
      refine ev_loc f_X12_later (nx := 9) rfl rfl rfl rfl ?_
      refine ev_anyLE f_X12_later (nx := 10) rfl rfl rfl rfl (fun z14 e14 => ?_)
      have i14 : z14.toInt = ar2.toInt := by rw [e14]; exact Int32.toInt_toInt64 _
      refine ev_lc f_X12_later (nx := 11) (v := 0) rfl (by decide) rfl ?_
      refine ev_ldL f_X12_later (nx := 14) (v := 60) rfl (by decide) rfl ?_
      refine ev_inS3 f_X12_later (nx := 17) (lo2 := [(0, .long z14), (2, .long 0), (4, .long 60)]) rfl rfl rfl rfl f_X12_isFrom rfl rfl rfl rfl ?_
      refine ev_loc f_X12_isFrom (nx := 1) rfl rfl rfl rfl ?_
      refine ev_loc f_X12_isFrom (nx := 2) rfl rfl rfl rfl ?_
      refine ev_anyIE f_X12_isFrom (nx := 3) rfl rfl rfl rfl (fun z15 e15 => ?_)
      refine ev_if f_X12_isFrom (t1 := 17) (t2 := 6) rfl rfl rfl (fun h16 => ?_) (fun h16 => ?_)
      · have u17 : ar2.toInt ≤ ((-1):Int) := Int.le_sub_one_of_lt ((lgc_lt (by decide : (0 : Int64).toInt = 0)).mp (by have hh := h16; rw [e15, e14] at hh; exact hh))
        have u18 : z15.toInt ≤ (-1) := t_ltu h16 (by decide : (0:Int32).toInt ≤ (0:Int)) rfl
        refine ev_ic f_X12_isFrom (nx := 18) (v := 0) rfl (by decide) rfl ?_
        refine ev_retK1 f_X12_isFrom rfl rfl rfl ?_
        refine ev_t f_X12_later (t1 := 20) (t2 := 26) rfl rfl rfl (by decide) ?_
        refine ev_loc f_X12_later (nx := 21) rfl rfl rfl rfl ?_
        refine ev_ic f_X12_later (nx := 22) (v := 1) rfl (by decide) rfl ?_
        refine ev_inV2 f_X12_later (nx := 25) (lo2 := [(0, .ref 69), (1, .int 1)]) rfl rfl rfl rfl f_X12_refuse (hI.wf.s rfl) rfl rfl rfl rfl rfl ?_
        refine ev_loc f_X12_refuse (nx := 1) rfl rfl rfl rfl ?_
        refine ev_loc f_X12_refuse (nx := 2) rfl rfl rfl rfl ?_
        refine ev_putIT f_X12_refuse (nx := 5) rfl (hI.wf.s rfl) rfl rfl rfl (hI.put0 (hI.wf.s rfl) rfl rfl) (hX.upI rfl) (fun g19 e19 hI hX => ?_)
        refine ev_ic f_X12_refuse (nx := 6) (v := -1) rfl (by decide) rfl ?_
        refine ev_retK1 f_X12_refuse rfl rfl rfl ?_
        exact ev_ret f_X12_later rfl rfl rfl ⟨_, _, _, rfl, hI, hX, ⟨_, rfl, (Int.le_trans (by decide : ((-2147483648):Int) ≤ (-1)) (by decide : ((-1):Int) ≤ ((-1):Int32).toInt)), (Int.le_trans (by decide : ((-1):Int32).toInt ≤ ((-1):Int)) (by decide : ((-1):Int) ≤ 999999999)), (show ∀ D : s_D, t_ME 0 gi D → t_Cb D → s_DB D → (gi 69 46).toInt = -1 → ((0 ≤ ar1.toInt ∧ ar1.toInt < D 1 ∧ 0 ≤ ar2.toInt ∧ ar2.toInt ≤ 60) → ((-1) : Int) = s_an (s_LS (s_PX D (D 4) (s_Al (s_A D) ar1.toInt ar2.toInt) 0 (-1)) 0 0 0 0)) ∧ (¬ (0 ≤ ar1.toInt ∧ ar1.toInt < D 1 ∧ 0 ≤ ar2.toInt ∧ ar2.toInt ≤ 60) → ((-1) : Int) = -1) from (by
                                                            intro D hm hb hd h46
                                                            have ha : (gi 70 1).toInt = D 1 := hm.1.1.2.1
                                                            exact ⟨fun h => absurd h (by omega), fun _ => rfl⟩))⟩⟩
      · have l20 : (0:Int) ≤ ar2.toInt := (lgc_ge (by decide : (0 : Int64).toInt = 0)).mp (by have hh := (t_nlt h16); rw [e15, e14] at hh; exact hh)
        have l21 : 0 ≤ z15.toInt := t_lel (t_nlt h16) (by decide : (0:Int) ≤ (0:Int32).toInt)
        refine ev_loc f_X12_isFrom (nx := 7) rfl rfl rfl rfl ?_
        refine ev_loc f_X12_isFrom (nx := 9) rfl rfl rfl rfl ?_
        refine ev_anyIE f_X12_isFrom (nx := 10) rfl rfl rfl rfl (fun z22 e22 => ?_)
        refine ev_if f_X12_isFrom (t1 := 17) (t2 := 13) rfl rfl rfl (fun h23 => ?_) (fun h23 => ?_)
        · have l24 : (61:Int) ≤ ar2.toInt := Int.add_one_le_of_lt ((lgc_gt (by decide : (60 : Int64).toInt = 60)).mp (by have hh := h23; rw [e22, e14] at hh; exact hh))
          have l25 : 1 ≤ z22.toInt := t_ltl h23 (by decide : (0:Int) ≤ (0:Int32).toInt) rfl
          refine ev_ic f_X12_isFrom (nx := 18) (v := 0) rfl (by decide) rfl ?_
          refine ev_retK1 f_X12_isFrom rfl rfl rfl ?_
          refine ev_t f_X12_later (t1 := 20) (t2 := 26) rfl rfl rfl (by decide) ?_
          refine ev_loc f_X12_later (nx := 21) rfl rfl rfl rfl ?_
          refine ev_ic f_X12_later (nx := 22) (v := 1) rfl (by decide) rfl ?_
          refine ev_inV2 f_X12_later (nx := 25) (lo2 := [(0, .ref 69), (1, .int 1)]) rfl rfl rfl rfl f_X12_refuse (hI.wf.s rfl) rfl rfl rfl rfl rfl ?_
          refine ev_loc f_X12_refuse (nx := 1) rfl rfl rfl rfl ?_
          refine ev_loc f_X12_refuse (nx := 2) rfl rfl rfl rfl ?_
          refine ev_putIT f_X12_refuse (nx := 5) rfl (hI.wf.s rfl) rfl rfl rfl (hI.put0 (hI.wf.s rfl) rfl rfl) (hX.upI rfl) (fun g26 e26 hI hX => ?_)
          refine ev_ic f_X12_refuse (nx := 6) (v := -1) rfl (by decide) rfl ?_
          refine ev_retK1 f_X12_refuse rfl rfl rfl ?_
          exact ev_ret f_X12_later rfl rfl rfl ⟨_, _, _, rfl, hI, hX, ⟨_, rfl, (Int.le_trans (by decide : ((-2147483648):Int) ≤ (-1)) (by decide : ((-1):Int) ≤ ((-1):Int32).toInt)), (Int.le_trans (by decide : ((-1):Int32).toInt ≤ ((-1):Int)) (by decide : ((-1):Int) ≤ 999999999)), (show ∀ D : s_D, t_ME 0 gi D → t_Cb D → s_DB D → (gi 69 46).toInt = -1 → ((0 ≤ ar1.toInt ∧ ar1.toInt < D 1 ∧ 0 ≤ ar2.toInt ∧ ar2.toInt ≤ 60) → ((-1) : Int) = s_an (s_LS (s_PX D (D 4) (s_Al (s_A D) ar1.toInt ar2.toInt) 0 (-1)) 0 0 0 0)) ∧ (¬ (0 ≤ ar1.toInt ∧ ar1.toInt < D 1 ∧ 0 ≤ ar2.toInt ∧ ar2.toInt ≤ 60) → ((-1) : Int) = -1) from (by
                                                            intro D hm hb hd h46
                                                            have ha : (gi 70 1).toInt = D 1 := hm.1.1.2.1
                                                            exact ⟨fun h => absurd h (by omega), fun _ => rfl⟩))⟩⟩
        · have u27 : ar2.toInt ≤ (60:Int) := (lgc_le (by decide : (60 : Int64).toInt = 60)).mp (by have hh := (t_nlt h23); rw [e22, e14] at hh; exact hh)
          have u28 : z22.toInt ≤ 0 := t_leu (t_nlt h23) (by decide : (0:Int32).toInt ≤ (0:Int))
          refine ev_ic f_X12_isFrom (nx := 14) (v := 1) rfl (by decide) rfl ?_
          refine ev_jmp f_X12_isFrom (nx := 18) rfl rfl rfl ?_
          refine ev_retK1 f_X12_isFrom rfl rfl rfl ?_
          refine ev_f f_X12_later (t1 := 20) (t2 := 26) rfl rfl rfl (by decide) ?_
          refine ev_loc f_X12_later (nx := 27) rfl rfl rfl rfl ?_
          refine ev_loc f_X12_later (nx := 28) rfl rfl rfl rfl ?_
          refine ev_loc f_X12_later (nx := 29) rfl rfl rfl rfl ?_
          refine ev_loc f_X12_later (nx := 30) rfl rfl rfl rfl ?_
          refine ev_qI f_X12_later (nx := 33) (r := [.ref 69]) rfl rfl rfl rfl rfl rfl rfl (c_n_laterBy hI (ar1) l6 u12 (ar2) l20 u27 (by omega)) rfl hX rfl (fun w29 gi29 gl29 gr29 l29 u29 hI hX hC29 q29 => ?_)
          have q29 : ∀ D : s_D, t_ME 0 gi D → t_Cb D → s_DB D → (gi 69 46).toInt = -1 → ar1.toInt < D 1 → w29.toInt = s_an (s_LS (s_PX D (D 4) (s_Al (s_A D) ar1.toInt ar2.toInt) 0 (-1)) 0 0 0 0) := q29
          refine ev_inV2 f_X12_later (nx := 36) (lo2 := [(0, .ref 69), (1, .int w29)]) rfl rfl rfl rfl f_X12_orNone (hI.wf.s rfl) rfl rfl rfl rfl rfl ?_
          refine ev_loc f_X12_orNone (nx := 1) rfl rfl rfl rfl ?_
          refine ev_ic f_X12_orNone (nx := 2) (v := -1) rfl (by decide) rfl ?_
          refine ev_if f_X12_orNone (t1 := 5) (t2 := 14) rfl rfl rfl (fun h30 => ?_) (fun h30 => ?_)
          · have u31 : w29.toInt ≤ (-1) := t_equ h30 (by decide : ((-1):Int32).toInt ≤ ((-1):Int))
            have l32 : (-1) ≤ w29.toInt := t_eql h30 (by decide : ((-1):Int) ≤ ((-1):Int32).toInt)
            refine ev_loc f_X12_orNone (nx := 6) rfl rfl rfl rfl ?_
            refine ev_bp f_X12_orNone (nx := 8) (v := 6) rfl (by decide) rfl ?_
            refine ev_inV2 f_X12_orNone (nx := 11) (lo2 := [(0, .ref 69), (1, .int 6)]) rfl rfl rfl rfl f_X12_refuse (hI.wf.s rfl) rfl rfl rfl rfl rfl ?_
            refine ev_loc f_X12_refuse (nx := 1) rfl rfl rfl rfl ?_
            refine ev_loc f_X12_refuse (nx := 2) rfl rfl rfl rfl ?_
            refine ev_putIT f_X12_refuse (nx := 5) rfl (hI.wf.s rfl) rfl rfl rfl (hI.put0 (hI.wf.s rfl) rfl rfl) (hX.upI rfl) (fun g33 e33 hI hX => ?_)
            refine ev_ic f_X12_refuse (nx := 6) (v := -1) rfl (by decide) rfl ?_
            refine ev_retK1 f_X12_refuse rfl rfl rfl ?_
            refine ev_jmp f_X12_orNone (nx := 19) rfl rfl rfl ?_
            refine ev_retK1 f_X12_orNone rfl rfl rfl ?_
            exact ev_ret f_X12_later rfl rfl rfl ⟨_, _, _, rfl, hI, hX, ⟨_, rfl, (Int.le_trans (by decide : ((-2147483648):Int) ≤ (-1)) (by decide : ((-1):Int) ≤ ((-1):Int32).toInt)), (Int.le_trans (by decide : ((-1):Int32).toInt ≤ ((-1):Int)) (by decide : ((-1):Int) ≤ 999999999)), (show ∀ D : s_D, t_ME 0 gi D → t_Cb D → s_DB D → (gi 69 46).toInt = -1 → ((0 ≤ ar1.toInt ∧ ar1.toInt < D 1 ∧ 0 ≤ ar2.toInt ∧ ar2.toInt ≤ 60) → ((-1) : Int) = s_an (s_LS (s_PX D (D 4) (s_Al (s_A D) ar1.toInt ar2.toInt) 0 (-1)) 0 0 0 0)) ∧ (¬ (0 ≤ ar1.toInt ∧ ar1.toInt < D 1 ∧ 0 ≤ ar2.toInt ∧ ar2.toInt ≤ 60) → ((-1) : Int) = -1) from (by
                                                            intro D hm hb hd h46
                                                            have ha : (gi 70 1).toInt = D 1 := hm.1.1.2.1
                                                            have hq := q29 D hm hb hd h46 (by omega)
                                                            exact ⟨fun h => (by omega), fun h => absurd (show _ from ⟨by omega, by omega, by omega, by omega⟩) h⟩))⟩⟩
          · have r34 : w29.toInt ≠ (-1) := fun e => h30 (Int32.toInt_inj.mp (e.trans (by decide : ((-1):Int) = ((-1) : Int32).toInt)))
            refine ev_loc f_X12_orNone (nx := 15) rfl rfl rfl rfl ?_
            refine ev_loc f_X12_orNone (nx := 16) rfl rfl rfl rfl ?_
            refine ev_inV2 f_X12_orNone (nx := 19) (lo2 := [(0, .ref 69), (1, .int w29)]) rfl rfl rfl rfl f_X12_gives (hI.wf.s rfl) rfl rfl rfl rfl rfl ?_
            refine ev_loc f_X12_gives (nx := 1) rfl rfl rfl rfl ?_
            refine ev_ic f_X12_gives (nx := 2) (v := 0) rfl (by decide) rfl ?_
            refine ev_putIT f_X12_gives (nx := 5) rfl (hI.wf.s rfl) rfl rfl rfl (hI.put0 (hI.wf.s rfl) rfl rfl) (hX.upI rfl) (fun g35 e35 hI hX => ?_)
            refine ev_loc f_X12_gives (nx := 6) rfl rfl rfl rfl ?_
            refine ev_retK1 f_X12_gives rfl rfl rfl ?_
            refine ev_retK1 f_X12_orNone rfl rfl rfl ?_
            exact ev_ret f_X12_later rfl rfl rfl ⟨_, _, _, rfl, hI, hX, ⟨_, rfl, l29, u29, (show ∀ D : s_D, t_ME 0 gi D → t_Cb D → s_DB D → (gi 69 46).toInt = -1 → ((0 ≤ ar1.toInt ∧ ar1.toInt < D 1 ∧ 0 ≤ ar2.toInt ∧ ar2.toInt ≤ 60) → w29.toInt = s_an (s_LS (s_PX D (D 4) (s_Al (s_A D) ar1.toInt ar2.toInt) 0 (-1)) 0 0 0 0)) ∧ (¬ (0 ≤ ar1.toInt ∧ ar1.toInt < D 1 ∧ 0 ≤ ar2.toInt ∧ ar2.toInt ≤ 60) → w29.toInt = -1) from (by
                                                            intro D hm hb hd h46
                                                            have ha : (gi 70 1).toInt = D 1 := hm.1.1.2.1
                                                            have hq := q29 D hm hb hd h46 (by omega)
                                                            exact ⟨fun h => (by omega), fun h => absurd (show _ from ⟨by omega, by omega, by omega, by omega⟩) h⟩))⟩⟩
noncomputable def wl_e_without : List (Nat × Nat) := [(69, 2), (69, 44), (69, 45), (69, 46), (69, 48), (89, 10005), (89, 610011), (90, 9999), (91, 9999), (92, 9999)]
noncomputable def Q_e_without (gi : Nat → Nat → Int32) (gl : Nat → Nat → Int64) (gr : Nat → Nat → Value) (ar1 : Int32) : Int32 → (Nat → Nat → Int32) → (Nat → Nat → Int64) → (Nat → Nat → Value) → Prop := fun (v : Int32) (gi2 : Nat → Nat → Int32) (gl2 : Nat → Nat → Int64) (gr2 : Nat → Nat → Value) => ((gi 69 46).toInt = -1 → (gi2 69 46).toInt = -1) ∧ (∀ D : s_D, t_ME 0 gi D → t_Cb D → s_DB D → ((0 ≤ ar1.toInt ∧ ar1.toInt < D 2) → v.toInt = s_an (s_LS (s_PX D (D 4) (s_A D) 0 ar1.toInt) 0 0 0 0)) ∧ (¬ (0 ≤ ar1.toInt ∧ ar1.toInt < D 2) → v.toInt = -1))
theorem c_e_without {X : x_Ext} {d : Nat} {sh : List (Nat ⊕ (Nat × Nat))} {gi : Nat → Nat → Int32} {gl : Nat → Nat → Int64} {gr : Nat → Nat → Value} (hI : t_I sh gi gr) (ar1 : Int32) (e_p0 : 1 ≤ (gi 70 4).toInt) : x_Me X (d + 6) n_X12_without [.ref 69, .int ar1] (sh, gi, gl, gr) (t_PI wl_e_without sh gi gl gr (-2147483648) 999999999 (Q_e_without gi gl gr ar1)) := by
  have hX : t_X wl_e_without sh gi gl gr gi gl gr := t_X.rf
  refine me_i f_X12_without (hI.wf.s rfl) rfl rfl rfl ?_
  obtain ⟨l2, u2⟩ := hI.ab (by decide +kernel : t_abr 70 4 4 0 20 = true) (Nat.le_refl _) (Nat.le_refl _)
  refine ev_loc f_X12_without (nx := 1) rfl rfl rfl rfl ?_
  refine ev_loc f_X12_without (nx := 2) rfl rfl rfl rfl ?_
  refine ev_inV2 f_X12_without (nx := 5) (lo2 := [(0, .ref 69), (1, .int ar1)]) rfl rfl rfl rfl f_X12_isCart (hI.wf.s rfl) rfl rfl rfl rfl rfl ?_
  refine ev_loc f_X12_isCart (nx := 1) rfl rfl rfl rfl ?_
  refine ev_if f_X12_isCart (t1 := 18) (t2 := 4) rfl rfl rfl (fun h3 => ?_) (fun h3 => ?_)
  · have u4 : ar1.toInt ≤ (-1) := t_ltu h3 (by decide : (0:Int32).toInt ≤ (0:Int)) rfl
    refine ev_ic f_X12_isCart (nx := 19) (v := 0) rfl (by decide) rfl ?_
    refine ev_retK1 f_X12_isCart rfl rfl rfl ?_
    refine ev_t f_X12_without (t1 := 8) (t2 := 14) rfl rfl rfl (by decide) ?_
    refine ev_loc f_X12_without (nx := 9) rfl rfl rfl rfl ?_
    refine ev_ic f_X12_without (nx := 10) (v := 1) rfl (by decide) rfl ?_
    refine ev_inV2 f_X12_without (nx := 13) (lo2 := [(0, .ref 69), (1, .int 1)]) rfl rfl rfl rfl f_X12_refuse (hI.wf.s rfl) rfl rfl rfl rfl rfl ?_
    refine ev_loc f_X12_refuse (nx := 1) rfl rfl rfl rfl ?_
    refine ev_loc f_X12_refuse (nx := 2) rfl rfl rfl rfl ?_
    refine ev_putIT f_X12_refuse (nx := 5) rfl (hI.wf.s rfl) rfl rfl rfl (hI.put0 (hI.wf.s rfl) rfl rfl) (hX.upI rfl) (fun g5 e5 hI hX => ?_)
    refine ev_ic f_X12_refuse (nx := 6) (v := -1) rfl (by decide) rfl ?_
    refine ev_retK1 f_X12_refuse rfl rfl rfl ?_
    exact ev_ret f_X12_without rfl rfl rfl ⟨_, _, _, rfl, hI, hX, ⟨_, rfl, (Int.le_trans (by decide : ((-2147483648):Int) ≤ (-1)) (by decide : ((-1):Int) ≤ ((-1):Int32).toInt)), (Int.le_trans (by decide : ((-1):Int32).toInt ≤ ((-1):Int)) (by decide : ((-1):Int) ≤ 999999999)), (show ((gi 69 46).toInt = -1 → (g5 69 46).toInt = -1) ∧ (∀ D : s_D, t_ME 0 gi D → t_Cb D → s_DB D → ((0 ≤ ar1.toInt ∧ ar1.toInt < D 2) → ((-1) : Int) = s_an (s_LS (s_PX D (D 4) (s_A D) 0 ar1.toInt) 0 0 0 0)) ∧ (¬ (0 ≤ ar1.toInt ∧ ar1.toInt < D 2) → ((-1) : Int) = -1)) from ⟨(by
                                                            intro h46
                                                            have e46 : g5 69 46 = gi 69 46 := by rw [e5, x_up2_off (Or.inr (by decide))]
                                                            rw [e46]; exact h46), (by
                                                            intro D hm hb hd
                                                            have ha : (gi 70 2).toInt = D 2 := hm.1.1.2.2
                                                            exact ⟨fun h => absurd h (by omega), fun _ => rfl⟩)⟩)⟩⟩
  · have l6 : 0 ≤ ar1.toInt := t_lel (t_nlt h3) (by decide : (0:Int) ≤ (0:Int32).toInt)
    refine ev_loc f_X12_isCart (nx := 5) rfl rfl rfl rfl ?_
    refine ev_loc f_X12_isCart (nx := 6) rfl rfl rfl rfl ?_
    refine ev_getR f_X12_isCart (nx := 9) rfl (hI.wf.s rfl) rfl rfl (hI.wf.r rfl) rfl rfl ?_
    refine ev_ic f_X12_isCart (nx := 10) (v := 2) rfl (by decide) rfl ?_
    obtain ⟨l7, u7⟩ := hI.ab (by decide +kernel : t_abr 70 2 2 0 6 = true) (Nat.le_refl _) (Nat.le_refl _)
    refine ev_ialdv f_X12_isCart (nx := 11) (w := (gi 70 2)) rfl (hI.wf.s rfl) (by decide) (rfl : (2 : Int32).toNatClampNeg = 2) (by decide) rfl rfl ?_
    refine ev_if f_X12_isCart (t1 := 18) (t2 := 14) rfl rfl rfl (fun h8 => ?_) (fun h8 => ?_)
    · have r9 : (gi 70 2).toInt ≤ ar1.toInt := Int32.le_iff_toInt_le.mp h8
      refine ev_ic f_X12_isCart (nx := 19) (v := 0) rfl (by decide) rfl ?_
      refine ev_retK1 f_X12_isCart rfl rfl rfl ?_
      refine ev_t f_X12_without (t1 := 8) (t2 := 14) rfl rfl rfl (by decide) ?_
      refine ev_loc f_X12_without (nx := 9) rfl rfl rfl rfl ?_
      refine ev_ic f_X12_without (nx := 10) (v := 1) rfl (by decide) rfl ?_
      refine ev_inV2 f_X12_without (nx := 13) (lo2 := [(0, .ref 69), (1, .int 1)]) rfl rfl rfl rfl f_X12_refuse (hI.wf.s rfl) rfl rfl rfl rfl rfl ?_
      refine ev_loc f_X12_refuse (nx := 1) rfl rfl rfl rfl ?_
      refine ev_loc f_X12_refuse (nx := 2) rfl rfl rfl rfl ?_
      refine ev_putIT f_X12_refuse (nx := 5) rfl (hI.wf.s rfl) rfl rfl rfl (hI.put0 (hI.wf.s rfl) rfl rfl) (hX.upI rfl) (fun g10 e10 hI hX => ?_)
      refine ev_ic f_X12_refuse (nx := 6) (v := -1) rfl (by decide) rfl ?_
      refine ev_retK1 f_X12_refuse rfl rfl rfl ?_
      exact ev_ret f_X12_without rfl rfl rfl ⟨_, _, _, rfl, hI, hX, ⟨_, rfl, (Int.le_trans (by decide : ((-2147483648):Int) ≤ (-1)) (by decide : ((-1):Int) ≤ ((-1):Int32).toInt)), (Int.le_trans (by decide : ((-1):Int32).toInt ≤ ((-1):Int)) (by decide : ((-1):Int) ≤ 999999999)), (show ((gi 69 46).toInt = -1 → (g10 69 46).toInt = -1) ∧ (∀ D : s_D, t_ME 0 gi D → t_Cb D → s_DB D → ((0 ≤ ar1.toInt ∧ ar1.toInt < D 2) → ((-1) : Int) = s_an (s_LS (s_PX D (D 4) (s_A D) 0 ar1.toInt) 0 0 0 0)) ∧ (¬ (0 ≤ ar1.toInt ∧ ar1.toInt < D 2) → ((-1) : Int) = -1)) from ⟨(by
                                                            intro h46
                                                            have e46 : g10 69 46 = gi 69 46 := by rw [e10, x_up2_off (Or.inr (by decide))]
                                                            rw [e46]; exact h46), (by
                                                            intro D hm hb hd
                                                            have ha : (gi 70 2).toInt = D 2 := hm.1.1.2.2
                                                            exact ⟨fun h => absurd h (by omega), fun _ => rfl⟩)⟩)⟩⟩
    · have r11 : ar1.toInt < (gi 70 2).toInt := Int32.lt_iff_toInt_lt.mp (t_nle h8)
      have u12 : ar1.toInt ≤ 5 := t_ltu (t_nle h8) u7 rfl
      have l13 : 1 ≤ (gi 70 2).toInt := t_ltl (t_nle h8) l6 rfl
      refine ev_ic f_X12_isCart (nx := 15) (v := 1) rfl (by decide) rfl ?_
      refine ev_jmp f_X12_isCart (nx := 19) rfl rfl rfl ?_
      refine ev_retK1 f_X12_isCart rfl rfl rfl ?_
      refine ev_f f_X12_without (t1 := 8) (t2 := 14) rfl rfl rfl (by decide) ?_
      refine ev_loc f_X12_without (nx := 15) rfl rfl rfl rfl ?_
      refine ev_loc f_X12_without (nx := 16) rfl rfl rfl rfl ?_
      refine ev_putIT f_X12_without (nx := 19) rfl (hI.wf.s rfl) rfl rfl rfl (hI.put0 (hI.wf.s rfl) rfl rfl) (hX.upI rfl) (fun g14 e14 hI hX => ?_)
      refine ev_loc f_X12_without (nx := 20) rfl rfl rfl rfl ?_
      refine ev_ic f_X12_without (nx := 21) (v := 0) rfl (by decide) rfl ?_
      refine ev_loc f_X12_without (nx := 22) rfl rfl rfl rfl ?_
      refine ev_getR f_X12_without (nx := 25) rfl (hI.wf.s rfl) rfl rfl (hI.wf.r rfl) rfl rfl ?_
      refine ev_ic f_X12_without (nx := 26) (v := 4) rfl (by decide) rfl ?_
      refine ev_ialdv f_X12_without (nx := 27) (w := (gi 70 4)) rfl (hI.wf.s rfl) (by decide) (rfl : (4 : Int32).toNatClampNeg = 4) (by decide) ((by rw [e14]; exact x_up2_off (Or.inr (by decide)) : g14 70 4 = gi 70 4).trans rfl) rfl ?_
      refine ev_qI f_X12_without (nx := 30) (r := []) rfl rfl rfl rfl rfl rfl rfl (c_n_leastByG hI (0) ((gi 70 4)) l2 u2 (by omega)) rfl hX rfl (fun w16 gi16 gl16 gr16 l16 u16 hI hX hC16 q16 => ?_)
      have ff17 : (g14 69 46).toInt = ar1.toInt := congrArg Int32.toInt (by rw [e14]; exact x_up2_at _ _ _ _ : g14 69 46 = ar1)
      have q16 : ∀ D : s_D, t_ME 0 g14 D → t_Cb D → s_DB D → w16.toInt = s_an (s_LS (s_PX D (gi 70 4).toInt (s_A D) (0 : Int32) (g14 69 46).toInt) 0 0 0 0) := q16
      refine ev_loc f_X12_without (nx := 31) (lo' := [(2, .int w16), (0, .ref 69), (1, .int ar1)]) rfl rfl rfl rfl ?_
      refine ev_loc f_X12_without (nx := 32) rfl rfl rfl rfl ?_
      refine ev_ic f_X12_without (nx := 33) (v := -1) rfl (by decide) rfl ?_
      refine ev_putIT f_X12_without (nx := 36) rfl (hI.wf.s rfl) rfl rfl rfl (hI.put0 (hI.wf.s rfl) rfl rfl) (hX.upI rfl) (fun g18 e18 hI hX => ?_)
      refine ev_loc f_X12_without (nx := 37) rfl rfl rfl rfl ?_
      refine ev_loc f_X12_without (nx := 38) rfl rfl rfl rfl ?_
      refine ev_inV2 f_X12_without (nx := 41) (lo2 := [(0, .ref 69), (1, .int w16)]) rfl rfl rfl rfl f_X12_orNone (hI.wf.s rfl) rfl rfl rfl rfl rfl ?_
      refine ev_loc f_X12_orNone (nx := 1) rfl rfl rfl rfl ?_
      refine ev_ic f_X12_orNone (nx := 2) (v := -1) rfl (by decide) rfl ?_
      refine ev_if f_X12_orNone (t1 := 5) (t2 := 14) rfl rfl rfl (fun h19 => ?_) (fun h19 => ?_)
      · have u20 : w16.toInt ≤ (-1) := t_equ h19 (by decide : ((-1):Int32).toInt ≤ ((-1):Int))
        have l21 : (-1) ≤ w16.toInt := t_eql h19 (by decide : ((-1):Int) ≤ ((-1):Int32).toInt)
        refine ev_loc f_X12_orNone (nx := 6) rfl rfl rfl rfl ?_
        refine ev_bp f_X12_orNone (nx := 8) (v := 6) rfl (by decide) rfl ?_
        refine ev_inV2 f_X12_orNone (nx := 11) (lo2 := [(0, .ref 69), (1, .int 6)]) rfl rfl rfl rfl f_X12_refuse (hI.wf.s rfl) rfl rfl rfl rfl rfl ?_
        refine ev_loc f_X12_refuse (nx := 1) rfl rfl rfl rfl ?_
        refine ev_loc f_X12_refuse (nx := 2) rfl rfl rfl rfl ?_
        refine ev_putIT f_X12_refuse (nx := 5) rfl (hI.wf.s rfl) rfl rfl rfl (hI.put0 (hI.wf.s rfl) rfl rfl) (hX.upI rfl) (fun g22 e22 hI hX => ?_)
        refine ev_ic f_X12_refuse (nx := 6) (v := -1) rfl (by decide) rfl ?_
        refine ev_retK1 f_X12_refuse rfl rfl rfl ?_
        refine ev_jmp f_X12_orNone (nx := 19) rfl rfl rfl ?_
        refine ev_retK1 f_X12_orNone rfl rfl rfl ?_
        exact ev_ret f_X12_without rfl rfl rfl ⟨_, _, _, rfl, hI, hX, ⟨_, rfl, (Int.le_trans (by decide : ((-2147483648):Int) ≤ (-1)) (by decide : ((-1):Int) ≤ ((-1):Int32).toInt)), (Int.le_trans (by decide : ((-1):Int32).toInt ≤ ((-1):Int)) (by decide : ((-1):Int) ≤ 999999999)), (show ((gi 69 46).toInt = -1 → (g22 69 46).toInt = -1) ∧ (∀ D : s_D, t_ME 0 gi D → t_Cb D → s_DB D → ((0 ≤ ar1.toInt ∧ ar1.toInt < D 2) → ((-1) : Int) = s_an (s_LS (s_PX D (D 4) (s_A D) 0 ar1.toInt) 0 0 0 0)) ∧ (¬ (0 ≤ ar1.toInt ∧ ar1.toInt < D 2) → ((-1) : Int) = -1)) from ⟨(by
                                                            intro _
                                                            rw [e22, x_up2_off (Or.inr (by decide)), e18, x_up2_at]; rfl), (by
                                                            intro D hm hb hd
                                                            have ha : (gi 70 2).toInt = D 2 := hm.1.1.2.2
                                                            have hm1 : t_ME 0 g14 D := hm.mv hb (fun j _ _ _ => by rw [e14, x_up2_off (Or.inl (by decide))])
                                                            have hq := q16 D hm1 hb hd
                                                            have h4 : (gi 70 4).toInt = D 4 := hm.1.2.1
                                                            have h46 : (g14 69 46).toInt = ar1.toInt := by rw [e14, x_up2_at]
                                                            rw [h4, h46] at hq
                                                            exact ⟨fun h => (by omega), fun h => absurd (show _ from ⟨by omega, by omega⟩) h⟩)⟩)⟩⟩
      · have r23 : w16.toInt ≠ (-1) := fun e => h19 (Int32.toInt_inj.mp (e.trans (by decide : ((-1):Int) = ((-1) : Int32).toInt)))
        refine ev_loc f_X12_orNone (nx := 15) rfl rfl rfl rfl ?_
        refine ev_loc f_X12_orNone (nx := 16) rfl rfl rfl rfl ?_
        refine ev_inV2 f_X12_orNone (nx := 19) (lo2 := [(0, .ref 69), (1, .int w16)]) rfl rfl rfl rfl f_X12_gives (hI.wf.s rfl) rfl rfl rfl rfl rfl ?_
        refine ev_loc f_X12_gives (nx := 1) rfl rfl rfl rfl ?_
        refine ev_ic f_X12_gives (nx := 2) (v := 0) rfl (by decide) rfl ?_
        refine ev_putIT f_X12_gives (nx := 5) rfl (hI.wf.s rfl) rfl rfl rfl (hI.put0 (hI.wf.s rfl) rfl rfl) (hX.upI rfl) (fun g24 e24 hI hX => ?_)
        refine ev_loc f_X12_gives (nx := 6) rfl rfl rfl rfl ?_
        refine ev_retK1 f_X12_gives rfl rfl rfl ?_
        refine ev_retK1 f_X12_orNone rfl rfl rfl ?_
        exact ev_ret f_X12_without rfl rfl rfl ⟨_, _, _, rfl, hI, hX, ⟨_, rfl, l16, u16, (show ((gi 69 46).toInt = -1 → (g24 69 46).toInt = -1) ∧ (∀ D : s_D, t_ME 0 gi D → t_Cb D → s_DB D → ((0 ≤ ar1.toInt ∧ ar1.toInt < D 2) → w16.toInt = s_an (s_LS (s_PX D (D 4) (s_A D) 0 ar1.toInt) 0 0 0 0)) ∧ (¬ (0 ≤ ar1.toInt ∧ ar1.toInt < D 2) → w16.toInt = -1)) from ⟨(by
                                                            intro _
                                                            rw [e24, x_up2_off (Or.inr (by decide)), e18, x_up2_at]; rfl), (by
                                                            intro D hm hb hd
                                                            have ha : (gi 70 2).toInt = D 2 := hm.1.1.2.2
                                                            have hm1 : t_ME 0 g14 D := hm.mv hb (fun j _ _ _ => by rw [e14, x_up2_off (Or.inl (by decide))])
                                                            have hq := q16 D hm1 hb hd
                                                            have h4 : (gi 70 4).toInt = D 4 := hm.1.2.1
                                                            have h46 : (g14 69 46).toInt = ar1.toInt := by rw [e14, x_up2_at]
                                                            rw [h4, h46] at hq
                                                            exact ⟨fun h => (by omega), fun h => absurd (show _ from ⟨by omega, by omega⟩) h⟩)⟩)⟩⟩
/-! ===== later, without: the answers are alike ===== -/
section LATL
variable {sh : List (Nat ⊕ (Nat × Nat))} {gi g1 g2 : Nat → Nat → Int32} {gl l1 l2 : Nat → Nat → Int64} {gr r1 r2 : Nat → Nat → Value} {w1 : List (Nat × Nat)} {A A2 : Int32} {x1 x2 : Int32}
theorem t_L_later (hI : t_I sh gi gr) (hD : t_DR sh.length gi gl gr) (f1 : t_F w1 gi gl gr g1 l1 r1) (h70 : t_nc w1 70 = true) (hN1 : (g1 69 46).toInt = -1) (h4 : 1 ≤ (g1 70 4).toInt) (q1 : Q_d_later gi gl gr A A2 x1 g1 l1 r1) (q2 : Q_e_later g1 l1 r1 A A2 x2 g2 l2 r2) : x1 = x2 := by
  obtain ⟨u, hu, D, hb, hv, hl, hc, hm⟩ := hD.1
  have r70 : g1 70 = gi 70 := t_F_nc f1 h70 (by decide)
  have hm2 : t_ME 0 g1 D := by unfold t_ME; rw [r70]; exact hm
  have hd : s_DB D := s_DB_of hI hm hb (by rw [← r70]; exact h4)
  have k1 := q1 u D hu hl hc hb hv.1 (t_D_sail hI hb hm) hd
  have k2 := q2 D hm2 hb hd hN1
  apply Int32.toInt_inj.mp
  by_cases hin : 0 ≤ A.toInt ∧ A.toInt < D 1 ∧ 0 ≤ A2.toInt ∧ A2.toInt ≤ 60
  · rw [k1.1 hin, k2.1 hin]
  · rw [k1.2 hin, k2.2 hin]
theorem t_L_without (hI : t_I sh gi gr) (hD : t_DR sh.length gi gl gr) (f1 : t_F w1 gi gl gr g1 l1 r1) (h70 : t_nc w1 70 = true) (h4 : 1 ≤ (g1 70 4).toInt) (q1 : Q_d_without gi gl gr A x1 g1 l1 r1) (q2 : Q_e_without g1 l1 r1 A x2 g2 l2 r2) : x1 = x2 := by
  obtain ⟨u, hu, D, hb, hv, hl, hc, hm⟩ := hD.1
  have r70 : g1 70 = gi 70 := t_F_nc f1 h70 (by decide)
  have hm2 : t_ME 0 g1 D := by unfold t_ME; rw [r70]; exact hm
  have hd : s_DB D := s_DB_of hI hm hb (by rw [← r70]; exact h4)
  have k1 := q1 u D hu hl hc hb hv.1 (t_D_sail hI hb hm) hd
  have k2 := q2.2 D hm2 hb hd
  apply Int32.toInt_inj.mp
  by_cases hin : 0 ≤ A.toInt ∧ A.toInt < D 2
  · rw [k1.1 hin, k2.1 hin]
  · rw [k1.2 hin, k2.2 hin]
end LATL
