/-! ===== printed by riv.py: the steps of the other side ===== -/
noncomputable def wl_o_aCase : List (Nat × Nat) := [(69, 12), (69, 13), (69, 14), (69, 15), (69, 17), (69, 18), (69, 24), (69, 25), (70, 154011750)]
noncomputable def Q_o_aCase (gi : Nat → Nat → Int32) (gl : Nat → Nat → Int64) (gr : Nat → Nat → Value) (b : Nat → Int32) (ar1 : Int32) : Int32 → (Nat → Nat → Int32) → (Nat → Nat → Int64) → (Nat → Nat → Value) → Prop := fun (v : Int32) (gi2 : Nat → Nat → Int32) (gl2 : Nat → Nat → Int64) (gr2 : Nat → Nat → Value) => (∀ (b : Nat → Int32) (n q : Nat) (K E : List Int), t_OM b n q K E gi → s_fct b n q → ¬ s_nst b n q → s_mi (s_W b n q) = ar1.toInt → v.toInt = 1 → s_cok b n q ∧ t_OM b n (s_cx b n q) K (E ++ [s_ccd b n q]) gi2)
theorem c_o_aCase {X : x_Ext} {d : Nat} {sh : List (Nat ⊕ (Nat × Nat))} {gi : Nat → Nat → Int32} {gl : Nat → Nat → Int64} {gr : Nat → Nat → Value} (hI : t_I sh gi gr) (ar1 : Int32) (l_a1 : 15 ≤ ar1.toInt) (u_a1 : ar1.toInt ≤ 26) {b : Nat → Int32} (e_p0 : t_K b gi 0) (e_p1 : (ar1.toInt = 15 ∨ ar1.toInt = 16 ∨ 22 ≤ ar1.toInt)) : x_Me X (d + 3) n_X12_aCase [.ref 69, .int ar1] (sh, gi, gl, gr) (t_PI wl_o_aCase sh gi gl gr 0 1 (Q_o_aCase gi gl gr b ar1)) := by
  have hX : t_X wl_o_aCase sh gi gl gr gi gl gr := t_X.rf
  refine me_i f_X12_aCase (hI.wf.s rfl) rfl rfl rfl ?_
  obtain ⟨l2, u2⟩ := hI.b (hI.wf.s (k := 69) rfl) (t_bdK rfl : t_bd 11 22 = some (0, 60))
  obtain ⟨l3, u3⟩ := hI.b (hI.wf.s (k := 69) rfl) (t_bdK rfl : t_bd 11 23 = some (0, 6))
  obtain ⟨l4, u4⟩ := hI.b (hI.wf.s (k := 69) rfl) (t_bdK rfl : t_bd 11 24 = some (0, 24))
  obtain ⟨l5, u5⟩ := hI.b (hI.wf.s (k := 69) rfl) (t_bdK rfl : t_bd 11 25 = some (0, 210))
  refine ev_loc f_X12_aCase (nx := 1) rfl rfl rfl rfl ?_
  refine ev_gvI f_X12_aCase (nx := 4) (w := (gi 69 24)) rfl (hI.wf.s rfl) rfl rfl rfl rfl ?_
  refine ev_bp f_X12_aCase (nx := 6) (v := 24) rfl (by decide) rfl ?_
  refine ev_if f_X12_aCase (t1 := 9) (t2 := 16) rfl rfl rfl (fun h6 => ?_) (fun h6 => ?_)
  · have l7 : 24 ≤ (gi 69 24).toInt := t_eql h6 (by decide : (24:Int) ≤ (24:Int32).toInt)
    refine ev_loc f_X12_aCase (nx := 10) rfl rfl rfl rfl ?_
    refine ev_bp f_X12_aCase (nx := 12) (v := 6) rfl (by decide) rfl ?_
    refine ev_qI f_X12_aCase (nx := 15) (r := []) rfl rfl rfl rfl rfl rfl rfl (c_n_fails hI (6) (Int.le_trans (by decide : (2:Int) ≤ 6) (by decide : (6:Int) ≤ (6:Int32).toInt)) (Int.le_trans (by decide : (6:Int32).toInt ≤ (6:Int)) (by decide : (6:Int) ≤ 7))) rfl hX rfl (fun w8 gi8 gl8 gr8 l8 u8 hI hX hC8 q8 => ?_)
    have q8 : (∀ (b : Nat → Int32) (n q : Nat), t_TM b n q gi → (gi 69 18).toInt = 0 → t_MF gi8 (s_fk b n q 6) (s_F b n q)) ∧ w8.toInt = 0 := q8
    exact ev_retZ f_X12_aCase rfl l8 (Int.le_trans u8 (by decide : (0:Int) ≤ 1)) ⟨_, _, _, rfl, hI, hX, ⟨_, rfl, l8, (Int.le_trans u8 (by decide : (0:Int) ≤ 1)), (show (∀ (b : Nat → Int32) (n q : Nat) (K E : List Int), t_OM b n q K E gi → s_fct b n q → ¬ s_nst b n q → s_mi (s_W b n q) = ar1.toInt → w8.toInt = 1 → s_cok b n q ∧ t_OM b n (s_cx b n q) K (E ++ [s_ccd b n q]) gi8) from (fun b n q K E h hf hN hm hv => absurd hv (by have := q8.2; omega)))⟩⟩
  · have r9 : (gi 69 24).toInt ≠ 24 := fun e => h6 (Int32.toInt_inj.mp (e.trans (by decide : (24:Int) = (24 : Int32).toInt)))
    have u10 : (gi 69 24).toInt ≤ 23 := t_neu h6 u4 rfl rfl
    refine ev_loc f_X12_aCase (nx := 17) rfl rfl rfl rfl ?_
    refine ev_gvI f_X12_aCase (nx := 20) (w := (gi 69 23)) rfl (hI.wf.s rfl) rfl rfl rfl rfl ?_
    refine ev_bp f_X12_aCase (nx := 22) (v := 6) rfl (by decide) rfl ?_
    refine ev_if f_X12_aCase (t1 := 25) (t2 := 32) rfl rfl rfl (fun h11 => ?_) (fun h11 => ?_)
    · have l12 : 6 ≤ (gi 69 23).toInt := t_eql h11 (by decide : (6:Int) ≤ (6:Int32).toInt)
      refine ev_loc f_X12_aCase (nx := 26) rfl rfl rfl rfl ?_
      refine ev_bp f_X12_aCase (nx := 28) (v := 7) rfl (by decide) rfl ?_
      refine ev_qI f_X12_aCase (nx := 31) (r := []) rfl rfl rfl rfl rfl rfl rfl (c_n_fails hI (7) (Int.le_trans (by decide : (2:Int) ≤ 7) (by decide : (7:Int) ≤ (7:Int32).toInt)) (by decide : (7:Int32).toInt ≤ (7:Int))) rfl hX rfl (fun w13 gi13 gl13 gr13 l13 u13 hI hX hC13 q13 => ?_)
      have q13 : (∀ (b : Nat → Int32) (n q : Nat), t_TM b n q gi → (gi 69 18).toInt = 0 → t_MF gi13 (s_fk b n q 7) (s_F b n q)) ∧ w13.toInt = 0 := q13
      exact ev_retZ f_X12_aCase rfl l13 (Int.le_trans u13 (by decide : (0:Int) ≤ 1)) ⟨_, _, _, rfl, hI, hX, ⟨_, rfl, l13, (Int.le_trans u13 (by decide : (0:Int) ≤ 1)), (show (∀ (b : Nat → Int32) (n q : Nat) (K E : List Int), t_OM b n q K E gi → s_fct b n q → ¬ s_nst b n q → s_mi (s_W b n q) = ar1.toInt → w13.toInt = 1 → s_cok b n q ∧ t_OM b n (s_cx b n q) K (E ++ [s_ccd b n q]) gi13) from (fun b n q K E h hf hN hm hv => absurd hv (by have := q13.2; omega)))⟩⟩
    · have r14 : (gi 69 23).toInt ≠ 6 := fun e => h11 (Int32.toInt_inj.mp (e.trans (by decide : (6:Int) = (6 : Int32).toInt)))
      have u15 : (gi 69 23).toInt ≤ 5 := t_neu h11 u3 rfl rfl
      refine ev_loc f_X12_aCase (nx := 33) rfl rfl rfl rfl ?_
      refine ev_alu f_X12_aCase (nx := 34) rfl rfl rfl rfl ?_
      refine ev_gvI f_X12_aCase (nx := 37) (w := (gi 69 24)) rfl (hI.wf.s rfl) rfl rfl rfl rfl ?_
      refine ev_ic f_X12_aCase (nx := 38) (v := 1) rfl (by decide) rfl ?_
      refine ev_addC f_X12_aCase (nx := 39) (c := 1) (l := 1) (u := 24) rfl (by decide) l4 u10 rfl rfl (by decide) (by decide) rfl (fun z16 e16 l16 u16 => ?_)
      refine ev_putIT f_X12_aCase (nx := 42) rfl (hI.wf.s rfl) rfl rfl rfl (hI.putB (hI.wf.s rfl) rfl rfl l16 (by decide) u16 (by decide)) (hX.upI rfl) (fun g17 e17 hI hX => ?_)
      refine ev_loc f_X12_aCase (nx := 43) rfl rfl rfl rfl ?_
      refine ev_qN f_X12_aCase (nx := 46) (r := []) rfl rfl rfl rfl rfl rfl rfl (c_n_aheadB hI ) rfl hX rfl (fun gi18 gl18 gr18 hI hX hC18 q18 => ?_)
      have q18 : ((g17 69 14).toInt ≤ (gi18 69 14).toInt ∧ ((gi18 69 12).toInt ≠ 0 → (g17 69 14).toInt < (gi18 69 14).toInt) ∧ ((gi18 69 12).toInt = 3 → 0 ≤ (gi18 69 15).toInt)) ∧ (∀ (b : Nat → Int32) (n q : Nat), t_Sm b n q g17 → t_TM b n q gi18) := q18
      refine ev_loc f_X12_aCase (nx := 47) rfl rfl rfl rfl ?_
      refine ev_bp f_X12_aCase (nx := 49) (v := 15) rfl (by decide) rfl ?_
      refine ev_if f_X12_aCase (t1 := 58) (t2 := 52) rfl rfl rfl (fun h20 => ?_) (fun h20 => ?_)
      · have u21 : ar1.toInt ≤ 15 := t_equ h20 (by decide : (15:Int32).toInt ≤ (15:Int))
        refine ev_loc f_X12_aCase (nx := 59) rfl rfl rfl rfl ?_
        refine ev_loc f_X12_aCase (nx := 60) rfl rfl rfl rfl ?_
        refine ev_inV2 f_X12_aCase (nx := 63) (lo2 := [(0, .ref 69), (1, .int ar1)]) rfl rfl rfl rfl f_X12_asksAlso (hI.wf.s rfl) rfl rfl rfl rfl rfl ?_
        have kn22 := t_K_num e_p0
        refine ev_loc f_X12_asksAlso (nx := 1) rfl rfl rfl rfl ?_
        refine ev_getR f_X12_asksAlso (nx := 4) rfl (hI.wf.s rfl) rfl rfl (hI.wf.r rfl) rfl rfl ?_
        refine ev_sp f_X12_asksAlso (nx := 7) (v := 1540) rfl (by decide) rfl ?_
        refine ev_loc f_X12_asksAlso (nx := 8) rfl rfl rfl rfl ?_
        refine ev_gvI f_X12_asksAlso (nx := 11) (w := (gi 69 25)) rfl (hI.wf.s rfl) rfl rfl ((hC18.1 69 25 rfl).1.trans ((by rw [e17]; exact x_up2_off (Or.inr (by decide)) : g17 69 25 = gi 69 25).trans rfl)) rfl ?_
        refine ev_addK f_X12_asksAlso (nx := 12) (c := 1540) (l := 1540) (u := 1750) rfl (by decide) l5 u5 rfl rfl (by decide) (by decide) rfl (fun z23 e23 l23 u23 => ?_)
        refine ev_loc f_X12_asksAlso (nx := 13) rfl rfl rfl rfl ?_
        refine ev_iastT f_X12_asksAlso (nx := 14) rfl (hI.wf.s rfl) l23 (by decide) u23 (by decide) rfl (hI.astL (hI.wf.s rfl) (by decide +kernel : t_abw 70 1540 1750 15 15 = true) (t_cl1 l23 (by decide)) (t_cl2 l23 u23 (by decide) (by decide)) l_a1 u21 rfl) (hX.upI (t_inR (p := 1540) (m := 1750) rfl l23 (by decide) u23 (by decide) (by decide))) (fun g24 e24 hI hX => ?_)
        refine ev_loc f_X12_asksAlso (nx := 15) rfl rfl rfl rfl ?_
        refine ev_alu f_X12_asksAlso (nx := 16) rfl rfl rfl rfl ?_
        refine ev_gvI f_X12_asksAlso (nx := 19) (w := (gi 69 25)) rfl (hI.wf.s rfl) rfl rfl ((by rw [e24]; exact x_up2_off (Or.inl (by decide)) : g24 69 25 = gi18 69 25).trans ((hC18.1 69 25 rfl).1.trans ((by rw [e17]; exact x_up2_off (Or.inr (by decide)) : g17 69 25 = gi 69 25).trans rfl))) rfl ?_
        refine ev_ic f_X12_asksAlso (nx := 20) (v := 1) rfl (by decide) rfl ?_
        refine ev_addC f_X12_asksAlso (nx := 21) (c := 1) (l := 1) (u := 211) rfl (by decide) l5 u5 rfl rfl (by decide) (by decide) rfl (fun z25 e25 l25 u25 => ?_)
        have u27 : z25.toInt ≤ (210:Int) := (by omega)
        refine ev_putIT f_X12_asksAlso (nx := 24) rfl (hI.wf.s rfl) rfl rfl rfl (hI.putB (hI.wf.s rfl) rfl rfl l25 (by decide) u27 (by decide)) (hX.upI rfl) (fun g26 e26 hI hX => ?_)
        refine ev_retK0 f_X12_asksAlso rfl rfl rfl ?_
        refine ev_ic f_X12_aCase (nx := 64) (v := 1) rfl (by decide) rfl ?_
        exact ev_ret f_X12_aCase rfl rfl rfl ⟨_, _, _, rfl, hI, hX, ⟨_, rfl, (Int.le_trans (by decide : (0:Int) ≤ 1) (by decide : (1:Int) ≤ (1:Int32).toInt)), (by decide : (1:Int32).toInt ≤ (1:Int)), (show (∀ (b : Nat → Int32) (n q : Nat) (K E : List Int), t_OM b n q K E gi → s_fct b n q → ¬ s_nst b n q → s_mi (s_W b n q) = ar1.toInt → (1 : Int) = 1 → s_cok b n q ∧ t_OM b n (s_cx b n q) K (E ++ [s_ccd b n q]) g26) from (fun b n q K E h hf hN hm hv => (by
                                                            have h1 := h.sm (g1 := g17) (t_fM.rf.u9 (by decide) e17) (congrArg Int32.toInt (by rw [e17, x_up2_off (Or.inr (by decide))])) (congrArg Int32.toInt (by rw [e17, x_up2_off (Or.inr (by decide))])) (funext fun j => (by rw [e17, x_up2_ne (by decide)])) (funext fun j => (by rw [e17, x_up2_ne (by decide)]))
                                                            have h2 := h1.ah (q18.2 b n _ h1.1.S) (congrArg Int32.toInt (hC18.1 69 22 rfl).1) (congrArg Int32.toInt (hC18.1 69 25 rfl).1) (funext fun j => (hC18.1 77 j rfl).1) (funext fun j => (hC18.1 70 j rfl).1)
                                                            have k25 : (gi18 69 25).toInt = (gi 69 25).toInt := (congrArg Int32.toInt (by rw [(hC18.1 69 25 rfl).1, e17, x_up2_off (Or.inr (by decide))]))
                                                            have hO : s_opn b n q := s_opn_mi.mpr (by omega)
                                                            have h3 := h2.em (g1 := g26) (v := ar1) ((t_fM.rf.ux (by decide) e24).u9 (by decide) e26) (congrArg Int32.toInt (by rw [e26, x_up2_off (Or.inr (by decide)), e24, x_up2_ne (by decide)])) (by rw [e26, x_up2_at]; exact Int.le_antisymm (by omega) (by omega)) (funext fun j => (by rw [e26, x_up2_ne (by decide), e24, x_up2_ne (by decide)])) ⟨fun j hj => (by have hc := t_clamp (i := z23) (by omega); rw [e26, x_up2_ne (by decide), e24, x_up2_off (Or.inr (by omega))]), by have hc := t_clamp (i := z23) (by omega); rw [show 1540 + (gi18 69 25).toInt.toNat = z23.toNatClampNeg by omega, e26, x_up2_ne (by decide), e24]; exact x_up2_at _ _ _ _⟩
                                                            refine ⟨⟨hf, Or.inl hO⟩, ?_⟩
                                                            rw [s_cx_o hO, s_cc_o hO, show s_mi (s_W b n q) = ar1.toInt by omega]
                                                            exact h3)))⟩⟩
      · have r28 : ar1.toInt ≠ 15 := fun e => h20 (Int32.toInt_inj.mp (e.trans (by decide : (15:Int) = (15 : Int32).toInt)))
        have l29 : 16 ≤ ar1.toInt := t_nel h20 l_a1 rfl rfl
        refine ev_loc f_X12_aCase (nx := 53) rfl rfl rfl rfl ?_
        refine ev_bp f_X12_aCase (nx := 55) (v := 16) rfl (by decide) rfl ?_
        refine ev_if f_X12_aCase (t1 := 58) (t2 := 65) rfl rfl rfl (fun h30 => ?_) (fun h30 => ?_)
        · have u31 : ar1.toInt ≤ 16 := t_equ h30 (by decide : (16:Int32).toInt ≤ (16:Int))
          refine ev_loc f_X12_aCase (nx := 59) rfl rfl rfl rfl ?_
          refine ev_loc f_X12_aCase (nx := 60) rfl rfl rfl rfl ?_
          refine ev_inV2 f_X12_aCase (nx := 63) (lo2 := [(0, .ref 69), (1, .int ar1)]) rfl rfl rfl rfl f_X12_asksAlso (hI.wf.s rfl) rfl rfl rfl rfl rfl ?_
          have kn32 := t_K_num e_p0
          refine ev_loc f_X12_asksAlso (nx := 1) rfl rfl rfl rfl ?_
          refine ev_getR f_X12_asksAlso (nx := 4) rfl (hI.wf.s rfl) rfl rfl (hI.wf.r rfl) rfl rfl ?_
          refine ev_sp f_X12_asksAlso (nx := 7) (v := 1540) rfl (by decide) rfl ?_
          refine ev_loc f_X12_asksAlso (nx := 8) rfl rfl rfl rfl ?_
          refine ev_gvI f_X12_asksAlso (nx := 11) (w := (gi 69 25)) rfl (hI.wf.s rfl) rfl rfl ((hC18.1 69 25 rfl).1.trans ((by rw [e17]; exact x_up2_off (Or.inr (by decide)) : g17 69 25 = gi 69 25).trans rfl)) rfl ?_
          refine ev_addK f_X12_asksAlso (nx := 12) (c := 1540) (l := 1540) (u := 1750) rfl (by decide) l5 u5 rfl rfl (by decide) (by decide) rfl (fun z33 e33 l33 u33 => ?_)
          refine ev_loc f_X12_asksAlso (nx := 13) rfl rfl rfl rfl ?_
          refine ev_iastT f_X12_asksAlso (nx := 14) rfl (hI.wf.s rfl) l33 (by decide) u33 (by decide) rfl (hI.astL (hI.wf.s rfl) (by decide +kernel : t_abw 70 1540 1750 16 16 = true) (t_cl1 l33 (by decide)) (t_cl2 l33 u33 (by decide) (by decide)) l29 u31 rfl) (hX.upI (t_inR (p := 1540) (m := 1750) rfl l33 (by decide) u33 (by decide) (by decide))) (fun g34 e34 hI hX => ?_)
          refine ev_loc f_X12_asksAlso (nx := 15) rfl rfl rfl rfl ?_
          refine ev_alu f_X12_asksAlso (nx := 16) rfl rfl rfl rfl ?_
          refine ev_gvI f_X12_asksAlso (nx := 19) (w := (gi 69 25)) rfl (hI.wf.s rfl) rfl rfl ((by rw [e34]; exact x_up2_off (Or.inl (by decide)) : g34 69 25 = gi18 69 25).trans ((hC18.1 69 25 rfl).1.trans ((by rw [e17]; exact x_up2_off (Or.inr (by decide)) : g17 69 25 = gi 69 25).trans rfl))) rfl ?_
          refine ev_ic f_X12_asksAlso (nx := 20) (v := 1) rfl (by decide) rfl ?_
          refine ev_addC f_X12_asksAlso (nx := 21) (c := 1) (l := 1) (u := 211) rfl (by decide) l5 u5 rfl rfl (by decide) (by decide) rfl (fun z35 e35 l35 u35 => ?_)
          have u37 : z35.toInt ≤ (210:Int) := (by omega)
          refine ev_putIT f_X12_asksAlso (nx := 24) rfl (hI.wf.s rfl) rfl rfl rfl (hI.putB (hI.wf.s rfl) rfl rfl l35 (by decide) u37 (by decide)) (hX.upI rfl) (fun g36 e36 hI hX => ?_)
          refine ev_retK0 f_X12_asksAlso rfl rfl rfl ?_
          refine ev_ic f_X12_aCase (nx := 64) (v := 1) rfl (by decide) rfl ?_
          exact ev_ret f_X12_aCase rfl rfl rfl ⟨_, _, _, rfl, hI, hX, ⟨_, rfl, (Int.le_trans (by decide : (0:Int) ≤ 1) (by decide : (1:Int) ≤ (1:Int32).toInt)), (by decide : (1:Int32).toInt ≤ (1:Int)), (show (∀ (b : Nat → Int32) (n q : Nat) (K E : List Int), t_OM b n q K E gi → s_fct b n q → ¬ s_nst b n q → s_mi (s_W b n q) = ar1.toInt → (1 : Int) = 1 → s_cok b n q ∧ t_OM b n (s_cx b n q) K (E ++ [s_ccd b n q]) g36) from (fun b n q K E h hf hN hm hv => (by
                                                            have h1 := h.sm (g1 := g17) (t_fM.rf.u9 (by decide) e17) (congrArg Int32.toInt (by rw [e17, x_up2_off (Or.inr (by decide))])) (congrArg Int32.toInt (by rw [e17, x_up2_off (Or.inr (by decide))])) (funext fun j => (by rw [e17, x_up2_ne (by decide)])) (funext fun j => (by rw [e17, x_up2_ne (by decide)]))
                                                            have h2 := h1.ah (q18.2 b n _ h1.1.S) (congrArg Int32.toInt (hC18.1 69 22 rfl).1) (congrArg Int32.toInt (hC18.1 69 25 rfl).1) (funext fun j => (hC18.1 77 j rfl).1) (funext fun j => (hC18.1 70 j rfl).1)
                                                            have k25 : (gi18 69 25).toInt = (gi 69 25).toInt := (congrArg Int32.toInt (by rw [(hC18.1 69 25 rfl).1, e17, x_up2_off (Or.inr (by decide))]))
                                                            have hO : s_opn b n q := s_opn_mi.mpr (by omega)
                                                            have h3 := h2.em (g1 := g36) (v := ar1) ((t_fM.rf.ux (by decide) e34).u9 (by decide) e36) (congrArg Int32.toInt (by rw [e36, x_up2_off (Or.inr (by decide)), e34, x_up2_ne (by decide)])) (by rw [e36, x_up2_at]; exact Int.le_antisymm (by omega) (by omega)) (funext fun j => (by rw [e36, x_up2_ne (by decide), e34, x_up2_ne (by decide)])) ⟨fun j hj => (by have hc := t_clamp (i := z33) (by omega); rw [e36, x_up2_ne (by decide), e34, x_up2_off (Or.inr (by omega))]), by have hc := t_clamp (i := z33) (by omega); rw [show 1540 + (gi18 69 25).toInt.toNat = z33.toNatClampNeg by omega, e36, x_up2_ne (by decide), e34]; exact x_up2_at _ _ _ _⟩
                                                            refine ⟨⟨hf, Or.inl hO⟩, ?_⟩
                                                            rw [s_cx_o hO, s_cc_o hO, show s_mi (s_W b n q) = ar1.toInt by omega]
                                                            exact h3)))⟩⟩
        · have r38 : ar1.toInt ≠ 16 := fun e => h30 (Int32.toInt_inj.mp (e.trans (by decide : (16:Int) = (16 : Int32).toInt)))
          have l39 : 17 ≤ ar1.toInt := t_nel h30 l29 rfl rfl
          refine ev_loc f_X12_aCase (nx := 66) rfl rfl rfl rfl ?_
          refine ev_bp f_X12_aCase (nx := 68) (v := 60) rfl (by decide) rfl ?_
          refine ev_qI0 f_X12_aCase (nx := 71) (r := []) rfl rfl rfl rfl rfl rfl rfl (c_n_isSignB hI (60)) rfl (fun w40 l40 u40 q40 => ?_)
          have q40 : (∀ (b : Nat → Int32) (n q : Nat), t_TM b n q gi18 → (w40.toInt = 1 ↔ s_isS b n q 60)) ∧ (w40.toInt = 1 → (gi18 69 12).toInt = 4) := q40
          refine ev_if f_X12_aCase (t1 := 74) (t2 := 98) rfl rfl rfl (fun h41 => ?_) (fun h41 => ?_)
          · have u42 : w40.toInt ≤ 0 := t_equ h41 (by decide : (0:Int32).toInt ≤ (0:Int))
            refine ev_loc f_X12_aCase (nx := 75) rfl rfl rfl rfl ?_
            refine ev_bp f_X12_aCase (nx := 77) (v := 62) rfl (by decide) rfl ?_
            refine ev_qI0 f_X12_aCase (nx := 80) (r := []) rfl rfl rfl rfl rfl rfl rfl (c_n_isSignB hI (62)) rfl (fun w43 l43 u43 q43 => ?_)
            have q43 : (∀ (b : Nat → Int32) (n q : Nat), t_TM b n q gi18 → (w43.toInt = 1 ↔ s_isS b n q 62)) ∧ (w43.toInt = 1 → (gi18 69 12).toInt = 4) := q43
            refine ev_if f_X12_aCase (t1 := 83) (t2 := 98) rfl rfl rfl (fun h44 => ?_) (fun h44 => ?_)
            · have u45 : w43.toInt ≤ 0 := t_equ h44 (by decide : (0:Int32).toInt ≤ (0:Int))
              refine ev_loc f_X12_aCase (nx := 84) rfl rfl rfl rfl ?_
              refine ev_bp f_X12_aCase (nx := 86) (v := 61) rfl (by decide) rfl ?_
              refine ev_qI0 f_X12_aCase (nx := 89) (r := []) rfl rfl rfl rfl rfl rfl rfl (c_n_isSignB hI (61)) rfl (fun w46 l46 u46 q46 => ?_)
              have q46 : (∀ (b : Nat → Int32) (n q : Nat), t_TM b n q gi18 → (w46.toInt = 1 ↔ s_isS b n q 61)) ∧ (w46.toInt = 1 → (gi18 69 12).toInt = 4) := q46
              refine ev_if f_X12_aCase (t1 := 92) (t2 := 98) rfl rfl rfl (fun h47 => ?_) (fun h47 => ?_)
              · have u48 : w46.toInt ≤ 0 := t_equ h47 (by decide : (0:Int32).toInt ≤ (0:Int))
                refine ev_loc f_X12_aCase (nx := 93) rfl rfl rfl rfl ?_
                refine ev_ic f_X12_aCase (nx := 94) (v := 2) rfl (by decide) rfl ?_
                refine ev_qI f_X12_aCase (nx := 97) (r := []) rfl rfl rfl rfl rfl rfl rfl (c_n_fails hI (2) (by decide : (2:Int) ≤ (2:Int32).toInt) (Int.le_trans (by decide : (2:Int32).toInt ≤ (2:Int)) (by decide : (2:Int) ≤ 7))) rfl hX rfl (fun w49 gi49 gl49 gr49 l49 u49 hI hX hC49 q49 => ?_)
                have q49 : (∀ (b : Nat → Int32) (n q : Nat), t_TM b n q gi18 → (gi18 69 18).toInt = 0 → t_MF gi49 (s_fk b n q 2) (s_F b n q)) ∧ w49.toInt = 0 := q49
                exact ev_retZ f_X12_aCase rfl l49 (Int.le_trans u49 (by decide : (0:Int) ≤ 1)) ⟨_, _, _, rfl, hI, hX, ⟨_, rfl, l49, (Int.le_trans u49 (by decide : (0:Int) ≤ 1)), (show (∀ (b : Nat → Int32) (n q : Nat) (K E : List Int), t_OM b n q K E gi → s_fct b n q → ¬ s_nst b n q → s_mi (s_W b n q) = ar1.toInt → w49.toInt = 1 → s_cok b n q ∧ t_OM b n (s_cx b n q) K (E ++ [s_ccd b n q]) gi49) from (fun b n q K E h hf hN hm hv => absurd hv (by have := q49.2; omega)))⟩⟩
              · have r50 : w46.toInt ≠ 0 := fun e => h47 (Int32.toInt_inj.mp (e.trans (by decide : (0:Int) = (0 : Int32).toInt)))
                have l51 : 1 ≤ w46.toInt := t_nel h47 l46 rfl rfl
                refine ev_loc f_X12_aCase (nx := 99) rfl rfl rfl rfl ?_
                refine ev_bp f_X12_aCase (nx := 101) (v := 60) rfl (by decide) rfl ?_
                refine ev_qI0 f_X12_aCase (nx := 104) (r := []) rfl rfl rfl rfl rfl rfl rfl (c_n_isSignB hI (60)) rfl (fun w52 l52 u52 q52 => ?_)
                have q52 : (∀ (b : Nat → Int32) (n q : Nat), t_TM b n q gi18 → (w52.toInt = 1 ↔ s_isS b n q 60)) ∧ (w52.toInt = 1 → (gi18 69 12).toInt = 4) := q52
                refine ev_if f_X12_aCase (t1 := 111) (t2 := 107) rfl rfl rfl (fun h53 => ?_) (fun h53 => ?_)
                · have u54 : w52.toInt ≤ 0 := t_equ h53 (by decide : (0:Int32).toInt ≤ (0:Int))
                  refine ev_loc f_X12_aCase (nx := 112) rfl rfl rfl rfl ?_
                  refine ev_bp f_X12_aCase (nx := 114) (v := 62) rfl (by decide) rfl ?_
                  refine ev_qI0 f_X12_aCase (nx := 117) (r := []) rfl rfl rfl rfl rfl rfl rfl (c_n_isSignB hI (62)) rfl (fun w55 l55 u55 q55 => ?_)
                  have q55 : (∀ (b : Nat → Int32) (n q : Nat), t_TM b n q gi18 → (w55.toInt = 1 ↔ s_isS b n q 62)) ∧ (w55.toInt = 1 → (gi18 69 12).toInt = 4) := q55
                  refine ev_if f_X12_aCase (t1 := 124) (t2 := 120) rfl rfl rfl (fun h56 => ?_) (fun h56 => ?_)
                  · have u57 : w55.toInt ≤ 0 := t_equ h56 (by decide : (0:Int32).toInt ≤ (0:Int))
                    refine ev_ic f_X12_aCase (nx := 125) (v := 2) rfl (by decide) rfl ?_
                    refine ev_loc f_X12_aCase (nx := 126) (lo' := [(2, .int 2), (0, .ref 69), (1, .int ar1)]) rfl rfl rfl rfl ?_
                    refine ev_loc f_X12_aCase (nx := 127) rfl rfl rfl rfl ?_
                    refine ev_qN f_X12_aCase (nx := 130) (r := []) rfl rfl rfl rfl rfl rfl rfl (c_n_aheadB hI ) rfl hX rfl (fun gi58 gl58 gr58 hI hX hC58 q58 => ?_)
                    have q58 : ((gi18 69 14).toInt ≤ (gi58 69 14).toInt ∧ ((gi58 69 12).toInt ≠ 0 → (gi18 69 14).toInt < (gi58 69 14).toInt) ∧ ((gi58 69 12).toInt = 3 → 0 ≤ (gi58 69 15).toInt)) ∧ (∀ (b : Nat → Int32) (n q : Nat), t_Sm b n q gi18 → t_TM b n q gi58) := q58
                    refine ev_loc f_X12_aCase (nx := 131) rfl rfl rfl rfl ?_
                    refine ev_getI f_X12_aCase (nx := 134) rfl (hI.wf.s rfl) rfl rfl rfl ?_
                    obtain ⟨l60, u60⟩ := hI.b (hI.wf.s (k := 69) rfl) (t_bdK rfl : t_bd 11 12 = some (0, 4))
                    refine ev_ic f_X12_aCase (nx := 135) (v := 3) rfl (by decide) rfl ?_
                    refine ev_if f_X12_aCase (t1 := 144) (t2 := 138) rfl rfl rfl (fun h61 => ?_) (fun h61 => ?_)
                    · have u62 : (gi58 69 12).toInt ≤ 3 := t_equ h61 (by decide : (3:Int32).toInt ≤ (3:Int))
                      have l63 : 3 ≤ (gi58 69 12).toInt := t_eql h61 (by decide : (3:Int) ≤ (3:Int32).toInt)
                      refine ev_loc f_X12_aCase (nx := 145) rfl rfl rfl rfl ?_
                      refine ev_gvI f_X12_aCase (nx := 148) (w := (gi58 69 15)) rfl (hI.wf.s rfl) rfl rfl rfl rfl ?_
                      refine ev_sp f_X12_aCase (nx := 151) (v := 300) rfl (by decide) rfl ?_
                      refine ev_if f_X12_aCase (t1 := 160) (t2 := 154) rfl rfl rfl (fun h64 => ?_) (fun h64 => ?_)
                      · have u65 : (gi58 69 15).toInt ≤ 300 := t_leu h64 (by decide : (300:Int32).toInt ≤ (300:Int))
                        have l66 : (0:Int) ≤ (gi58 69 15).toInt := by omega
                        refine ev_loc f_X12_aCase (nx := 161) rfl rfl rfl rfl ?_
                        refine ev_ldI f_X12_aCase (nx := 163) (v := 100000) rfl (by decide) rfl ?_
                        refine ev_loc f_X12_aCase (nx := 164) rfl rfl rfl rfl ?_
                        refine ev_mulL f_X12_aCase (nx := 165) (c := 100000) (l := 1700000) (u := 2600000) rfl (by decide) (by decide) l39 u_a1 rfl rfl (by decide) (by decide) rfl (fun z67 e67 l67 u67 => ?_)
                        refine ev_sp f_X12_aCase (nx := 168) (v := 1000) rfl (by decide) rfl ?_
                        refine ev_loc f_X12_aCase (nx := 169) rfl rfl rfl rfl ?_
                        refine ev_aluvI f_X12_aCase (nx := 170) (w := 2000) rfl rfl rfl (by decide) rfl ?_
                        refine ev_addC f_X12_aCase (nx := 171) (c := 2000) (l := 1702000) (u := 2602000) rfl (by decide) l67 u67 rfl rfl (by decide) (by decide) rfl (fun z68 e68 l68 u68 => ?_)
                        refine ev_loc f_X12_aCase (nx := 172) rfl rfl rfl rfl ?_
                        refine ev_gvI f_X12_aCase (nx := 175) (w := (gi58 69 15)) rfl (hI.wf.s rfl) rfl rfl rfl rfl ?_
                        refine ev_addR f_X12_aCase (nx := 176) (l := 1702000) (u := 2602300) rfl l68 u68 l66 u65 rfl rfl (by decide) (by decide) rfl (fun z69 e69 l69 u69 => ?_)
                        refine ev_inV2 f_X12_aCase (nx := 179) (lo2 := [(0, .ref 69), (1, .int z69)]) rfl rfl rfl rfl f_X12_asksAlso (hI.wf.s rfl) rfl rfl rfl rfl rfl ?_
                        have kn70 := t_K_num e_p0
                        refine ev_loc f_X12_asksAlso (nx := 1) rfl rfl rfl rfl ?_
                        refine ev_getR f_X12_asksAlso (nx := 4) rfl (hI.wf.s rfl) rfl rfl (hI.wf.r rfl) rfl rfl ?_
                        refine ev_sp f_X12_asksAlso (nx := 7) (v := 1540) rfl (by decide) rfl ?_
                        refine ev_loc f_X12_asksAlso (nx := 8) rfl rfl rfl rfl ?_
                        refine ev_gvI f_X12_asksAlso (nx := 11) (w := (gi 69 25)) rfl (hI.wf.s rfl) rfl rfl ((hC58.1 69 25 rfl).1.trans ((hC18.1 69 25 rfl).1.trans ((by rw [e17]; exact x_up2_off (Or.inr (by decide)) : g17 69 25 = gi 69 25).trans rfl))) rfl ?_
                        refine ev_addK f_X12_asksAlso (nx := 12) (c := 1540) (l := 1540) (u := 1750) rfl (by decide) l5 u5 rfl rfl (by decide) (by decide) rfl (fun z71 e71 l71 u71 => ?_)
                        refine ev_loc f_X12_asksAlso (nx := 13) rfl rfl rfl rfl ?_
                        refine ev_iastT f_X12_asksAlso (nx := 14) rfl (hI.wf.s rfl) l71 (by decide) u71 (by decide) rfl (hI.astL (hI.wf.s rfl) (by decide +kernel : t_abw 70 1540 1750 1702000 2602300 = true) (t_cl1 l71 (by decide)) (t_cl2 l71 u71 (by decide) (by decide)) l69 u69 rfl) (hX.upI (t_inR (p := 1540) (m := 1750) rfl l71 (by decide) u71 (by decide) (by decide))) (fun g72 e72 hI hX => ?_)
                        refine ev_loc f_X12_asksAlso (nx := 15) rfl rfl rfl rfl ?_
                        refine ev_alu f_X12_asksAlso (nx := 16) rfl rfl rfl rfl ?_
                        refine ev_gvI f_X12_asksAlso (nx := 19) (w := (gi 69 25)) rfl (hI.wf.s rfl) rfl rfl ((by rw [e72]; exact x_up2_off (Or.inl (by decide)) : g72 69 25 = gi58 69 25).trans ((hC58.1 69 25 rfl).1.trans ((hC18.1 69 25 rfl).1.trans ((by rw [e17]; exact x_up2_off (Or.inr (by decide)) : g17 69 25 = gi 69 25).trans rfl)))) rfl ?_
                        refine ev_ic f_X12_asksAlso (nx := 20) (v := 1) rfl (by decide) rfl ?_
                        refine ev_addC f_X12_asksAlso (nx := 21) (c := 1) (l := 1) (u := 211) rfl (by decide) l5 u5 rfl rfl (by decide) (by decide) rfl (fun z73 e73 l73 u73 => ?_)
                        have u75 : z73.toInt ≤ (210:Int) := (by omega)
                        refine ev_putIT f_X12_asksAlso (nx := 24) rfl (hI.wf.s rfl) rfl rfl rfl (hI.putB (hI.wf.s rfl) rfl rfl l73 (by decide) u75 (by decide)) (hX.upI rfl) (fun g74 e74 hI hX => ?_)
                        refine ev_retK0 f_X12_asksAlso rfl rfl rfl ?_
                        refine ev_loc f_X12_aCase (nx := 180) rfl rfl rfl rfl ?_
                        refine ev_qN f_X12_aCase (nx := 183) (r := []) rfl rfl rfl rfl rfl rfl rfl (c_n_aheadB hI ) rfl hX rfl (fun gi76 gl76 gr76 hI hX hC76 q76 => ?_)
                        have q76 : ((g74 69 14).toInt ≤ (gi76 69 14).toInt ∧ ((gi76 69 12).toInt ≠ 0 → (g74 69 14).toInt < (gi76 69 14).toInt) ∧ ((gi76 69 12).toInt = 3 → 0 ≤ (gi76 69 15).toInt)) ∧ (∀ (b : Nat → Int32) (n q : Nat), t_Sm b n q g74 → t_TM b n q gi76) := q76
                        refine ev_ic f_X12_aCase (nx := 184) (v := 1) rfl (by decide) rfl ?_
                        exact ev_ret f_X12_aCase rfl rfl rfl ⟨_, _, _, rfl, hI, hX, ⟨_, rfl, (Int.le_trans (by decide : (0:Int) ≤ 1) (by decide : (1:Int) ≤ (1:Int32).toInt)), (by decide : (1:Int32).toInt ≤ (1:Int)), (show (∀ (b : Nat → Int32) (n q : Nat) (K E : List Int), t_OM b n q K E gi → s_fct b n q → ¬ s_nst b n q → s_mi (s_W b n q) = ar1.toInt → (1 : Int) = 1 → s_cok b n q ∧ t_OM b n (s_cx b n q) K (E ++ [s_ccd b n q]) gi76) from (fun b n q K E h hf hN hm hv => (by
                                                            have h1 := h.sm (g1 := g17) (t_fM.rf.u9 (by decide) e17) (congrArg Int32.toInt (by rw [e17, x_up2_off (Or.inr (by decide))])) (congrArg Int32.toInt (by rw [e17, x_up2_off (Or.inr (by decide))])) (funext fun j => (by rw [e17, x_up2_ne (by decide)])) (funext fun j => (by rw [e17, x_up2_ne (by decide)]))
                                                            have h2 := h1.ah (q18.2 b n _ h1.1.S) (congrArg Int32.toInt (hC18.1 69 22 rfl).1) (congrArg Int32.toInt (hC18.1 69 25 rfl).1) (funext fun j => (hC18.1 77 j rfl).1) (funext fun j => (hC18.1 70 j rfl).1)
                                                            have hO : ¬ s_opn b n q := fun hh => by have := s_opn_mi.mp hh; omega
                                                            have hC : s_cmp b n (s_E b n q) := Or.inr (Or.inr ((q46.1 b n _ h2.1).mp (by omega)))
                                                            have hc4 := s_cc_2 hO (fun x => absurd ((q52.1 b n _ h2.1).mpr x) (by omega)) (fun x => absurd ((q55.1 b n _ h2.1).mpr x) (by omega))
                                                            have h3 := h2.ah (q58.2 b n _ h2.1.S) (congrArg Int32.toInt (hC58.1 69 22 rfl).1) (congrArg Int32.toInt (hC58.1 69 25 rfl).1) (funext fun j => (hC58.1 77 j rfl).1) (funext fun j => (hC58.1 70 j rfl).1)
                                                            have hV := h3.1.vT (lo := 0) (hi := 300) (by omega) (by omega) (by omega)
                                                            have hK : s_K b n (s_E b n (s_E b n q)) = 3 := hV.1.1
                                                            have k25 : (gi58 69 25).toInt = (gi 69 25).toInt := (congrArg Int32.toInt (by rw [(hC58.1 69 25 rfl).1, (hC18.1 69 25 rfl).1, e17, x_up2_off (Or.inr (by decide))]))
                                                            have hV2 := hV.2
                                                            have h4 := h3.em (g1 := g74) (v := z69) ((t_fM.rf.ux (by decide) e72).u9 (by decide) e74) (congrArg Int32.toInt (by rw [e74, x_up2_off (Or.inr (by decide)), e72, x_up2_ne (by decide)])) (by rw [e74, x_up2_at]; exact Int.le_antisymm (by omega) (by omega)) (funext fun j => (by rw [e74, x_up2_ne (by decide), e72, x_up2_ne (by decide)])) ⟨fun j hj => (by have hc := t_clamp (i := z71) (by omega); rw [e74, x_up2_ne (by decide), e72, x_up2_off (Or.inr (by omega))]), by have hc := t_clamp (i := z71) (by omega); rw [show 1540 + (gi58 69 25).toInt.toNat = z71.toNatClampNeg by omega, e74, x_up2_ne (by decide), e72]; exact x_up2_at _ _ _ _⟩
                                                            have hcv : s_ccd b n q = z69.toInt := by rw [hc4]; omega
                                                            rw [← hcv] at h4
                                                            have h5 := h4.ah (q76.2 b n _ h4.1.S) (congrArg Int32.toInt (hC76.1 69 22 rfl).1) (congrArg Int32.toInt (hC76.1 69 25 rfl).1) (funext fun j => (hC76.1 77 j rfl).1) (funext fun j => (hC76.1 70 j rfl).1)
                                                            refine ⟨⟨hf, Or.inr ⟨hC, hK⟩⟩, ?_⟩
                                                            rw [s_cx_c hO]
                                                            exact h5)))⟩⟩
                      · have l78 : 301 ≤ (gi58 69 15).toInt := t_ltl (t_nle h64) (by decide : (300:Int) ≤ (300:Int32).toInt) rfl
                        refine ev_loc f_X12_aCase (nx := 155) rfl rfl rfl rfl ?_
                        refine ev_ic f_X12_aCase (nx := 156) (v := 4) rfl (by decide) rfl ?_
                        refine ev_qI f_X12_aCase (nx := 159) (r := []) rfl rfl rfl rfl rfl rfl rfl (c_n_fails hI (4) (Int.le_trans (by decide : (2:Int) ≤ 4) (by decide : (4:Int) ≤ (4:Int32).toInt)) (Int.le_trans (by decide : (4:Int32).toInt ≤ (4:Int)) (by decide : (4:Int) ≤ 7))) rfl hX rfl (fun w79 gi79 gl79 gr79 l79 u79 hI hX hC79 q79 => ?_)
                        have q79 : (∀ (b : Nat → Int32) (n q : Nat), t_TM b n q gi58 → (gi58 69 18).toInt = 0 → t_MF gi79 (s_fk b n q 4) (s_F b n q)) ∧ w79.toInt = 0 := q79
                        exact ev_retZ f_X12_aCase rfl l79 (Int.le_trans u79 (by decide : (0:Int) ≤ 1)) ⟨_, _, _, rfl, hI, hX, ⟨_, rfl, l79, (Int.le_trans u79 (by decide : (0:Int) ≤ 1)), (show (∀ (b : Nat → Int32) (n q : Nat) (K E : List Int), t_OM b n q K E gi → s_fct b n q → ¬ s_nst b n q → s_mi (s_W b n q) = ar1.toInt → w79.toInt = 1 → s_cok b n q ∧ t_OM b n (s_cx b n q) K (E ++ [s_ccd b n q]) gi79) from (fun b n q K E h hf hN hm hv => absurd hv (by have := q79.2; omega)))⟩⟩
                    · have r80 : (gi58 69 12).toInt ≠ 3 := fun e => h61 (Int32.toInt_inj.mp (e.trans (by decide : (3:Int) = (3 : Int32).toInt)))
                      refine ev_loc f_X12_aCase (nx := 139) rfl rfl rfl rfl ?_
                      refine ev_ic f_X12_aCase (nx := 140) (v := 2) rfl (by decide) rfl ?_
                      refine ev_qI f_X12_aCase (nx := 143) (r := []) rfl rfl rfl rfl rfl rfl rfl (c_n_fails hI (2) (by decide : (2:Int) ≤ (2:Int32).toInt) (Int.le_trans (by decide : (2:Int32).toInt ≤ (2:Int)) (by decide : (2:Int) ≤ 7))) rfl hX rfl (fun w81 gi81 gl81 gr81 l81 u81 hI hX hC81 q81 => ?_)
                      have q81 : (∀ (b : Nat → Int32) (n q : Nat), t_TM b n q gi58 → (gi58 69 18).toInt = 0 → t_MF gi81 (s_fk b n q 2) (s_F b n q)) ∧ w81.toInt = 0 := q81
                      exact ev_retZ f_X12_aCase rfl l81 (Int.le_trans u81 (by decide : (0:Int) ≤ 1)) ⟨_, _, _, rfl, hI, hX, ⟨_, rfl, l81, (Int.le_trans u81 (by decide : (0:Int) ≤ 1)), (show (∀ (b : Nat → Int32) (n q : Nat) (K E : List Int), t_OM b n q K E gi → s_fct b n q → ¬ s_nst b n q → s_mi (s_W b n q) = ar1.toInt → w81.toInt = 1 → s_cok b n q ∧ t_OM b n (s_cx b n q) K (E ++ [s_ccd b n q]) gi81) from (fun b n q K E h hf hN hm hv => absurd hv (by have := q81.2; omega)))⟩⟩
                  · have r82 : w55.toInt ≠ 0 := fun e => h56 (Int32.toInt_inj.mp (e.trans (by decide : (0:Int) = (0 : Int32).toInt)))
                    have l83 : 1 ≤ w55.toInt := t_nel h56 l55 rfl rfl
                    refine ev_ic f_X12_aCase (nx := 121) (v := 1) rfl (by decide) rfl ?_
                    refine ev_jmp f_X12_aCase (nx := 125) rfl rfl rfl ?_
                    refine ev_loc f_X12_aCase (nx := 126) (lo' := [(2, .int 1), (0, .ref 69), (1, .int ar1)]) rfl rfl rfl rfl ?_
                    refine ev_loc f_X12_aCase (nx := 127) rfl rfl rfl rfl ?_
                    refine ev_qN f_X12_aCase (nx := 130) (r := []) rfl rfl rfl rfl rfl rfl rfl (c_n_aheadB hI ) rfl hX rfl (fun gi84 gl84 gr84 hI hX hC84 q84 => ?_)
                    have q84 : ((gi18 69 14).toInt ≤ (gi84 69 14).toInt ∧ ((gi84 69 12).toInt ≠ 0 → (gi18 69 14).toInt < (gi84 69 14).toInt) ∧ ((gi84 69 12).toInt = 3 → 0 ≤ (gi84 69 15).toInt)) ∧ (∀ (b : Nat → Int32) (n q : Nat), t_Sm b n q gi18 → t_TM b n q gi84) := q84
                    refine ev_loc f_X12_aCase (nx := 131) rfl rfl rfl rfl ?_
                    refine ev_getI f_X12_aCase (nx := 134) rfl (hI.wf.s rfl) rfl rfl rfl ?_
                    obtain ⟨l86, u86⟩ := hI.b (hI.wf.s (k := 69) rfl) (t_bdK rfl : t_bd 11 12 = some (0, 4))
                    refine ev_ic f_X12_aCase (nx := 135) (v := 3) rfl (by decide) rfl ?_
                    refine ev_if f_X12_aCase (t1 := 144) (t2 := 138) rfl rfl rfl (fun h87 => ?_) (fun h87 => ?_)
                    · have u88 : (gi84 69 12).toInt ≤ 3 := t_equ h87 (by decide : (3:Int32).toInt ≤ (3:Int))
                      have l89 : 3 ≤ (gi84 69 12).toInt := t_eql h87 (by decide : (3:Int) ≤ (3:Int32).toInt)
                      refine ev_loc f_X12_aCase (nx := 145) rfl rfl rfl rfl ?_
                      refine ev_gvI f_X12_aCase (nx := 148) (w := (gi84 69 15)) rfl (hI.wf.s rfl) rfl rfl rfl rfl ?_
                      refine ev_sp f_X12_aCase (nx := 151) (v := 300) rfl (by decide) rfl ?_
                      refine ev_if f_X12_aCase (t1 := 160) (t2 := 154) rfl rfl rfl (fun h90 => ?_) (fun h90 => ?_)
                      · have u91 : (gi84 69 15).toInt ≤ 300 := t_leu h90 (by decide : (300:Int32).toInt ≤ (300:Int))
                        have l92 : (0:Int) ≤ (gi84 69 15).toInt := by omega
                        refine ev_loc f_X12_aCase (nx := 161) rfl rfl rfl rfl ?_
                        refine ev_ldI f_X12_aCase (nx := 163) (v := 100000) rfl (by decide) rfl ?_
                        refine ev_loc f_X12_aCase (nx := 164) rfl rfl rfl rfl ?_
                        refine ev_mulL f_X12_aCase (nx := 165) (c := 100000) (l := 1700000) (u := 2600000) rfl (by decide) (by decide) l39 u_a1 rfl rfl (by decide) (by decide) rfl (fun z93 e93 l93 u93 => ?_)
                        refine ev_sp f_X12_aCase (nx := 168) (v := 1000) rfl (by decide) rfl ?_
                        refine ev_loc f_X12_aCase (nx := 169) rfl rfl rfl rfl ?_
                        refine ev_aluvI f_X12_aCase (nx := 170) (w := 1000) rfl rfl rfl (by decide) rfl ?_
                        refine ev_addC f_X12_aCase (nx := 171) (c := 1000) (l := 1701000) (u := 2601000) rfl (by decide) l93 u93 rfl rfl (by decide) (by decide) rfl (fun z94 e94 l94 u94 => ?_)
                        refine ev_loc f_X12_aCase (nx := 172) rfl rfl rfl rfl ?_
                        refine ev_gvI f_X12_aCase (nx := 175) (w := (gi84 69 15)) rfl (hI.wf.s rfl) rfl rfl rfl rfl ?_
                        refine ev_addR f_X12_aCase (nx := 176) (l := 1701000) (u := 2601300) rfl l94 u94 l92 u91 rfl rfl (by decide) (by decide) rfl (fun z95 e95 l95 u95 => ?_)
                        refine ev_inV2 f_X12_aCase (nx := 179) (lo2 := [(0, .ref 69), (1, .int z95)]) rfl rfl rfl rfl f_X12_asksAlso (hI.wf.s rfl) rfl rfl rfl rfl rfl ?_
                        have kn96 := t_K_num e_p0
                        refine ev_loc f_X12_asksAlso (nx := 1) rfl rfl rfl rfl ?_
                        refine ev_getR f_X12_asksAlso (nx := 4) rfl (hI.wf.s rfl) rfl rfl (hI.wf.r rfl) rfl rfl ?_
                        refine ev_sp f_X12_asksAlso (nx := 7) (v := 1540) rfl (by decide) rfl ?_
                        refine ev_loc f_X12_asksAlso (nx := 8) rfl rfl rfl rfl ?_
                        refine ev_gvI f_X12_asksAlso (nx := 11) (w := (gi 69 25)) rfl (hI.wf.s rfl) rfl rfl ((hC84.1 69 25 rfl).1.trans ((hC18.1 69 25 rfl).1.trans ((by rw [e17]; exact x_up2_off (Or.inr (by decide)) : g17 69 25 = gi 69 25).trans rfl))) rfl ?_
                        refine ev_addK f_X12_asksAlso (nx := 12) (c := 1540) (l := 1540) (u := 1750) rfl (by decide) l5 u5 rfl rfl (by decide) (by decide) rfl (fun z97 e97 l97 u97 => ?_)
                        refine ev_loc f_X12_asksAlso (nx := 13) rfl rfl rfl rfl ?_
                        refine ev_iastT f_X12_asksAlso (nx := 14) rfl (hI.wf.s rfl) l97 (by decide) u97 (by decide) rfl (hI.astL (hI.wf.s rfl) (by decide +kernel : t_abw 70 1540 1750 1701000 2601300 = true) (t_cl1 l97 (by decide)) (t_cl2 l97 u97 (by decide) (by decide)) l95 u95 rfl) (hX.upI (t_inR (p := 1540) (m := 1750) rfl l97 (by decide) u97 (by decide) (by decide))) (fun g98 e98 hI hX => ?_)
                        refine ev_loc f_X12_asksAlso (nx := 15) rfl rfl rfl rfl ?_
                        refine ev_alu f_X12_asksAlso (nx := 16) rfl rfl rfl rfl ?_
                        refine ev_gvI f_X12_asksAlso (nx := 19) (w := (gi 69 25)) rfl (hI.wf.s rfl) rfl rfl ((by rw [e98]; exact x_up2_off (Or.inl (by decide)) : g98 69 25 = gi84 69 25).trans ((hC84.1 69 25 rfl).1.trans ((hC18.1 69 25 rfl).1.trans ((by rw [e17]; exact x_up2_off (Or.inr (by decide)) : g17 69 25 = gi 69 25).trans rfl)))) rfl ?_
                        refine ev_ic f_X12_asksAlso (nx := 20) (v := 1) rfl (by decide) rfl ?_
                        refine ev_addC f_X12_asksAlso (nx := 21) (c := 1) (l := 1) (u := 211) rfl (by decide) l5 u5 rfl rfl (by decide) (by decide) rfl (fun z99 e99 l99 u99 => ?_)
                        have u101 : z99.toInt ≤ (210:Int) := (by omega)
                        refine ev_putIT f_X12_asksAlso (nx := 24) rfl (hI.wf.s rfl) rfl rfl rfl (hI.putB (hI.wf.s rfl) rfl rfl l99 (by decide) u101 (by decide)) (hX.upI rfl) (fun g100 e100 hI hX => ?_)
                        refine ev_retK0 f_X12_asksAlso rfl rfl rfl ?_
                        refine ev_loc f_X12_aCase (nx := 180) rfl rfl rfl rfl ?_
                        refine ev_qN f_X12_aCase (nx := 183) (r := []) rfl rfl rfl rfl rfl rfl rfl (c_n_aheadB hI ) rfl hX rfl (fun gi102 gl102 gr102 hI hX hC102 q102 => ?_)
                        have q102 : ((g100 69 14).toInt ≤ (gi102 69 14).toInt ∧ ((gi102 69 12).toInt ≠ 0 → (g100 69 14).toInt < (gi102 69 14).toInt) ∧ ((gi102 69 12).toInt = 3 → 0 ≤ (gi102 69 15).toInt)) ∧ (∀ (b : Nat → Int32) (n q : Nat), t_Sm b n q g100 → t_TM b n q gi102) := q102
                        refine ev_ic f_X12_aCase (nx := 184) (v := 1) rfl (by decide) rfl ?_
                        exact ev_ret f_X12_aCase rfl rfl rfl ⟨_, _, _, rfl, hI, hX, ⟨_, rfl, (Int.le_trans (by decide : (0:Int) ≤ 1) (by decide : (1:Int) ≤ (1:Int32).toInt)), (by decide : (1:Int32).toInt ≤ (1:Int)), (show (∀ (b : Nat → Int32) (n q : Nat) (K E : List Int), t_OM b n q K E gi → s_fct b n q → ¬ s_nst b n q → s_mi (s_W b n q) = ar1.toInt → (1 : Int) = 1 → s_cok b n q ∧ t_OM b n (s_cx b n q) K (E ++ [s_ccd b n q]) gi102) from (fun b n q K E h hf hN hm hv => (by
                                                            have h1 := h.sm (g1 := g17) (t_fM.rf.u9 (by decide) e17) (congrArg Int32.toInt (by rw [e17, x_up2_off (Or.inr (by decide))])) (congrArg Int32.toInt (by rw [e17, x_up2_off (Or.inr (by decide))])) (funext fun j => (by rw [e17, x_up2_ne (by decide)])) (funext fun j => (by rw [e17, x_up2_ne (by decide)]))
                                                            have h2 := h1.ah (q18.2 b n _ h1.1.S) (congrArg Int32.toInt (hC18.1 69 22 rfl).1) (congrArg Int32.toInt (hC18.1 69 25 rfl).1) (funext fun j => (hC18.1 77 j rfl).1) (funext fun j => (hC18.1 70 j rfl).1)
                                                            have hO : ¬ s_opn b n q := fun hh => by have := s_opn_mi.mp hh; omega
                                                            have hC : s_cmp b n (s_E b n q) := Or.inr (Or.inr ((q46.1 b n _ h2.1).mp (by omega)))
                                                            have hc4 := s_cc_1 hO (fun x => absurd ((q52.1 b n _ h2.1).mpr x) (by omega)) ((q55.1 b n _ h2.1).mp (by omega))
                                                            have h3 := h2.ah (q84.2 b n _ h2.1.S) (congrArg Int32.toInt (hC84.1 69 22 rfl).1) (congrArg Int32.toInt (hC84.1 69 25 rfl).1) (funext fun j => (hC84.1 77 j rfl).1) (funext fun j => (hC84.1 70 j rfl).1)
                                                            have hV := h3.1.vT (lo := 0) (hi := 300) (by omega) (by omega) (by omega)
                                                            have hK : s_K b n (s_E b n (s_E b n q)) = 3 := hV.1.1
                                                            have k25 : (gi84 69 25).toInt = (gi 69 25).toInt := (congrArg Int32.toInt (by rw [(hC84.1 69 25 rfl).1, (hC18.1 69 25 rfl).1, e17, x_up2_off (Or.inr (by decide))]))
                                                            have hV2 := hV.2
                                                            have h4 := h3.em (g1 := g100) (v := z95) ((t_fM.rf.ux (by decide) e98).u9 (by decide) e100) (congrArg Int32.toInt (by rw [e100, x_up2_off (Or.inr (by decide)), e98, x_up2_ne (by decide)])) (by rw [e100, x_up2_at]; exact Int.le_antisymm (by omega) (by omega)) (funext fun j => (by rw [e100, x_up2_ne (by decide), e98, x_up2_ne (by decide)])) ⟨fun j hj => (by have hc := t_clamp (i := z97) (by omega); rw [e100, x_up2_ne (by decide), e98, x_up2_off (Or.inr (by omega))]), by have hc := t_clamp (i := z97) (by omega); rw [show 1540 + (gi84 69 25).toInt.toNat = z97.toNatClampNeg by omega, e100, x_up2_ne (by decide), e98]; exact x_up2_at _ _ _ _⟩
                                                            have hcv : s_ccd b n q = z95.toInt := by rw [hc4]; omega
                                                            rw [← hcv] at h4
                                                            have h5 := h4.ah (q102.2 b n _ h4.1.S) (congrArg Int32.toInt (hC102.1 69 22 rfl).1) (congrArg Int32.toInt (hC102.1 69 25 rfl).1) (funext fun j => (hC102.1 77 j rfl).1) (funext fun j => (hC102.1 70 j rfl).1)
                                                            refine ⟨⟨hf, Or.inr ⟨hC, hK⟩⟩, ?_⟩
                                                            rw [s_cx_c hO]
                                                            exact h5)))⟩⟩
                      · have l104 : 301 ≤ (gi84 69 15).toInt := t_ltl (t_nle h90) (by decide : (300:Int) ≤ (300:Int32).toInt) rfl
                        refine ev_loc f_X12_aCase (nx := 155) rfl rfl rfl rfl ?_
                        refine ev_ic f_X12_aCase (nx := 156) (v := 4) rfl (by decide) rfl ?_
                        refine ev_qI f_X12_aCase (nx := 159) (r := []) rfl rfl rfl rfl rfl rfl rfl (c_n_fails hI (4) (Int.le_trans (by decide : (2:Int) ≤ 4) (by decide : (4:Int) ≤ (4:Int32).toInt)) (Int.le_trans (by decide : (4:Int32).toInt ≤ (4:Int)) (by decide : (4:Int) ≤ 7))) rfl hX rfl (fun w105 gi105 gl105 gr105 l105 u105 hI hX hC105 q105 => ?_)
                        have q105 : (∀ (b : Nat → Int32) (n q : Nat), t_TM b n q gi84 → (gi84 69 18).toInt = 0 → t_MF gi105 (s_fk b n q 4) (s_F b n q)) ∧ w105.toInt = 0 := q105
                        exact ev_retZ f_X12_aCase rfl l105 (Int.le_trans u105 (by decide : (0:Int) ≤ 1)) ⟨_, _, _, rfl, hI, hX, ⟨_, rfl, l105, (Int.le_trans u105 (by decide : (0:Int) ≤ 1)), (show (∀ (b : Nat → Int32) (n q : Nat) (K E : List Int), t_OM b n q K E gi → s_fct b n q → ¬ s_nst b n q → s_mi (s_W b n q) = ar1.toInt → w105.toInt = 1 → s_cok b n q ∧ t_OM b n (s_cx b n q) K (E ++ [s_ccd b n q]) gi105) from (fun b n q K E h hf hN hm hv => absurd hv (by have := q105.2; omega)))⟩⟩
                    · have r106 : (gi84 69 12).toInt ≠ 3 := fun e => h87 (Int32.toInt_inj.mp (e.trans (by decide : (3:Int) = (3 : Int32).toInt)))
                      refine ev_loc f_X12_aCase (nx := 139) rfl rfl rfl rfl ?_
                      refine ev_ic f_X12_aCase (nx := 140) (v := 2) rfl (by decide) rfl ?_
                      refine ev_qI f_X12_aCase (nx := 143) (r := []) rfl rfl rfl rfl rfl rfl rfl (c_n_fails hI (2) (by decide : (2:Int) ≤ (2:Int32).toInt) (Int.le_trans (by decide : (2:Int32).toInt ≤ (2:Int)) (by decide : (2:Int) ≤ 7))) rfl hX rfl (fun w107 gi107 gl107 gr107 l107 u107 hI hX hC107 q107 => ?_)
                      have q107 : (∀ (b : Nat → Int32) (n q : Nat), t_TM b n q gi84 → (gi84 69 18).toInt = 0 → t_MF gi107 (s_fk b n q 2) (s_F b n q)) ∧ w107.toInt = 0 := q107
                      exact ev_retZ f_X12_aCase rfl l107 (Int.le_trans u107 (by decide : (0:Int) ≤ 1)) ⟨_, _, _, rfl, hI, hX, ⟨_, rfl, l107, (Int.le_trans u107 (by decide : (0:Int) ≤ 1)), (show (∀ (b : Nat → Int32) (n q : Nat) (K E : List Int), t_OM b n q K E gi → s_fct b n q → ¬ s_nst b n q → s_mi (s_W b n q) = ar1.toInt → w107.toInt = 1 → s_cok b n q ∧ t_OM b n (s_cx b n q) K (E ++ [s_ccd b n q]) gi107) from (fun b n q K E h hf hN hm hv => absurd hv (by have := q107.2; omega)))⟩⟩
                · have r108 : w52.toInt ≠ 0 := fun e => h53 (Int32.toInt_inj.mp (e.trans (by decide : (0:Int) = (0 : Int32).toInt)))
                  have l109 : 1 ≤ w52.toInt := t_nel h53 l52 rfl rfl
                  refine ev_ic f_X12_aCase (nx := 108) (v := 0) rfl (by decide) rfl ?_
                  refine ev_jmp f_X12_aCase (nx := 125) rfl rfl rfl ?_
                  refine ev_loc f_X12_aCase (nx := 126) (lo' := [(2, .int 0), (0, .ref 69), (1, .int ar1)]) rfl rfl rfl rfl ?_
                  refine ev_loc f_X12_aCase (nx := 127) rfl rfl rfl rfl ?_
                  refine ev_qN f_X12_aCase (nx := 130) (r := []) rfl rfl rfl rfl rfl rfl rfl (c_n_aheadB hI ) rfl hX rfl (fun gi110 gl110 gr110 hI hX hC110 q110 => ?_)
                  have q110 : ((gi18 69 14).toInt ≤ (gi110 69 14).toInt ∧ ((gi110 69 12).toInt ≠ 0 → (gi18 69 14).toInt < (gi110 69 14).toInt) ∧ ((gi110 69 12).toInt = 3 → 0 ≤ (gi110 69 15).toInt)) ∧ (∀ (b : Nat → Int32) (n q : Nat), t_Sm b n q gi18 → t_TM b n q gi110) := q110
                  refine ev_loc f_X12_aCase (nx := 131) rfl rfl rfl rfl ?_
                  refine ev_getI f_X12_aCase (nx := 134) rfl (hI.wf.s rfl) rfl rfl rfl ?_
                  obtain ⟨l112, u112⟩ := hI.b (hI.wf.s (k := 69) rfl) (t_bdK rfl : t_bd 11 12 = some (0, 4))
                  refine ev_ic f_X12_aCase (nx := 135) (v := 3) rfl (by decide) rfl ?_
                  refine ev_if f_X12_aCase (t1 := 144) (t2 := 138) rfl rfl rfl (fun h113 => ?_) (fun h113 => ?_)
                  · have u114 : (gi110 69 12).toInt ≤ 3 := t_equ h113 (by decide : (3:Int32).toInt ≤ (3:Int))
                    have l115 : 3 ≤ (gi110 69 12).toInt := t_eql h113 (by decide : (3:Int) ≤ (3:Int32).toInt)
                    refine ev_loc f_X12_aCase (nx := 145) rfl rfl rfl rfl ?_
                    refine ev_gvI f_X12_aCase (nx := 148) (w := (gi110 69 15)) rfl (hI.wf.s rfl) rfl rfl rfl rfl ?_
                    refine ev_sp f_X12_aCase (nx := 151) (v := 300) rfl (by decide) rfl ?_
                    refine ev_if f_X12_aCase (t1 := 160) (t2 := 154) rfl rfl rfl (fun h116 => ?_) (fun h116 => ?_)
                    · have u117 : (gi110 69 15).toInt ≤ 300 := t_leu h116 (by decide : (300:Int32).toInt ≤ (300:Int))
                      have l118 : (0:Int) ≤ (gi110 69 15).toInt := by omega
                      refine ev_loc f_X12_aCase (nx := 161) rfl rfl rfl rfl ?_
                      refine ev_ldI f_X12_aCase (nx := 163) (v := 100000) rfl (by decide) rfl ?_
                      refine ev_loc f_X12_aCase (nx := 164) rfl rfl rfl rfl ?_
                      refine ev_mulL f_X12_aCase (nx := 165) (c := 100000) (l := 1700000) (u := 2600000) rfl (by decide) (by decide) l39 u_a1 rfl rfl (by decide) (by decide) rfl (fun z119 e119 l119 u119 => ?_)
                      refine ev_sp f_X12_aCase (nx := 168) (v := 1000) rfl (by decide) rfl ?_
                      refine ev_loc f_X12_aCase (nx := 169) rfl rfl rfl rfl ?_
                      refine ev_aluvI f_X12_aCase (nx := 170) (w := 0) rfl rfl rfl (by decide) rfl ?_
                      refine ev_addC f_X12_aCase (nx := 171) (c := 0) (l := 1700000) (u := 2600000) rfl (by decide) l119 u119 rfl rfl (by decide) (by decide) rfl (fun z120 e120 l120 u120 => ?_)
                      refine ev_loc f_X12_aCase (nx := 172) rfl rfl rfl rfl ?_
                      refine ev_gvI f_X12_aCase (nx := 175) (w := (gi110 69 15)) rfl (hI.wf.s rfl) rfl rfl rfl rfl ?_
                      refine ev_addR f_X12_aCase (nx := 176) (l := 1700000) (u := 2600300) rfl l120 u120 l118 u117 rfl rfl (by decide) (by decide) rfl (fun z121 e121 l121 u121 => ?_)
                      refine ev_inV2 f_X12_aCase (nx := 179) (lo2 := [(0, .ref 69), (1, .int z121)]) rfl rfl rfl rfl f_X12_asksAlso (hI.wf.s rfl) rfl rfl rfl rfl rfl ?_
                      have kn122 := t_K_num e_p0
                      refine ev_loc f_X12_asksAlso (nx := 1) rfl rfl rfl rfl ?_
                      refine ev_getR f_X12_asksAlso (nx := 4) rfl (hI.wf.s rfl) rfl rfl (hI.wf.r rfl) rfl rfl ?_
                      refine ev_sp f_X12_asksAlso (nx := 7) (v := 1540) rfl (by decide) rfl ?_
                      refine ev_loc f_X12_asksAlso (nx := 8) rfl rfl rfl rfl ?_
                      refine ev_gvI f_X12_asksAlso (nx := 11) (w := (gi 69 25)) rfl (hI.wf.s rfl) rfl rfl ((hC110.1 69 25 rfl).1.trans ((hC18.1 69 25 rfl).1.trans ((by rw [e17]; exact x_up2_off (Or.inr (by decide)) : g17 69 25 = gi 69 25).trans rfl))) rfl ?_
                      refine ev_addK f_X12_asksAlso (nx := 12) (c := 1540) (l := 1540) (u := 1750) rfl (by decide) l5 u5 rfl rfl (by decide) (by decide) rfl (fun z123 e123 l123 u123 => ?_)
                      refine ev_loc f_X12_asksAlso (nx := 13) rfl rfl rfl rfl ?_
                      refine ev_iastT f_X12_asksAlso (nx := 14) rfl (hI.wf.s rfl) l123 (by decide) u123 (by decide) rfl (hI.astL (hI.wf.s rfl) (by decide +kernel : t_abw 70 1540 1750 1700000 2600300 = true) (t_cl1 l123 (by decide)) (t_cl2 l123 u123 (by decide) (by decide)) l121 u121 rfl) (hX.upI (t_inR (p := 1540) (m := 1750) rfl l123 (by decide) u123 (by decide) (by decide))) (fun g124 e124 hI hX => ?_)
                      refine ev_loc f_X12_asksAlso (nx := 15) rfl rfl rfl rfl ?_
                      refine ev_alu f_X12_asksAlso (nx := 16) rfl rfl rfl rfl ?_
                      refine ev_gvI f_X12_asksAlso (nx := 19) (w := (gi 69 25)) rfl (hI.wf.s rfl) rfl rfl ((by rw [e124]; exact x_up2_off (Or.inl (by decide)) : g124 69 25 = gi110 69 25).trans ((hC110.1 69 25 rfl).1.trans ((hC18.1 69 25 rfl).1.trans ((by rw [e17]; exact x_up2_off (Or.inr (by decide)) : g17 69 25 = gi 69 25).trans rfl)))) rfl ?_
                      refine ev_ic f_X12_asksAlso (nx := 20) (v := 1) rfl (by decide) rfl ?_
                      refine ev_addC f_X12_asksAlso (nx := 21) (c := 1) (l := 1) (u := 211) rfl (by decide) l5 u5 rfl rfl (by decide) (by decide) rfl (fun z125 e125 l125 u125 => ?_)
                      have u127 : z125.toInt ≤ (210:Int) := (by omega)
                      refine ev_putIT f_X12_asksAlso (nx := 24) rfl (hI.wf.s rfl) rfl rfl rfl (hI.putB (hI.wf.s rfl) rfl rfl l125 (by decide) u127 (by decide)) (hX.upI rfl) (fun g126 e126 hI hX => ?_)
                      refine ev_retK0 f_X12_asksAlso rfl rfl rfl ?_
                      refine ev_loc f_X12_aCase (nx := 180) rfl rfl rfl rfl ?_
                      refine ev_qN f_X12_aCase (nx := 183) (r := []) rfl rfl rfl rfl rfl rfl rfl (c_n_aheadB hI ) rfl hX rfl (fun gi128 gl128 gr128 hI hX hC128 q128 => ?_)
                      have q128 : ((g126 69 14).toInt ≤ (gi128 69 14).toInt ∧ ((gi128 69 12).toInt ≠ 0 → (g126 69 14).toInt < (gi128 69 14).toInt) ∧ ((gi128 69 12).toInt = 3 → 0 ≤ (gi128 69 15).toInt)) ∧ (∀ (b : Nat → Int32) (n q : Nat), t_Sm b n q g126 → t_TM b n q gi128) := q128
                      refine ev_ic f_X12_aCase (nx := 184) (v := 1) rfl (by decide) rfl ?_
                      exact ev_ret f_X12_aCase rfl rfl rfl ⟨_, _, _, rfl, hI, hX, ⟨_, rfl, (Int.le_trans (by decide : (0:Int) ≤ 1) (by decide : (1:Int) ≤ (1:Int32).toInt)), (by decide : (1:Int32).toInt ≤ (1:Int)), (show (∀ (b : Nat → Int32) (n q : Nat) (K E : List Int), t_OM b n q K E gi → s_fct b n q → ¬ s_nst b n q → s_mi (s_W b n q) = ar1.toInt → (1 : Int) = 1 → s_cok b n q ∧ t_OM b n (s_cx b n q) K (E ++ [s_ccd b n q]) gi128) from (fun b n q K E h hf hN hm hv => (by
                                                            have h1 := h.sm (g1 := g17) (t_fM.rf.u9 (by decide) e17) (congrArg Int32.toInt (by rw [e17, x_up2_off (Or.inr (by decide))])) (congrArg Int32.toInt (by rw [e17, x_up2_off (Or.inr (by decide))])) (funext fun j => (by rw [e17, x_up2_ne (by decide)])) (funext fun j => (by rw [e17, x_up2_ne (by decide)]))
                                                            have h2 := h1.ah (q18.2 b n _ h1.1.S) (congrArg Int32.toInt (hC18.1 69 22 rfl).1) (congrArg Int32.toInt (hC18.1 69 25 rfl).1) (funext fun j => (hC18.1 77 j rfl).1) (funext fun j => (hC18.1 70 j rfl).1)
                                                            have hO : ¬ s_opn b n q := fun hh => by have := s_opn_mi.mp hh; omega
                                                            have hC : s_cmp b n (s_E b n q) := Or.inr (Or.inr ((q46.1 b n _ h2.1).mp (by omega)))
                                                            have hc4 := s_cc_0 hO ((q52.1 b n _ h2.1).mp (by omega))
                                                            have h3 := h2.ah (q110.2 b n _ h2.1.S) (congrArg Int32.toInt (hC110.1 69 22 rfl).1) (congrArg Int32.toInt (hC110.1 69 25 rfl).1) (funext fun j => (hC110.1 77 j rfl).1) (funext fun j => (hC110.1 70 j rfl).1)
                                                            have hV := h3.1.vT (lo := 0) (hi := 300) (by omega) (by omega) (by omega)
                                                            have hK : s_K b n (s_E b n (s_E b n q)) = 3 := hV.1.1
                                                            have k25 : (gi110 69 25).toInt = (gi 69 25).toInt := (congrArg Int32.toInt (by rw [(hC110.1 69 25 rfl).1, (hC18.1 69 25 rfl).1, e17, x_up2_off (Or.inr (by decide))]))
                                                            have hV2 := hV.2
                                                            have h4 := h3.em (g1 := g126) (v := z121) ((t_fM.rf.ux (by decide) e124).u9 (by decide) e126) (congrArg Int32.toInt (by rw [e126, x_up2_off (Or.inr (by decide)), e124, x_up2_ne (by decide)])) (by rw [e126, x_up2_at]; exact Int.le_antisymm (by omega) (by omega)) (funext fun j => (by rw [e126, x_up2_ne (by decide), e124, x_up2_ne (by decide)])) ⟨fun j hj => (by have hc := t_clamp (i := z123) (by omega); rw [e126, x_up2_ne (by decide), e124, x_up2_off (Or.inr (by omega))]), by have hc := t_clamp (i := z123) (by omega); rw [show 1540 + (gi110 69 25).toInt.toNat = z123.toNatClampNeg by omega, e126, x_up2_ne (by decide), e124]; exact x_up2_at _ _ _ _⟩
                                                            have hcv : s_ccd b n q = z121.toInt := by rw [hc4]; omega
                                                            rw [← hcv] at h4
                                                            have h5 := h4.ah (q128.2 b n _ h4.1.S) (congrArg Int32.toInt (hC128.1 69 22 rfl).1) (congrArg Int32.toInt (hC128.1 69 25 rfl).1) (funext fun j => (hC128.1 77 j rfl).1) (funext fun j => (hC128.1 70 j rfl).1)
                                                            refine ⟨⟨hf, Or.inr ⟨hC, hK⟩⟩, ?_⟩
                                                            rw [s_cx_c hO]
                                                            exact h5)))⟩⟩
                    · have l130 : 301 ≤ (gi110 69 15).toInt := t_ltl (t_nle h116) (by decide : (300:Int) ≤ (300:Int32).toInt) rfl
                      refine ev_loc f_X12_aCase (nx := 155) rfl rfl rfl rfl ?_
                      refine ev_ic f_X12_aCase (nx := 156) (v := 4) rfl (by decide) rfl ?_
                      refine ev_qI f_X12_aCase (nx := 159) (r := []) rfl rfl rfl rfl rfl rfl rfl (c_n_fails hI (4) (Int.le_trans (by decide : (2:Int) ≤ 4) (by decide : (4:Int) ≤ (4:Int32).toInt)) (Int.le_trans (by decide : (4:Int32).toInt ≤ (4:Int)) (by decide : (4:Int) ≤ 7))) rfl hX rfl (fun w131 gi131 gl131 gr131 l131 u131 hI hX hC131 q131 => ?_)
                      have q131 : (∀ (b : Nat → Int32) (n q : Nat), t_TM b n q gi110 → (gi110 69 18).toInt = 0 → t_MF gi131 (s_fk b n q 4) (s_F b n q)) ∧ w131.toInt = 0 := q131
                      exact ev_retZ f_X12_aCase rfl l131 (Int.le_trans u131 (by decide : (0:Int) ≤ 1)) ⟨_, _, _, rfl, hI, hX, ⟨_, rfl, l131, (Int.le_trans u131 (by decide : (0:Int) ≤ 1)), (show (∀ (b : Nat → Int32) (n q : Nat) (K E : List Int), t_OM b n q K E gi → s_fct b n q → ¬ s_nst b n q → s_mi (s_W b n q) = ar1.toInt → w131.toInt = 1 → s_cok b n q ∧ t_OM b n (s_cx b n q) K (E ++ [s_ccd b n q]) gi131) from (fun b n q K E h hf hN hm hv => absurd hv (by have := q131.2; omega)))⟩⟩
                  · have r132 : (gi110 69 12).toInt ≠ 3 := fun e => h113 (Int32.toInt_inj.mp (e.trans (by decide : (3:Int) = (3 : Int32).toInt)))
                    refine ev_loc f_X12_aCase (nx := 139) rfl rfl rfl rfl ?_
                    refine ev_ic f_X12_aCase (nx := 140) (v := 2) rfl (by decide) rfl ?_
                    refine ev_qI f_X12_aCase (nx := 143) (r := []) rfl rfl rfl rfl rfl rfl rfl (c_n_fails hI (2) (by decide : (2:Int) ≤ (2:Int32).toInt) (Int.le_trans (by decide : (2:Int32).toInt ≤ (2:Int)) (by decide : (2:Int) ≤ 7))) rfl hX rfl (fun w133 gi133 gl133 gr133 l133 u133 hI hX hC133 q133 => ?_)
                    have q133 : (∀ (b : Nat → Int32) (n q : Nat), t_TM b n q gi110 → (gi110 69 18).toInt = 0 → t_MF gi133 (s_fk b n q 2) (s_F b n q)) ∧ w133.toInt = 0 := q133
                    exact ev_retZ f_X12_aCase rfl l133 (Int.le_trans u133 (by decide : (0:Int) ≤ 1)) ⟨_, _, _, rfl, hI, hX, ⟨_, rfl, l133, (Int.le_trans u133 (by decide : (0:Int) ≤ 1)), (show (∀ (b : Nat → Int32) (n q : Nat) (K E : List Int), t_OM b n q K E gi → s_fct b n q → ¬ s_nst b n q → s_mi (s_W b n q) = ar1.toInt → w133.toInt = 1 → s_cok b n q ∧ t_OM b n (s_cx b n q) K (E ++ [s_ccd b n q]) gi133) from (fun b n q K E h hf hN hm hv => absurd hv (by have := q133.2; omega)))⟩⟩
            · have r134 : w43.toInt ≠ 0 := fun e => h44 (Int32.toInt_inj.mp (e.trans (by decide : (0:Int) = (0 : Int32).toInt)))
              have l135 : 1 ≤ w43.toInt := t_nel h44 l43 rfl rfl
              refine ev_loc f_X12_aCase (nx := 99) rfl rfl rfl rfl ?_
              refine ev_bp f_X12_aCase (nx := 101) (v := 60) rfl (by decide) rfl ?_
              refine ev_qI0 f_X12_aCase (nx := 104) (r := []) rfl rfl rfl rfl rfl rfl rfl (c_n_isSignB hI (60)) rfl (fun w136 l136 u136 q136 => ?_)
              have q136 : (∀ (b : Nat → Int32) (n q : Nat), t_TM b n q gi18 → (w136.toInt = 1 ↔ s_isS b n q 60)) ∧ (w136.toInt = 1 → (gi18 69 12).toInt = 4) := q136
              refine ev_if f_X12_aCase (t1 := 111) (t2 := 107) rfl rfl rfl (fun h137 => ?_) (fun h137 => ?_)
              · have u138 : w136.toInt ≤ 0 := t_equ h137 (by decide : (0:Int32).toInt ≤ (0:Int))
                refine ev_loc f_X12_aCase (nx := 112) rfl rfl rfl rfl ?_
                refine ev_bp f_X12_aCase (nx := 114) (v := 62) rfl (by decide) rfl ?_
                refine ev_qI0 f_X12_aCase (nx := 117) (r := []) rfl rfl rfl rfl rfl rfl rfl (c_n_isSignB hI (62)) rfl (fun w139 l139 u139 q139 => ?_)
                have q139 : (∀ (b : Nat → Int32) (n q : Nat), t_TM b n q gi18 → (w139.toInt = 1 ↔ s_isS b n q 62)) ∧ (w139.toInt = 1 → (gi18 69 12).toInt = 4) := q139
                refine ev_if f_X12_aCase (t1 := 124) (t2 := 120) rfl rfl rfl (fun h140 => ?_) (fun h140 => ?_)
                · have u141 : w139.toInt ≤ 0 := t_equ h140 (by decide : (0:Int32).toInt ≤ (0:Int))
                  refine ev_ic f_X12_aCase (nx := 125) (v := 2) rfl (by decide) rfl ?_
                  refine ev_loc f_X12_aCase (nx := 126) (lo' := [(2, .int 2), (0, .ref 69), (1, .int ar1)]) rfl rfl rfl rfl ?_
                  refine ev_loc f_X12_aCase (nx := 127) rfl rfl rfl rfl ?_
                  refine ev_qN f_X12_aCase (nx := 130) (r := []) rfl rfl rfl rfl rfl rfl rfl (c_n_aheadB hI ) rfl hX rfl (fun gi142 gl142 gr142 hI hX hC142 q142 => ?_)
                  have q142 : ((gi18 69 14).toInt ≤ (gi142 69 14).toInt ∧ ((gi142 69 12).toInt ≠ 0 → (gi18 69 14).toInt < (gi142 69 14).toInt) ∧ ((gi142 69 12).toInt = 3 → 0 ≤ (gi142 69 15).toInt)) ∧ (∀ (b : Nat → Int32) (n q : Nat), t_Sm b n q gi18 → t_TM b n q gi142) := q142
                  refine ev_loc f_X12_aCase (nx := 131) rfl rfl rfl rfl ?_
                  refine ev_getI f_X12_aCase (nx := 134) rfl (hI.wf.s rfl) rfl rfl rfl ?_
                  obtain ⟨l144, u144⟩ := hI.b (hI.wf.s (k := 69) rfl) (t_bdK rfl : t_bd 11 12 = some (0, 4))
                  refine ev_ic f_X12_aCase (nx := 135) (v := 3) rfl (by decide) rfl ?_
                  refine ev_if f_X12_aCase (t1 := 144) (t2 := 138) rfl rfl rfl (fun h145 => ?_) (fun h145 => ?_)
                  · have u146 : (gi142 69 12).toInt ≤ 3 := t_equ h145 (by decide : (3:Int32).toInt ≤ (3:Int))
                    have l147 : 3 ≤ (gi142 69 12).toInt := t_eql h145 (by decide : (3:Int) ≤ (3:Int32).toInt)
                    refine ev_loc f_X12_aCase (nx := 145) rfl rfl rfl rfl ?_
                    refine ev_gvI f_X12_aCase (nx := 148) (w := (gi142 69 15)) rfl (hI.wf.s rfl) rfl rfl rfl rfl ?_
                    refine ev_sp f_X12_aCase (nx := 151) (v := 300) rfl (by decide) rfl ?_
                    refine ev_if f_X12_aCase (t1 := 160) (t2 := 154) rfl rfl rfl (fun h148 => ?_) (fun h148 => ?_)
                    · have u149 : (gi142 69 15).toInt ≤ 300 := t_leu h148 (by decide : (300:Int32).toInt ≤ (300:Int))
                      have l150 : (0:Int) ≤ (gi142 69 15).toInt := by omega
                      refine ev_loc f_X12_aCase (nx := 161) rfl rfl rfl rfl ?_
                      refine ev_ldI f_X12_aCase (nx := 163) (v := 100000) rfl (by decide) rfl ?_
                      refine ev_loc f_X12_aCase (nx := 164) rfl rfl rfl rfl ?_
                      refine ev_mulL f_X12_aCase (nx := 165) (c := 100000) (l := 1700000) (u := 2600000) rfl (by decide) (by decide) l39 u_a1 rfl rfl (by decide) (by decide) rfl (fun z151 e151 l151 u151 => ?_)
                      refine ev_sp f_X12_aCase (nx := 168) (v := 1000) rfl (by decide) rfl ?_
                      refine ev_loc f_X12_aCase (nx := 169) rfl rfl rfl rfl ?_
                      refine ev_aluvI f_X12_aCase (nx := 170) (w := 2000) rfl rfl rfl (by decide) rfl ?_
                      refine ev_addC f_X12_aCase (nx := 171) (c := 2000) (l := 1702000) (u := 2602000) rfl (by decide) l151 u151 rfl rfl (by decide) (by decide) rfl (fun z152 e152 l152 u152 => ?_)
                      refine ev_loc f_X12_aCase (nx := 172) rfl rfl rfl rfl ?_
                      refine ev_gvI f_X12_aCase (nx := 175) (w := (gi142 69 15)) rfl (hI.wf.s rfl) rfl rfl rfl rfl ?_
                      refine ev_addR f_X12_aCase (nx := 176) (l := 1702000) (u := 2602300) rfl l152 u152 l150 u149 rfl rfl (by decide) (by decide) rfl (fun z153 e153 l153 u153 => ?_)
                      refine ev_inV2 f_X12_aCase (nx := 179) (lo2 := [(0, .ref 69), (1, .int z153)]) rfl rfl rfl rfl f_X12_asksAlso (hI.wf.s rfl) rfl rfl rfl rfl rfl ?_
                      have kn154 := t_K_num e_p0
                      refine ev_loc f_X12_asksAlso (nx := 1) rfl rfl rfl rfl ?_
                      refine ev_getR f_X12_asksAlso (nx := 4) rfl (hI.wf.s rfl) rfl rfl (hI.wf.r rfl) rfl rfl ?_
                      refine ev_sp f_X12_asksAlso (nx := 7) (v := 1540) rfl (by decide) rfl ?_
                      refine ev_loc f_X12_asksAlso (nx := 8) rfl rfl rfl rfl ?_
                      refine ev_gvI f_X12_asksAlso (nx := 11) (w := (gi 69 25)) rfl (hI.wf.s rfl) rfl rfl ((hC142.1 69 25 rfl).1.trans ((hC18.1 69 25 rfl).1.trans ((by rw [e17]; exact x_up2_off (Or.inr (by decide)) : g17 69 25 = gi 69 25).trans rfl))) rfl ?_
                      refine ev_addK f_X12_asksAlso (nx := 12) (c := 1540) (l := 1540) (u := 1750) rfl (by decide) l5 u5 rfl rfl (by decide) (by decide) rfl (fun z155 e155 l155 u155 => ?_)
                      refine ev_loc f_X12_asksAlso (nx := 13) rfl rfl rfl rfl ?_
                      refine ev_iastT f_X12_asksAlso (nx := 14) rfl (hI.wf.s rfl) l155 (by decide) u155 (by decide) rfl (hI.astL (hI.wf.s rfl) (by decide +kernel : t_abw 70 1540 1750 1702000 2602300 = true) (t_cl1 l155 (by decide)) (t_cl2 l155 u155 (by decide) (by decide)) l153 u153 rfl) (hX.upI (t_inR (p := 1540) (m := 1750) rfl l155 (by decide) u155 (by decide) (by decide))) (fun g156 e156 hI hX => ?_)
                      refine ev_loc f_X12_asksAlso (nx := 15) rfl rfl rfl rfl ?_
                      refine ev_alu f_X12_asksAlso (nx := 16) rfl rfl rfl rfl ?_
                      refine ev_gvI f_X12_asksAlso (nx := 19) (w := (gi 69 25)) rfl (hI.wf.s rfl) rfl rfl ((by rw [e156]; exact x_up2_off (Or.inl (by decide)) : g156 69 25 = gi142 69 25).trans ((hC142.1 69 25 rfl).1.trans ((hC18.1 69 25 rfl).1.trans ((by rw [e17]; exact x_up2_off (Or.inr (by decide)) : g17 69 25 = gi 69 25).trans rfl)))) rfl ?_
                      refine ev_ic f_X12_asksAlso (nx := 20) (v := 1) rfl (by decide) rfl ?_
                      refine ev_addC f_X12_asksAlso (nx := 21) (c := 1) (l := 1) (u := 211) rfl (by decide) l5 u5 rfl rfl (by decide) (by decide) rfl (fun z157 e157 l157 u157 => ?_)
                      have u159 : z157.toInt ≤ (210:Int) := (by omega)
                      refine ev_putIT f_X12_asksAlso (nx := 24) rfl (hI.wf.s rfl) rfl rfl rfl (hI.putB (hI.wf.s rfl) rfl rfl l157 (by decide) u159 (by decide)) (hX.upI rfl) (fun g158 e158 hI hX => ?_)
                      refine ev_retK0 f_X12_asksAlso rfl rfl rfl ?_
                      refine ev_loc f_X12_aCase (nx := 180) rfl rfl rfl rfl ?_
                      refine ev_qN f_X12_aCase (nx := 183) (r := []) rfl rfl rfl rfl rfl rfl rfl (c_n_aheadB hI ) rfl hX rfl (fun gi160 gl160 gr160 hI hX hC160 q160 => ?_)
                      have q160 : ((g158 69 14).toInt ≤ (gi160 69 14).toInt ∧ ((gi160 69 12).toInt ≠ 0 → (g158 69 14).toInt < (gi160 69 14).toInt) ∧ ((gi160 69 12).toInt = 3 → 0 ≤ (gi160 69 15).toInt)) ∧ (∀ (b : Nat → Int32) (n q : Nat), t_Sm b n q g158 → t_TM b n q gi160) := q160
                      refine ev_ic f_X12_aCase (nx := 184) (v := 1) rfl (by decide) rfl ?_
                      exact ev_ret f_X12_aCase rfl rfl rfl ⟨_, _, _, rfl, hI, hX, ⟨_, rfl, (Int.le_trans (by decide : (0:Int) ≤ 1) (by decide : (1:Int) ≤ (1:Int32).toInt)), (by decide : (1:Int32).toInt ≤ (1:Int)), (show (∀ (b : Nat → Int32) (n q : Nat) (K E : List Int), t_OM b n q K E gi → s_fct b n q → ¬ s_nst b n q → s_mi (s_W b n q) = ar1.toInt → (1 : Int) = 1 → s_cok b n q ∧ t_OM b n (s_cx b n q) K (E ++ [s_ccd b n q]) gi160) from (fun b n q K E h hf hN hm hv => (by
                                                            have h1 := h.sm (g1 := g17) (t_fM.rf.u9 (by decide) e17) (congrArg Int32.toInt (by rw [e17, x_up2_off (Or.inr (by decide))])) (congrArg Int32.toInt (by rw [e17, x_up2_off (Or.inr (by decide))])) (funext fun j => (by rw [e17, x_up2_ne (by decide)])) (funext fun j => (by rw [e17, x_up2_ne (by decide)]))
                                                            have h2 := h1.ah (q18.2 b n _ h1.1.S) (congrArg Int32.toInt (hC18.1 69 22 rfl).1) (congrArg Int32.toInt (hC18.1 69 25 rfl).1) (funext fun j => (hC18.1 77 j rfl).1) (funext fun j => (hC18.1 70 j rfl).1)
                                                            have hO : ¬ s_opn b n q := fun hh => by have := s_opn_mi.mp hh; omega
                                                            have hC : s_cmp b n (s_E b n q) := Or.inr (Or.inl ((q43.1 b n _ h2.1).mp (by omega)))
                                                            have hc4 := s_cc_2 hO (fun x => absurd ((q136.1 b n _ h2.1).mpr x) (by omega)) (fun x => absurd ((q139.1 b n _ h2.1).mpr x) (by omega))
                                                            have h3 := h2.ah (q142.2 b n _ h2.1.S) (congrArg Int32.toInt (hC142.1 69 22 rfl).1) (congrArg Int32.toInt (hC142.1 69 25 rfl).1) (funext fun j => (hC142.1 77 j rfl).1) (funext fun j => (hC142.1 70 j rfl).1)
                                                            have hV := h3.1.vT (lo := 0) (hi := 300) (by omega) (by omega) (by omega)
                                                            have hK : s_K b n (s_E b n (s_E b n q)) = 3 := hV.1.1
                                                            have k25 : (gi142 69 25).toInt = (gi 69 25).toInt := (congrArg Int32.toInt (by rw [(hC142.1 69 25 rfl).1, (hC18.1 69 25 rfl).1, e17, x_up2_off (Or.inr (by decide))]))
                                                            have hV2 := hV.2
                                                            have h4 := h3.em (g1 := g158) (v := z153) ((t_fM.rf.ux (by decide) e156).u9 (by decide) e158) (congrArg Int32.toInt (by rw [e158, x_up2_off (Or.inr (by decide)), e156, x_up2_ne (by decide)])) (by rw [e158, x_up2_at]; exact Int.le_antisymm (by omega) (by omega)) (funext fun j => (by rw [e158, x_up2_ne (by decide), e156, x_up2_ne (by decide)])) ⟨fun j hj => (by have hc := t_clamp (i := z155) (by omega); rw [e158, x_up2_ne (by decide), e156, x_up2_off (Or.inr (by omega))]), by have hc := t_clamp (i := z155) (by omega); rw [show 1540 + (gi142 69 25).toInt.toNat = z155.toNatClampNeg by omega, e158, x_up2_ne (by decide), e156]; exact x_up2_at _ _ _ _⟩
                                                            have hcv : s_ccd b n q = z153.toInt := by rw [hc4]; omega
                                                            rw [← hcv] at h4
                                                            have h5 := h4.ah (q160.2 b n _ h4.1.S) (congrArg Int32.toInt (hC160.1 69 22 rfl).1) (congrArg Int32.toInt (hC160.1 69 25 rfl).1) (funext fun j => (hC160.1 77 j rfl).1) (funext fun j => (hC160.1 70 j rfl).1)
                                                            refine ⟨⟨hf, Or.inr ⟨hC, hK⟩⟩, ?_⟩
                                                            rw [s_cx_c hO]
                                                            exact h5)))⟩⟩
                    · have l162 : 301 ≤ (gi142 69 15).toInt := t_ltl (t_nle h148) (by decide : (300:Int) ≤ (300:Int32).toInt) rfl
                      refine ev_loc f_X12_aCase (nx := 155) rfl rfl rfl rfl ?_
                      refine ev_ic f_X12_aCase (nx := 156) (v := 4) rfl (by decide) rfl ?_
                      refine ev_qI f_X12_aCase (nx := 159) (r := []) rfl rfl rfl rfl rfl rfl rfl (c_n_fails hI (4) (Int.le_trans (by decide : (2:Int) ≤ 4) (by decide : (4:Int) ≤ (4:Int32).toInt)) (Int.le_trans (by decide : (4:Int32).toInt ≤ (4:Int)) (by decide : (4:Int) ≤ 7))) rfl hX rfl (fun w163 gi163 gl163 gr163 l163 u163 hI hX hC163 q163 => ?_)
                      have q163 : (∀ (b : Nat → Int32) (n q : Nat), t_TM b n q gi142 → (gi142 69 18).toInt = 0 → t_MF gi163 (s_fk b n q 4) (s_F b n q)) ∧ w163.toInt = 0 := q163
                      exact ev_retZ f_X12_aCase rfl l163 (Int.le_trans u163 (by decide : (0:Int) ≤ 1)) ⟨_, _, _, rfl, hI, hX, ⟨_, rfl, l163, (Int.le_trans u163 (by decide : (0:Int) ≤ 1)), (show (∀ (b : Nat → Int32) (n q : Nat) (K E : List Int), t_OM b n q K E gi → s_fct b n q → ¬ s_nst b n q → s_mi (s_W b n q) = ar1.toInt → w163.toInt = 1 → s_cok b n q ∧ t_OM b n (s_cx b n q) K (E ++ [s_ccd b n q]) gi163) from (fun b n q K E h hf hN hm hv => absurd hv (by have := q163.2; omega)))⟩⟩
                  · have r164 : (gi142 69 12).toInt ≠ 3 := fun e => h145 (Int32.toInt_inj.mp (e.trans (by decide : (3:Int) = (3 : Int32).toInt)))
                    refine ev_loc f_X12_aCase (nx := 139) rfl rfl rfl rfl ?_
                    refine ev_ic f_X12_aCase (nx := 140) (v := 2) rfl (by decide) rfl ?_
                    refine ev_qI f_X12_aCase (nx := 143) (r := []) rfl rfl rfl rfl rfl rfl rfl (c_n_fails hI (2) (by decide : (2:Int) ≤ (2:Int32).toInt) (Int.le_trans (by decide : (2:Int32).toInt ≤ (2:Int)) (by decide : (2:Int) ≤ 7))) rfl hX rfl (fun w165 gi165 gl165 gr165 l165 u165 hI hX hC165 q165 => ?_)
                    have q165 : (∀ (b : Nat → Int32) (n q : Nat), t_TM b n q gi142 → (gi142 69 18).toInt = 0 → t_MF gi165 (s_fk b n q 2) (s_F b n q)) ∧ w165.toInt = 0 := q165
                    exact ev_retZ f_X12_aCase rfl l165 (Int.le_trans u165 (by decide : (0:Int) ≤ 1)) ⟨_, _, _, rfl, hI, hX, ⟨_, rfl, l165, (Int.le_trans u165 (by decide : (0:Int) ≤ 1)), (show (∀ (b : Nat → Int32) (n q : Nat) (K E : List Int), t_OM b n q K E gi → s_fct b n q → ¬ s_nst b n q → s_mi (s_W b n q) = ar1.toInt → w165.toInt = 1 → s_cok b n q ∧ t_OM b n (s_cx b n q) K (E ++ [s_ccd b n q]) gi165) from (fun b n q K E h hf hN hm hv => absurd hv (by have := q165.2; omega)))⟩⟩
                · have r166 : w139.toInt ≠ 0 := fun e => h140 (Int32.toInt_inj.mp (e.trans (by decide : (0:Int) = (0 : Int32).toInt)))
                  have l167 : 1 ≤ w139.toInt := t_nel h140 l139 rfl rfl
                  refine ev_ic f_X12_aCase (nx := 121) (v := 1) rfl (by decide) rfl ?_
                  refine ev_jmp f_X12_aCase (nx := 125) rfl rfl rfl ?_
                  refine ev_loc f_X12_aCase (nx := 126) (lo' := [(2, .int 1), (0, .ref 69), (1, .int ar1)]) rfl rfl rfl rfl ?_
                  refine ev_loc f_X12_aCase (nx := 127) rfl rfl rfl rfl ?_
                  refine ev_qN f_X12_aCase (nx := 130) (r := []) rfl rfl rfl rfl rfl rfl rfl (c_n_aheadB hI ) rfl hX rfl (fun gi168 gl168 gr168 hI hX hC168 q168 => ?_)
                  have q168 : ((gi18 69 14).toInt ≤ (gi168 69 14).toInt ∧ ((gi168 69 12).toInt ≠ 0 → (gi18 69 14).toInt < (gi168 69 14).toInt) ∧ ((gi168 69 12).toInt = 3 → 0 ≤ (gi168 69 15).toInt)) ∧ (∀ (b : Nat → Int32) (n q : Nat), t_Sm b n q gi18 → t_TM b n q gi168) := q168
                  refine ev_loc f_X12_aCase (nx := 131) rfl rfl rfl rfl ?_
                  refine ev_getI f_X12_aCase (nx := 134) rfl (hI.wf.s rfl) rfl rfl rfl ?_
                  obtain ⟨l170, u170⟩ := hI.b (hI.wf.s (k := 69) rfl) (t_bdK rfl : t_bd 11 12 = some (0, 4))
                  refine ev_ic f_X12_aCase (nx := 135) (v := 3) rfl (by decide) rfl ?_
                  refine ev_if f_X12_aCase (t1 := 144) (t2 := 138) rfl rfl rfl (fun h171 => ?_) (fun h171 => ?_)
                  · have u172 : (gi168 69 12).toInt ≤ 3 := t_equ h171 (by decide : (3:Int32).toInt ≤ (3:Int))
                    have l173 : 3 ≤ (gi168 69 12).toInt := t_eql h171 (by decide : (3:Int) ≤ (3:Int32).toInt)
                    refine ev_loc f_X12_aCase (nx := 145) rfl rfl rfl rfl ?_
                    refine ev_gvI f_X12_aCase (nx := 148) (w := (gi168 69 15)) rfl (hI.wf.s rfl) rfl rfl rfl rfl ?_
                    refine ev_sp f_X12_aCase (nx := 151) (v := 300) rfl (by decide) rfl ?_
                    refine ev_if f_X12_aCase (t1 := 160) (t2 := 154) rfl rfl rfl (fun h174 => ?_) (fun h174 => ?_)
                    · have u175 : (gi168 69 15).toInt ≤ 300 := t_leu h174 (by decide : (300:Int32).toInt ≤ (300:Int))
                      have l176 : (0:Int) ≤ (gi168 69 15).toInt := by omega
                      refine ev_loc f_X12_aCase (nx := 161) rfl rfl rfl rfl ?_
                      refine ev_ldI f_X12_aCase (nx := 163) (v := 100000) rfl (by decide) rfl ?_
                      refine ev_loc f_X12_aCase (nx := 164) rfl rfl rfl rfl ?_
                      refine ev_mulL f_X12_aCase (nx := 165) (c := 100000) (l := 1700000) (u := 2600000) rfl (by decide) (by decide) l39 u_a1 rfl rfl (by decide) (by decide) rfl (fun z177 e177 l177 u177 => ?_)
                      refine ev_sp f_X12_aCase (nx := 168) (v := 1000) rfl (by decide) rfl ?_
                      refine ev_loc f_X12_aCase (nx := 169) rfl rfl rfl rfl ?_
                      refine ev_aluvI f_X12_aCase (nx := 170) (w := 1000) rfl rfl rfl (by decide) rfl ?_
                      refine ev_addC f_X12_aCase (nx := 171) (c := 1000) (l := 1701000) (u := 2601000) rfl (by decide) l177 u177 rfl rfl (by decide) (by decide) rfl (fun z178 e178 l178 u178 => ?_)
                      refine ev_loc f_X12_aCase (nx := 172) rfl rfl rfl rfl ?_
                      refine ev_gvI f_X12_aCase (nx := 175) (w := (gi168 69 15)) rfl (hI.wf.s rfl) rfl rfl rfl rfl ?_
                      refine ev_addR f_X12_aCase (nx := 176) (l := 1701000) (u := 2601300) rfl l178 u178 l176 u175 rfl rfl (by decide) (by decide) rfl (fun z179 e179 l179 u179 => ?_)
                      refine ev_inV2 f_X12_aCase (nx := 179) (lo2 := [(0, .ref 69), (1, .int z179)]) rfl rfl rfl rfl f_X12_asksAlso (hI.wf.s rfl) rfl rfl rfl rfl rfl ?_
                      have kn180 := t_K_num e_p0
                      refine ev_loc f_X12_asksAlso (nx := 1) rfl rfl rfl rfl ?_
                      refine ev_getR f_X12_asksAlso (nx := 4) rfl (hI.wf.s rfl) rfl rfl (hI.wf.r rfl) rfl rfl ?_
                      refine ev_sp f_X12_asksAlso (nx := 7) (v := 1540) rfl (by decide) rfl ?_
                      refine ev_loc f_X12_asksAlso (nx := 8) rfl rfl rfl rfl ?_
                      refine ev_gvI f_X12_asksAlso (nx := 11) (w := (gi 69 25)) rfl (hI.wf.s rfl) rfl rfl ((hC168.1 69 25 rfl).1.trans ((hC18.1 69 25 rfl).1.trans ((by rw [e17]; exact x_up2_off (Or.inr (by decide)) : g17 69 25 = gi 69 25).trans rfl))) rfl ?_
                      refine ev_addK f_X12_asksAlso (nx := 12) (c := 1540) (l := 1540) (u := 1750) rfl (by decide) l5 u5 rfl rfl (by decide) (by decide) rfl (fun z181 e181 l181 u181 => ?_)
                      refine ev_loc f_X12_asksAlso (nx := 13) rfl rfl rfl rfl ?_
                      refine ev_iastT f_X12_asksAlso (nx := 14) rfl (hI.wf.s rfl) l181 (by decide) u181 (by decide) rfl (hI.astL (hI.wf.s rfl) (by decide +kernel : t_abw 70 1540 1750 1701000 2601300 = true) (t_cl1 l181 (by decide)) (t_cl2 l181 u181 (by decide) (by decide)) l179 u179 rfl) (hX.upI (t_inR (p := 1540) (m := 1750) rfl l181 (by decide) u181 (by decide) (by decide))) (fun g182 e182 hI hX => ?_)
                      refine ev_loc f_X12_asksAlso (nx := 15) rfl rfl rfl rfl ?_
                      refine ev_alu f_X12_asksAlso (nx := 16) rfl rfl rfl rfl ?_
                      refine ev_gvI f_X12_asksAlso (nx := 19) (w := (gi 69 25)) rfl (hI.wf.s rfl) rfl rfl ((by rw [e182]; exact x_up2_off (Or.inl (by decide)) : g182 69 25 = gi168 69 25).trans ((hC168.1 69 25 rfl).1.trans ((hC18.1 69 25 rfl).1.trans ((by rw [e17]; exact x_up2_off (Or.inr (by decide)) : g17 69 25 = gi 69 25).trans rfl)))) rfl ?_
                      refine ev_ic f_X12_asksAlso (nx := 20) (v := 1) rfl (by decide) rfl ?_
                      refine ev_addC f_X12_asksAlso (nx := 21) (c := 1) (l := 1) (u := 211) rfl (by decide) l5 u5 rfl rfl (by decide) (by decide) rfl (fun z183 e183 l183 u183 => ?_)
                      have u185 : z183.toInt ≤ (210:Int) := (by omega)
                      refine ev_putIT f_X12_asksAlso (nx := 24) rfl (hI.wf.s rfl) rfl rfl rfl (hI.putB (hI.wf.s rfl) rfl rfl l183 (by decide) u185 (by decide)) (hX.upI rfl) (fun g184 e184 hI hX => ?_)
                      refine ev_retK0 f_X12_asksAlso rfl rfl rfl ?_
                      refine ev_loc f_X12_aCase (nx := 180) rfl rfl rfl rfl ?_
                      refine ev_qN f_X12_aCase (nx := 183) (r := []) rfl rfl rfl rfl rfl rfl rfl (c_n_aheadB hI ) rfl hX rfl (fun gi186 gl186 gr186 hI hX hC186 q186 => ?_)
                      have q186 : ((g184 69 14).toInt ≤ (gi186 69 14).toInt ∧ ((gi186 69 12).toInt ≠ 0 → (g184 69 14).toInt < (gi186 69 14).toInt) ∧ ((gi186 69 12).toInt = 3 → 0 ≤ (gi186 69 15).toInt)) ∧ (∀ (b : Nat → Int32) (n q : Nat), t_Sm b n q g184 → t_TM b n q gi186) := q186
                      refine ev_ic f_X12_aCase (nx := 184) (v := 1) rfl (by decide) rfl ?_
                      exact ev_ret f_X12_aCase rfl rfl rfl ⟨_, _, _, rfl, hI, hX, ⟨_, rfl, (Int.le_trans (by decide : (0:Int) ≤ 1) (by decide : (1:Int) ≤ (1:Int32).toInt)), (by decide : (1:Int32).toInt ≤ (1:Int)), (show (∀ (b : Nat → Int32) (n q : Nat) (K E : List Int), t_OM b n q K E gi → s_fct b n q → ¬ s_nst b n q → s_mi (s_W b n q) = ar1.toInt → (1 : Int) = 1 → s_cok b n q ∧ t_OM b n (s_cx b n q) K (E ++ [s_ccd b n q]) gi186) from (fun b n q K E h hf hN hm hv => (by
                                                            have h1 := h.sm (g1 := g17) (t_fM.rf.u9 (by decide) e17) (congrArg Int32.toInt (by rw [e17, x_up2_off (Or.inr (by decide))])) (congrArg Int32.toInt (by rw [e17, x_up2_off (Or.inr (by decide))])) (funext fun j => (by rw [e17, x_up2_ne (by decide)])) (funext fun j => (by rw [e17, x_up2_ne (by decide)]))
                                                            have h2 := h1.ah (q18.2 b n _ h1.1.S) (congrArg Int32.toInt (hC18.1 69 22 rfl).1) (congrArg Int32.toInt (hC18.1 69 25 rfl).1) (funext fun j => (hC18.1 77 j rfl).1) (funext fun j => (hC18.1 70 j rfl).1)
                                                            have hO : ¬ s_opn b n q := fun hh => by have := s_opn_mi.mp hh; omega
                                                            have hC : s_cmp b n (s_E b n q) := Or.inr (Or.inl ((q43.1 b n _ h2.1).mp (by omega)))
                                                            have hc4 := s_cc_1 hO (fun x => absurd ((q136.1 b n _ h2.1).mpr x) (by omega)) ((q139.1 b n _ h2.1).mp (by omega))
                                                            have h3 := h2.ah (q168.2 b n _ h2.1.S) (congrArg Int32.toInt (hC168.1 69 22 rfl).1) (congrArg Int32.toInt (hC168.1 69 25 rfl).1) (funext fun j => (hC168.1 77 j rfl).1) (funext fun j => (hC168.1 70 j rfl).1)
                                                            have hV := h3.1.vT (lo := 0) (hi := 300) (by omega) (by omega) (by omega)
                                                            have hK : s_K b n (s_E b n (s_E b n q)) = 3 := hV.1.1
                                                            have k25 : (gi168 69 25).toInt = (gi 69 25).toInt := (congrArg Int32.toInt (by rw [(hC168.1 69 25 rfl).1, (hC18.1 69 25 rfl).1, e17, x_up2_off (Or.inr (by decide))]))
                                                            have hV2 := hV.2
                                                            have h4 := h3.em (g1 := g184) (v := z179) ((t_fM.rf.ux (by decide) e182).u9 (by decide) e184) (congrArg Int32.toInt (by rw [e184, x_up2_off (Or.inr (by decide)), e182, x_up2_ne (by decide)])) (by rw [e184, x_up2_at]; exact Int.le_antisymm (by omega) (by omega)) (funext fun j => (by rw [e184, x_up2_ne (by decide), e182, x_up2_ne (by decide)])) ⟨fun j hj => (by have hc := t_clamp (i := z181) (by omega); rw [e184, x_up2_ne (by decide), e182, x_up2_off (Or.inr (by omega))]), by have hc := t_clamp (i := z181) (by omega); rw [show 1540 + (gi168 69 25).toInt.toNat = z181.toNatClampNeg by omega, e184, x_up2_ne (by decide), e182]; exact x_up2_at _ _ _ _⟩
                                                            have hcv : s_ccd b n q = z179.toInt := by rw [hc4]; omega
                                                            rw [← hcv] at h4
                                                            have h5 := h4.ah (q186.2 b n _ h4.1.S) (congrArg Int32.toInt (hC186.1 69 22 rfl).1) (congrArg Int32.toInt (hC186.1 69 25 rfl).1) (funext fun j => (hC186.1 77 j rfl).1) (funext fun j => (hC186.1 70 j rfl).1)
                                                            refine ⟨⟨hf, Or.inr ⟨hC, hK⟩⟩, ?_⟩
                                                            rw [s_cx_c hO]
                                                            exact h5)))⟩⟩
                    · have l188 : 301 ≤ (gi168 69 15).toInt := t_ltl (t_nle h174) (by decide : (300:Int) ≤ (300:Int32).toInt) rfl
                      refine ev_loc f_X12_aCase (nx := 155) rfl rfl rfl rfl ?_
                      refine ev_ic f_X12_aCase (nx := 156) (v := 4) rfl (by decide) rfl ?_
                      refine ev_qI f_X12_aCase (nx := 159) (r := []) rfl rfl rfl rfl rfl rfl rfl (c_n_fails hI (4) (Int.le_trans (by decide : (2:Int) ≤ 4) (by decide : (4:Int) ≤ (4:Int32).toInt)) (Int.le_trans (by decide : (4:Int32).toInt ≤ (4:Int)) (by decide : (4:Int) ≤ 7))) rfl hX rfl (fun w189 gi189 gl189 gr189 l189 u189 hI hX hC189 q189 => ?_)
                      have q189 : (∀ (b : Nat → Int32) (n q : Nat), t_TM b n q gi168 → (gi168 69 18).toInt = 0 → t_MF gi189 (s_fk b n q 4) (s_F b n q)) ∧ w189.toInt = 0 := q189
                      exact ev_retZ f_X12_aCase rfl l189 (Int.le_trans u189 (by decide : (0:Int) ≤ 1)) ⟨_, _, _, rfl, hI, hX, ⟨_, rfl, l189, (Int.le_trans u189 (by decide : (0:Int) ≤ 1)), (show (∀ (b : Nat → Int32) (n q : Nat) (K E : List Int), t_OM b n q K E gi → s_fct b n q → ¬ s_nst b n q → s_mi (s_W b n q) = ar1.toInt → w189.toInt = 1 → s_cok b n q ∧ t_OM b n (s_cx b n q) K (E ++ [s_ccd b n q]) gi189) from (fun b n q K E h hf hN hm hv => absurd hv (by have := q189.2; omega)))⟩⟩
                  · have r190 : (gi168 69 12).toInt ≠ 3 := fun e => h171 (Int32.toInt_inj.mp (e.trans (by decide : (3:Int) = (3 : Int32).toInt)))
                    refine ev_loc f_X12_aCase (nx := 139) rfl rfl rfl rfl ?_
                    refine ev_ic f_X12_aCase (nx := 140) (v := 2) rfl (by decide) rfl ?_
                    refine ev_qI f_X12_aCase (nx := 143) (r := []) rfl rfl rfl rfl rfl rfl rfl (c_n_fails hI (2) (by decide : (2:Int) ≤ (2:Int32).toInt) (Int.le_trans (by decide : (2:Int32).toInt ≤ (2:Int)) (by decide : (2:Int) ≤ 7))) rfl hX rfl (fun w191 gi191 gl191 gr191 l191 u191 hI hX hC191 q191 => ?_)
                    have q191 : (∀ (b : Nat → Int32) (n q : Nat), t_TM b n q gi168 → (gi168 69 18).toInt = 0 → t_MF gi191 (s_fk b n q 2) (s_F b n q)) ∧ w191.toInt = 0 := q191
                    exact ev_retZ f_X12_aCase rfl l191 (Int.le_trans u191 (by decide : (0:Int) ≤ 1)) ⟨_, _, _, rfl, hI, hX, ⟨_, rfl, l191, (Int.le_trans u191 (by decide : (0:Int) ≤ 1)), (show (∀ (b : Nat → Int32) (n q : Nat) (K E : List Int), t_OM b n q K E gi → s_fct b n q → ¬ s_nst b n q → s_mi (s_W b n q) = ar1.toInt → w191.toInt = 1 → s_cok b n q ∧ t_OM b n (s_cx b n q) K (E ++ [s_ccd b n q]) gi191) from (fun b n q K E h hf hN hm hv => absurd hv (by have := q191.2; omega)))⟩⟩
              · have r192 : w136.toInt ≠ 0 := fun e => h137 (Int32.toInt_inj.mp (e.trans (by decide : (0:Int) = (0 : Int32).toInt)))
                have l193 : 1 ≤ w136.toInt := t_nel h137 l136 rfl rfl
                refine ev_ic f_X12_aCase (nx := 108) (v := 0) rfl (by decide) rfl ?_
                refine ev_jmp f_X12_aCase (nx := 125) rfl rfl rfl ?_
                refine ev_loc f_X12_aCase (nx := 126) (lo' := [(2, .int 0), (0, .ref 69), (1, .int ar1)]) rfl rfl rfl rfl ?_
                refine ev_loc f_X12_aCase (nx := 127) rfl rfl rfl rfl ?_
                refine ev_qN f_X12_aCase (nx := 130) (r := []) rfl rfl rfl rfl rfl rfl rfl (c_n_aheadB hI ) rfl hX rfl (fun gi194 gl194 gr194 hI hX hC194 q194 => ?_)
                have q194 : ((gi18 69 14).toInt ≤ (gi194 69 14).toInt ∧ ((gi194 69 12).toInt ≠ 0 → (gi18 69 14).toInt < (gi194 69 14).toInt) ∧ ((gi194 69 12).toInt = 3 → 0 ≤ (gi194 69 15).toInt)) ∧ (∀ (b : Nat → Int32) (n q : Nat), t_Sm b n q gi18 → t_TM b n q gi194) := q194
                refine ev_loc f_X12_aCase (nx := 131) rfl rfl rfl rfl ?_
                refine ev_getI f_X12_aCase (nx := 134) rfl (hI.wf.s rfl) rfl rfl rfl ?_
                obtain ⟨l196, u196⟩ := hI.b (hI.wf.s (k := 69) rfl) (t_bdK rfl : t_bd 11 12 = some (0, 4))
                refine ev_ic f_X12_aCase (nx := 135) (v := 3) rfl (by decide) rfl ?_
                refine ev_if f_X12_aCase (t1 := 144) (t2 := 138) rfl rfl rfl (fun h197 => ?_) (fun h197 => ?_)
                · have u198 : (gi194 69 12).toInt ≤ 3 := t_equ h197 (by decide : (3:Int32).toInt ≤ (3:Int))
                  have l199 : 3 ≤ (gi194 69 12).toInt := t_eql h197 (by decide : (3:Int) ≤ (3:Int32).toInt)
                  refine ev_loc f_X12_aCase (nx := 145) rfl rfl rfl rfl ?_
                  refine ev_gvI f_X12_aCase (nx := 148) (w := (gi194 69 15)) rfl (hI.wf.s rfl) rfl rfl rfl rfl ?_
                  refine ev_sp f_X12_aCase (nx := 151) (v := 300) rfl (by decide) rfl ?_
                  refine ev_if f_X12_aCase (t1 := 160) (t2 := 154) rfl rfl rfl (fun h200 => ?_) (fun h200 => ?_)
                  · have u201 : (gi194 69 15).toInt ≤ 300 := t_leu h200 (by decide : (300:Int32).toInt ≤ (300:Int))
                    have l202 : (0:Int) ≤ (gi194 69 15).toInt := by omega
                    refine ev_loc f_X12_aCase (nx := 161) rfl rfl rfl rfl ?_
                    refine ev_ldI f_X12_aCase (nx := 163) (v := 100000) rfl (by decide) rfl ?_
                    refine ev_loc f_X12_aCase (nx := 164) rfl rfl rfl rfl ?_
                    refine ev_mulL f_X12_aCase (nx := 165) (c := 100000) (l := 1700000) (u := 2600000) rfl (by decide) (by decide) l39 u_a1 rfl rfl (by decide) (by decide) rfl (fun z203 e203 l203 u203 => ?_)
                    refine ev_sp f_X12_aCase (nx := 168) (v := 1000) rfl (by decide) rfl ?_
                    refine ev_loc f_X12_aCase (nx := 169) rfl rfl rfl rfl ?_
                    refine ev_aluvI f_X12_aCase (nx := 170) (w := 0) rfl rfl rfl (by decide) rfl ?_
                    refine ev_addC f_X12_aCase (nx := 171) (c := 0) (l := 1700000) (u := 2600000) rfl (by decide) l203 u203 rfl rfl (by decide) (by decide) rfl (fun z204 e204 l204 u204 => ?_)
                    refine ev_loc f_X12_aCase (nx := 172) rfl rfl rfl rfl ?_
                    refine ev_gvI f_X12_aCase (nx := 175) (w := (gi194 69 15)) rfl (hI.wf.s rfl) rfl rfl rfl rfl ?_
                    refine ev_addR f_X12_aCase (nx := 176) (l := 1700000) (u := 2600300) rfl l204 u204 l202 u201 rfl rfl (by decide) (by decide) rfl (fun z205 e205 l205 u205 => ?_)
                    refine ev_inV2 f_X12_aCase (nx := 179) (lo2 := [(0, .ref 69), (1, .int z205)]) rfl rfl rfl rfl f_X12_asksAlso (hI.wf.s rfl) rfl rfl rfl rfl rfl ?_
                    have kn206 := t_K_num e_p0
                    refine ev_loc f_X12_asksAlso (nx := 1) rfl rfl rfl rfl ?_
                    refine ev_getR f_X12_asksAlso (nx := 4) rfl (hI.wf.s rfl) rfl rfl (hI.wf.r rfl) rfl rfl ?_
                    refine ev_sp f_X12_asksAlso (nx := 7) (v := 1540) rfl (by decide) rfl ?_
                    refine ev_loc f_X12_asksAlso (nx := 8) rfl rfl rfl rfl ?_
                    refine ev_gvI f_X12_asksAlso (nx := 11) (w := (gi 69 25)) rfl (hI.wf.s rfl) rfl rfl ((hC194.1 69 25 rfl).1.trans ((hC18.1 69 25 rfl).1.trans ((by rw [e17]; exact x_up2_off (Or.inr (by decide)) : g17 69 25 = gi 69 25).trans rfl))) rfl ?_
                    refine ev_addK f_X12_asksAlso (nx := 12) (c := 1540) (l := 1540) (u := 1750) rfl (by decide) l5 u5 rfl rfl (by decide) (by decide) rfl (fun z207 e207 l207 u207 => ?_)
                    refine ev_loc f_X12_asksAlso (nx := 13) rfl rfl rfl rfl ?_
                    refine ev_iastT f_X12_asksAlso (nx := 14) rfl (hI.wf.s rfl) l207 (by decide) u207 (by decide) rfl (hI.astL (hI.wf.s rfl) (by decide +kernel : t_abw 70 1540 1750 1700000 2600300 = true) (t_cl1 l207 (by decide)) (t_cl2 l207 u207 (by decide) (by decide)) l205 u205 rfl) (hX.upI (t_inR (p := 1540) (m := 1750) rfl l207 (by decide) u207 (by decide) (by decide))) (fun g208 e208 hI hX => ?_)
                    refine ev_loc f_X12_asksAlso (nx := 15) rfl rfl rfl rfl ?_
                    refine ev_alu f_X12_asksAlso (nx := 16) rfl rfl rfl rfl ?_
                    refine ev_gvI f_X12_asksAlso (nx := 19) (w := (gi 69 25)) rfl (hI.wf.s rfl) rfl rfl ((by rw [e208]; exact x_up2_off (Or.inl (by decide)) : g208 69 25 = gi194 69 25).trans ((hC194.1 69 25 rfl).1.trans ((hC18.1 69 25 rfl).1.trans ((by rw [e17]; exact x_up2_off (Or.inr (by decide)) : g17 69 25 = gi 69 25).trans rfl)))) rfl ?_
                    refine ev_ic f_X12_asksAlso (nx := 20) (v := 1) rfl (by decide) rfl ?_
                    refine ev_addC f_X12_asksAlso (nx := 21) (c := 1) (l := 1) (u := 211) rfl (by decide) l5 u5 rfl rfl (by decide) (by decide) rfl (fun z209 e209 l209 u209 => ?_)
                    have u211 : z209.toInt ≤ (210:Int) := (by omega)
                    refine ev_putIT f_X12_asksAlso (nx := 24) rfl (hI.wf.s rfl) rfl rfl rfl (hI.putB (hI.wf.s rfl) rfl rfl l209 (by decide) u211 (by decide)) (hX.upI rfl) (fun g210 e210 hI hX => ?_)
                    refine ev_retK0 f_X12_asksAlso rfl rfl rfl ?_
                    refine ev_loc f_X12_aCase (nx := 180) rfl rfl rfl rfl ?_
                    refine ev_qN f_X12_aCase (nx := 183) (r := []) rfl rfl rfl rfl rfl rfl rfl (c_n_aheadB hI ) rfl hX rfl (fun gi212 gl212 gr212 hI hX hC212 q212 => ?_)
                    have q212 : ((g210 69 14).toInt ≤ (gi212 69 14).toInt ∧ ((gi212 69 12).toInt ≠ 0 → (g210 69 14).toInt < (gi212 69 14).toInt) ∧ ((gi212 69 12).toInt = 3 → 0 ≤ (gi212 69 15).toInt)) ∧ (∀ (b : Nat → Int32) (n q : Nat), t_Sm b n q g210 → t_TM b n q gi212) := q212
                    refine ev_ic f_X12_aCase (nx := 184) (v := 1) rfl (by decide) rfl ?_
                    exact ev_ret f_X12_aCase rfl rfl rfl ⟨_, _, _, rfl, hI, hX, ⟨_, rfl, (Int.le_trans (by decide : (0:Int) ≤ 1) (by decide : (1:Int) ≤ (1:Int32).toInt)), (by decide : (1:Int32).toInt ≤ (1:Int)), (show (∀ (b : Nat → Int32) (n q : Nat) (K E : List Int), t_OM b n q K E gi → s_fct b n q → ¬ s_nst b n q → s_mi (s_W b n q) = ar1.toInt → (1 : Int) = 1 → s_cok b n q ∧ t_OM b n (s_cx b n q) K (E ++ [s_ccd b n q]) gi212) from (fun b n q K E h hf hN hm hv => (by
                                                            have h1 := h.sm (g1 := g17) (t_fM.rf.u9 (by decide) e17) (congrArg Int32.toInt (by rw [e17, x_up2_off (Or.inr (by decide))])) (congrArg Int32.toInt (by rw [e17, x_up2_off (Or.inr (by decide))])) (funext fun j => (by rw [e17, x_up2_ne (by decide)])) (funext fun j => (by rw [e17, x_up2_ne (by decide)]))
                                                            have h2 := h1.ah (q18.2 b n _ h1.1.S) (congrArg Int32.toInt (hC18.1 69 22 rfl).1) (congrArg Int32.toInt (hC18.1 69 25 rfl).1) (funext fun j => (hC18.1 77 j rfl).1) (funext fun j => (hC18.1 70 j rfl).1)
                                                            have hO : ¬ s_opn b n q := fun hh => by have := s_opn_mi.mp hh; omega
                                                            have hC : s_cmp b n (s_E b n q) := Or.inr (Or.inl ((q43.1 b n _ h2.1).mp (by omega)))
                                                            have hc4 := s_cc_0 hO ((q136.1 b n _ h2.1).mp (by omega))
                                                            have h3 := h2.ah (q194.2 b n _ h2.1.S) (congrArg Int32.toInt (hC194.1 69 22 rfl).1) (congrArg Int32.toInt (hC194.1 69 25 rfl).1) (funext fun j => (hC194.1 77 j rfl).1) (funext fun j => (hC194.1 70 j rfl).1)
                                                            have hV := h3.1.vT (lo := 0) (hi := 300) (by omega) (by omega) (by omega)
                                                            have hK : s_K b n (s_E b n (s_E b n q)) = 3 := hV.1.1
                                                            have k25 : (gi194 69 25).toInt = (gi 69 25).toInt := (congrArg Int32.toInt (by rw [(hC194.1 69 25 rfl).1, (hC18.1 69 25 rfl).1, e17, x_up2_off (Or.inr (by decide))]))
                                                            have hV2 := hV.2
                                                            have h4 := h3.em (g1 := g210) (v := z205) ((t_fM.rf.ux (by decide) e208).u9 (by decide) e210) (congrArg Int32.toInt (by rw [e210, x_up2_off (Or.inr (by decide)), e208, x_up2_ne (by decide)])) (by rw [e210, x_up2_at]; exact Int.le_antisymm (by omega) (by omega)) (funext fun j => (by rw [e210, x_up2_ne (by decide), e208, x_up2_ne (by decide)])) ⟨fun j hj => (by have hc := t_clamp (i := z207) (by omega); rw [e210, x_up2_ne (by decide), e208, x_up2_off (Or.inr (by omega))]), by have hc := t_clamp (i := z207) (by omega); rw [show 1540 + (gi194 69 25).toInt.toNat = z207.toNatClampNeg by omega, e210, x_up2_ne (by decide), e208]; exact x_up2_at _ _ _ _⟩
                                                            have hcv : s_ccd b n q = z205.toInt := by rw [hc4]; omega
                                                            rw [← hcv] at h4
                                                            have h5 := h4.ah (q212.2 b n _ h4.1.S) (congrArg Int32.toInt (hC212.1 69 22 rfl).1) (congrArg Int32.toInt (hC212.1 69 25 rfl).1) (funext fun j => (hC212.1 77 j rfl).1) (funext fun j => (hC212.1 70 j rfl).1)
                                                            refine ⟨⟨hf, Or.inr ⟨hC, hK⟩⟩, ?_⟩
                                                            rw [s_cx_c hO]
                                                            exact h5)))⟩⟩
                  · have l214 : 301 ≤ (gi194 69 15).toInt := t_ltl (t_nle h200) (by decide : (300:Int) ≤ (300:Int32).toInt) rfl
                    refine ev_loc f_X12_aCase (nx := 155) rfl rfl rfl rfl ?_
                    refine ev_ic f_X12_aCase (nx := 156) (v := 4) rfl (by decide) rfl ?_
                    refine ev_qI f_X12_aCase (nx := 159) (r := []) rfl rfl rfl rfl rfl rfl rfl (c_n_fails hI (4) (Int.le_trans (by decide : (2:Int) ≤ 4) (by decide : (4:Int) ≤ (4:Int32).toInt)) (Int.le_trans (by decide : (4:Int32).toInt ≤ (4:Int)) (by decide : (4:Int) ≤ 7))) rfl hX rfl (fun w215 gi215 gl215 gr215 l215 u215 hI hX hC215 q215 => ?_)
                    have q215 : (∀ (b : Nat → Int32) (n q : Nat), t_TM b n q gi194 → (gi194 69 18).toInt = 0 → t_MF gi215 (s_fk b n q 4) (s_F b n q)) ∧ w215.toInt = 0 := q215
                    exact ev_retZ f_X12_aCase rfl l215 (Int.le_trans u215 (by decide : (0:Int) ≤ 1)) ⟨_, _, _, rfl, hI, hX, ⟨_, rfl, l215, (Int.le_trans u215 (by decide : (0:Int) ≤ 1)), (show (∀ (b : Nat → Int32) (n q : Nat) (K E : List Int), t_OM b n q K E gi → s_fct b n q → ¬ s_nst b n q → s_mi (s_W b n q) = ar1.toInt → w215.toInt = 1 → s_cok b n q ∧ t_OM b n (s_cx b n q) K (E ++ [s_ccd b n q]) gi215) from (fun b n q K E h hf hN hm hv => absurd hv (by have := q215.2; omega)))⟩⟩
                · have r216 : (gi194 69 12).toInt ≠ 3 := fun e => h197 (Int32.toInt_inj.mp (e.trans (by decide : (3:Int) = (3 : Int32).toInt)))
                  refine ev_loc f_X12_aCase (nx := 139) rfl rfl rfl rfl ?_
                  refine ev_ic f_X12_aCase (nx := 140) (v := 2) rfl (by decide) rfl ?_
                  refine ev_qI f_X12_aCase (nx := 143) (r := []) rfl rfl rfl rfl rfl rfl rfl (c_n_fails hI (2) (by decide : (2:Int) ≤ (2:Int32).toInt) (Int.le_trans (by decide : (2:Int32).toInt ≤ (2:Int)) (by decide : (2:Int) ≤ 7))) rfl hX rfl (fun w217 gi217 gl217 gr217 l217 u217 hI hX hC217 q217 => ?_)
                  have q217 : (∀ (b : Nat → Int32) (n q : Nat), t_TM b n q gi194 → (gi194 69 18).toInt = 0 → t_MF gi217 (s_fk b n q 2) (s_F b n q)) ∧ w217.toInt = 0 := q217
                  exact ev_retZ f_X12_aCase rfl l217 (Int.le_trans u217 (by decide : (0:Int) ≤ 1)) ⟨_, _, _, rfl, hI, hX, ⟨_, rfl, l217, (Int.le_trans u217 (by decide : (0:Int) ≤ 1)), (show (∀ (b : Nat → Int32) (n q : Nat) (K E : List Int), t_OM b n q K E gi → s_fct b n q → ¬ s_nst b n q → s_mi (s_W b n q) = ar1.toInt → w217.toInt = 1 → s_cok b n q ∧ t_OM b n (s_cx b n q) K (E ++ [s_ccd b n q]) gi217) from (fun b n q K E h hf hN hm hv => absurd hv (by have := q217.2; omega)))⟩⟩
          · have r218 : w40.toInt ≠ 0 := fun e => h41 (Int32.toInt_inj.mp (e.trans (by decide : (0:Int) = (0 : Int32).toInt)))
            have l219 : 1 ≤ w40.toInt := t_nel h41 l40 rfl rfl
            refine ev_loc f_X12_aCase (nx := 99) rfl rfl rfl rfl ?_
            refine ev_bp f_X12_aCase (nx := 101) (v := 60) rfl (by decide) rfl ?_
            refine ev_qI0 f_X12_aCase (nx := 104) (r := []) rfl rfl rfl rfl rfl rfl rfl (c_n_isSignB hI (60)) rfl (fun w220 l220 u220 q220 => ?_)
            have q220 : (∀ (b : Nat → Int32) (n q : Nat), t_TM b n q gi18 → (w220.toInt = 1 ↔ s_isS b n q 60)) ∧ (w220.toInt = 1 → (gi18 69 12).toInt = 4) := q220
            refine ev_if f_X12_aCase (t1 := 111) (t2 := 107) rfl rfl rfl (fun h221 => ?_) (fun h221 => ?_)
            · have u222 : w220.toInt ≤ 0 := t_equ h221 (by decide : (0:Int32).toInt ≤ (0:Int))
              refine ev_loc f_X12_aCase (nx := 112) rfl rfl rfl rfl ?_
              refine ev_bp f_X12_aCase (nx := 114) (v := 62) rfl (by decide) rfl ?_
              refine ev_qI0 f_X12_aCase (nx := 117) (r := []) rfl rfl rfl rfl rfl rfl rfl (c_n_isSignB hI (62)) rfl (fun w223 l223 u223 q223 => ?_)
              have q223 : (∀ (b : Nat → Int32) (n q : Nat), t_TM b n q gi18 → (w223.toInt = 1 ↔ s_isS b n q 62)) ∧ (w223.toInt = 1 → (gi18 69 12).toInt = 4) := q223
              refine ev_if f_X12_aCase (t1 := 124) (t2 := 120) rfl rfl rfl (fun h224 => ?_) (fun h224 => ?_)
              · have u225 : w223.toInt ≤ 0 := t_equ h224 (by decide : (0:Int32).toInt ≤ (0:Int))
                refine ev_ic f_X12_aCase (nx := 125) (v := 2) rfl (by decide) rfl ?_
                refine ev_loc f_X12_aCase (nx := 126) (lo' := [(2, .int 2), (0, .ref 69), (1, .int ar1)]) rfl rfl rfl rfl ?_
                refine ev_loc f_X12_aCase (nx := 127) rfl rfl rfl rfl ?_
                refine ev_qN f_X12_aCase (nx := 130) (r := []) rfl rfl rfl rfl rfl rfl rfl (c_n_aheadB hI ) rfl hX rfl (fun gi226 gl226 gr226 hI hX hC226 q226 => ?_)
                have q226 : ((gi18 69 14).toInt ≤ (gi226 69 14).toInt ∧ ((gi226 69 12).toInt ≠ 0 → (gi18 69 14).toInt < (gi226 69 14).toInt) ∧ ((gi226 69 12).toInt = 3 → 0 ≤ (gi226 69 15).toInt)) ∧ (∀ (b : Nat → Int32) (n q : Nat), t_Sm b n q gi18 → t_TM b n q gi226) := q226
                refine ev_loc f_X12_aCase (nx := 131) rfl rfl rfl rfl ?_
                refine ev_getI f_X12_aCase (nx := 134) rfl (hI.wf.s rfl) rfl rfl rfl ?_
                obtain ⟨l228, u228⟩ := hI.b (hI.wf.s (k := 69) rfl) (t_bdK rfl : t_bd 11 12 = some (0, 4))
                refine ev_ic f_X12_aCase (nx := 135) (v := 3) rfl (by decide) rfl ?_
                refine ev_if f_X12_aCase (t1 := 144) (t2 := 138) rfl rfl rfl (fun h229 => ?_) (fun h229 => ?_)
                · have u230 : (gi226 69 12).toInt ≤ 3 := t_equ h229 (by decide : (3:Int32).toInt ≤ (3:Int))
                  have l231 : 3 ≤ (gi226 69 12).toInt := t_eql h229 (by decide : (3:Int) ≤ (3:Int32).toInt)
                  refine ev_loc f_X12_aCase (nx := 145) rfl rfl rfl rfl ?_
                  refine ev_gvI f_X12_aCase (nx := 148) (w := (gi226 69 15)) rfl (hI.wf.s rfl) rfl rfl rfl rfl ?_
                  refine ev_sp f_X12_aCase (nx := 151) (v := 300) rfl (by decide) rfl ?_
                  refine ev_if f_X12_aCase (t1 := 160) (t2 := 154) rfl rfl rfl (fun h232 => ?_) (fun h232 => ?_)
                  · have u233 : (gi226 69 15).toInt ≤ 300 := t_leu h232 (by decide : (300:Int32).toInt ≤ (300:Int))
                    have l234 : (0:Int) ≤ (gi226 69 15).toInt := by omega
                    refine ev_loc f_X12_aCase (nx := 161) rfl rfl rfl rfl ?_
                    refine ev_ldI f_X12_aCase (nx := 163) (v := 100000) rfl (by decide) rfl ?_
                    refine ev_loc f_X12_aCase (nx := 164) rfl rfl rfl rfl ?_
                    refine ev_mulL f_X12_aCase (nx := 165) (c := 100000) (l := 1700000) (u := 2600000) rfl (by decide) (by decide) l39 u_a1 rfl rfl (by decide) (by decide) rfl (fun z235 e235 l235 u235 => ?_)
                    refine ev_sp f_X12_aCase (nx := 168) (v := 1000) rfl (by decide) rfl ?_
                    refine ev_loc f_X12_aCase (nx := 169) rfl rfl rfl rfl ?_
                    refine ev_aluvI f_X12_aCase (nx := 170) (w := 2000) rfl rfl rfl (by decide) rfl ?_
                    refine ev_addC f_X12_aCase (nx := 171) (c := 2000) (l := 1702000) (u := 2602000) rfl (by decide) l235 u235 rfl rfl (by decide) (by decide) rfl (fun z236 e236 l236 u236 => ?_)
                    refine ev_loc f_X12_aCase (nx := 172) rfl rfl rfl rfl ?_
                    refine ev_gvI f_X12_aCase (nx := 175) (w := (gi226 69 15)) rfl (hI.wf.s rfl) rfl rfl rfl rfl ?_
                    refine ev_addR f_X12_aCase (nx := 176) (l := 1702000) (u := 2602300) rfl l236 u236 l234 u233 rfl rfl (by decide) (by decide) rfl (fun z237 e237 l237 u237 => ?_)
                    refine ev_inV2 f_X12_aCase (nx := 179) (lo2 := [(0, .ref 69), (1, .int z237)]) rfl rfl rfl rfl f_X12_asksAlso (hI.wf.s rfl) rfl rfl rfl rfl rfl ?_
                    have kn238 := t_K_num e_p0
                    refine ev_loc f_X12_asksAlso (nx := 1) rfl rfl rfl rfl ?_
                    refine ev_getR f_X12_asksAlso (nx := 4) rfl (hI.wf.s rfl) rfl rfl (hI.wf.r rfl) rfl rfl ?_
                    refine ev_sp f_X12_asksAlso (nx := 7) (v := 1540) rfl (by decide) rfl ?_
                    refine ev_loc f_X12_asksAlso (nx := 8) rfl rfl rfl rfl ?_
                    refine ev_gvI f_X12_asksAlso (nx := 11) (w := (gi 69 25)) rfl (hI.wf.s rfl) rfl rfl ((hC226.1 69 25 rfl).1.trans ((hC18.1 69 25 rfl).1.trans ((by rw [e17]; exact x_up2_off (Or.inr (by decide)) : g17 69 25 = gi 69 25).trans rfl))) rfl ?_
                    refine ev_addK f_X12_asksAlso (nx := 12) (c := 1540) (l := 1540) (u := 1750) rfl (by decide) l5 u5 rfl rfl (by decide) (by decide) rfl (fun z239 e239 l239 u239 => ?_)
                    refine ev_loc f_X12_asksAlso (nx := 13) rfl rfl rfl rfl ?_
                    refine ev_iastT f_X12_asksAlso (nx := 14) rfl (hI.wf.s rfl) l239 (by decide) u239 (by decide) rfl (hI.astL (hI.wf.s rfl) (by decide +kernel : t_abw 70 1540 1750 1702000 2602300 = true) (t_cl1 l239 (by decide)) (t_cl2 l239 u239 (by decide) (by decide)) l237 u237 rfl) (hX.upI (t_inR (p := 1540) (m := 1750) rfl l239 (by decide) u239 (by decide) (by decide))) (fun g240 e240 hI hX => ?_)
                    refine ev_loc f_X12_asksAlso (nx := 15) rfl rfl rfl rfl ?_
                    refine ev_alu f_X12_asksAlso (nx := 16) rfl rfl rfl rfl ?_
                    refine ev_gvI f_X12_asksAlso (nx := 19) (w := (gi 69 25)) rfl (hI.wf.s rfl) rfl rfl ((by rw [e240]; exact x_up2_off (Or.inl (by decide)) : g240 69 25 = gi226 69 25).trans ((hC226.1 69 25 rfl).1.trans ((hC18.1 69 25 rfl).1.trans ((by rw [e17]; exact x_up2_off (Or.inr (by decide)) : g17 69 25 = gi 69 25).trans rfl)))) rfl ?_
                    refine ev_ic f_X12_asksAlso (nx := 20) (v := 1) rfl (by decide) rfl ?_
                    refine ev_addC f_X12_asksAlso (nx := 21) (c := 1) (l := 1) (u := 211) rfl (by decide) l5 u5 rfl rfl (by decide) (by decide) rfl (fun z241 e241 l241 u241 => ?_)
                    have u243 : z241.toInt ≤ (210:Int) := (by omega)
                    refine ev_putIT f_X12_asksAlso (nx := 24) rfl (hI.wf.s rfl) rfl rfl rfl (hI.putB (hI.wf.s rfl) rfl rfl l241 (by decide) u243 (by decide)) (hX.upI rfl) (fun g242 e242 hI hX => ?_)
                    refine ev_retK0 f_X12_asksAlso rfl rfl rfl ?_
                    refine ev_loc f_X12_aCase (nx := 180) rfl rfl rfl rfl ?_
                    refine ev_qN f_X12_aCase (nx := 183) (r := []) rfl rfl rfl rfl rfl rfl rfl (c_n_aheadB hI ) rfl hX rfl (fun gi244 gl244 gr244 hI hX hC244 q244 => ?_)
                    have q244 : ((g242 69 14).toInt ≤ (gi244 69 14).toInt ∧ ((gi244 69 12).toInt ≠ 0 → (g242 69 14).toInt < (gi244 69 14).toInt) ∧ ((gi244 69 12).toInt = 3 → 0 ≤ (gi244 69 15).toInt)) ∧ (∀ (b : Nat → Int32) (n q : Nat), t_Sm b n q g242 → t_TM b n q gi244) := q244
                    refine ev_ic f_X12_aCase (nx := 184) (v := 1) rfl (by decide) rfl ?_
                    exact ev_ret f_X12_aCase rfl rfl rfl ⟨_, _, _, rfl, hI, hX, ⟨_, rfl, (Int.le_trans (by decide : (0:Int) ≤ 1) (by decide : (1:Int) ≤ (1:Int32).toInt)), (by decide : (1:Int32).toInt ≤ (1:Int)), (show (∀ (b : Nat → Int32) (n q : Nat) (K E : List Int), t_OM b n q K E gi → s_fct b n q → ¬ s_nst b n q → s_mi (s_W b n q) = ar1.toInt → (1 : Int) = 1 → s_cok b n q ∧ t_OM b n (s_cx b n q) K (E ++ [s_ccd b n q]) gi244) from (fun b n q K E h hf hN hm hv => (by
                                                            have h1 := h.sm (g1 := g17) (t_fM.rf.u9 (by decide) e17) (congrArg Int32.toInt (by rw [e17, x_up2_off (Or.inr (by decide))])) (congrArg Int32.toInt (by rw [e17, x_up2_off (Or.inr (by decide))])) (funext fun j => (by rw [e17, x_up2_ne (by decide)])) (funext fun j => (by rw [e17, x_up2_ne (by decide)]))
                                                            have h2 := h1.ah (q18.2 b n _ h1.1.S) (congrArg Int32.toInt (hC18.1 69 22 rfl).1) (congrArg Int32.toInt (hC18.1 69 25 rfl).1) (funext fun j => (hC18.1 77 j rfl).1) (funext fun j => (hC18.1 70 j rfl).1)
                                                            have hO : ¬ s_opn b n q := fun hh => by have := s_opn_mi.mp hh; omega
                                                            have hC : s_cmp b n (s_E b n q) := Or.inl ((q40.1 b n _ h2.1).mp (by omega))
                                                            have hc4 := s_cc_2 hO (fun x => absurd ((q220.1 b n _ h2.1).mpr x) (by omega)) (fun x => absurd ((q223.1 b n _ h2.1).mpr x) (by omega))
                                                            have h3 := h2.ah (q226.2 b n _ h2.1.S) (congrArg Int32.toInt (hC226.1 69 22 rfl).1) (congrArg Int32.toInt (hC226.1 69 25 rfl).1) (funext fun j => (hC226.1 77 j rfl).1) (funext fun j => (hC226.1 70 j rfl).1)
                                                            have hV := h3.1.vT (lo := 0) (hi := 300) (by omega) (by omega) (by omega)
                                                            have hK : s_K b n (s_E b n (s_E b n q)) = 3 := hV.1.1
                                                            have k25 : (gi226 69 25).toInt = (gi 69 25).toInt := (congrArg Int32.toInt (by rw [(hC226.1 69 25 rfl).1, (hC18.1 69 25 rfl).1, e17, x_up2_off (Or.inr (by decide))]))
                                                            have hV2 := hV.2
                                                            have h4 := h3.em (g1 := g242) (v := z237) ((t_fM.rf.ux (by decide) e240).u9 (by decide) e242) (congrArg Int32.toInt (by rw [e242, x_up2_off (Or.inr (by decide)), e240, x_up2_ne (by decide)])) (by rw [e242, x_up2_at]; exact Int.le_antisymm (by omega) (by omega)) (funext fun j => (by rw [e242, x_up2_ne (by decide), e240, x_up2_ne (by decide)])) ⟨fun j hj => (by have hc := t_clamp (i := z239) (by omega); rw [e242, x_up2_ne (by decide), e240, x_up2_off (Or.inr (by omega))]), by have hc := t_clamp (i := z239) (by omega); rw [show 1540 + (gi226 69 25).toInt.toNat = z239.toNatClampNeg by omega, e242, x_up2_ne (by decide), e240]; exact x_up2_at _ _ _ _⟩
                                                            have hcv : s_ccd b n q = z237.toInt := by rw [hc4]; omega
                                                            rw [← hcv] at h4
                                                            have h5 := h4.ah (q244.2 b n _ h4.1.S) (congrArg Int32.toInt (hC244.1 69 22 rfl).1) (congrArg Int32.toInt (hC244.1 69 25 rfl).1) (funext fun j => (hC244.1 77 j rfl).1) (funext fun j => (hC244.1 70 j rfl).1)
                                                            refine ⟨⟨hf, Or.inr ⟨hC, hK⟩⟩, ?_⟩
                                                            rw [s_cx_c hO]
                                                            exact h5)))⟩⟩
                  · have l246 : 301 ≤ (gi226 69 15).toInt := t_ltl (t_nle h232) (by decide : (300:Int) ≤ (300:Int32).toInt) rfl
                    refine ev_loc f_X12_aCase (nx := 155) rfl rfl rfl rfl ?_
                    refine ev_ic f_X12_aCase (nx := 156) (v := 4) rfl (by decide) rfl ?_
                    refine ev_qI f_X12_aCase (nx := 159) (r := []) rfl rfl rfl rfl rfl rfl rfl (c_n_fails hI (4) (Int.le_trans (by decide : (2:Int) ≤ 4) (by decide : (4:Int) ≤ (4:Int32).toInt)) (Int.le_trans (by decide : (4:Int32).toInt ≤ (4:Int)) (by decide : (4:Int) ≤ 7))) rfl hX rfl (fun w247 gi247 gl247 gr247 l247 u247 hI hX hC247 q247 => ?_)
                    have q247 : (∀ (b : Nat → Int32) (n q : Nat), t_TM b n q gi226 → (gi226 69 18).toInt = 0 → t_MF gi247 (s_fk b n q 4) (s_F b n q)) ∧ w247.toInt = 0 := q247
                    exact ev_retZ f_X12_aCase rfl l247 (Int.le_trans u247 (by decide : (0:Int) ≤ 1)) ⟨_, _, _, rfl, hI, hX, ⟨_, rfl, l247, (Int.le_trans u247 (by decide : (0:Int) ≤ 1)), (show (∀ (b : Nat → Int32) (n q : Nat) (K E : List Int), t_OM b n q K E gi → s_fct b n q → ¬ s_nst b n q → s_mi (s_W b n q) = ar1.toInt → w247.toInt = 1 → s_cok b n q ∧ t_OM b n (s_cx b n q) K (E ++ [s_ccd b n q]) gi247) from (fun b n q K E h hf hN hm hv => absurd hv (by have := q247.2; omega)))⟩⟩
                · have r248 : (gi226 69 12).toInt ≠ 3 := fun e => h229 (Int32.toInt_inj.mp (e.trans (by decide : (3:Int) = (3 : Int32).toInt)))
                  refine ev_loc f_X12_aCase (nx := 139) rfl rfl rfl rfl ?_
                  refine ev_ic f_X12_aCase (nx := 140) (v := 2) rfl (by decide) rfl ?_
                  refine ev_qI f_X12_aCase (nx := 143) (r := []) rfl rfl rfl rfl rfl rfl rfl (c_n_fails hI (2) (by decide : (2:Int) ≤ (2:Int32).toInt) (Int.le_trans (by decide : (2:Int32).toInt ≤ (2:Int)) (by decide : (2:Int) ≤ 7))) rfl hX rfl (fun w249 gi249 gl249 gr249 l249 u249 hI hX hC249 q249 => ?_)
                  have q249 : (∀ (b : Nat → Int32) (n q : Nat), t_TM b n q gi226 → (gi226 69 18).toInt = 0 → t_MF gi249 (s_fk b n q 2) (s_F b n q)) ∧ w249.toInt = 0 := q249
                  exact ev_retZ f_X12_aCase rfl l249 (Int.le_trans u249 (by decide : (0:Int) ≤ 1)) ⟨_, _, _, rfl, hI, hX, ⟨_, rfl, l249, (Int.le_trans u249 (by decide : (0:Int) ≤ 1)), (show (∀ (b : Nat → Int32) (n q : Nat) (K E : List Int), t_OM b n q K E gi → s_fct b n q → ¬ s_nst b n q → s_mi (s_W b n q) = ar1.toInt → w249.toInt = 1 → s_cok b n q ∧ t_OM b n (s_cx b n q) K (E ++ [s_ccd b n q]) gi249) from (fun b n q K E h hf hN hm hv => absurd hv (by have := q249.2; omega)))⟩⟩
              · have r250 : w223.toInt ≠ 0 := fun e => h224 (Int32.toInt_inj.mp (e.trans (by decide : (0:Int) = (0 : Int32).toInt)))
                have l251 : 1 ≤ w223.toInt := t_nel h224 l223 rfl rfl
                refine ev_ic f_X12_aCase (nx := 121) (v := 1) rfl (by decide) rfl ?_
                refine ev_jmp f_X12_aCase (nx := 125) rfl rfl rfl ?_
                refine ev_loc f_X12_aCase (nx := 126) (lo' := [(2, .int 1), (0, .ref 69), (1, .int ar1)]) rfl rfl rfl rfl ?_
                refine ev_loc f_X12_aCase (nx := 127) rfl rfl rfl rfl ?_
                refine ev_qN f_X12_aCase (nx := 130) (r := []) rfl rfl rfl rfl rfl rfl rfl (c_n_aheadB hI ) rfl hX rfl (fun gi252 gl252 gr252 hI hX hC252 q252 => ?_)
                have q252 : ((gi18 69 14).toInt ≤ (gi252 69 14).toInt ∧ ((gi252 69 12).toInt ≠ 0 → (gi18 69 14).toInt < (gi252 69 14).toInt) ∧ ((gi252 69 12).toInt = 3 → 0 ≤ (gi252 69 15).toInt)) ∧ (∀ (b : Nat → Int32) (n q : Nat), t_Sm b n q gi18 → t_TM b n q gi252) := q252
                refine ev_loc f_X12_aCase (nx := 131) rfl rfl rfl rfl ?_
                refine ev_getI f_X12_aCase (nx := 134) rfl (hI.wf.s rfl) rfl rfl rfl ?_
                obtain ⟨l254, u254⟩ := hI.b (hI.wf.s (k := 69) rfl) (t_bdK rfl : t_bd 11 12 = some (0, 4))
                refine ev_ic f_X12_aCase (nx := 135) (v := 3) rfl (by decide) rfl ?_
                refine ev_if f_X12_aCase (t1 := 144) (t2 := 138) rfl rfl rfl (fun h255 => ?_) (fun h255 => ?_)
                · have u256 : (gi252 69 12).toInt ≤ 3 := t_equ h255 (by decide : (3:Int32).toInt ≤ (3:Int))
                  have l257 : 3 ≤ (gi252 69 12).toInt := t_eql h255 (by decide : (3:Int) ≤ (3:Int32).toInt)
                  refine ev_loc f_X12_aCase (nx := 145) rfl rfl rfl rfl ?_
                  refine ev_gvI f_X12_aCase (nx := 148) (w := (gi252 69 15)) rfl (hI.wf.s rfl) rfl rfl rfl rfl ?_
                  refine ev_sp f_X12_aCase (nx := 151) (v := 300) rfl (by decide) rfl ?_
                  refine ev_if f_X12_aCase (t1 := 160) (t2 := 154) rfl rfl rfl (fun h258 => ?_) (fun h258 => ?_)
                  · have u259 : (gi252 69 15).toInt ≤ 300 := t_leu h258 (by decide : (300:Int32).toInt ≤ (300:Int))
                    have l260 : (0:Int) ≤ (gi252 69 15).toInt := by omega
                    refine ev_loc f_X12_aCase (nx := 161) rfl rfl rfl rfl ?_
                    refine ev_ldI f_X12_aCase (nx := 163) (v := 100000) rfl (by decide) rfl ?_
                    refine ev_loc f_X12_aCase (nx := 164) rfl rfl rfl rfl ?_
                    refine ev_mulL f_X12_aCase (nx := 165) (c := 100000) (l := 1700000) (u := 2600000) rfl (by decide) (by decide) l39 u_a1 rfl rfl (by decide) (by decide) rfl (fun z261 e261 l261 u261 => ?_)
                    refine ev_sp f_X12_aCase (nx := 168) (v := 1000) rfl (by decide) rfl ?_
                    refine ev_loc f_X12_aCase (nx := 169) rfl rfl rfl rfl ?_
                    refine ev_aluvI f_X12_aCase (nx := 170) (w := 1000) rfl rfl rfl (by decide) rfl ?_
                    refine ev_addC f_X12_aCase (nx := 171) (c := 1000) (l := 1701000) (u := 2601000) rfl (by decide) l261 u261 rfl rfl (by decide) (by decide) rfl (fun z262 e262 l262 u262 => ?_)
                    refine ev_loc f_X12_aCase (nx := 172) rfl rfl rfl rfl ?_
                    refine ev_gvI f_X12_aCase (nx := 175) (w := (gi252 69 15)) rfl (hI.wf.s rfl) rfl rfl rfl rfl ?_
                    refine ev_addR f_X12_aCase (nx := 176) (l := 1701000) (u := 2601300) rfl l262 u262 l260 u259 rfl rfl (by decide) (by decide) rfl (fun z263 e263 l263 u263 => ?_)
                    refine ev_inV2 f_X12_aCase (nx := 179) (lo2 := [(0, .ref 69), (1, .int z263)]) rfl rfl rfl rfl f_X12_asksAlso (hI.wf.s rfl) rfl rfl rfl rfl rfl ?_
                    have kn264 := t_K_num e_p0
                    refine ev_loc f_X12_asksAlso (nx := 1) rfl rfl rfl rfl ?_
                    refine ev_getR f_X12_asksAlso (nx := 4) rfl (hI.wf.s rfl) rfl rfl (hI.wf.r rfl) rfl rfl ?_
                    refine ev_sp f_X12_asksAlso (nx := 7) (v := 1540) rfl (by decide) rfl ?_
                    refine ev_loc f_X12_asksAlso (nx := 8) rfl rfl rfl rfl ?_
                    refine ev_gvI f_X12_asksAlso (nx := 11) (w := (gi 69 25)) rfl (hI.wf.s rfl) rfl rfl ((hC252.1 69 25 rfl).1.trans ((hC18.1 69 25 rfl).1.trans ((by rw [e17]; exact x_up2_off (Or.inr (by decide)) : g17 69 25 = gi 69 25).trans rfl))) rfl ?_
                    refine ev_addK f_X12_asksAlso (nx := 12) (c := 1540) (l := 1540) (u := 1750) rfl (by decide) l5 u5 rfl rfl (by decide) (by decide) rfl (fun z265 e265 l265 u265 => ?_)
                    refine ev_loc f_X12_asksAlso (nx := 13) rfl rfl rfl rfl ?_
                    refine ev_iastT f_X12_asksAlso (nx := 14) rfl (hI.wf.s rfl) l265 (by decide) u265 (by decide) rfl (hI.astL (hI.wf.s rfl) (by decide +kernel : t_abw 70 1540 1750 1701000 2601300 = true) (t_cl1 l265 (by decide)) (t_cl2 l265 u265 (by decide) (by decide)) l263 u263 rfl) (hX.upI (t_inR (p := 1540) (m := 1750) rfl l265 (by decide) u265 (by decide) (by decide))) (fun g266 e266 hI hX => ?_)
                    refine ev_loc f_X12_asksAlso (nx := 15) rfl rfl rfl rfl ?_
                    refine ev_alu f_X12_asksAlso (nx := 16) rfl rfl rfl rfl ?_
                    refine ev_gvI f_X12_asksAlso (nx := 19) (w := (gi 69 25)) rfl (hI.wf.s rfl) rfl rfl ((by rw [e266]; exact x_up2_off (Or.inl (by decide)) : g266 69 25 = gi252 69 25).trans ((hC252.1 69 25 rfl).1.trans ((hC18.1 69 25 rfl).1.trans ((by rw [e17]; exact x_up2_off (Or.inr (by decide)) : g17 69 25 = gi 69 25).trans rfl)))) rfl ?_
                    refine ev_ic f_X12_asksAlso (nx := 20) (v := 1) rfl (by decide) rfl ?_
                    refine ev_addC f_X12_asksAlso (nx := 21) (c := 1) (l := 1) (u := 211) rfl (by decide) l5 u5 rfl rfl (by decide) (by decide) rfl (fun z267 e267 l267 u267 => ?_)
                    have u269 : z267.toInt ≤ (210:Int) := (by omega)
                    refine ev_putIT f_X12_asksAlso (nx := 24) rfl (hI.wf.s rfl) rfl rfl rfl (hI.putB (hI.wf.s rfl) rfl rfl l267 (by decide) u269 (by decide)) (hX.upI rfl) (fun g268 e268 hI hX => ?_)
                    refine ev_retK0 f_X12_asksAlso rfl rfl rfl ?_
                    refine ev_loc f_X12_aCase (nx := 180) rfl rfl rfl rfl ?_
                    refine ev_qN f_X12_aCase (nx := 183) (r := []) rfl rfl rfl rfl rfl rfl rfl (c_n_aheadB hI ) rfl hX rfl (fun gi270 gl270 gr270 hI hX hC270 q270 => ?_)
                    have q270 : ((g268 69 14).toInt ≤ (gi270 69 14).toInt ∧ ((gi270 69 12).toInt ≠ 0 → (g268 69 14).toInt < (gi270 69 14).toInt) ∧ ((gi270 69 12).toInt = 3 → 0 ≤ (gi270 69 15).toInt)) ∧ (∀ (b : Nat → Int32) (n q : Nat), t_Sm b n q g268 → t_TM b n q gi270) := q270
                    refine ev_ic f_X12_aCase (nx := 184) (v := 1) rfl (by decide) rfl ?_
                    exact ev_ret f_X12_aCase rfl rfl rfl ⟨_, _, _, rfl, hI, hX, ⟨_, rfl, (Int.le_trans (by decide : (0:Int) ≤ 1) (by decide : (1:Int) ≤ (1:Int32).toInt)), (by decide : (1:Int32).toInt ≤ (1:Int)), (show (∀ (b : Nat → Int32) (n q : Nat) (K E : List Int), t_OM b n q K E gi → s_fct b n q → ¬ s_nst b n q → s_mi (s_W b n q) = ar1.toInt → (1 : Int) = 1 → s_cok b n q ∧ t_OM b n (s_cx b n q) K (E ++ [s_ccd b n q]) gi270) from (fun b n q K E h hf hN hm hv => (by
                                                            have h1 := h.sm (g1 := g17) (t_fM.rf.u9 (by decide) e17) (congrArg Int32.toInt (by rw [e17, x_up2_off (Or.inr (by decide))])) (congrArg Int32.toInt (by rw [e17, x_up2_off (Or.inr (by decide))])) (funext fun j => (by rw [e17, x_up2_ne (by decide)])) (funext fun j => (by rw [e17, x_up2_ne (by decide)]))
                                                            have h2 := h1.ah (q18.2 b n _ h1.1.S) (congrArg Int32.toInt (hC18.1 69 22 rfl).1) (congrArg Int32.toInt (hC18.1 69 25 rfl).1) (funext fun j => (hC18.1 77 j rfl).1) (funext fun j => (hC18.1 70 j rfl).1)
                                                            have hO : ¬ s_opn b n q := fun hh => by have := s_opn_mi.mp hh; omega
                                                            have hC : s_cmp b n (s_E b n q) := Or.inl ((q40.1 b n _ h2.1).mp (by omega))
                                                            have hc4 := s_cc_1 hO (fun x => absurd ((q220.1 b n _ h2.1).mpr x) (by omega)) ((q223.1 b n _ h2.1).mp (by omega))
                                                            have h3 := h2.ah (q252.2 b n _ h2.1.S) (congrArg Int32.toInt (hC252.1 69 22 rfl).1) (congrArg Int32.toInt (hC252.1 69 25 rfl).1) (funext fun j => (hC252.1 77 j rfl).1) (funext fun j => (hC252.1 70 j rfl).1)
                                                            have hV := h3.1.vT (lo := 0) (hi := 300) (by omega) (by omega) (by omega)
                                                            have hK : s_K b n (s_E b n (s_E b n q)) = 3 := hV.1.1
                                                            have k25 : (gi252 69 25).toInt = (gi 69 25).toInt := (congrArg Int32.toInt (by rw [(hC252.1 69 25 rfl).1, (hC18.1 69 25 rfl).1, e17, x_up2_off (Or.inr (by decide))]))
                                                            have hV2 := hV.2
                                                            have h4 := h3.em (g1 := g268) (v := z263) ((t_fM.rf.ux (by decide) e266).u9 (by decide) e268) (congrArg Int32.toInt (by rw [e268, x_up2_off (Or.inr (by decide)), e266, x_up2_ne (by decide)])) (by rw [e268, x_up2_at]; exact Int.le_antisymm (by omega) (by omega)) (funext fun j => (by rw [e268, x_up2_ne (by decide), e266, x_up2_ne (by decide)])) ⟨fun j hj => (by have hc := t_clamp (i := z265) (by omega); rw [e268, x_up2_ne (by decide), e266, x_up2_off (Or.inr (by omega))]), by have hc := t_clamp (i := z265) (by omega); rw [show 1540 + (gi252 69 25).toInt.toNat = z265.toNatClampNeg by omega, e268, x_up2_ne (by decide), e266]; exact x_up2_at _ _ _ _⟩
                                                            have hcv : s_ccd b n q = z263.toInt := by rw [hc4]; omega
                                                            rw [← hcv] at h4
                                                            have h5 := h4.ah (q270.2 b n _ h4.1.S) (congrArg Int32.toInt (hC270.1 69 22 rfl).1) (congrArg Int32.toInt (hC270.1 69 25 rfl).1) (funext fun j => (hC270.1 77 j rfl).1) (funext fun j => (hC270.1 70 j rfl).1)
                                                            refine ⟨⟨hf, Or.inr ⟨hC, hK⟩⟩, ?_⟩
                                                            rw [s_cx_c hO]
                                                            exact h5)))⟩⟩
                  · have l272 : 301 ≤ (gi252 69 15).toInt := t_ltl (t_nle h258) (by decide : (300:Int) ≤ (300:Int32).toInt) rfl
                    refine ev_loc f_X12_aCase (nx := 155) rfl rfl rfl rfl ?_
                    refine ev_ic f_X12_aCase (nx := 156) (v := 4) rfl (by decide) rfl ?_
                    refine ev_qI f_X12_aCase (nx := 159) (r := []) rfl rfl rfl rfl rfl rfl rfl (c_n_fails hI (4) (Int.le_trans (by decide : (2:Int) ≤ 4) (by decide : (4:Int) ≤ (4:Int32).toInt)) (Int.le_trans (by decide : (4:Int32).toInt ≤ (4:Int)) (by decide : (4:Int) ≤ 7))) rfl hX rfl (fun w273 gi273 gl273 gr273 l273 u273 hI hX hC273 q273 => ?_)
                    have q273 : (∀ (b : Nat → Int32) (n q : Nat), t_TM b n q gi252 → (gi252 69 18).toInt = 0 → t_MF gi273 (s_fk b n q 4) (s_F b n q)) ∧ w273.toInt = 0 := q273
                    exact ev_retZ f_X12_aCase rfl l273 (Int.le_trans u273 (by decide : (0:Int) ≤ 1)) ⟨_, _, _, rfl, hI, hX, ⟨_, rfl, l273, (Int.le_trans u273 (by decide : (0:Int) ≤ 1)), (show (∀ (b : Nat → Int32) (n q : Nat) (K E : List Int), t_OM b n q K E gi → s_fct b n q → ¬ s_nst b n q → s_mi (s_W b n q) = ar1.toInt → w273.toInt = 1 → s_cok b n q ∧ t_OM b n (s_cx b n q) K (E ++ [s_ccd b n q]) gi273) from (fun b n q K E h hf hN hm hv => absurd hv (by have := q273.2; omega)))⟩⟩
                · have r274 : (gi252 69 12).toInt ≠ 3 := fun e => h255 (Int32.toInt_inj.mp (e.trans (by decide : (3:Int) = (3 : Int32).toInt)))
                  refine ev_loc f_X12_aCase (nx := 139) rfl rfl rfl rfl ?_
                  refine ev_ic f_X12_aCase (nx := 140) (v := 2) rfl (by decide) rfl ?_
                  refine ev_qI f_X12_aCase (nx := 143) (r := []) rfl rfl rfl rfl rfl rfl rfl (c_n_fails hI (2) (by decide : (2:Int) ≤ (2:Int32).toInt) (Int.le_trans (by decide : (2:Int32).toInt ≤ (2:Int)) (by decide : (2:Int) ≤ 7))) rfl hX rfl (fun w275 gi275 gl275 gr275 l275 u275 hI hX hC275 q275 => ?_)
                  have q275 : (∀ (b : Nat → Int32) (n q : Nat), t_TM b n q gi252 → (gi252 69 18).toInt = 0 → t_MF gi275 (s_fk b n q 2) (s_F b n q)) ∧ w275.toInt = 0 := q275
                  exact ev_retZ f_X12_aCase rfl l275 (Int.le_trans u275 (by decide : (0:Int) ≤ 1)) ⟨_, _, _, rfl, hI, hX, ⟨_, rfl, l275, (Int.le_trans u275 (by decide : (0:Int) ≤ 1)), (show (∀ (b : Nat → Int32) (n q : Nat) (K E : List Int), t_OM b n q K E gi → s_fct b n q → ¬ s_nst b n q → s_mi (s_W b n q) = ar1.toInt → w275.toInt = 1 → s_cok b n q ∧ t_OM b n (s_cx b n q) K (E ++ [s_ccd b n q]) gi275) from (fun b n q K E h hf hN hm hv => absurd hv (by have := q275.2; omega)))⟩⟩
            · have r276 : w220.toInt ≠ 0 := fun e => h221 (Int32.toInt_inj.mp (e.trans (by decide : (0:Int) = (0 : Int32).toInt)))
              have l277 : 1 ≤ w220.toInt := t_nel h221 l220 rfl rfl
              refine ev_ic f_X12_aCase (nx := 108) (v := 0) rfl (by decide) rfl ?_
              refine ev_jmp f_X12_aCase (nx := 125) rfl rfl rfl ?_
              refine ev_loc f_X12_aCase (nx := 126) (lo' := [(2, .int 0), (0, .ref 69), (1, .int ar1)]) rfl rfl rfl rfl ?_
              refine ev_loc f_X12_aCase (nx := 127) rfl rfl rfl rfl ?_
              refine ev_qN f_X12_aCase (nx := 130) (r := []) rfl rfl rfl rfl rfl rfl rfl (c_n_aheadB hI ) rfl hX rfl (fun gi278 gl278 gr278 hI hX hC278 q278 => ?_)
              have q278 : ((gi18 69 14).toInt ≤ (gi278 69 14).toInt ∧ ((gi278 69 12).toInt ≠ 0 → (gi18 69 14).toInt < (gi278 69 14).toInt) ∧ ((gi278 69 12).toInt = 3 → 0 ≤ (gi278 69 15).toInt)) ∧ (∀ (b : Nat → Int32) (n q : Nat), t_Sm b n q gi18 → t_TM b n q gi278) := q278
              refine ev_loc f_X12_aCase (nx := 131) rfl rfl rfl rfl ?_
              refine ev_getI f_X12_aCase (nx := 134) rfl (hI.wf.s rfl) rfl rfl rfl ?_
              obtain ⟨l280, u280⟩ := hI.b (hI.wf.s (k := 69) rfl) (t_bdK rfl : t_bd 11 12 = some (0, 4))
              refine ev_ic f_X12_aCase (nx := 135) (v := 3) rfl (by decide) rfl ?_
              refine ev_if f_X12_aCase (t1 := 144) (t2 := 138) rfl rfl rfl (fun h281 => ?_) (fun h281 => ?_)
              · have u282 : (gi278 69 12).toInt ≤ 3 := t_equ h281 (by decide : (3:Int32).toInt ≤ (3:Int))
                have l283 : 3 ≤ (gi278 69 12).toInt := t_eql h281 (by decide : (3:Int) ≤ (3:Int32).toInt)
                refine ev_loc f_X12_aCase (nx := 145) rfl rfl rfl rfl ?_
                refine ev_gvI f_X12_aCase (nx := 148) (w := (gi278 69 15)) rfl (hI.wf.s rfl) rfl rfl rfl rfl ?_
                refine ev_sp f_X12_aCase (nx := 151) (v := 300) rfl (by decide) rfl ?_
                refine ev_if f_X12_aCase (t1 := 160) (t2 := 154) rfl rfl rfl (fun h284 => ?_) (fun h284 => ?_)
                · have u285 : (gi278 69 15).toInt ≤ 300 := t_leu h284 (by decide : (300:Int32).toInt ≤ (300:Int))
                  have l286 : (0:Int) ≤ (gi278 69 15).toInt := by omega
                  refine ev_loc f_X12_aCase (nx := 161) rfl rfl rfl rfl ?_
                  refine ev_ldI f_X12_aCase (nx := 163) (v := 100000) rfl (by decide) rfl ?_
                  refine ev_loc f_X12_aCase (nx := 164) rfl rfl rfl rfl ?_
                  refine ev_mulL f_X12_aCase (nx := 165) (c := 100000) (l := 1700000) (u := 2600000) rfl (by decide) (by decide) l39 u_a1 rfl rfl (by decide) (by decide) rfl (fun z287 e287 l287 u287 => ?_)
                  refine ev_sp f_X12_aCase (nx := 168) (v := 1000) rfl (by decide) rfl ?_
                  refine ev_loc f_X12_aCase (nx := 169) rfl rfl rfl rfl ?_
                  refine ev_aluvI f_X12_aCase (nx := 170) (w := 0) rfl rfl rfl (by decide) rfl ?_
                  refine ev_addC f_X12_aCase (nx := 171) (c := 0) (l := 1700000) (u := 2600000) rfl (by decide) l287 u287 rfl rfl (by decide) (by decide) rfl (fun z288 e288 l288 u288 => ?_)
                  refine ev_loc f_X12_aCase (nx := 172) rfl rfl rfl rfl ?_
                  refine ev_gvI f_X12_aCase (nx := 175) (w := (gi278 69 15)) rfl (hI.wf.s rfl) rfl rfl rfl rfl ?_
                  refine ev_addR f_X12_aCase (nx := 176) (l := 1700000) (u := 2600300) rfl l288 u288 l286 u285 rfl rfl (by decide) (by decide) rfl (fun z289 e289 l289 u289 => ?_)
                  refine ev_inV2 f_X12_aCase (nx := 179) (lo2 := [(0, .ref 69), (1, .int z289)]) rfl rfl rfl rfl f_X12_asksAlso (hI.wf.s rfl) rfl rfl rfl rfl rfl ?_
                  have kn290 := t_K_num e_p0
                  refine ev_loc f_X12_asksAlso (nx := 1) rfl rfl rfl rfl ?_
                  refine ev_getR f_X12_asksAlso (nx := 4) rfl (hI.wf.s rfl) rfl rfl (hI.wf.r rfl) rfl rfl ?_
                  refine ev_sp f_X12_asksAlso (nx := 7) (v := 1540) rfl (by decide) rfl ?_
                  refine ev_loc f_X12_asksAlso (nx := 8) rfl rfl rfl rfl ?_
                  refine ev_gvI f_X12_asksAlso (nx := 11) (w := (gi 69 25)) rfl (hI.wf.s rfl) rfl rfl ((hC278.1 69 25 rfl).1.trans ((hC18.1 69 25 rfl).1.trans ((by rw [e17]; exact x_up2_off (Or.inr (by decide)) : g17 69 25 = gi 69 25).trans rfl))) rfl ?_
                  refine ev_addK f_X12_asksAlso (nx := 12) (c := 1540) (l := 1540) (u := 1750) rfl (by decide) l5 u5 rfl rfl (by decide) (by decide) rfl (fun z291 e291 l291 u291 => ?_)
                  refine ev_loc f_X12_asksAlso (nx := 13) rfl rfl rfl rfl ?_
                  refine ev_iastT f_X12_asksAlso (nx := 14) rfl (hI.wf.s rfl) l291 (by decide) u291 (by decide) rfl (hI.astL (hI.wf.s rfl) (by decide +kernel : t_abw 70 1540 1750 1700000 2600300 = true) (t_cl1 l291 (by decide)) (t_cl2 l291 u291 (by decide) (by decide)) l289 u289 rfl) (hX.upI (t_inR (p := 1540) (m := 1750) rfl l291 (by decide) u291 (by decide) (by decide))) (fun g292 e292 hI hX => ?_)
                  refine ev_loc f_X12_asksAlso (nx := 15) rfl rfl rfl rfl ?_
                  refine ev_alu f_X12_asksAlso (nx := 16) rfl rfl rfl rfl ?_
                  refine ev_gvI f_X12_asksAlso (nx := 19) (w := (gi 69 25)) rfl (hI.wf.s rfl) rfl rfl ((by rw [e292]; exact x_up2_off (Or.inl (by decide)) : g292 69 25 = gi278 69 25).trans ((hC278.1 69 25 rfl).1.trans ((hC18.1 69 25 rfl).1.trans ((by rw [e17]; exact x_up2_off (Or.inr (by decide)) : g17 69 25 = gi 69 25).trans rfl)))) rfl ?_
                  refine ev_ic f_X12_asksAlso (nx := 20) (v := 1) rfl (by decide) rfl ?_
                  refine ev_addC f_X12_asksAlso (nx := 21) (c := 1) (l := 1) (u := 211) rfl (by decide) l5 u5 rfl rfl (by decide) (by decide) rfl (fun z293 e293 l293 u293 => ?_)
                  have u295 : z293.toInt ≤ (210:Int) := (by omega)
                  refine ev_putIT f_X12_asksAlso (nx := 24) rfl (hI.wf.s rfl) rfl rfl rfl (hI.putB (hI.wf.s rfl) rfl rfl l293 (by decide) u295 (by decide)) (hX.upI rfl) (fun g294 e294 hI hX => ?_)
                  refine ev_retK0 f_X12_asksAlso rfl rfl rfl ?_
                  refine ev_loc f_X12_aCase (nx := 180) rfl rfl rfl rfl ?_
                  refine ev_qN f_X12_aCase (nx := 183) (r := []) rfl rfl rfl rfl rfl rfl rfl (c_n_aheadB hI ) rfl hX rfl (fun gi296 gl296 gr296 hI hX hC296 q296 => ?_)
                  have q296 : ((g294 69 14).toInt ≤ (gi296 69 14).toInt ∧ ((gi296 69 12).toInt ≠ 0 → (g294 69 14).toInt < (gi296 69 14).toInt) ∧ ((gi296 69 12).toInt = 3 → 0 ≤ (gi296 69 15).toInt)) ∧ (∀ (b : Nat → Int32) (n q : Nat), t_Sm b n q g294 → t_TM b n q gi296) := q296
                  refine ev_ic f_X12_aCase (nx := 184) (v := 1) rfl (by decide) rfl ?_
                  exact ev_ret f_X12_aCase rfl rfl rfl ⟨_, _, _, rfl, hI, hX, ⟨_, rfl, (Int.le_trans (by decide : (0:Int) ≤ 1) (by decide : (1:Int) ≤ (1:Int32).toInt)), (by decide : (1:Int32).toInt ≤ (1:Int)), (show (∀ (b : Nat → Int32) (n q : Nat) (K E : List Int), t_OM b n q K E gi → s_fct b n q → ¬ s_nst b n q → s_mi (s_W b n q) = ar1.toInt → (1 : Int) = 1 → s_cok b n q ∧ t_OM b n (s_cx b n q) K (E ++ [s_ccd b n q]) gi296) from (fun b n q K E h hf hN hm hv => (by
                                                            have h1 := h.sm (g1 := g17) (t_fM.rf.u9 (by decide) e17) (congrArg Int32.toInt (by rw [e17, x_up2_off (Or.inr (by decide))])) (congrArg Int32.toInt (by rw [e17, x_up2_off (Or.inr (by decide))])) (funext fun j => (by rw [e17, x_up2_ne (by decide)])) (funext fun j => (by rw [e17, x_up2_ne (by decide)]))
                                                            have h2 := h1.ah (q18.2 b n _ h1.1.S) (congrArg Int32.toInt (hC18.1 69 22 rfl).1) (congrArg Int32.toInt (hC18.1 69 25 rfl).1) (funext fun j => (hC18.1 77 j rfl).1) (funext fun j => (hC18.1 70 j rfl).1)
                                                            have hO : ¬ s_opn b n q := fun hh => by have := s_opn_mi.mp hh; omega
                                                            have hC : s_cmp b n (s_E b n q) := Or.inl ((q40.1 b n _ h2.1).mp (by omega))
                                                            have hc4 := s_cc_0 hO ((q220.1 b n _ h2.1).mp (by omega))
                                                            have h3 := h2.ah (q278.2 b n _ h2.1.S) (congrArg Int32.toInt (hC278.1 69 22 rfl).1) (congrArg Int32.toInt (hC278.1 69 25 rfl).1) (funext fun j => (hC278.1 77 j rfl).1) (funext fun j => (hC278.1 70 j rfl).1)
                                                            have hV := h3.1.vT (lo := 0) (hi := 300) (by omega) (by omega) (by omega)
                                                            have hK : s_K b n (s_E b n (s_E b n q)) = 3 := hV.1.1
                                                            have k25 : (gi278 69 25).toInt = (gi 69 25).toInt := (congrArg Int32.toInt (by rw [(hC278.1 69 25 rfl).1, (hC18.1 69 25 rfl).1, e17, x_up2_off (Or.inr (by decide))]))
                                                            have hV2 := hV.2
                                                            have h4 := h3.em (g1 := g294) (v := z289) ((t_fM.rf.ux (by decide) e292).u9 (by decide) e294) (congrArg Int32.toInt (by rw [e294, x_up2_off (Or.inr (by decide)), e292, x_up2_ne (by decide)])) (by rw [e294, x_up2_at]; exact Int.le_antisymm (by omega) (by omega)) (funext fun j => (by rw [e294, x_up2_ne (by decide), e292, x_up2_ne (by decide)])) ⟨fun j hj => (by have hc := t_clamp (i := z291) (by omega); rw [e294, x_up2_ne (by decide), e292, x_up2_off (Or.inr (by omega))]), by have hc := t_clamp (i := z291) (by omega); rw [show 1540 + (gi278 69 25).toInt.toNat = z291.toNatClampNeg by omega, e294, x_up2_ne (by decide), e292]; exact x_up2_at _ _ _ _⟩
                                                            have hcv : s_ccd b n q = z289.toInt := by rw [hc4]; omega
                                                            rw [← hcv] at h4
                                                            have h5 := h4.ah (q296.2 b n _ h4.1.S) (congrArg Int32.toInt (hC296.1 69 22 rfl).1) (congrArg Int32.toInt (hC296.1 69 25 rfl).1) (funext fun j => (hC296.1 77 j rfl).1) (funext fun j => (hC296.1 70 j rfl).1)
                                                            refine ⟨⟨hf, Or.inr ⟨hC, hK⟩⟩, ?_⟩
                                                            rw [s_cx_c hO]
                                                            exact h5)))⟩⟩
                · have l298 : 301 ≤ (gi278 69 15).toInt := t_ltl (t_nle h284) (by decide : (300:Int) ≤ (300:Int32).toInt) rfl
                  refine ev_loc f_X12_aCase (nx := 155) rfl rfl rfl rfl ?_
                  refine ev_ic f_X12_aCase (nx := 156) (v := 4) rfl (by decide) rfl ?_
                  refine ev_qI f_X12_aCase (nx := 159) (r := []) rfl rfl rfl rfl rfl rfl rfl (c_n_fails hI (4) (Int.le_trans (by decide : (2:Int) ≤ 4) (by decide : (4:Int) ≤ (4:Int32).toInt)) (Int.le_trans (by decide : (4:Int32).toInt ≤ (4:Int)) (by decide : (4:Int) ≤ 7))) rfl hX rfl (fun w299 gi299 gl299 gr299 l299 u299 hI hX hC299 q299 => ?_)
                  have q299 : (∀ (b : Nat → Int32) (n q : Nat), t_TM b n q gi278 → (gi278 69 18).toInt = 0 → t_MF gi299 (s_fk b n q 4) (s_F b n q)) ∧ w299.toInt = 0 := q299
                  exact ev_retZ f_X12_aCase rfl l299 (Int.le_trans u299 (by decide : (0:Int) ≤ 1)) ⟨_, _, _, rfl, hI, hX, ⟨_, rfl, l299, (Int.le_trans u299 (by decide : (0:Int) ≤ 1)), (show (∀ (b : Nat → Int32) (n q : Nat) (K E : List Int), t_OM b n q K E gi → s_fct b n q → ¬ s_nst b n q → s_mi (s_W b n q) = ar1.toInt → w299.toInt = 1 → s_cok b n q ∧ t_OM b n (s_cx b n q) K (E ++ [s_ccd b n q]) gi299) from (fun b n q K E h hf hN hm hv => absurd hv (by have := q299.2; omega)))⟩⟩
              · have r300 : (gi278 69 12).toInt ≠ 3 := fun e => h281 (Int32.toInt_inj.mp (e.trans (by decide : (3:Int) = (3 : Int32).toInt)))
                refine ev_loc f_X12_aCase (nx := 139) rfl rfl rfl rfl ?_
                refine ev_ic f_X12_aCase (nx := 140) (v := 2) rfl (by decide) rfl ?_
                refine ev_qI f_X12_aCase (nx := 143) (r := []) rfl rfl rfl rfl rfl rfl rfl (c_n_fails hI (2) (by decide : (2:Int) ≤ (2:Int32).toInt) (Int.le_trans (by decide : (2:Int32).toInt ≤ (2:Int)) (by decide : (2:Int) ≤ 7))) rfl hX rfl (fun w301 gi301 gl301 gr301 l301 u301 hI hX hC301 q301 => ?_)
                have q301 : (∀ (b : Nat → Int32) (n q : Nat), t_TM b n q gi278 → (gi278 69 18).toInt = 0 → t_MF gi301 (s_fk b n q 2) (s_F b n q)) ∧ w301.toInt = 0 := q301
                exact ev_retZ f_X12_aCase rfl l301 (Int.le_trans u301 (by decide : (0:Int) ≤ 1)) ⟨_, _, _, rfl, hI, hX, ⟨_, rfl, l301, (Int.le_trans u301 (by decide : (0:Int) ≤ 1)), (show (∀ (b : Nat → Int32) (n q : Nat) (K E : List Int), t_OM b n q K E gi → s_fct b n q → ¬ s_nst b n q → s_mi (s_W b n q) = ar1.toInt → w301.toInt = 1 → s_cok b n q ∧ t_OM b n (s_cx b n q) K (E ++ [s_ccd b n q]) gi301) from (fun b n q K E h hf hN hm hv => absurd hv (by have := q301.2; omega)))⟩⟩
