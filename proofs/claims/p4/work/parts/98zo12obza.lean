/-! ===== printed by riv.py: the RULES of the class ===== -/
noncomputable def wl_ue_addStep : List (Nat × Nat) := [(116, 3), (130, 9999)]
noncomputable def Q_ue_addStep (sh : List (Nat ⊕ (Nat × Nat))) (gi : Nat → Nat → Int32) (gl : Nat → Nat → Int64) (gr : Nat → Nat → Value) (ar0 : Nat) (ar1 : Int32) (ar2 : Int32) (ar3 : Int32) : (Nat → Nat → Int32) → (Nat → Nat → Int64) → (Nat → Nat → Value) → Prop := fun (gi2 : Nat → Nat → Int32) (gl2 : Nat → Nat → Int64) (gr2 : Nat → Nat → Value) => t_xc [ar0, ar0 + 3, ar0 + 4, ar0 + 5] gi gl gr gi2 gl2 gr2 ∧ gi2 ar0 0 = gi ar0 0 ∧ ∀ n : Nat, sh[ar0 + 3]? = some (.inr (0, n)) → (gi ar0 3).toInt < (n : Int) → t_AS gi gi2 ar0 ar1 ar2 ar3
theorem c_ue_addStep {X : x_Ext} {d : Nat} {sh : List (Nat ⊕ (Nat × Nat))} {gi : Nat → Nat → Int32} {gl : Nat → Nat → Int64} {gr : Nat → Nat → Value} (hI : t_I sh gi gr) (ar0 : Nat) (p_a0 : t_Ru sh gr ar0) (ar1 : Int32) (ar2 : Int32) (ar3 : Int32) : x_Me X (d + 1) n_X7_addStep [.ref ar0, .int ar1, .int ar2, .int ar3] (sh, gi, gl, gr) (t_PN wl_ue_addStep sh gi gl gr (Q_ue_addStep sh gi gl gr ar0 ar1 ar2 ar3)) := by
  have hX : t_X wl_ue_addStep sh gi gl gr gi gl gr := t_X.rf
  refine me_i f_X7_addStep p_a0.1 rfl rfl rfl ?_
  refine ev_loc f_X7_addStep (nx := 1) rfl rfl rfl rfl ?_
  obtain ⟨hk1, d1, r1_1, r2_1, s1_1, s2_1, n1, hn1, r4_1, r5_1, r6_1, s4_1, s5_1, s6_1⟩ := id p_a0
  have q2 := hI.2.2.2.2.1 ar0 n1 p_a0 s4_1
  refine ev_getI f_X7_addStep (nx := 4) rfl p_a0.1 rfl rfl rfl ?_
  obtain ⟨l3, u3⟩ := hI.b p_a0.1 (t_bdK rfl : t_bd 6 3 = some (0, 300))
  refine ev_loc f_X7_addStep (nx := 5) rfl rfl rfl rfl ?_
  refine ev_getR f_X7_addStep (nx := 8) (v := .ref (ar0 + 3)) rfl p_a0.1 rfl rfl r4_1 rfl rfl ?_
  obtain ⟨l4, u4⟩ := t_lenb hn1
  refine ev_alen f_X7_addStep (nx := 9) rfl s4_1 rfl rfl ?_
  refine ev_if f_X7_addStep (t1 := 52) (t2 := 12) rfl rfl rfl (fun h5 => ?_) (fun h5 => ?_)
  · have r6 : (Int32.ofNat n1).toInt ≤ (gi ar0 3).toInt := Int32.le_iff_toInt_le.mp h5
    exact ev_ret f_X7_addStep rfl rfl rfl ⟨_, _, _, rfl, hI, hX, ⟨rfl, (show t_xc [ar0, ar0 + 3, ar0 + 4, ar0 + 5] gi gl gr gi gl gr ∧ gi ar0 0 = gi ar0 0 ∧ ∀ n : Nat, sh[ar0 + 3]? = some (.inr (0, n)) → (gi ar0 3).toInt < (n : Int) → t_AS gi gi ar0 ar1 ar2 ar3 from ⟨t_xc.rf, rfl, fun n hn hl => absurd hl (by have hh := t_lenE hn1; rw [s4_1] at hn; cases hn; omega)⟩)⟩⟩
  · have r7 : (gi ar0 3).toInt < (Int32.ofNat n1).toInt := Int32.lt_iff_toInt_lt.mp (t_nle h5)
    have u8 : (gi ar0 3).toInt ≤ 299 := t_ltu (t_nle h5) u4 rfl
    have l9 : 1 ≤ (Int32.ofNat n1).toInt := t_ltl (t_nle h5) l3 rfl
    refine ev_loc f_X7_addStep (nx := 13) rfl rfl rfl rfl ?_
    refine ev_getR f_X7_addStep (nx := 16) (v := .ref (ar0 + 3)) rfl p_a0.1 rfl rfl r4_1 rfl rfl ?_
    refine ev_loc f_X7_addStep (nx := 17) rfl rfl rfl rfl ?_
    refine ev_gvI f_X7_addStep (nx := 20) (w := (gi ar0 3)) rfl p_a0.1 rfl rfl rfl rfl ?_
    refine ev_loc f_X7_addStep (nx := 21) rfl rfl rfl rfl ?_
    refine ev_iastS f_X7_addStep (nx := 22) rfl s4_1 (t_ixs l3 (t_lenlt (t_nle h5) hn1)) rfl (hI.astD s4_1 (by omega) (fun k hk e => absurd e (t_Ru.ne p_a0 hk (by decide)))) (hX.upI (t_inOD s4_1 (by omega) rfl)) (fun g10 e10 hI hX => ?_)
    refine ev_loc f_X7_addStep (nx := 23) rfl rfl rfl rfl ?_
    refine ev_getR f_X7_addStep (nx := 26) (v := .ref (ar0 + 4)) rfl p_a0.1 rfl rfl r5_1 rfl rfl ?_
    refine ev_loc f_X7_addStep (nx := 27) rfl rfl rfl rfl ?_
    refine ev_gvI f_X7_addStep (nx := 30) (w := (gi ar0 3)) rfl p_a0.1 rfl rfl ((by rw [e10]; exact x_up2_off (Or.inl (t_noobj s4_1 p_a0.1)) : g10 ar0 3 = gi ar0 3).trans rfl) rfl ?_
    refine ev_loc f_X7_addStep (nx := 31) rfl rfl rfl rfl ?_
    refine ev_iastS f_X7_addStep (nx := 32) rfl s5_1 (t_ixs l3 (t_lenlt (t_nle h5) hn1)) rfl (hI.astD s5_1 (by omega) (fun k hk e => absurd e (t_Ru.ne p_a0 hk (by decide)))) (hX.upI (t_inOD s5_1 (by omega) rfl)) (fun g11 e11 hI hX => ?_)
    refine ev_loc f_X7_addStep (nx := 33) rfl rfl rfl rfl ?_
    refine ev_getR f_X7_addStep (nx := 36) (v := .ref (ar0 + 5)) rfl p_a0.1 rfl rfl r6_1 rfl rfl ?_
    refine ev_loc f_X7_addStep (nx := 37) rfl rfl rfl rfl ?_
    refine ev_gvI f_X7_addStep (nx := 40) (w := (gi ar0 3)) rfl p_a0.1 rfl rfl ((by rw [e11]; exact x_up2_off (Or.inl (t_noobj s5_1 p_a0.1)) : g11 ar0 3 = g10 ar0 3).trans ((by rw [e10]; exact x_up2_off (Or.inl (t_noobj s4_1 p_a0.1)) : g10 ar0 3 = gi ar0 3).trans rfl)) rfl ?_
    refine ev_loc f_X7_addStep (nx := 41) rfl rfl rfl rfl ?_
    refine ev_iastS f_X7_addStep (nx := 42) rfl s6_1 (t_ixs l3 (t_lenlt (t_nle h5) hn1)) rfl (hI.astD s6_1 (by omega) (fun k hk e => absurd e (t_Ru.ne p_a0 hk (by decide)))) (hX.upI (t_inOD s6_1 (by omega) rfl)) (fun g12 e12 hI hX => ?_)
    refine ev_loc f_X7_addStep (nx := 43) rfl rfl rfl rfl ?_
    refine ev_alu f_X7_addStep (nx := 44) rfl rfl rfl rfl ?_
    refine ev_gvI f_X7_addStep (nx := 47) (w := (gi ar0 3)) rfl p_a0.1 rfl rfl ((by rw [e12]; exact x_up2_off (Or.inl (t_noobj s6_1 p_a0.1)) : g12 ar0 3 = g11 ar0 3).trans ((by rw [e11]; exact x_up2_off (Or.inl (t_noobj s5_1 p_a0.1)) : g11 ar0 3 = g10 ar0 3).trans ((by rw [e10]; exact x_up2_off (Or.inl (t_noobj s4_1 p_a0.1)) : g10 ar0 3 = gi ar0 3).trans rfl))) rfl ?_
    refine ev_ic f_X7_addStep (nx := 48) (v := 1) rfl (by decide) rfl ?_
    refine ev_addC f_X7_addStep (nx := 49) (c := 1) (l := 1) (u := 300) rfl (by decide) l3 u8 rfl rfl (by decide) (by decide) rfl (fun z13 e13 l13 u13 => ?_)
    have q14 := t_lenlt (t_nle h5) hn1
    refine ev_putIT f_X7_addStep (nx := 52) rfl p_a0.1 rfl rfl rfl (hI.putG p_a0.1 (fun lo hi e => by have e : some ((0 : Int), (300 : Int)) = some (lo, hi) := e; have := hn1; cases e; exact ⟨by omega, by omega⟩) (fun _ _ n2 hn2 => by rw [s4_1] at hn2; cases hn2; omega)) (hX.upI (t_inO hI.wf p_a0.1 (t_outO hI.wf p_a0.1 rfl) rfl)) (fun g14 e14 hI hX => ?_)
    exact ev_ret f_X7_addStep rfl rfl rfl ⟨_, _, _, rfl, hI, hX, ⟨rfl, (show t_xc [ar0, ar0 + 3, ar0 + 4, ar0 + 5] gi gl gr g14 gl gr ∧ g14 ar0 0 = gi ar0 0 ∧ ∀ n : Nat, sh[ar0 + 3]? = some (.inr (0, n)) → (gi ar0 3).toInt < (n : Int) → t_AS gi g14 ar0 ar1 ar2 ar3 from ⟨(t_xc.I (t_xc.I (t_xc.I (t_xc.I t_xc.rf (by simp) e10) (by simp) e11) (by simp) e12) (by simp) e14), by rw [e14, x_up2_off (Or.inr (by decide)), e12, x_up2_ne (by omega), e11, x_up2_ne (by omega), e10, x_up2_ne (by omega)], fun n hn hl => t_AS_of (by omega) e10 e11 e12 e14 (by omega)⟩)⟩⟩
noncomputable def wl_ue_endRule : List (Nat × Nat) := [(116, 0), (130, 9999)]
noncomputable def Q_ue_endRule (sh : List (Nat ⊕ (Nat × Nat))) (gi : Nat → Nat → Int32) (gl : Nat → Nat → Int64) (gr : Nat → Nat → Value) (ar0 : Nat) (ar1 : Int32) : (Nat → Nat → Int32) → (Nat → Nat → Int64) → (Nat → Nat → Value) → Prop := fun (gi2 : Nat → Nat → Int32) (gl2 : Nat → Nat → Int64) (gr2 : Nat → Nat → Value) => (((gi ar0 0).toInt < 12 → (gi2 ar0 0).toInt = (gi ar0 0).toInt + 1) ∧ ((gi ar0 0).toInt < 12 → t_AR gi gi2 ar0 ar1)) ∧ t_xc [ar0, ar0 + 1, ar0 + 2] gi gl gr gi2 gl2 gr2
theorem c_ue_endRule {X : x_Ext} {d : Nat} {sh : List (Nat ⊕ (Nat × Nat))} {gi : Nat → Nat → Int32} {gl : Nat → Nat → Int64} {gr : Nat → Nat → Value} (hI : t_I sh gi gr) (ar0 : Nat) (p_a0 : t_Ru sh gr ar0) (ar1 : Int32) : x_Me X (d + 1) n_X7_endRule [.ref ar0, .int ar1] (sh, gi, gl, gr) (t_PN wl_ue_endRule sh gi gl gr (Q_ue_endRule sh gi gl gr ar0 ar1)) := by
  have hX : t_X wl_ue_endRule sh gi gl gr gi gl gr := t_X.rf
  refine me_i f_X7_endRule p_a0.1 rfl rfl rfl ?_
  refine ev_loc f_X7_endRule (nx := 1) rfl rfl rfl rfl ?_
  refine ev_getI f_X7_endRule (nx := 4) rfl p_a0.1 rfl rfl rfl ?_
  obtain ⟨l1, u1⟩ := hI.b p_a0.1 (t_bdK rfl : t_bd 6 0 = some (0, 12))
  refine ev_bp f_X7_endRule (nx := 6) (v := 12) rfl (by decide) rfl ?_
  refine ev_if f_X7_endRule (t1 := 42) (t2 := 9) rfl rfl rfl (fun h2 => ?_) (fun h2 => ?_)
  · have l3 : 12 ≤ (gi ar0 0).toInt := t_lel h2 (by decide : (12:Int) ≤ (12:Int32).toInt)
    exact ev_ret f_X7_endRule rfl rfl rfl ⟨_, _, _, rfl, hI, hX, ⟨rfl, (show (((gi ar0 0).toInt < 12 → (gi ar0 0).toInt = (gi ar0 0).toInt + 1) ∧ ((gi ar0 0).toInt < 12 → t_AR gi gi ar0 ar1)) ∧ t_xc [ar0, ar0 + 1, ar0 + 2] gi gl gr gi gl gr from ⟨⟨fun h => absurd h (by omega), fun h => absurd h (by omega)⟩, t_xc.rf⟩)⟩⟩
  · have u4 : (gi ar0 0).toInt ≤ 11 := t_ltu (t_nle h2) (by decide : (12:Int32).toInt ≤ (12:Int)) rfl
    refine ev_loc f_X7_endRule (nx := 10) rfl rfl rfl rfl ?_
    obtain ⟨hk6, d6, r1_6, r2_6, s1_6, s2_6, n6, hn6, r4_6, r5_6, r6_6, s4_6, s5_6, s6_6⟩ := id p_a0
    refine ev_getR f_X7_endRule (nx := 13) (v := .ref (ar0 + 1)) rfl p_a0.1 rfl rfl r1_6 rfl rfl ?_
    refine ev_loc f_X7_endRule (nx := 14) rfl rfl rfl rfl ?_
    refine ev_gvI f_X7_endRule (nx := 17) (w := (gi ar0 0)) rfl p_a0.1 rfl rfl rfl rfl ?_
    refine ev_loc f_X7_endRule (nx := 18) rfl rfl rfl rfl ?_
    refine ev_iastT f_X7_endRule (nx := 19) rfl s1_6 l1 (by decide) u4 (by decide) rfl (hI.astD s1_6 (by omega) (fun k hk e => absurd e (t_Ru.ne p_a0 hk (by decide)))) (hX.upI (t_inOA hI.wf s1_6 (Or.inr (by omega)) rfl)) (fun g7 e7 hI hX => ?_)
    refine ev_loc f_X7_endRule (nx := 20) rfl rfl rfl rfl ?_
    refine ev_getR f_X7_endRule (nx := 23) (v := .ref (ar0 + 2)) rfl p_a0.1 rfl rfl r2_6 rfl rfl ?_
    refine ev_loc f_X7_endRule (nx := 24) rfl rfl rfl rfl ?_
    refine ev_gvI f_X7_endRule (nx := 27) (w := (gi ar0 0)) rfl p_a0.1 rfl rfl ((by rw [e7]; exact x_up2_off (Or.inl (t_noobj s1_6 p_a0.1)) : g7 ar0 0 = gi ar0 0).trans rfl) rfl ?_
    refine ev_loc f_X7_endRule (nx := 28) rfl rfl rfl rfl ?_
    have q8 := hI.2.2.2.2.1 ar0 n6 p_a0 s4_6
    refine ev_getI f_X7_endRule (nx := 31) rfl p_a0.1 rfl rfl rfl ?_
    obtain ⟨l9, u9⟩ := hI.b p_a0.1 (t_bdK rfl : t_bd 6 3 = some (0, 300))
    refine ev_iastT f_X7_endRule (nx := 32) rfl s2_6 l1 (by decide) u4 (by decide) rfl (hI.astD s2_6 (by omega) (fun k hk e => l9)) (hX.upI (t_inOA hI.wf s2_6 (Or.inr (by omega)) rfl)) (fun g10 e10 hI hX => ?_)
    refine ev_loc f_X7_endRule (nx := 33) rfl rfl rfl rfl ?_
    refine ev_alu f_X7_endRule (nx := 34) rfl rfl rfl rfl ?_
    refine ev_gvI f_X7_endRule (nx := 37) (w := (gi ar0 0)) rfl p_a0.1 rfl rfl ((by rw [e10]; exact x_up2_off (Or.inl (t_noobj s2_6 p_a0.1)) : g10 ar0 0 = g7 ar0 0).trans ((by rw [e7]; exact x_up2_off (Or.inl (t_noobj s1_6 p_a0.1)) : g7 ar0 0 = gi ar0 0).trans rfl)) rfl ?_
    refine ev_ic f_X7_endRule (nx := 38) (v := 1) rfl (by decide) rfl ?_
    refine ev_addC f_X7_endRule (nx := 39) (c := 1) (l := 1) (u := 12) rfl (by decide) l1 u4 rfl rfl (by decide) (by decide) rfl (fun z11 e11 l11 u11 => ?_)
    refine ev_putIT f_X7_endRule (nx := 42) rfl p_a0.1 rfl rfl rfl (hI.putB p_a0.1 rfl rfl l11 (by decide) u11 (by decide)) (hX.upI (t_inO hI.wf p_a0.1 (t_outO hI.wf p_a0.1 rfl) rfl)) (fun g12 e12 hI hX => ?_)
    exact ev_ret f_X7_endRule rfl rfl rfl ⟨_, _, _, rfl, hI, hX, ⟨rfl, (show (((gi ar0 0).toInt < 12 → (g12 ar0 0).toInt = (gi ar0 0).toInt + 1) ∧ ((gi ar0 0).toInt < 12 → t_AR gi g12 ar0 ar1)) ∧ t_xc [ar0, ar0 + 1, ar0 + 2] gi gl gr g12 gl gr from ⟨⟨fun h => (by have ff5 : (g12 ar0 3).toInt = (g7 ar0 3).toInt := congrArg Int32.toInt ((by rw [e12]; exact x_up2_off (Or.inr (by decide)) : g12 ar0 3 = g10 ar0 3).trans ((by rw [e10]; exact x_up2_off (Or.inl (t_noobj s2_6 p_a0.1)) : g10 ar0 3 = g7 ar0 3).trans rfl)); have ff6 : (g12 ar0 0).toInt = z11.toInt := congrArg Int32.toInt (by rw [e12]; exact x_up2_at _ _ _ _ : g12 ar0 0 = z11); omega), fun h => t_AR_of (by omega) e7 e10 e12⟩, (t_xc.I (t_xc.I (t_xc.I t_xc.rf (by simp) e7) (by simp) e10) (by simp) e12)⟩)⟩⟩
noncomputable def wl_ue_factTold : List (Nat × Nat) := []
noncomputable def Q_ue_factTold (gi : Nat → Nat → Int32) (gl : Nat → Nat → Int64) (gr : Nat → Nat → Value) (ar0 : Nat) : Int32 → (Nat → Nat → Int32) → (Nat → Nat → Int64) → (Nat → Nat → Value) → Prop := fun (v : Int32) (gi2 : Nat → Nat → Int32) (gl2 : Nat → Nat → Int64) (gr2 : Nat → Nat → Value) => ∀ (b : Nat → Int32) (n q : Nat), t_TC b n q gi gl gr (ar0 + 1) → (v.toInt ≠ -1 ↔ s_fct b n q) ∧ (v.toInt = 0 ↔ s_opn b n q) ∧ (1 ≤ v.toInt → s_mi (s_W b n q) = 21 + v.toInt)
theorem c_ue_factTold {X : x_Ext} {d : Nat} {sh : List (Nat ⊕ (Nat × Nat))} {gi : Nat → Nat → Int32} {gl : Nat → Nat → Int64} {gr : Nat → Nat → Value} (hI : t_I sh gi gr) (ar0 : Nat) (p_a0 : t_UQ sh gr ar0) : x_Me X (d + 1) n_X8_factTold [.ref ar0] (sh, gi, gl, gr) (t_PI wl_ue_factTold sh gi gl gr (-1) 5 (Q_ue_factTold gi gl gr ar0)) := by
  have hX : t_X wl_ue_factTold sh gi gl gr gi gl gr := t_X.rf
  refine me_i f_X8_factTold p_a0.1 rfl rfl rfl ?_
  refine ev_loc f_X8_factTold (nx := 1) rfl rfl rfl rfl ?_
  have e1 := p_a0.2.2.1.1
  have p1 := p_a0.2.2.1.2
  refine ev_getR f_X8_factTold (nx := 4) rfl p_a0.1 rfl rfl e1 rfl rfl ?_
  have k2 := hI.2.2.2.1.2.2.2.2.2 (ar0 + 1) p1.1
  obtain ⟨v2, e2⟩ : ∃ v, gr (ar0 + 1) 7 = v := ⟨_, rfl⟩
  rw [e2] at k2
  refine ev_getR f_X8_factTold (nx := 7) rfl p1.1 rfl rfl e2 (t_KwR k2) rfl ?_
  refine ev_heap f_X8_factTold (nx := 10) rfl rfl rfl rfl ?_
  refine ev_ack f_X8_factTold (t1 := 26) (t2 := 13) rfl rfl rfl (t_knw k2) rfl (fun h3 => ?_) (fun h3 => ?_)
  · refine ev_ic f_X8_factTold (nx := 27) (v := 0) rfl (by decide) rfl ?_
    exact ev_ret f_X8_factTold rfl rfl rfl ⟨_, _, _, rfl, hI, hX, ⟨_, rfl, (Int.le_trans (by decide : ((-1):Int) ≤ 0) (by decide : (0:Int) ≤ (0:Int32).toInt)), (Int.le_trans (by decide : (0:Int32).toInt ≤ (0:Int)) (by decide : (0:Int) ≤ 5)), (show ∀ (b : Nat → Int32) (n q : Nat), t_TC b n q gi gl gr (ar0 + 1) → ((0 : Int) ≠ -1 ↔ s_fct b n q) ∧ ((0 : Int) = 0 ↔ s_opn b n q) ∧ (1 ≤ (0 : Int) → s_mi (s_W b n q) = 21 + (0 : Int)) from (fun b n q h => ⟨⟨fun _ => Or.inl (Or.inl (h.kwT e2 h3)), fun _ => by decide⟩, ⟨fun _ => Or.inl (h.kwT e2 h3), fun _ => rfl⟩, fun hh => absurd hh (by decide)⟩))⟩⟩
  · refine ev_loc f_X8_factTold (nx := 14) rfl rfl rfl rfl ?_
    refine ev_getR f_X8_factTold (nx := 17) (v := .ref (ar0 + 1)) rfl p_a0.1 rfl rfl e1 rfl rfl ?_
    refine ev_getR f_X8_factTold (nx := 20) (v := v2) rfl p1.1 rfl rfl e2 (t_KwR k2) rfl ?_
    refine ev_heap f_X8_factTold (nx := 23) rfl rfl rfl rfl ?_
    refine ev_ack f_X8_factTold (t1 := 26) (t2 := 28) rfl rfl rfl (t_knw k2) rfl (fun h4 => ?_) (fun h4 => ?_)
    · refine ev_ic f_X8_factTold (nx := 27) (v := 0) rfl (by decide) rfl ?_
      exact ev_ret f_X8_factTold rfl rfl rfl ⟨_, _, _, rfl, hI, hX, ⟨_, rfl, (Int.le_trans (by decide : ((-1):Int) ≤ 0) (by decide : (0:Int) ≤ (0:Int32).toInt)), (Int.le_trans (by decide : (0:Int32).toInt ≤ (0:Int)) (by decide : (0:Int) ≤ 5)), (show ∀ (b : Nat → Int32) (n q : Nat), t_TC b n q gi gl gr (ar0 + 1) → ((0 : Int) ≠ -1 ↔ s_fct b n q) ∧ ((0 : Int) = 0 ↔ s_opn b n q) ∧ (1 ≤ (0 : Int) → s_mi (s_W b n q) = 21 + (0 : Int)) from (fun b n q h => ⟨⟨fun _ => Or.inl (Or.inr (h.kwT e2 h4)), fun _ => by decide⟩, ⟨fun _ => Or.inr (h.kwT e2 h4), fun _ => rfl⟩, fun hh => absurd hh (by decide)⟩))⟩⟩
    · refine ev_loc f_X8_factTold (nx := 29) rfl rfl rfl rfl ?_
      refine ev_getR f_X8_factTold (nx := 32) (v := .ref (ar0 + 1)) rfl p_a0.1 rfl rfl e1 rfl rfl ?_
      refine ev_getR f_X8_factTold (nx := 35) (v := v2) rfl p1.1 rfl rfl e2 (t_KwR k2) rfl ?_
      refine ev_heap f_X8_factTold (nx := 38) rfl rfl rfl rfl ?_
      refine ev_ack f_X8_factTold (t1 := 41) (t2 := 43) rfl rfl rfl (t_knw k2) rfl (fun h5 => ?_) (fun h5 => ?_)
      · refine ev_ic f_X8_factTold (nx := 42) (v := 1) rfl (by decide) rfl ?_
        exact ev_ret f_X8_factTold rfl rfl rfl ⟨_, _, _, rfl, hI, hX, ⟨_, rfl, (Int.le_trans (by decide : ((-1):Int) ≤ 1) (by decide : (1:Int) ≤ (1:Int32).toInt)), (Int.le_trans (by decide : (1:Int32).toInt ≤ (1:Int)) (by decide : (1:Int) ≤ 5)), (show ∀ (b : Nat → Int32) (n q : Nat), t_TC b n q gi gl gr (ar0 + 1) → ((1 : Int) ≠ -1 ↔ s_fct b n q) ∧ ((1 : Int) = 0 ↔ s_opn b n q) ∧ (1 ≤ (1 : Int) → s_mi (s_W b n q) = 21 + (1 : Int)) from (fun b n q h => ⟨⟨fun _ => Or.inr (Or.inl (h.kwT e2 h5)), fun _ => by decide⟩, ⟨fun hh => absurd hh (by decide), fun hh => hh.elim (fun x => absurd x (h.kwF e2 h3)) (fun x => absurd x (h.kwF e2 h4))⟩, fun _ => (s_mi_W (i := 22) (by decide)).mpr (h.kwT e2 h5)⟩))⟩⟩
      · refine ev_loc f_X8_factTold (nx := 44) rfl rfl rfl rfl ?_
        refine ev_getR f_X8_factTold (nx := 47) (v := .ref (ar0 + 1)) rfl p_a0.1 rfl rfl e1 rfl rfl ?_
        refine ev_getR f_X8_factTold (nx := 50) (v := v2) rfl p1.1 rfl rfl e2 (t_KwR k2) rfl ?_
        refine ev_heap f_X8_factTold (nx := 53) rfl rfl rfl rfl ?_
        refine ev_ack f_X8_factTold (t1 := 56) (t2 := 58) rfl rfl rfl (t_knw k2) rfl (fun h6 => ?_) (fun h6 => ?_)
        · refine ev_ic f_X8_factTold (nx := 57) (v := 2) rfl (by decide) rfl ?_
          exact ev_ret f_X8_factTold rfl rfl rfl ⟨_, _, _, rfl, hI, hX, ⟨_, rfl, (Int.le_trans (by decide : ((-1):Int) ≤ 2) (by decide : (2:Int) ≤ (2:Int32).toInt)), (Int.le_trans (by decide : (2:Int32).toInt ≤ (2:Int)) (by decide : (2:Int) ≤ 5)), (show ∀ (b : Nat → Int32) (n q : Nat), t_TC b n q gi gl gr (ar0 + 1) → ((2 : Int) ≠ -1 ↔ s_fct b n q) ∧ ((2 : Int) = 0 ↔ s_opn b n q) ∧ (1 ≤ (2 : Int) → s_mi (s_W b n q) = 21 + (2 : Int)) from (fun b n q h => ⟨⟨fun _ => Or.inr (Or.inr (Or.inl (h.kwT e2 h6))), fun _ => by decide⟩, ⟨fun hh => absurd hh (by decide), fun hh => hh.elim (fun x => absurd x (h.kwF e2 h3)) (fun x => absurd x (h.kwF e2 h4))⟩, fun _ => (s_mi_W (i := 23) (by decide)).mpr (h.kwT e2 h6)⟩))⟩⟩
        · refine ev_loc f_X8_factTold (nx := 59) rfl rfl rfl rfl ?_
          refine ev_getR f_X8_factTold (nx := 62) (v := .ref (ar0 + 1)) rfl p_a0.1 rfl rfl e1 rfl rfl ?_
          refine ev_getR f_X8_factTold (nx := 65) (v := v2) rfl p1.1 rfl rfl e2 (t_KwR k2) rfl ?_
          refine ev_heap f_X8_factTold (nx := 68) rfl rfl rfl rfl ?_
          refine ev_ack f_X8_factTold (t1 := 71) (t2 := 73) rfl rfl rfl (t_knw k2) rfl (fun h7 => ?_) (fun h7 => ?_)
          · refine ev_ic f_X8_factTold (nx := 72) (v := 3) rfl (by decide) rfl ?_
            exact ev_ret f_X8_factTold rfl rfl rfl ⟨_, _, _, rfl, hI, hX, ⟨_, rfl, (Int.le_trans (by decide : ((-1):Int) ≤ 3) (by decide : (3:Int) ≤ (3:Int32).toInt)), (Int.le_trans (by decide : (3:Int32).toInt ≤ (3:Int)) (by decide : (3:Int) ≤ 5)), (show ∀ (b : Nat → Int32) (n q : Nat), t_TC b n q gi gl gr (ar0 + 1) → ((3 : Int) ≠ -1 ↔ s_fct b n q) ∧ ((3 : Int) = 0 ↔ s_opn b n q) ∧ (1 ≤ (3 : Int) → s_mi (s_W b n q) = 21 + (3 : Int)) from (fun b n q h => ⟨⟨fun _ => Or.inr (Or.inr (Or.inr (Or.inl (h.kwT e2 h7)))), fun _ => by decide⟩, ⟨fun hh => absurd hh (by decide), fun hh => hh.elim (fun x => absurd x (h.kwF e2 h3)) (fun x => absurd x (h.kwF e2 h4))⟩, fun _ => (s_mi_W (i := 24) (by decide)).mpr (h.kwT e2 h7)⟩))⟩⟩
          · refine ev_loc f_X8_factTold (nx := 74) rfl rfl rfl rfl ?_
            refine ev_getR f_X8_factTold (nx := 77) (v := .ref (ar0 + 1)) rfl p_a0.1 rfl rfl e1 rfl rfl ?_
            refine ev_getR f_X8_factTold (nx := 80) (v := v2) rfl p1.1 rfl rfl e2 (t_KwR k2) rfl ?_
            refine ev_heap f_X8_factTold (nx := 83) rfl rfl rfl rfl ?_
            refine ev_ack f_X8_factTold (t1 := 86) (t2 := 88) rfl rfl rfl (t_knw k2) rfl (fun h8 => ?_) (fun h8 => ?_)
            · refine ev_ic f_X8_factTold (nx := 87) (v := 4) rfl (by decide) rfl ?_
              exact ev_ret f_X8_factTold rfl rfl rfl ⟨_, _, _, rfl, hI, hX, ⟨_, rfl, (Int.le_trans (by decide : ((-1):Int) ≤ 4) (by decide : (4:Int) ≤ (4:Int32).toInt)), (Int.le_trans (by decide : (4:Int32).toInt ≤ (4:Int)) (by decide : (4:Int) ≤ 5)), (show ∀ (b : Nat → Int32) (n q : Nat), t_TC b n q gi gl gr (ar0 + 1) → ((4 : Int) ≠ -1 ↔ s_fct b n q) ∧ ((4 : Int) = 0 ↔ s_opn b n q) ∧ (1 ≤ (4 : Int) → s_mi (s_W b n q) = 21 + (4 : Int)) from (fun b n q h => ⟨⟨fun _ => Or.inr (Or.inr (Or.inr (Or.inr (Or.inl (h.kwT e2 h8))))), fun _ => by decide⟩, ⟨fun hh => absurd hh (by decide), fun hh => hh.elim (fun x => absurd x (h.kwF e2 h3)) (fun x => absurd x (h.kwF e2 h4))⟩, fun _ => (s_mi_W (i := 25) (by decide)).mpr (h.kwT e2 h8)⟩))⟩⟩
            · refine ev_loc f_X8_factTold (nx := 89) rfl rfl rfl rfl ?_
              refine ev_getR f_X8_factTold (nx := 92) (v := .ref (ar0 + 1)) rfl p_a0.1 rfl rfl e1 rfl rfl ?_
              refine ev_getR f_X8_factTold (nx := 95) (v := v2) rfl p1.1 rfl rfl e2 (t_KwR k2) rfl ?_
              refine ev_heap f_X8_factTold (nx := 98) rfl rfl rfl rfl ?_
              refine ev_ack f_X8_factTold (t1 := 101) (t2 := 105) rfl rfl rfl (t_knw k2) rfl (fun h9 => ?_) (fun h9 => ?_)
              · refine ev_ic f_X8_factTold (nx := 102) (v := 5) rfl (by decide) rfl ?_
                refine ev_jmp f_X8_factTold (nx := 106) rfl rfl rfl ?_
                exact ev_ret f_X8_factTold rfl rfl rfl ⟨_, _, _, rfl, hI, hX, ⟨_, rfl, (Int.le_trans (by decide : ((-1):Int) ≤ 5) (by decide : (5:Int) ≤ (5:Int32).toInt)), (by decide : (5:Int32).toInt ≤ (5:Int)), (show ∀ (b : Nat → Int32) (n q : Nat), t_TC b n q gi gl gr (ar0 + 1) → ((5 : Int) ≠ -1 ↔ s_fct b n q) ∧ ((5 : Int) = 0 ↔ s_opn b n q) ∧ (1 ≤ (5 : Int) → s_mi (s_W b n q) = 21 + (5 : Int)) from (fun b n q h => ⟨⟨fun _ => Or.inr (Or.inr (Or.inr (Or.inr (Or.inr (h.kwT e2 h9))))), fun _ => by decide⟩, ⟨fun hh => absurd hh (by decide), fun hh => hh.elim (fun x => absurd x (h.kwF e2 h3)) (fun x => absurd x (h.kwF e2 h4))⟩, fun _ => (s_mi_W (i := 26) (by decide)).mpr (h.kwT e2 h9)⟩))⟩⟩
              · refine ev_ic f_X8_factTold (nx := 106) (v := -1) rfl (by decide) rfl ?_
                exact ev_ret f_X8_factTold rfl rfl rfl ⟨_, _, _, rfl, hI, hX, ⟨_, rfl, (by decide : ((-1):Int) ≤ ((-1):Int32).toInt), (Int.le_trans (by decide : ((-1):Int32).toInt ≤ ((-1):Int)) (by decide : ((-1):Int) ≤ 5)), (show ∀ (b : Nat → Int32) (n q : Nat), t_TC b n q gi gl gr (ar0 + 1) → (((-1) : Int) ≠ -1 ↔ s_fct b n q) ∧ (((-1) : Int) = 0 ↔ s_opn b n q) ∧ (1 ≤ ((-1) : Int) → s_mi (s_W b n q) = 21 + ((-1) : Int)) from (fun b n q h => ⟨⟨fun hh => absurd (by decide) hh, fun hh => (by
                                                            rcases hh with (x | x) | x | x | x | x | x
                                                            · exact absurd x (h.kwF e2 h3)
                                                            · exact absurd x (h.kwF e2 h4)
                                                            · exact absurd x (h.kwF e2 h5)
                                                            · exact absurd x (h.kwF e2 h6)
                                                            · exact absurd x (h.kwF e2 h7)
                                                            · exact absurd x (h.kwF e2 h8)
                                                            · exact absurd x (h.kwF e2 h9))⟩, ⟨fun hh => absurd hh (by decide), fun hh => hh.elim (fun x => absurd x (h.kwF e2 h3)) (fun x => absurd x (h.kwF e2 h4))⟩, fun hh => absurd hh (by decide)⟩))⟩⟩
noncomputable def wl_ue_comparesTold : List (Nat × Nat) := []
noncomputable def Q_ue_comparesTold (gi : Nat → Nat → Int32) (gl : Nat → Nat → Int64) (gr : Nat → Nat → Value) (ar0 : Nat) : Int32 → (Nat → Nat → Int32) → (Nat → Nat → Int64) → (Nat → Nat → Value) → Prop := fun (v : Int32) (gi2 : Nat → Nat → Int32) (gl2 : Nat → Nat → Int64) (gr2 : Nat → Nat → Value) => ∀ (b : Nat → Int32) (n q : Nat), t_TC b n q gi gl gr (ar0 + 1) → ((v.toInt ≠ -1 ↔ s_cmp b n q) ∧ (v.toInt ≠ -1 → v.toInt = s_if (s_isS b n q 60) 0 (s_if (s_isS b n q 62) 1 2)))
theorem c_ue_comparesTold {X : x_Ext} {d : Nat} {sh : List (Nat ⊕ (Nat × Nat))} {gi : Nat → Nat → Int32} {gl : Nat → Nat → Int64} {gr : Nat → Nat → Value} (hI : t_I sh gi gr) (ar0 : Nat) (p_a0 : t_UQ sh gr ar0) : x_Me X (d + 2) n_X8_comparesTold [.ref ar0] (sh, gi, gl, gr) (t_PI wl_ue_comparesTold sh gi gl gr (-1) 2 (Q_ue_comparesTold gi gl gr ar0)) := by
  have hX : t_X wl_ue_comparesTold sh gi gl gr gi gl gr := t_X.rf
  refine me_i f_X8_comparesTold p_a0.1 rfl rfl rfl ?_
  refine ev_loc f_X8_comparesTold (nx := 1) rfl rfl rfl rfl ?_
  have e1 := p_a0.2.2.1.1
  have p1 := p_a0.2.2.1.2
  refine ev_getR f_X8_comparesTold (nx := 4) rfl p_a0.1 rfl rfl e1 rfl rfl ?_
  refine ev_bp f_X8_comparesTold (nx := 6) (v := 60) rfl (by decide) rfl ?_
  refine ev_qI0 f_X8_comparesTold (nx := 9) (r := []) rfl rfl rfl rfl rfl rfl rfl (c_s_isSignOf hI ((ar0 + 1)) p1 (60)) rfl (fun w2 l2 u2 q2 => ?_)
  have q2 : ∀ (b : Nat → Int32) (n q : Nat), t_TC b n q gi gl gr (ar0 + 1) → (w2.toInt = 1 ↔ s_isS b n q 60) := q2
  refine ev_if f_X8_comparesTold (t1 := 14) (t2 := 12) rfl rfl rfl (fun h3 => ?_) (fun h3 => ?_)
  · have u4 : w2.toInt ≤ 0 := t_equ h3 (by decide : (0:Int32).toInt ≤ (0:Int))
    refine ev_loc f_X8_comparesTold (nx := 15) rfl rfl rfl rfl ?_
    refine ev_getR f_X8_comparesTold (nx := 18) (v := .ref (ar0 + 1)) rfl p_a0.1 rfl rfl e1 rfl rfl ?_
    refine ev_bp f_X8_comparesTold (nx := 20) (v := 62) rfl (by decide) rfl ?_
    refine ev_qI0 f_X8_comparesTold (nx := 23) (r := []) rfl rfl rfl rfl rfl rfl rfl (c_s_isSignOf hI ((ar0 + 1)) p1 (62)) rfl (fun w5 l5 u5 q5 => ?_)
    have q5 : ∀ (b : Nat → Int32) (n q : Nat), t_TC b n q gi gl gr (ar0 + 1) → (w5.toInt = 1 ↔ s_isS b n q 62) := q5
    refine ev_if f_X8_comparesTold (t1 := 28) (t2 := 26) rfl rfl rfl (fun h6 => ?_) (fun h6 => ?_)
    · have u7 : w5.toInt ≤ 0 := t_equ h6 (by decide : (0:Int32).toInt ≤ (0:Int))
      refine ev_loc f_X8_comparesTold (nx := 29) rfl rfl rfl rfl ?_
      refine ev_getR f_X8_comparesTold (nx := 32) (v := .ref (ar0 + 1)) rfl p_a0.1 rfl rfl e1 rfl rfl ?_
      refine ev_bp f_X8_comparesTold (nx := 34) (v := 61) rfl (by decide) rfl ?_
      refine ev_qI0 f_X8_comparesTold (nx := 37) (r := []) rfl rfl rfl rfl rfl rfl rfl (c_s_isSignOf hI ((ar0 + 1)) p1 (61)) rfl (fun w8 l8 u8 q8 => ?_)
      have q8 : ∀ (b : Nat → Int32) (n q : Nat), t_TC b n q gi gl gr (ar0 + 1) → (w8.toInt = 1 ↔ s_isS b n q 61) := q8
      refine ev_if f_X8_comparesTold (t1 := 44) (t2 := 40) rfl rfl rfl (fun h9 => ?_) (fun h9 => ?_)
      · have u10 : w8.toInt ≤ 0 := t_equ h9 (by decide : (0:Int32).toInt ≤ (0:Int))
        refine ev_ic f_X8_comparesTold (nx := 45) (v := -1) rfl (by decide) rfl ?_
        exact ev_ret f_X8_comparesTold rfl rfl rfl ⟨_, _, _, rfl, hI, hX, ⟨_, rfl, (by decide : ((-1):Int) ≤ ((-1):Int32).toInt), (Int.le_trans (by decide : ((-1):Int32).toInt ≤ ((-1):Int)) (by decide : ((-1):Int) ≤ 2)), (show ∀ (b : Nat → Int32) (n q : Nat), t_TC b n q gi gl gr (ar0 + 1) → ((((-1) : Int) ≠ -1 ↔ s_cmp b n q) ∧ (((-1) : Int) ≠ -1 → ((-1) : Int) = s_if (s_isS b n q 60) 0 (s_if (s_isS b n q 62) 1 2))) from (fun b n q h => ⟨⟨fun hh => absurd (by decide) hh, fun hh => (by
                                                            rcases hh with x | x | x
                                                            · exact absurd ((q2 b n q h).mpr x) (by omega)
                                                            · exact absurd ((q5 b n q h).mpr x) (by omega)
                                                            · exact absurd ((q8 b n q h).mpr x) (by omega))⟩, fun hh => absurd rfl hh⟩))⟩⟩
      · have r11 : w8.toInt ≠ 0 := fun e => h9 (Int32.toInt_inj.mp (e.trans (by decide : (0:Int) = (0 : Int32).toInt)))
        have l12 : 1 ≤ w8.toInt := t_nel h9 l8 rfl rfl
        refine ev_ic f_X8_comparesTold (nx := 41) (v := 2) rfl (by decide) rfl ?_
        refine ev_jmp f_X8_comparesTold (nx := 45) rfl rfl rfl ?_
        exact ev_ret f_X8_comparesTold rfl rfl rfl ⟨_, _, _, rfl, hI, hX, ⟨_, rfl, (Int.le_trans (by decide : ((-1):Int) ≤ 2) (by decide : (2:Int) ≤ (2:Int32).toInt)), (by decide : (2:Int32).toInt ≤ (2:Int)), (show ∀ (b : Nat → Int32) (n q : Nat), t_TC b n q gi gl gr (ar0 + 1) → (((2 : Int) ≠ -1 ↔ s_cmp b n q) ∧ ((2 : Int) ≠ -1 → (2 : Int) = s_if (s_isS b n q 60) 0 (s_if (s_isS b n q 62) 1 2))) from (fun b n q h => ⟨⟨fun _ => Or.inr (Or.inr ((q8 b n q h).mp (by omega))), fun _ => by decide⟩, fun _ => (by rw [s_ifF (fun hh => absurd ((q2 b n q h).mpr hh) (by omega)), s_ifF (fun hh => absurd ((q5 b n q h).mpr hh) (by omega))]; try rfl)⟩))⟩⟩
    · have r13 : w5.toInt ≠ 0 := fun e => h6 (Int32.toInt_inj.mp (e.trans (by decide : (0:Int) = (0 : Int32).toInt)))
      have l14 : 1 ≤ w5.toInt := t_nel h6 l5 rfl rfl
      refine ev_ic f_X8_comparesTold (nx := 27) (v := 1) rfl (by decide) rfl ?_
      exact ev_ret f_X8_comparesTold rfl rfl rfl ⟨_, _, _, rfl, hI, hX, ⟨_, rfl, (Int.le_trans (by decide : ((-1):Int) ≤ 1) (by decide : (1:Int) ≤ (1:Int32).toInt)), (Int.le_trans (by decide : (1:Int32).toInt ≤ (1:Int)) (by decide : (1:Int) ≤ 2)), (show ∀ (b : Nat → Int32) (n q : Nat), t_TC b n q gi gl gr (ar0 + 1) → (((1 : Int) ≠ -1 ↔ s_cmp b n q) ∧ ((1 : Int) ≠ -1 → (1 : Int) = s_if (s_isS b n q 60) 0 (s_if (s_isS b n q 62) 1 2))) from (fun b n q h => ⟨⟨fun _ => Or.inr (Or.inl ((q5 b n q h).mp (by omega))), fun _ => by decide⟩, fun _ => (by rw [s_ifF (fun hh => absurd ((q2 b n q h).mpr hh) (by omega)), s_ifT ((q5 b n q h).mp (by omega))]; try rfl)⟩))⟩⟩
  · have r15 : w2.toInt ≠ 0 := fun e => h3 (Int32.toInt_inj.mp (e.trans (by decide : (0:Int) = (0 : Int32).toInt)))
    have l16 : 1 ≤ w2.toInt := t_nel h3 l2 rfl rfl
    refine ev_ic f_X8_comparesTold (nx := 13) (v := 0) rfl (by decide) rfl ?_
    exact ev_ret f_X8_comparesTold rfl rfl rfl ⟨_, _, _, rfl, hI, hX, ⟨_, rfl, (Int.le_trans (by decide : ((-1):Int) ≤ 0) (by decide : (0:Int) ≤ (0:Int32).toInt)), (Int.le_trans (by decide : (0:Int32).toInt ≤ (0:Int)) (by decide : (0:Int) ≤ 2)), (show ∀ (b : Nat → Int32) (n q : Nat), t_TC b n q gi gl gr (ar0 + 1) → (((0 : Int) ≠ -1 ↔ s_cmp b n q) ∧ ((0 : Int) ≠ -1 → (0 : Int) = s_if (s_isS b n q 60) 0 (s_if (s_isS b n q 62) 1 2))) from (fun b n q h => ⟨⟨fun _ => Or.inl ((q2 b n q h).mp (by omega)), fun _ => by decide⟩, fun _ => (by rw [s_ifT ((q2 b n q h).mp (by omega))]; try rfl)⟩))⟩⟩
noncomputable def wl_ue_actTold : List (Nat × Nat) := []
noncomputable def Q_ue_actTold (gi : Nat → Nat → Int32) (gl : Nat → Nat → Int64) (gr : Nat → Nat → Value) (ar0 : Nat) : Int32 → (Nat → Nat → Int32) → (Nat → Nat → Int64) → (Nat → Nat → Value) → Prop := fun (v : Int32) (gi2 : Nat → Nat → Int32) (gl2 : Nat → Nat → Int64) (gr2 : Nat → Nat → Value) => ∀ (b : Nat → Int32) (n q : Nat), t_TC b n q gi gl gr (ar0 + 1) → ((v.toInt ≠ -1 ↔ (s_W b n q = some 15 ∨ s_W b n q = some 16 ∨ s_W b n q = some 17)) ∧ (0 ≤ v.toInt → s_mi (s_W b n q) = 15 + v.toInt))
theorem c_ue_actTold {X : x_Ext} {d : Nat} {sh : List (Nat ⊕ (Nat × Nat))} {gi : Nat → Nat → Int32} {gl : Nat → Nat → Int64} {gr : Nat → Nat → Value} (hI : t_I sh gi gr) (ar0 : Nat) (p_a0 : t_UQ sh gr ar0) : x_Me X (d + 1) n_X8_actTold [.ref ar0] (sh, gi, gl, gr) (t_PI wl_ue_actTold sh gi gl gr (-1) 2 (Q_ue_actTold gi gl gr ar0)) := by
  have hX : t_X wl_ue_actTold sh gi gl gr gi gl gr := t_X.rf
  refine me_i f_X8_actTold p_a0.1 rfl rfl rfl ?_
  refine ev_loc f_X8_actTold (nx := 1) rfl rfl rfl rfl ?_
  have e1 := p_a0.2.2.1.1
  have p1 := p_a0.2.2.1.2
  refine ev_getR f_X8_actTold (nx := 4) rfl p_a0.1 rfl rfl e1 rfl rfl ?_
  have k2 := hI.2.2.2.1.2.2.2.2.2 (ar0 + 1) p1.1
  obtain ⟨v2, e2⟩ : ∃ v, gr (ar0 + 1) 7 = v := ⟨_, rfl⟩
  rw [e2] at k2
  refine ev_getR f_X8_actTold (nx := 7) rfl p1.1 rfl rfl e2 (t_KwR k2) rfl ?_
  refine ev_heap f_X8_actTold (nx := 10) rfl rfl rfl rfl ?_
  refine ev_ack f_X8_actTold (t1 := 13) (t2 := 15) rfl rfl rfl (t_knw k2) rfl (fun h3 => ?_) (fun h3 => ?_)
  · refine ev_ic f_X8_actTold (nx := 14) (v := 0) rfl (by decide) rfl ?_
    exact ev_ret f_X8_actTold rfl rfl rfl ⟨_, _, _, rfl, hI, hX, ⟨_, rfl, (Int.le_trans (by decide : ((-1):Int) ≤ 0) (by decide : (0:Int) ≤ (0:Int32).toInt)), (Int.le_trans (by decide : (0:Int32).toInt ≤ (0:Int)) (by decide : (0:Int) ≤ 2)), (show ∀ (b : Nat → Int32) (n q : Nat), t_TC b n q gi gl gr (ar0 + 1) → (((0 : Int) ≠ -1 ↔ (s_W b n q = some 15 ∨ s_W b n q = some 16 ∨ s_W b n q = some 17)) ∧ (0 ≤ (0 : Int) → s_mi (s_W b n q) = 15 + (0 : Int))) from (fun b n q h => ⟨⟨fun _ => Or.inl (h.kwT e2 h3), fun _ => by decide⟩, fun _ => (s_mi_W (i := 15) (by decide)).mpr (h.kwT e2 h3)⟩))⟩⟩
  · refine ev_loc f_X8_actTold (nx := 16) rfl rfl rfl rfl ?_
    refine ev_getR f_X8_actTold (nx := 19) (v := .ref (ar0 + 1)) rfl p_a0.1 rfl rfl e1 rfl rfl ?_
    refine ev_getR f_X8_actTold (nx := 22) (v := v2) rfl p1.1 rfl rfl e2 (t_KwR k2) rfl ?_
    refine ev_heap f_X8_actTold (nx := 25) rfl rfl rfl rfl ?_
    refine ev_ack f_X8_actTold (t1 := 28) (t2 := 30) rfl rfl rfl (t_knw k2) rfl (fun h4 => ?_) (fun h4 => ?_)
    · refine ev_ic f_X8_actTold (nx := 29) (v := 1) rfl (by decide) rfl ?_
      exact ev_ret f_X8_actTold rfl rfl rfl ⟨_, _, _, rfl, hI, hX, ⟨_, rfl, (Int.le_trans (by decide : ((-1):Int) ≤ 1) (by decide : (1:Int) ≤ (1:Int32).toInt)), (Int.le_trans (by decide : (1:Int32).toInt ≤ (1:Int)) (by decide : (1:Int) ≤ 2)), (show ∀ (b : Nat → Int32) (n q : Nat), t_TC b n q gi gl gr (ar0 + 1) → (((1 : Int) ≠ -1 ↔ (s_W b n q = some 15 ∨ s_W b n q = some 16 ∨ s_W b n q = some 17)) ∧ (0 ≤ (1 : Int) → s_mi (s_W b n q) = 15 + (1 : Int))) from (fun b n q h => ⟨⟨fun _ => Or.inr (Or.inl (h.kwT e2 h4)), fun _ => by decide⟩, fun _ => (s_mi_W (i := 16) (by decide)).mpr (h.kwT e2 h4)⟩))⟩⟩
    · refine ev_loc f_X8_actTold (nx := 31) rfl rfl rfl rfl ?_
      refine ev_getR f_X8_actTold (nx := 34) (v := .ref (ar0 + 1)) rfl p_a0.1 rfl rfl e1 rfl rfl ?_
      refine ev_getR f_X8_actTold (nx := 37) (v := v2) rfl p1.1 rfl rfl e2 (t_KwR k2) rfl ?_
      refine ev_heap f_X8_actTold (nx := 40) rfl rfl rfl rfl ?_
      refine ev_ack f_X8_actTold (t1 := 43) (t2 := 47) rfl rfl rfl (t_knw k2) rfl (fun h5 => ?_) (fun h5 => ?_)
      · refine ev_ic f_X8_actTold (nx := 44) (v := 2) rfl (by decide) rfl ?_
        refine ev_jmp f_X8_actTold (nx := 48) rfl rfl rfl ?_
        exact ev_ret f_X8_actTold rfl rfl rfl ⟨_, _, _, rfl, hI, hX, ⟨_, rfl, (Int.le_trans (by decide : ((-1):Int) ≤ 2) (by decide : (2:Int) ≤ (2:Int32).toInt)), (by decide : (2:Int32).toInt ≤ (2:Int)), (show ∀ (b : Nat → Int32) (n q : Nat), t_TC b n q gi gl gr (ar0 + 1) → (((2 : Int) ≠ -1 ↔ (s_W b n q = some 15 ∨ s_W b n q = some 16 ∨ s_W b n q = some 17)) ∧ (0 ≤ (2 : Int) → s_mi (s_W b n q) = 15 + (2 : Int))) from (fun b n q h => ⟨⟨fun _ => Or.inr (Or.inr (h.kwT e2 h5)), fun _ => by decide⟩, fun _ => (s_mi_W (i := 17) (by decide)).mpr (h.kwT e2 h5)⟩))⟩⟩
      · refine ev_ic f_X8_actTold (nx := 48) (v := -1) rfl (by decide) rfl ?_
        exact ev_ret f_X8_actTold rfl rfl rfl ⟨_, _, _, rfl, hI, hX, ⟨_, rfl, (by decide : ((-1):Int) ≤ ((-1):Int32).toInt), (Int.le_trans (by decide : ((-1):Int32).toInt ≤ ((-1):Int)) (by decide : ((-1):Int) ≤ 2)), (show ∀ (b : Nat → Int32) (n q : Nat), t_TC b n q gi gl gr (ar0 + 1) → ((((-1) : Int) ≠ -1 ↔ (s_W b n q = some 15 ∨ s_W b n q = some 16 ∨ s_W b n q = some 17)) ∧ (0 ≤ ((-1) : Int) → s_mi (s_W b n q) = 15 + ((-1) : Int))) from (fun b n q h => ⟨⟨fun hh => absurd (by decide) hh, fun hh => (by
                                                            rcases hh with x | x | x
                                                            · exact absurd x (h.kwF e2 h3)
                                                            · exact absurd x (h.kwF e2 h4)
                                                            · exact absurd x (h.kwF e2 h5))⟩, fun hh => absurd hh (by decide)⟩))⟩⟩
noncomputable def wl_ue_readCase : List (Nat × Nat) := [(116, 3), (117, 2), (118, 2), (118, 3), (118, 4), (118, 5), (118, 6), (118, 7), (118, 8), (118, 9), (118, 10), (118, 11), (130, 9999)]
noncomputable def Q_ue_readCase (sh : List (Nat ⊕ (Nat × Nat))) (gi : Nat → Nat → Int32) (gl : Nat → Nat → Int64) (gr : Nat → Nat → Value) (ar0 : Nat) (ar1 : Int32) : Int32 → (Nat → Nat → Int32) → (Nat → Nat → Int64) → (Nat → Nat → Value) → Prop := fun (v : Int32) (gi2 : Nat → Nat → Int32) (gl2 : Nat → Nat → Int64) (gr2 : Nat → Nat → Value) => (∀ (b : Nat → Int32) (n q c : Nat), t_US b n q c gi gl gr ar0 → (ar1.toInt = 0 ↔ s_opn b n q) → s_fct b n q → (v.toInt = 1 ∧ ∃ q2, (∀ k, s_cse b n q k = k q2) ∧ q < q2 ∧ t_US b n q2 (c + 1) gi2 gl2 gr2 ar0 ∧ s_cok b n q ∧ q2 = s_cx b n q ∧ t_UT gi gi2 ar0 ∧ ∀ E : List Int, (1 ≤ ar1.toInt → s_mi (s_W b n q) = 21 + ar1.toInt) → t_UE sh gi ar0 n q E → t_UE sh gi2 ar0 n q2 (E ++ [s_ccd b n q])) ∨ (v.toInt = 0 ∧ ∃ p x, x ≠ 0 ∧ (∀ k, s_cse b n q k = s_qb b n p x) ∧ t_FL gi2 (ar0 + 1) (s_fk b n p x) (s_F b n p))) ∧ t_lq ar0 gi gl gr gi2 gl2 gr2
theorem c_ue_readCase {X : x_Ext} {d : Nat} {sh : List (Nat ⊕ (Nat × Nat))} {gi : Nat → Nat → Int32} {gl : Nat → Nat → Int64} {gr : Nat → Nat → Value} (hI : t_I sh gi gr) (ar0 : Nat) (p_a0 : t_UQ sh gr ar0) (ar1 : Int32) (l_a1 : 0 ≤ ar1.toInt) (u_a1 : ar1.toInt ≤ 5) (e_p0 : (gi ar0 2).toInt ≤ 23) : x_Me X (d + 4) n_X8_readCase [.ref ar0, .int ar1] (sh, gi, gl, gr) (t_PI wl_ue_readCase sh gi gl gr 0 1 (Q_ue_readCase sh gi gl gr ar0 ar1)) := by
  have hX : t_X wl_ue_readCase sh gi gl gr gi gl gr := t_X.rf
  refine me_i f_X8_readCase p_a0.1 rfl rfl rfl ?_
  refine ev_loc f_X8_readCase (nx := 1) rfl rfl rfl rfl ?_
  refine ev_alu f_X8_readCase (nx := 2) rfl rfl rfl rfl ?_
  refine ev_gvI f_X8_readCase (nx := 5) (w := (gi ar0 2)) rfl p_a0.1 rfl rfl rfl rfl ?_
  refine ev_ic f_X8_readCase (nx := 6) (v := 1) rfl (by decide) rfl ?_
  refine ev_addC f_X8_readCase (nx := 7) (c := 1) (l := (-2147483647)) (u := 24) rfl (by decide) (t_lo (gi ar0 2)) e_p0 rfl rfl (by decide) (by decide) rfl (fun z1 e1 l1 u1 => ?_)
  refine ev_putIT f_X8_readCase (nx := 10) rfl p_a0.1 rfl rfl rfl (hI.put0 p_a0.1 rfl rfl) (hX.upI (t_inO hI.wf p_a0.1 (t_outO hI.wf p_a0.1 rfl) rfl)) (fun g2 e2 hI hX => ?_)
  refine ev_loc f_X8_readCase (nx := 11) rfl rfl rfl rfl ?_
  refine ev_if f_X8_readCase (t1 := 14) (t2 := 50) rfl rfl rfl (fun h3 => ?_) (fun h3 => ?_)
  · have u4 : ar1.toInt ≤ 0 := t_equ h3 (by decide : (0:Int32).toInt ≤ (0:Int))
    refine ev_loc f_X8_readCase (nx := 15) rfl rfl rfl rfl ?_
    have e5 := p_a0.2.2.2.1
    have p5 := p_a0.2.2.2.2
    refine ev_getR f_X8_readCase (nx := 18) rfl p_a0.1 rfl rfl e5 rfl rfl ?_
    refine ev_ic f_X8_readCase (nx := 19) (v := 2) rfl (by decide) rfl ?_
    refine ev_loc f_X8_readCase (nx := 20) rfl rfl rfl rfl ?_
    refine ev_loc f_X8_readCase (nx := 21) rfl rfl rfl rfl ?_
    have e6 := p_a0.2.2.1.1
    have p6 := p_a0.2.2.1.2
    refine ev_getR f_X8_readCase (nx := 24) rfl p_a0.1 rfl rfl e6 rfl rfl ?_
    have k7 := hI.2.2.2.1.2.2.2.2.2 (ar0 + 1) p6.1
    obtain ⟨v7, e7⟩ : ∃ v, gr (ar0 + 1) 7 = v := ⟨_, rfl⟩
    rw [e7] at k7
    refine ev_getR f_X8_readCase (nx := 27) rfl p6.1 rfl rfl e7 (t_KwR k7) rfl ?_
    refine ev_heap f_X8_readCase (nx := 30) rfl rfl rfl rfl ?_
    refine ev_ack f_X8_readCase (t1 := 33) (t2 := 37) rfl rfl rfl (t_knw k7) rfl (fun h8 => ?_) (fun h8 => ?_)
    · refine ev_ic f_X8_readCase (nx := 34) (v := 1) rfl (by decide) rfl ?_
      refine ev_jmp f_X8_readCase (nx := 38) rfl rfl rfl ?_
      refine ev_qN f_X8_readCase (nx := 41) (r := []) rfl rfl rfl rfl rfl rfl rfl (c_ue_addStep hI ((ar0 + 2)) p5 (2) (ar1) (1)) rfl hX rfl (fun gi9 gl9 gr9 hI hX hC9 q9 => ?_)
      have q9 : t_xc [(ar0 + 2), (ar0 + 2) + 3, (ar0 + 2) + 4, (ar0 + 2) + 5] g2 gl gr gi9 gl9 gr9 ∧ gi9 (ar0 + 2) 0 = g2 (ar0 + 2) 0 ∧ ∀ n : Nat, sh[(ar0 + 2) + 3]? = some (.inr (0, n)) → (g2 (ar0 + 2) 3).toInt < (n : Int) → t_AS g2 gi9 (ar0 + 2) (2 : Int32) ar1 (1 : Int32) := q9
      replace p_a0 := p_a0.ext hC9.2
      replace p5 := p5.ext hC9.2
      replace p6 := p6.ext hC9.2
      refine ev_loc f_X8_readCase (nx := 42) rfl rfl rfl rfl ?_
      refine ev_getR f_X8_readCase (nx := 45) (v := .ref (ar0 + 1)) rfl p_a0.1 rfl rfl ((hC9.1 ar0 0 (t_ninO hI.wf p_a0.1 (t_outO hI.wf p_a0.1 rfl) rfl)).2.2.trans e6) rfl rfl ?_
      refine ev_qN f_X8_readCase (nx := 48) (r := []) rfl rfl rfl rfl rfl rfl rfl (c_s_step hI ((ar0 + 1)) p6) rfl hX rfl (fun gi10 gl10 gr10 hI hX hC10 q10 => ?_)
      have q10 : (∀ (b : Nat → Int32) (n q : Nat), t_Sp b n q gi9 (ar0 + 1) → t_TC b n q gi10 gl10 gr10 (ar0 + 1)) ∧ t_nf gi9 gi10 (ar0 + 1) ∧ t_on (ar0 + 1) gi9 gl9 gr9 gi10 gl10 gr10 := q10
      replace p_a0 := p_a0.ext hC10.2
      replace p5 := p5.ext hC10.2
      replace p6 := p6.ext hC10.2
      refine ev_ic f_X8_readCase (nx := 49) (v := 1) rfl (by decide) rfl ?_
      exact ev_ret f_X8_readCase rfl rfl rfl ⟨_, _, _, rfl, hI, hX, ⟨_, rfl, (Int.le_trans (by decide : (0:Int) ≤ 1) (by decide : (1:Int) ≤ (1:Int32).toInt)), (by decide : (1:Int32).toInt ≤ (1:Int)), (show (∀ (b : Nat → Int32) (n q c : Nat), t_US b n q c gi gl gr ar0 → (ar1.toInt = 0 ↔ s_opn b n q) → s_fct b n q → ((1 : Int) = 1 ∧ ∃ q2, (∀ k, s_cse b n q k = k q2) ∧ q < q2 ∧ t_US b n q2 (c + 1) gi10 gl10 gr10 ar0 ∧ s_cok b n q ∧ q2 = s_cx b n q ∧ t_UT gi gi10 ar0 ∧ ∀ E : List Int, (1 ≤ ar1.toInt → s_mi (s_W b n q) = 21 + ar1.toInt) → t_UE sh gi ar0 n q E → t_UE sh gi10 ar0 n q2 (E ++ [s_ccd b n q])) ∨ ((1 : Int) = 0 ∧ ∃ p x, x ≠ 0 ∧ (∀ k, s_cse b n q k = s_qb b n p x) ∧ t_FL gi10 (ar0 + 1) (s_fk b n p x) (s_F b n p))) ∧ t_lq ar0 gi gl gr gi10 gl10 gr10 from ⟨(by
                                                            intro b n q c h ho hf
                                                            have h102 := p_a0.2.1
                                                            have hq := h.qn
                                                            have hcc := h.2.1.2
                                                            have h1 := h.c1 rfl (by omega) (z := z1) (by omega) e2
                                                            have hO : s_opn b n q := ho.mp (by omega)
                                                            have h2 := h1.xc q9.1 (by intro x hx; simp only [List.mem_cons, List.not_mem_nil, or_false] at hx; omega)
                                                            have h3 := h2.on (q10.1 b n _ h2.1.S) q10.2.1 q10.2.2
                                                            have h9 := s_opn_gt hO
                                                            have hz0 : ar1.toInt = 0 := by omega
                                                            have hcd : s_ccd b n q = 15 := (s_ifT hO : s_ccd b n q = s_mi (s_W b n q)).trans ((s_mi_W (i := 15) (by decide)).mpr (h1.1.kwT e7 h8))
                                                            have hUT : t_UT gi gi10 ar0 := ((t_UT.rf.st e2).xc q9.1).on q10.2.2 (by omega)
                                                            have hEM : ∀ E : List Int, (1 ≤ ar1.toInt → s_mi (s_W b n q) = 21 + ar1.toInt) → t_UE sh gi ar0 n q E → t_UE sh gi10 ar0 n (s_E b n q) (E ++ [s_ccd b n q]) := fun E hm hE => ((hE.st e2).ad (by omega) (by have h8 := hE.2.1.2; omega) q9.2.2 (s_cdr_o hcd rfl hz0 rfl)).on q10.2.2 (by omega) (Nat.le_refl _)
                                                            exact Or.inl ⟨rfl, _, fun k => by unfold s_cse; rw [s_ifT hO], (s_opn_gt hO).1, h3, ⟨hf, Or.inl hO⟩, (s_ifT hO).symm, hUT, hEM⟩), (t_lq.on (t_lq.ex (t_lq.I t_lq.rf (by omega) e2) q9.1 (by intro x hx; simp only [List.mem_cons, List.not_mem_nil, or_false] at hx; omega)) q10.2.2 (by omega))⟩)⟩⟩
    · refine ev_ic f_X8_readCase (nx := 38) (v := 0) rfl (by decide) rfl ?_
      refine ev_qN f_X8_readCase (nx := 41) (r := []) rfl rfl rfl rfl rfl rfl rfl (c_ue_addStep hI ((ar0 + 2)) p5 (2) (ar1) (0)) rfl hX rfl (fun gi11 gl11 gr11 hI hX hC11 q11 => ?_)
      have q11 : t_xc [(ar0 + 2), (ar0 + 2) + 3, (ar0 + 2) + 4, (ar0 + 2) + 5] g2 gl gr gi11 gl11 gr11 ∧ gi11 (ar0 + 2) 0 = g2 (ar0 + 2) 0 ∧ ∀ n : Nat, sh[(ar0 + 2) + 3]? = some (.inr (0, n)) → (g2 (ar0 + 2) 3).toInt < (n : Int) → t_AS g2 gi11 (ar0 + 2) (2 : Int32) ar1 (0 : Int32) := q11
      replace p_a0 := p_a0.ext hC11.2
      replace p5 := p5.ext hC11.2
      replace p6 := p6.ext hC11.2
      refine ev_loc f_X8_readCase (nx := 42) rfl rfl rfl rfl ?_
      refine ev_getR f_X8_readCase (nx := 45) (v := .ref (ar0 + 1)) rfl p_a0.1 rfl rfl ((hC11.1 ar0 0 (t_ninO hI.wf p_a0.1 (t_outO hI.wf p_a0.1 rfl) rfl)).2.2.trans e6) rfl rfl ?_
      refine ev_qN f_X8_readCase (nx := 48) (r := []) rfl rfl rfl rfl rfl rfl rfl (c_s_step hI ((ar0 + 1)) p6) rfl hX rfl (fun gi12 gl12 gr12 hI hX hC12 q12 => ?_)
      have q12 : (∀ (b : Nat → Int32) (n q : Nat), t_Sp b n q gi11 (ar0 + 1) → t_TC b n q gi12 gl12 gr12 (ar0 + 1)) ∧ t_nf gi11 gi12 (ar0 + 1) ∧ t_on (ar0 + 1) gi11 gl11 gr11 gi12 gl12 gr12 := q12
      replace p_a0 := p_a0.ext hC12.2
      replace p5 := p5.ext hC12.2
      replace p6 := p6.ext hC12.2
      refine ev_ic f_X8_readCase (nx := 49) (v := 1) rfl (by decide) rfl ?_
      exact ev_ret f_X8_readCase rfl rfl rfl ⟨_, _, _, rfl, hI, hX, ⟨_, rfl, (Int.le_trans (by decide : (0:Int) ≤ 1) (by decide : (1:Int) ≤ (1:Int32).toInt)), (by decide : (1:Int32).toInt ≤ (1:Int)), (show (∀ (b : Nat → Int32) (n q c : Nat), t_US b n q c gi gl gr ar0 → (ar1.toInt = 0 ↔ s_opn b n q) → s_fct b n q → ((1 : Int) = 1 ∧ ∃ q2, (∀ k, s_cse b n q k = k q2) ∧ q < q2 ∧ t_US b n q2 (c + 1) gi12 gl12 gr12 ar0 ∧ s_cok b n q ∧ q2 = s_cx b n q ∧ t_UT gi gi12 ar0 ∧ ∀ E : List Int, (1 ≤ ar1.toInt → s_mi (s_W b n q) = 21 + ar1.toInt) → t_UE sh gi ar0 n q E → t_UE sh gi12 ar0 n q2 (E ++ [s_ccd b n q])) ∨ ((1 : Int) = 0 ∧ ∃ p x, x ≠ 0 ∧ (∀ k, s_cse b n q k = s_qb b n p x) ∧ t_FL gi12 (ar0 + 1) (s_fk b n p x) (s_F b n p))) ∧ t_lq ar0 gi gl gr gi12 gl12 gr12 from ⟨(by
                                                            intro b n q c h ho hf
                                                            have h102 := p_a0.2.1
                                                            have hq := h.qn
                                                            have hcc := h.2.1.2
                                                            have h1 := h.c1 rfl (by omega) (z := z1) (by omega) e2
                                                            have hO : s_opn b n q := ho.mp (by omega)
                                                            have h2 := h1.xc q11.1 (by intro x hx; simp only [List.mem_cons, List.not_mem_nil, or_false] at hx; omega)
                                                            have h3 := h2.on (q12.1 b n _ h2.1.S) q12.2.1 q12.2.2
                                                            have h9 := s_opn_gt hO
                                                            have hz0 : ar1.toInt = 0 := by omega
                                                            have hcd : s_ccd b n q = 16 := (s_ifT hO : s_ccd b n q = s_mi (s_W b n q)).trans ((s_mi_W (i := 16) (by decide)).mpr (hO.resolve_left (h1.1.kwF e7 h8)))
                                                            have hUT : t_UT gi gi12 ar0 := ((t_UT.rf.st e2).xc q11.1).on q12.2.2 (by omega)
                                                            have hEM : ∀ E : List Int, (1 ≤ ar1.toInt → s_mi (s_W b n q) = 21 + ar1.toInt) → t_UE sh gi ar0 n q E → t_UE sh gi12 ar0 n (s_E b n q) (E ++ [s_ccd b n q]) := fun E hm hE => ((hE.st e2).ad (by omega) (by have h8 := hE.2.1.2; omega) q11.2.2 (s_cdr_s hcd rfl hz0 rfl)).on q12.2.2 (by omega) (Nat.le_refl _)
                                                            exact Or.inl ⟨rfl, _, fun k => by unfold s_cse; rw [s_ifT hO], (s_opn_gt hO).1, h3, ⟨hf, Or.inl hO⟩, (s_ifT hO).symm, hUT, hEM⟩), (t_lq.on (t_lq.ex (t_lq.I t_lq.rf (by omega) e2) q11.1 (by intro x hx; simp only [List.mem_cons, List.not_mem_nil, or_false] at hx; omega)) q12.2.2 (by omega))⟩)⟩⟩
  · have r13 : ar1.toInt ≠ 0 := fun e => h3 (Int32.toInt_inj.mp (e.trans (by decide : (0:Int) = (0 : Int32).toInt)))
    have l14 : 1 ≤ ar1.toInt := t_nel h3 l_a1 rfl rfl
    refine ev_loc f_X8_readCase (nx := 51) rfl rfl rfl rfl ?_
    have e15 := p_a0.2.2.1.1
    have p15 := p_a0.2.2.1.2
    refine ev_getR f_X8_readCase (nx := 54) rfl p_a0.1 rfl rfl e15 rfl rfl ?_
    refine ev_qN f_X8_readCase (nx := 57) (r := []) rfl rfl rfl rfl rfl rfl rfl (c_s_step hI ((ar0 + 1)) p15) rfl hX rfl (fun gi16 gl16 gr16 hI hX hC16 q16 => ?_)
    have q16 : (∀ (b : Nat → Int32) (n q : Nat), t_Sp b n q g2 (ar0 + 1) → t_TC b n q gi16 gl16 gr16 (ar0 + 1)) ∧ t_nf g2 gi16 (ar0 + 1) ∧ t_on (ar0 + 1) g2 gl gr gi16 gl16 gr16 := q16
    replace p_a0 := p_a0.ext hC16.2
    replace p15 := p15.ext hC16.2
    refine ev_loc f_X8_readCase (nx := 58) rfl rfl rfl rfl ?_
    refine ev_qI0 f_X8_readCase (nx := 61) (r := []) rfl rfl rfl rfl rfl rfl rfl (c_ue_comparesTold hI (ar0) p_a0) rfl (fun w17 l17 u17 q17 => ?_)
    have q17 : ∀ (b : Nat → Int32) (n q : Nat), t_TC b n q gi16 gl16 gr16 (ar0 + 1) → ((w17.toInt ≠ -1 ↔ s_cmp b n q) ∧ (w17.toInt ≠ -1 → w17.toInt = s_if (s_isS b n q 60) 0 (s_if (s_isS b n q 62) 1 2))) := q17
    refine ev_loc f_X8_readCase (nx := 62) (lo' := [(2, .int w17), (0, .ref ar0), (1, .int ar1)]) rfl rfl rfl rfl ?_
    refine ev_loc f_X8_readCase (nx := 63) rfl rfl rfl rfl ?_
    refine ev_ic f_X8_readCase (nx := 64) (v := -1) rfl (by decide) rfl ?_
    refine ev_if f_X8_readCase (t1 := 67) (t2 := 76) rfl rfl rfl (fun h18 => ?_) (fun h18 => ?_)
    · have u19 : w17.toInt ≤ (-1) := t_equ h18 (by decide : ((-1):Int32).toInt ≤ ((-1):Int))
      refine ev_loc f_X8_readCase (nx := 68) rfl rfl rfl rfl ?_
      refine ev_getR f_X8_readCase (nx := 71) (v := .ref (ar0 + 1)) rfl p_a0.1 rfl rfl ((hC16.1 ar0 0 (t_ninO hI.wf p_a0.1 (t_outO hI.wf p_a0.1 rfl) rfl)).2.2.trans e15) rfl rfl ?_
      refine ev_ic f_X8_readCase (nx := 72) (v := 2) rfl (by decide) rfl ?_
      refine ev_qI f_X8_readCase (nx := 75) (r := []) rfl rfl rfl rfl rfl rfl rfl (c_s_refuse hI ((ar0 + 1)) p15 (2) (by decide : (2:Int) ≤ (2:Int32).toInt) (Int.le_trans (by decide : (2:Int32).toInt ≤ (2:Int)) (by decide : (2:Int) ≤ 7))) rfl hX rfl (fun w20 gi20 gl20 gr20 l20 u20 hI hX hC20 q20 => ?_)
      have q20 : (∀ (b : Nat → Int32) (n q : Nat), t_TC b n q gi16 gl16 gr16 (ar0 + 1) → t_FL gi20 (ar0 + 1) (s_fk b n q 2) (s_F b n q)) ∧ w20.toInt = 0 ∧ t_on (ar0 + 1) gi16 gl16 gr16 gi20 gl20 gr20 := q20
      replace p_a0 := p_a0.ext hC20.2
      replace p15 := p15.ext hC20.2
      exact ev_retZ f_X8_readCase rfl l20 (Int.le_trans u20 (by decide : (0:Int) ≤ 1)) ⟨_, _, _, rfl, hI, hX, ⟨_, rfl, l20, (Int.le_trans u20 (by decide : (0:Int) ≤ 1)), (show (∀ (b : Nat → Int32) (n q c : Nat), t_US b n q c gi gl gr ar0 → (ar1.toInt = 0 ↔ s_opn b n q) → s_fct b n q → (w20.toInt = 1 ∧ ∃ q2, (∀ k, s_cse b n q k = k q2) ∧ q < q2 ∧ t_US b n q2 (c + 1) gi20 gl20 gr20 ar0 ∧ s_cok b n q ∧ q2 = s_cx b n q ∧ t_UT gi gi20 ar0 ∧ ∀ E : List Int, (1 ≤ ar1.toInt → s_mi (s_W b n q) = 21 + ar1.toInt) → t_UE sh gi ar0 n q E → t_UE sh gi20 ar0 n q2 (E ++ [s_ccd b n q])) ∨ (w20.toInt = 0 ∧ ∃ p x, x ≠ 0 ∧ (∀ k, s_cse b n q k = s_qb b n p x) ∧ t_FL gi20 (ar0 + 1) (s_fk b n p x) (s_F b n p))) ∧ t_lq ar0 gi gl gr gi20 gl20 gr20 from ⟨(by
                                                            intro b n q c h ho hf
                                                            have h102 := p_a0.2.1
                                                            have hq := h.qn
                                                            have hcc := h.2.1.2
                                                            have h1 := h.c1 rfl (by omega) (z := z1) (by omega) e2
                                                            have hO : ¬ s_opn b n q := fun hh => absurd (ho.mpr hh) (by omega)
                                                            have h2 := h1.on (q16.1 b n _ h1.1.S) q16.2.1 q16.2.2
                                                            have hg := s_fct_gt hf
                                                            have hC : ¬ s_cmp b n (s_E b n q) := fun hh => ((q17 b n _ h2.1).1).mpr hh (by omega)
                                                            exact Or.inr ⟨q20.2.1, _, 2, by decide, fun k => by unfold s_cse; rw [s_ifF hO, s_ifF hC], q20.1 b n _ h2.1⟩), (t_lq.on (t_lq.on (t_lq.I t_lq.rf (by omega) e2) q16.2.2 (by omega)) q20.2.2 (by omega))⟩)⟩⟩
    · have r21 : w17.toInt ≠ (-1) := fun e => h18 (Int32.toInt_inj.mp (e.trans (by decide : ((-1):Int) = ((-1) : Int32).toInt)))
      have l22 : 0 ≤ w17.toInt := t_nel h18 l17 rfl rfl
      refine ev_loc f_X8_readCase (nx := 77) rfl rfl rfl rfl ?_
      refine ev_getR f_X8_readCase (nx := 80) (v := .ref (ar0 + 1)) rfl p_a0.1 rfl rfl ((hC16.1 ar0 0 (t_ninO hI.wf p_a0.1 (t_outO hI.wf p_a0.1 rfl) rfl)).2.2.trans e15) rfl rfl ?_
      refine ev_qN f_X8_readCase (nx := 83) (r := []) rfl rfl rfl rfl rfl rfl rfl (c_s_step hI ((ar0 + 1)) p15) rfl hX rfl (fun gi23 gl23 gr23 hI hX hC23 q23 => ?_)
      have q23 : (∀ (b : Nat → Int32) (n q : Nat), t_Sp b n q gi16 (ar0 + 1) → t_TC b n q gi23 gl23 gr23 (ar0 + 1)) ∧ t_nf gi16 gi23 (ar0 + 1) ∧ t_on (ar0 + 1) gi16 gl16 gr16 gi23 gl23 gr23 := q23
      replace p_a0 := p_a0.ext hC23.2
      replace p15 := p15.ext hC23.2
      refine ev_loc f_X8_readCase (nx := 84) rfl rfl rfl rfl ?_
      have e24 := p_a0.2.2.2.1
      have p24 := p_a0.2.2.2.2
      refine ev_getR f_X8_readCase (nx := 87) rfl p_a0.1 rfl rfl e24 rfl rfl ?_
      refine ev_loc f_X8_readCase (nx := 88) rfl rfl rfl rfl ?_
      refine ev_loc f_X8_readCase (nx := 89) rfl rfl rfl rfl ?_
      refine ev_loc f_X8_readCase (nx := 90) rfl rfl rfl rfl ?_
      refine ev_getR f_X8_readCase (nx := 93) (v := .ref (ar0 + 1)) rfl p_a0.1 rfl rfl ((hC23.1 ar0 0 (t_ninO hI.wf p_a0.1 (t_outO hI.wf p_a0.1 rfl) rfl)).2.2.trans ((hC16.1 ar0 0 (t_ninO hI.wf p_a0.1 (t_outO hI.wf p_a0.1 rfl) rfl)).2.2.trans e15)) rfl rfl ?_
      refine ev_getI f_X8_readCase (nx := 96) rfl p15.1 rfl rfl rfl ?_
      refine ev_qN f_X8_readCase (nx := 99) (r := []) rfl rfl rfl rfl rfl rfl rfl (c_ue_addStep hI ((ar0 + 2)) p24 (w17) (ar1) ((gi23 (ar0 + 1) 8))) rfl hX rfl (fun gi25 gl25 gr25 hI hX hC25 q25 => ?_)
      have q25 : t_xc [(ar0 + 2), (ar0 + 2) + 3, (ar0 + 2) + 4, (ar0 + 2) + 5] gi23 gl23 gr23 gi25 gl25 gr25 ∧ gi25 (ar0 + 2) 0 = gi23 (ar0 + 2) 0 ∧ ∀ n : Nat, sh[(ar0 + 2) + 3]? = some (.inr (0, n)) → (gi23 (ar0 + 2) 3).toInt < (n : Int) → t_AS gi23 gi25 (ar0 + 2) w17 ar1 (gi23 (ar0 + 1) 8) := q25
      replace p_a0 := p_a0.ext hC25.2
      replace p15 := p15.ext hC25.2
      replace p24 := p24.ext hC25.2
      refine ev_loc f_X8_readCase (nx := 100) rfl rfl rfl rfl ?_
      refine ev_getR f_X8_readCase (nx := 103) (v := .ref (ar0 + 1)) rfl p_a0.1 rfl rfl ((hC25.1 ar0 0 (t_ninO hI.wf p_a0.1 (t_outO hI.wf p_a0.1 rfl) rfl)).2.2.trans ((hC23.1 ar0 0 (t_ninO hI.wf p_a0.1 (t_outO hI.wf p_a0.1 rfl) rfl)).2.2.trans ((hC16.1 ar0 0 (t_ninO hI.wf p_a0.1 (t_outO hI.wf p_a0.1 rfl) rfl)).2.2.trans e15))) rfl rfl ?_
      refine ev_ic f_X8_readCase (nx := 104) (v := 0) rfl (by decide) rfl ?_
      refine ev_sp f_X8_readCase (nx := 107) (v := 300) rfl (by decide) rfl ?_
      refine ev_qI f_X8_readCase (nx := 110) (r := []) rfl rfl rfl rfl rfl rfl rfl (c_s_takeNumber hI ((ar0 + 1)) p15 (0) (300)) rfl hX rfl (fun w26 gi26 gl26 gr26 l26 u26 hI hX hC26 q26 => ?_)
      have q26 : (∀ (b : Nat → Int32) (n q : Nat), t_TC b n q gi25 gl25 gr25 (ar0 + 1) → (w26.toInt = 1 ∧ s_isV b n q 0 300 ∧ t_TC b n (s_E b n q) gi26 gl26 gr26 (ar0 + 1) ∧ t_nf gi25 gi26 (ar0 + 1)) ∨ (w26.toInt = 0 ∧ s_K b n q ≠ 3 ∧ t_FL gi26 (ar0 + 1) (s_fk b n q 2) (s_F b n q)) ∨ (w26.toInt = 0 ∧ (s_K b n q = 3 ∧ ¬ s_isV b n q 0 300) ∧ t_FL gi26 (ar0 + 1) (s_fk b n q 4) (s_F b n q))) ∧ t_on (ar0 + 1) gi25 gl25 gr25 gi26 gl26 gr26 := q26
      replace p_a0 := p_a0.ext hC26.2
      replace p15 := p15.ext hC26.2
      replace p24 := p24.ext hC26.2
      exact ev_retZ f_X8_readCase rfl l26 u26 ⟨_, _, _, rfl, hI, hX, ⟨_, rfl, l26, u26, (show (∀ (b : Nat → Int32) (n q c : Nat), t_US b n q c gi gl gr ar0 → (ar1.toInt = 0 ↔ s_opn b n q) → s_fct b n q → (w26.toInt = 1 ∧ ∃ q2, (∀ k, s_cse b n q k = k q2) ∧ q < q2 ∧ t_US b n q2 (c + 1) gi26 gl26 gr26 ar0 ∧ s_cok b n q ∧ q2 = s_cx b n q ∧ t_UT gi gi26 ar0 ∧ ∀ E : List Int, (1 ≤ ar1.toInt → s_mi (s_W b n q) = 21 + ar1.toInt) → t_UE sh gi ar0 n q E → t_UE sh gi26 ar0 n q2 (E ++ [s_ccd b n q])) ∨ (w26.toInt = 0 ∧ ∃ p x, x ≠ 0 ∧ (∀ k, s_cse b n q k = s_qb b n p x) ∧ t_FL gi26 (ar0 + 1) (s_fk b n p x) (s_F b n p))) ∧ t_lq ar0 gi gl gr gi26 gl26 gr26 from ⟨(by
                                                            intro b n q c h ho hf
                                                            have h102 := p_a0.2.1
                                                            have hq := h.qn
                                                            have hcc := h.2.1.2
                                                            have h1 := h.c1 rfl (by omega) (z := z1) (by omega) e2
                                                            have hO : ¬ s_opn b n q := fun hh => absurd (ho.mpr hh) (by omega)
                                                            have h2 := h1.on (q16.1 b n _ h1.1.S) q16.2.1 q16.2.2
                                                            have hg := s_fct_gt hf
                                                            have hC : s_cmp b n (s_E b n q) := ((q17 b n _ h2.1).1).mp (by omega)
                                                            have h3 := h2.on (q23.1 b n _ h2.1.S) q23.2.1 q23.2.2
                                                            have h4 := h3.xc q25.1 (by intro x hx; simp only [List.mem_cons, List.not_mem_nil, or_false] at hx; omega)
                                                            have hg2 := s_cmp_gt hC
                                                            rcases q26.1 b n _ h4.1 with hh | hh | hh
                                                            · have hg3 := s_E_gt (b := b) (n := n) (p := s_E b n (s_E b n q)) (by rw [hh.2.1.1]; decide)
                                                              have hsg := (q17 b n _ h2.1).2 (by omega)
                                                              have hv := congrArg Int32.toInt (h3.1.2.2.2.2.2.2.1 hh.2.1.1)
                                                              have hV := hh.2.1.2
                                                              have hUT : t_UT gi gi26 ar0 := (((((t_UT.rf.st e2).on q16.2.2 (by omega)).on q23.2.2 (by omega)).xc q25.1).on q26.2 (by omega))
                                                              have hEM : ∀ E : List Int, (1 ≤ ar1.toInt → s_mi (s_W b n q) = 21 + ar1.toInt) → t_UE sh gi ar0 n q E → t_UE sh gi26 ar0 n (s_E b n (s_E b n (s_E b n q))) (E ++ [s_ccd b n q]) := by
                                                                intro E hm hE
                                                                have hcd : s_ccd b n q = 100000 * (21 + ar1.toInt) + 1000 * w17.toInt + (gi23 (ar0 + 1) 8).toInt := by
                                                                  unfold s_ccd
                                                                  rw [s_ifF hO, hm (by omega), ← hsg]
                                                                  unfold s_V
                                                                  rw [← hv]
                                                                have h8 := hE.2.1.2
                                                                exact ((((hE.st e2).on q16.2.2 (by omega) (Nat.le_refl q)).on q23.2.2 (by omega) (Nat.le_refl q)).ad (by omega) (by omega) q25.2.2 (s_cdr_c hcd (by omega) (by omega) (by unfold s_V at hV; rw [← hv] at hV; exact hV))).on q26.2 (by omega) (Nat.le_refl _)
                                                              exact Or.inl ⟨hh.1, _, fun k => by unfold s_cse; rw [s_ifF hO, s_ifT hC, s_ifT hh.2.1.1, s_ifT hh.2.1], by omega, h4.on hh.2.2.1 hh.2.2.2 q26.2, ⟨hf, Or.inr ⟨hC, hh.2.1.1⟩⟩, (s_ifF hO).symm, hUT, hEM⟩
                                                            · exact Or.inr ⟨hh.1, _, 2, by decide, fun k => by unfold s_cse; rw [s_ifF hO, s_ifT hC, s_ifF hh.2.1], hh.2.2⟩
                                                            · exact Or.inr ⟨hh.1, _, 4, by decide, fun k => by unfold s_cse; rw [s_ifF hO, s_ifT hC, s_ifT hh.2.1.1, s_ifF hh.2.1.2], hh.2.2⟩), (t_lq.on (t_lq.ex (t_lq.on (t_lq.on (t_lq.I t_lq.rf (by omega) e2) q16.2.2 (by omega)) q23.2.2 (by omega)) q25.1 (by intro x hx; simp only [List.mem_cons, List.not_mem_nil, or_false] at hx; omega)) q26.2 (by omega))⟩)⟩⟩
noncomputable def wl_ue_readOne : List (Nat × Nat) := [(116, 3), (117, 2), (118, 2), (118, 3), (118, 4), (118, 5), (118, 6), (118, 7), (118, 8), (118, 9), (118, 10), (118, 11), (130, 9999)]
noncomputable def Q_ue_readOne (sh : List (Nat ⊕ (Nat × Nat))) (gi : Nat → Nat → Int32) (gl : Nat → Nat → Int64) (gr : Nat → Nat → Value) (ar0 : Nat) (ar1 : Int32) : Int32 → (Nat → Nat → Int32) → (Nat → Nat → Int64) → (Nat → Nat → Value) → Prop := fun (v : Int32) (gi2 : Nat → Nat → Int32) (gl2 : Nat → Nat → Int64) (gr2 : Nat → Nat → Value) => (∀ (b : Nat → Int32) (n q c : Nat) (T : List Int), t_US b n q c gi gl gr ar0 → (T.length : Int) = ar1.toInt → (v.toInt = 1 ∧ ∃ q2 c2, s_Cnd b n false q c T = s_Cnd b n true q2 c2 (s_pop T) ∧ q < q2 ∧ t_US b n q2 c2 gi2 gl2 gr2 ar0 ∧ t_UT gi gi2 ar0 ∧ ∀ E : List Int, t_UE sh gi ar0 n q E → ∃ S : List Int, S.length + q ≤ q2 ∧ t_UE sh gi2 ar0 n q2 (E ++ S) ∧ s_e1 b n q q2 S) ∨ (v.toInt = 0 ∧ ∃ p x, x ≠ 0 ∧ s_Cnd b n false q c T = s_qb b n p x ∧ t_FL gi2 (ar0 + 1) (s_fk b n p x) (s_F b n p))) ∧ t_lq ar0 gi gl gr gi2 gl2 gr2
noncomputable def wl_ue_readBoth : List (Nat × Nat) := [(116, 3), (117, 2), (118, 2), (118, 3), (118, 4), (118, 5), (118, 6), (118, 7), (118, 8), (118, 9), (118, 10), (118, 11), (130, 9999)]
noncomputable def Q_ue_readBoth (sh : List (Nat ⊕ (Nat × Nat))) (gi : Nat → Nat → Int32) (gl : Nat → Nat → Int64) (gr : Nat → Nat → Value) (ar0 : Nat) (ar1 : Int32) : Int32 → (Nat → Nat → Int32) → (Nat → Nat → Int64) → (Nat → Nat → Value) → Prop := fun (v : Int32) (gi2 : Nat → Nat → Int32) (gl2 : Nat → Nat → Int64) (gr2 : Nat → Nat → Value) => (∀ (b : Nat → Int32) (n q c : Nat) (T : List Int), t_US b n q c gi gl gr ar0 → (T.length : Int) = ar1.toInt → s_pop T = T → (v.toInt = 1 ∧ ∃ q2 c2, s_Cnd b n false q c T = s_Cnd b n true q2 c2 T ∧ q < q2 ∧ t_US b n q2 c2 gi2 gl2 gr2 ar0 ∧ s_W b n q2 ≠ some 19 ∧ t_UT gi gi2 ar0 ∧ ∀ E : List Int, t_UE sh gi ar0 n q E → ∃ S : List Int, S.length + q ≤ q2 ∧ t_UE sh gi2 ar0 n q2 (E ++ S) ∧ s_e2 b n q q2 S) ∨ (v.toInt = 0 ∧ ∃ p x, x ≠ 0 ∧ s_Cnd b n false q c T = s_qb b n p x ∧ t_FL gi2 (ar0 + 1) (s_fk b n p x) (s_F b n p))) ∧ t_lq ar0 gi gl gr gi2 gl2 gr2
theorem c_ue_readBoth {X : x_Ext} {d : Nat} {sh : List (Nat ⊕ (Nat × Nat))} {gi : Nat → Nat → Int32} {gl : Nat → Nat → Int64} {gr : Nat → Nat → Value} (hI : t_I sh gi gr) (ar0 : Nat) (p_a0 : t_UQ sh gr ar0) (ar1 : Int32) (l_a1 : 0 ≤ ar1.toInt) (u_a1 : ar1.toInt ≤ 6) (HO : ∀ {gi : Nat → Nat → Int32} {gl : Nat → Nat → Int64} {gr : Nat → Nat → Value}, t_I sh gi gr → t_UQ sh gr ar0 → x_Me X d n_X8_readOne [.ref ar0, .int ar1] (sh, gi, gl, gr) (t_PI wl_ue_readOne sh gi gl gr 0 1 (Q_ue_readOne sh gi gl gr ar0 ar1))) : x_Me X (d + 3) n_X8_readBoth [.ref ar0, .int ar1] (sh, gi, gl, gr) (t_PI wl_ue_readBoth sh gi gl gr 0 1 (Q_ue_readBoth sh gi gl gr ar0 ar1)) := by
  have hX : t_X wl_ue_readBoth sh gi gl gr gi gl gr := t_X.rf
  refine me_i f_X8_readBoth p_a0.1 rfl rfl rfl ?_
  refine ev_loc f_X8_readBoth (nx := 1) rfl rfl rfl rfl ?_
  refine ev_loc f_X8_readBoth (nx := 2) rfl rfl rfl rfl ?_
  refine ev_qI f_X8_readBoth (nx := 5) (r := []) rfl rfl rfl rfl rfl rfl rfl (x_Me.up (HO hI p_a0) (by omega)) rfl hX rfl (fun w1 gi1 gl1 gr1 l1 u1 hI hX hC1 q1 => ?_)
  have q1 : (∀ (b : Nat → Int32) (n q c : Nat) (T : List Int), t_US b n q c gi gl gr ar0 → (T.length : Int) = ar1.toInt → (w1.toInt = 1 ∧ ∃ q2 c2, s_Cnd b n false q c T = s_Cnd b n true q2 c2 (s_pop T) ∧ q < q2 ∧ t_US b n q2 c2 gi1 gl1 gr1 ar0 ∧ t_UT gi gi1 ar0 ∧ ∀ E : List Int, t_UE sh gi ar0 n q E → ∃ S : List Int, S.length + q ≤ q2 ∧ t_UE sh gi1 ar0 n q2 (E ++ S) ∧ s_e1 b n q q2 S) ∨ (w1.toInt = 0 ∧ ∃ p x, x ≠ 0 ∧ s_Cnd b n false q c T = s_qb b n p x ∧ t_FL gi1 (ar0 + 1) (s_fk b n p x) (s_F b n p))) ∧ t_lq ar0 gi gl gr gi1 gl1 gr1 := q1
  replace p_a0 := p_a0.ext hC1.2
  refine ev_if f_X8_readBoth (t1 := 8) (t2 := 10) rfl rfl rfl (fun h2 => ?_) (fun h2 => ?_)
  · have u3 : w1.toInt ≤ 0 := t_equ h2 (by decide : (0:Int32).toInt ≤ (0:Int))
    refine ev_ic f_X8_readBoth (nx := 9) (v := 0) rfl (by decide) rfl ?_
    exact ev_ret f_X8_readBoth rfl rfl rfl ⟨_, _, _, rfl, hI, hX, ⟨_, rfl, (by decide : (0:Int) ≤ (0:Int32).toInt), (Int.le_trans (by decide : (0:Int32).toInt ≤ (0:Int)) (by decide : (0:Int) ≤ 1)), (show (∀ (b : Nat → Int32) (n q c : Nat) (T : List Int), t_US b n q c gi gl gr ar0 → (T.length : Int) = ar1.toInt → s_pop T = T → ((0 : Int) = 1 ∧ ∃ q2 c2, s_Cnd b n false q c T = s_Cnd b n true q2 c2 T ∧ q < q2 ∧ t_US b n q2 c2 gi1 gl1 gr1 ar0 ∧ s_W b n q2 ≠ some 19 ∧ t_UT gi gi1 ar0 ∧ ∀ E : List Int, t_UE sh gi ar0 n q E → ∃ S : List Int, S.length + q ≤ q2 ∧ t_UE sh gi1 ar0 n q2 (E ++ S) ∧ s_e2 b n q q2 S) ∨ ((0 : Int) = 0 ∧ ∃ p x, x ≠ 0 ∧ s_Cnd b n false q c T = s_qb b n p x ∧ t_FL gi1 (ar0 + 1) (s_fk b n p x) (s_F b n p))) ∧ t_lq ar0 gi gl gr gi1 gl1 gr1 from ⟨fun b n q c T h hT hp => (by
                                                            obtain ⟨_, p, x, hx, hX, hf⟩ := (q1.1 b n _ _ T h hT).resolve_left (fun hh => absurd hh.1 (by omega))
                                                            exact Or.inr ⟨rfl, p, x, hx, hX, hf⟩), (t_lq.tr t_lq.rf q1.2)⟩)⟩⟩
  · have r4 : w1.toInt ≠ 0 := fun e => h2 (Int32.toInt_inj.mp (e.trans (by decide : (0:Int) = (0 : Int32).toInt)))
    have l5 : 1 ≤ w1.toInt := t_nel h2 l1 rfl rfl
    refine ev_ic f_X8_readBoth (nx := 11) (v := 0) rfl (by decide) rfl ?_
    refine ev_loc f_X8_readBoth (nx := 12) (lo' := [(2, .int 0), (0, .ref ar0), (1, .int ar1)]) rfl rfl rfl rfl ?_
    have L6 : ∀ (m6 : Nat) (gi6 : Nat → Nat → Int32) (gl6 : Nat → Nat → Int64) (gr6 : Nat → Nat → Value) (y6_2 : Int32), t_I sh gi6 gr6 → t_X wl_ue_readBoth sh gi gl gr gi6 gl6 gr6 → t_UQ sh gr6 ar0 → 0 ≤ y6_2.toInt → y6_2.toInt ≤ 300 → (∀ (b : Nat → Int32) (n q c : Nat) (T : List Int), t_US b n q c gi gl gr ar0 → (T.length : Int) = ar1.toInt → s_pop T = T → ∃ q2 c2, s_Cnd b n false q c T = s_Cnd b n true q2 c2 T ∧ q < q2 ∧ y6_2.toInt < (q2 : Int) ∧ t_US b n q2 c2 gi6 gl6 gr6 ar0 ∧ t_UT gi gi6 ar0 ∧ ∀ E : List Int, t_UE sh gi ar0 n q E → ∃ S : List Int, S.length + q ≤ q2 ∧ t_UE sh gi6 ar0 n q2 (E ++ S) ∧ s_e2 b n q q2 S) ∧ t_lq ar0 gi gl gr gi6 gl6 gr6 → (300 - y6_2.toInt).toNat = m6 → x_Ev X (d + 3) n_X8_readBoth 12 [(2, .int y6_2), (0, .ref ar0), (1, .int ar1)] [] (sh, gi6, gl6, gr6) (t_PI wl_ue_readBoth sh gi gl gr 0 1 (Q_ue_readBoth sh gi gl gr ar0 ar1)) := by
      intro m6
      induction m6 using Nat.strongRecOn with
      | _ m6 ih6 =>
      intro gi6 gl6 gr6 y6_2 hI hX p_a0 l6_2 u6_2 j6_0 hm6
      refine ev_loc f_X8_readBoth (nx := 13) rfl rfl rfl rfl ?_
      refine ev_sp f_X8_readBoth (nx := 16) (v := 300) rfl (by decide) rfl ?_
      refine ev_if f_X8_readBoth (t1 := 65) (t2 := 19) rfl rfl rfl (fun h7 => ?_) (fun h7 => ?_)
      · have l8 : 300 ≤ y6_2.toInt := t_lel h7 (by decide : (300:Int) ≤ (300:Int32).toInt)
        refine ev_ic f_X8_readBoth (nx := 66) (v := 1) rfl (by decide) rfl ?_
        exact ev_ret f_X8_readBoth rfl rfl rfl ⟨_, _, _, rfl, hI, hX, ⟨_, rfl, (Int.le_trans (by decide : (0:Int) ≤ 1) (by decide : (1:Int) ≤ (1:Int32).toInt)), (by decide : (1:Int32).toInt ≤ (1:Int)), (show (∀ (b : Nat → Int32) (n q c : Nat) (T : List Int), t_US b n q c gi gl gr ar0 → (T.length : Int) = ar1.toInt → s_pop T = T → ((1 : Int) = 1 ∧ ∃ q2 c2, s_Cnd b n false q c T = s_Cnd b n true q2 c2 T ∧ q < q2 ∧ t_US b n q2 c2 gi6 gl6 gr6 ar0 ∧ s_W b n q2 ≠ some 19 ∧ t_UT gi gi6 ar0 ∧ ∀ E : List Int, t_UE sh gi ar0 n q E → ∃ S : List Int, S.length + q ≤ q2 ∧ t_UE sh gi6 ar0 n q2 (E ++ S) ∧ s_e2 b n q q2 S) ∨ ((1 : Int) = 0 ∧ ∃ p x, x ≠ 0 ∧ s_Cnd b n false q c T = s_qb b n p x ∧ t_FL gi6 (ar0 + 1) (s_fk b n p x) (s_F b n p))) ∧ t_lq ar0 gi gl gr gi6 gl6 gr6 from ⟨fun b n q c T h hT hp => (by
                                                            obtain ⟨q2, c2, hC, hl0, hi, h2, hT2, hE2⟩ := j6_0.1 b n q c T h hT hp
                                                            have h102 := p_a0.2.1
                                                            have hn3 := h2.2.1.1
                                                            have hq2 := h2.qn
                                                            exact absurd hi (by omega)), j6_0.2⟩)⟩⟩
      · have u9 : y6_2.toInt ≤ 299 := t_ltu (t_nle h7) (by decide : (300:Int32).toInt ≤ (300:Int)) rfl
        refine ev_loc f_X8_readBoth (nx := 20) rfl rfl rfl rfl ?_
        have e10 := p_a0.2.2.1.1
        have p10 := p_a0.2.2.1.2
        refine ev_getR f_X8_readBoth (nx := 23) rfl p_a0.1 rfl rfl e10 rfl rfl ?_
        have k11 := hI.2.2.2.1.2.2.2.2.2 (ar0 + 1) p10.1
        obtain ⟨v11, e11⟩ : ∃ v, gr6 (ar0 + 1) 7 = v := ⟨_, rfl⟩
        rw [e11] at k11
        refine ev_getR f_X8_readBoth (nx := 26) rfl p10.1 rfl rfl e11 (t_KwR k11) rfl ?_
        refine ev_heap f_X8_readBoth (nx := 29) rfl rfl rfl rfl ?_
        refine ev_ack f_X8_readBoth (t1 := 32) (t2 := 65) rfl rfl rfl (t_knw k11) rfl (fun h12 => ?_) (fun h12 => ?_)
        · refine ev_loc f_X8_readBoth (nx := 33) rfl rfl rfl rfl ?_
          refine ev_getR f_X8_readBoth (nx := 36) (v := .ref (ar0 + 1)) rfl p_a0.1 rfl rfl e10 rfl rfl ?_
          refine ev_qN f_X8_readBoth (nx := 39) (r := []) rfl rfl rfl rfl rfl rfl rfl (c_s_step hI ((ar0 + 1)) p10) rfl hX rfl (fun gi13 gl13 gr13 hI hX hC13 q13 => ?_)
          have q13 : (∀ (b : Nat → Int32) (n q : Nat), t_Sp b n q gi6 (ar0 + 1) → t_TC b n q gi13 gl13 gr13 (ar0 + 1)) ∧ t_nf gi6 gi13 (ar0 + 1) ∧ t_on (ar0 + 1) gi6 gl6 gr6 gi13 gl13 gr13 := q13
          replace p_a0 := p_a0.ext hC13.2
          replace p10 := p10.ext hC13.2
          refine ev_loc f_X8_readBoth (nx := 40) rfl rfl rfl rfl ?_
          refine ev_loc f_X8_readBoth (nx := 41) rfl rfl rfl rfl ?_
          refine ev_qI f_X8_readBoth (nx := 44) (r := []) rfl rfl rfl rfl rfl rfl rfl (x_Me.up (HO hI p_a0) (by omega)) rfl hX rfl (fun w14 gi14 gl14 gr14 l14 u14 hI hX hC14 q14 => ?_)
          have q14 : (∀ (b : Nat → Int32) (n q c : Nat) (T : List Int), t_US b n q c gi13 gl13 gr13 ar0 → (T.length : Int) = ar1.toInt → (w14.toInt = 1 ∧ ∃ q2 c2, s_Cnd b n false q c T = s_Cnd b n true q2 c2 (s_pop T) ∧ q < q2 ∧ t_US b n q2 c2 gi14 gl14 gr14 ar0 ∧ t_UT gi13 gi14 ar0 ∧ ∀ E : List Int, t_UE sh gi13 ar0 n q E → ∃ S : List Int, S.length + q ≤ q2 ∧ t_UE sh gi14 ar0 n q2 (E ++ S) ∧ s_e1 b n q q2 S) ∨ (w14.toInt = 0 ∧ ∃ p x, x ≠ 0 ∧ s_Cnd b n false q c T = s_qb b n p x ∧ t_FL gi14 (ar0 + 1) (s_fk b n p x) (s_F b n p))) ∧ t_lq ar0 gi13 gl13 gr13 gi14 gl14 gr14 := q14
          replace p_a0 := p_a0.ext hC14.2
          replace p10 := p10.ext hC14.2
          refine ev_if f_X8_readBoth (t1 := 47) (t2 := 49) rfl rfl rfl (fun h15 => ?_) (fun h15 => ?_)
          · have u16 : w14.toInt ≤ 0 := t_equ h15 (by decide : (0:Int32).toInt ≤ (0:Int))
            refine ev_ic f_X8_readBoth (nx := 48) (v := 0) rfl (by decide) rfl ?_
            exact ev_ret f_X8_readBoth rfl rfl rfl ⟨_, _, _, rfl, hI, hX, ⟨_, rfl, (by decide : (0:Int) ≤ (0:Int32).toInt), (Int.le_trans (by decide : (0:Int32).toInt ≤ (0:Int)) (by decide : (0:Int) ≤ 1)), (show (∀ (b : Nat → Int32) (n q c : Nat) (T : List Int), t_US b n q c gi gl gr ar0 → (T.length : Int) = ar1.toInt → s_pop T = T → ((0 : Int) = 1 ∧ ∃ q2 c2, s_Cnd b n false q c T = s_Cnd b n true q2 c2 T ∧ q < q2 ∧ t_US b n q2 c2 gi14 gl14 gr14 ar0 ∧ s_W b n q2 ≠ some 19 ∧ t_UT gi gi14 ar0 ∧ ∀ E : List Int, t_UE sh gi ar0 n q E → ∃ S : List Int, S.length + q ≤ q2 ∧ t_UE sh gi14 ar0 n q2 (E ++ S) ∧ s_e2 b n q q2 S) ∨ ((0 : Int) = 0 ∧ ∃ p x, x ≠ 0 ∧ s_Cnd b n false q c T = s_qb b n p x ∧ t_FL gi14 (ar0 + 1) (s_fk b n p x) (s_F b n p))) ∧ t_lq ar0 gi gl gr gi14 gl14 gr14 from ⟨fun b n q c T h hT hp => (by
                                                            obtain ⟨q2, c2, hC, hl0, hi, h2, hT2, hE2⟩ := j6_0.1 b n q c T h hT hp
                                                            have h102 := p_a0.2.1
                                                            have hn3 := h2.2.1.1
                                                            have hq2 := h2.qn
                                                            have hW := h2.1.kwT e11 h12
                                                            have hJ : s_jnd b n q2 := Or.inr hW
                                                            have h2a := h2.on (q13.1 b n _ h2.1.S) q13.2.1 q13.2.2
                                                            obtain ⟨_, p, x, hx, hX, hf⟩ := (q14.1 b n _ _ T h2a hT).resolve_left (fun hh => absurd hh.1 (by omega))
                                                            exact Or.inr ⟨rfl, p, x, hx, (hC.trans (s_Cnd_j h2.qn hJ)).trans hX, hf⟩), (t_lq.tr (t_lq.on j6_0.2 q13.2.2 (by omega)) q14.2)⟩)⟩⟩
          · have r17 : w14.toInt ≠ 0 := fun e => h15 (Int32.toInt_inj.mp (e.trans (by decide : (0:Int) = (0 : Int32).toInt)))
            have l18 : 1 ≤ w14.toInt := t_nel h15 l14 rfl rfl
            refine ev_loc f_X8_readBoth (nx := 50) rfl rfl rfl rfl ?_
            have e19 := p_a0.2.2.2.1
            have p19 := p_a0.2.2.2.2
            refine ev_getR f_X8_readBoth (nx := 53) rfl p_a0.1 rfl rfl e19 rfl rfl ?_
            refine ev_ic f_X8_readBoth (nx := 54) (v := 4) rfl (by decide) rfl ?_
            refine ev_ic f_X8_readBoth (nx := 55) (v := 0) rfl (by decide) rfl ?_
            refine ev_ic f_X8_readBoth (nx := 56) (v := 0) rfl (by decide) rfl ?_
            refine ev_qN f_X8_readBoth (nx := 59) (r := []) rfl rfl rfl rfl rfl rfl rfl (c_ue_addStep hI ((ar0 + 2)) p19 (4) (0) (0)) rfl hX rfl (fun gi20 gl20 gr20 hI hX hC20 q20 => ?_)
            have q20 : t_xc [(ar0 + 2), (ar0 + 2) + 3, (ar0 + 2) + 4, (ar0 + 2) + 5] gi14 gl14 gr14 gi20 gl20 gr20 ∧ gi20 (ar0 + 2) 0 = gi14 (ar0 + 2) 0 ∧ ∀ n : Nat, sh[(ar0 + 2) + 3]? = some (.inr (0, n)) → (gi14 (ar0 + 2) 3).toInt < (n : Int) → t_AS gi14 gi20 (ar0 + 2) (4 : Int32) (0 : Int32) (0 : Int32) := q20
            replace p_a0 := p_a0.ext hC20.2
            replace p10 := p10.ext hC20.2
            replace p19 := p19.ext hC20.2
            refine ev_incR f_X8_readBoth (nx := 62) (c := 1) (l := 1) (u := 300) rfl rfl (by decide) (by decide) l6_2 u9 rfl rfl (by decide) (by decide) rfl (fun z21 e21 l21 u21 => ?_)
            refine ev_jmp f_X8_readBoth (nx := 12) rfl rfl rfl ?_
            refine ev_sub (lo := [(2, .int z21), (0, .ref ar0), (1, .int ar1)]) rfl (t_sc rfl (t_sc rfl (t_sc rfl t_sn))) ?_
            exact ih6 _ (by omega) gi20 gl20 gr20 (z21) hI hX p_a0 (Int.le_trans (by decide : (0:Int) ≤ 1) l21) u21 ⟨fun b n q c T h hT hp => (by
                                                            obtain ⟨q2, c2, hC, hl0, hi, h2, hT2, hE2⟩ := j6_0.1 b n q c T h hT hp
                                                            have h102 := p_a0.2.1
                                                            have hW := h2.1.kwT e11 h12
                                                            have hJ : s_jnd b n q2 := Or.inr hW
                                                            have hg := s_jnd_gt hJ
                                                            have h2a := h2.on (q13.1 b n _ h2.1.S) q13.2.1 q13.2.2
                                                            obtain ⟨_, q3, c3, hX, hlt, h3, hT3, hE3⟩ := (q14.1 b n _ _ T h2a hT).resolve_right (fun hh => absurd hh.1 (by omega))
                                                            have h4 := h3.xc q20.1 (by intro x hx; simp only [List.mem_cons, List.not_mem_nil, or_false] at hx; omega)
                                                            have hq3 := h4.qn
                                                            have hUT : t_UT gi gi20 ar0 := ((hT2.on q13.2.2 (by omega)).tr hT3).xc q20.1
                                                            have hEM : ∀ E : List Int, t_UE sh gi ar0 n q E → ∃ S : List Int, S.length + q ≤ q3 ∧ t_UE sh gi20 ar0 n q3 (E ++ S) ∧ s_e2 b n q q3 S := by
                                                              intro E hE
                                                              obtain ⟨S, s1, s2, s3⟩ := hE2 E hE
                                                              obtain ⟨S2, s4, s5, s6⟩ := hE3 _ (s2.on q13.2.2 (by omega) (Nat.le_of_lt hg.1))
                                                              have hb := hE.2.1.2
                                                              refine ⟨S ++ S2 ++ [19], by rw [List.length_append, List.length_append, List.length_singleton]; omega, ?_, s_e2_s h2.qn s3 hW s6⟩
                                                              rw [← List.append_assoc, ← List.append_assoc]
                                                              exact s5.ad2 (by rw [List.length_append, List.length_append]; omega) (by rw [List.length_append, List.length_append]; omega) q20.2.2 (s_cdr_a rfl rfl)
                                                            exact ⟨q3, c3, (hC.trans (s_Cnd_j h2.qn hJ)).trans (by rw [hp] at hX; exact hX), by omega, by omega, h4, hUT, hEM⟩), (t_lq.ex (t_lq.tr (t_lq.on j6_0.2 q13.2.2 (by omega)) q14.2) q20.1 (by intro x hx; simp only [List.mem_cons, List.not_mem_nil, or_false] at hx; omega))⟩ rfl
        · refine ev_ic f_X8_readBoth (nx := 66) (v := 1) rfl (by decide) rfl ?_
          exact ev_ret f_X8_readBoth rfl rfl rfl ⟨_, _, _, rfl, hI, hX, ⟨_, rfl, (Int.le_trans (by decide : (0:Int) ≤ 1) (by decide : (1:Int) ≤ (1:Int32).toInt)), (by decide : (1:Int32).toInt ≤ (1:Int)), (show (∀ (b : Nat → Int32) (n q c : Nat) (T : List Int), t_US b n q c gi gl gr ar0 → (T.length : Int) = ar1.toInt → s_pop T = T → ((1 : Int) = 1 ∧ ∃ q2 c2, s_Cnd b n false q c T = s_Cnd b n true q2 c2 T ∧ q < q2 ∧ t_US b n q2 c2 gi6 gl6 gr6 ar0 ∧ s_W b n q2 ≠ some 19 ∧ t_UT gi gi6 ar0 ∧ ∀ E : List Int, t_UE sh gi ar0 n q E → ∃ S : List Int, S.length + q ≤ q2 ∧ t_UE sh gi6 ar0 n q2 (E ++ S) ∧ s_e2 b n q q2 S) ∨ ((1 : Int) = 0 ∧ ∃ p x, x ≠ 0 ∧ s_Cnd b n false q c T = s_qb b n p x ∧ t_FL gi6 (ar0 + 1) (s_fk b n p x) (s_F b n p))) ∧ t_lq ar0 gi gl gr gi6 gl6 gr6 from ⟨fun b n q c T h hT hp => (by
                                                            obtain ⟨q2, c2, hC, hl0, hi, h2, hT2, hE2⟩ := j6_0.1 b n q c T h hT hp
                                                            have h102 := p_a0.2.1
                                                            have hn3 := h2.2.1.1
                                                            have hq2 := h2.qn
                                                            exact Or.inl ⟨rfl, q2, c2, hC, hl0, h2, (h2.1.kwF e11 h12), hT2, hE2⟩), j6_0.2⟩)⟩⟩
    refine ev_sub (lo := [(2, .int 0), (0, .ref ar0), (1, .int ar1)]) rfl (t_sc rfl (t_sc rfl (t_sc rfl t_sn))) ?_
    exact L6 _ gi1 gl1 gr1 (0) hI hX p_a0 (by decide : (0:Int) ≤ (0:Int32).toInt) (Int.le_trans (by decide : (0:Int32).toInt ≤ (0:Int)) (by decide : (0:Int) ≤ 300)) ⟨fun b n q c T h hT hp => (by
                                                            obtain ⟨_, q3, c3, hX, hlt, h3, hT3, hE3⟩ := (q1.1 b n _ _ T h hT).resolve_right (fun hh => absurd hh.1 (by omega))
                                                            exact ⟨q3, c3, by rw [hp] at hX; exact hX, hlt, by have : (0 : Int32).toInt = 0 := rfl; omega, h3, hT3, fun E hE => (hE3 E hE).imp (fun S hS => ⟨hS.1, hS.2.1, s_e2_1 hS.2.2⟩)⟩), (t_lq.tr t_lq.rf q1.2)⟩ rfl
noncomputable def wl_ue_readEither : List (Nat × Nat) := [(116, 3), (117, 2), (118, 2), (118, 3), (118, 4), (118, 5), (118, 6), (118, 7), (118, 8), (118, 9), (118, 10), (118, 11), (130, 9999)]
noncomputable def Q_ue_readEither (sh : List (Nat ⊕ (Nat × Nat))) (gi : Nat → Nat → Int32) (gl : Nat → Nat → Int64) (gr : Nat → Nat → Value) (ar0 : Nat) (ar1 : Int32) : Int32 → (Nat → Nat → Int32) → (Nat → Nat → Int64) → (Nat → Nat → Value) → Prop := fun (v : Int32) (gi2 : Nat → Nat → Int32) (gl2 : Nat → Nat → Int64) (gr2 : Nat → Nat → Value) => (∀ (b : Nat → Int32) (n q c : Nat) (T : List Int), t_US b n q c gi gl gr ar0 → (T.length : Int) = ar1.toInt → s_pop T = T → (v.toInt = 1 ∧ ∃ q2 c2, s_Cnd b n false q c T = s_Cnd b n true q2 c2 T ∧ q < q2 ∧ t_US b n q2 c2 gi2 gl2 gr2 ar0 ∧ ¬ s_jnd b n q2 ∧ t_UT gi gi2 ar0 ∧ ∀ E : List Int, t_UE sh gi ar0 n q E → ∃ S : List Int, S.length + q ≤ q2 ∧ t_UE sh gi2 ar0 n q2 (E ++ S) ∧ s_e3 b n q q2 S) ∨ (v.toInt = 0 ∧ ∃ p x, x ≠ 0 ∧ s_Cnd b n false q c T = s_qb b n p x ∧ t_FL gi2 (ar0 + 1) (s_fk b n p x) (s_F b n p))) ∧ t_lq ar0 gi gl gr gi2 gl2 gr2
theorem c_ue_readEither {X : x_Ext} {d : Nat} {sh : List (Nat ⊕ (Nat × Nat))} {gi : Nat → Nat → Int32} {gl : Nat → Nat → Int64} {gr : Nat → Nat → Value} (hI : t_I sh gi gr) (ar0 : Nat) (p_a0 : t_UQ sh gr ar0) (ar1 : Int32) (l_a1 : 0 ≤ ar1.toInt) (u_a1 : ar1.toInt ≤ 6) (HO : ∀ {gi : Nat → Nat → Int32} {gl : Nat → Nat → Int64} {gr : Nat → Nat → Value}, t_I sh gi gr → t_UQ sh gr ar0 → x_Me X d n_X8_readOne [.ref ar0, .int ar1] (sh, gi, gl, gr) (t_PI wl_ue_readOne sh gi gl gr 0 1 (Q_ue_readOne sh gi gl gr ar0 ar1))) : x_Me X (d + 4) n_X8_readEither [.ref ar0, .int ar1] (sh, gi, gl, gr) (t_PI wl_ue_readEither sh gi gl gr 0 1 (Q_ue_readEither sh gi gl gr ar0 ar1)) := by
  have hX : t_X wl_ue_readEither sh gi gl gr gi gl gr := t_X.rf
  refine me_i f_X8_readEither p_a0.1 rfl rfl rfl ?_
  refine ev_loc f_X8_readEither (nx := 1) rfl rfl rfl rfl ?_
  refine ev_loc f_X8_readEither (nx := 2) rfl rfl rfl rfl ?_
  refine ev_qI f_X8_readEither (nx := 5) (r := []) rfl rfl rfl rfl rfl rfl rfl (c_ue_readBoth hI (ar0) p_a0 (ar1) l_a1 u_a1 HO) rfl hX rfl (fun w1 gi1 gl1 gr1 l1 u1 hI hX hC1 q1 => ?_)
  have q1 : (∀ (b : Nat → Int32) (n q c : Nat) (T : List Int), t_US b n q c gi gl gr ar0 → (T.length : Int) = ar1.toInt → s_pop T = T → (w1.toInt = 1 ∧ ∃ q2 c2, s_Cnd b n false q c T = s_Cnd b n true q2 c2 T ∧ q < q2 ∧ t_US b n q2 c2 gi1 gl1 gr1 ar0 ∧ s_W b n q2 ≠ some 19 ∧ t_UT gi gi1 ar0 ∧ ∀ E : List Int, t_UE sh gi ar0 n q E → ∃ S : List Int, S.length + q ≤ q2 ∧ t_UE sh gi1 ar0 n q2 (E ++ S) ∧ s_e2 b n q q2 S) ∨ (w1.toInt = 0 ∧ ∃ p x, x ≠ 0 ∧ s_Cnd b n false q c T = s_qb b n p x ∧ t_FL gi1 (ar0 + 1) (s_fk b n p x) (s_F b n p))) ∧ t_lq ar0 gi gl gr gi1 gl1 gr1 := q1
  replace p_a0 := p_a0.ext hC1.2
  refine ev_if f_X8_readEither (t1 := 8) (t2 := 10) rfl rfl rfl (fun h2 => ?_) (fun h2 => ?_)
  · have u3 : w1.toInt ≤ 0 := t_equ h2 (by decide : (0:Int32).toInt ≤ (0:Int))
    refine ev_ic f_X8_readEither (nx := 9) (v := 0) rfl (by decide) rfl ?_
    exact ev_ret f_X8_readEither rfl rfl rfl ⟨_, _, _, rfl, hI, hX, ⟨_, rfl, (by decide : (0:Int) ≤ (0:Int32).toInt), (Int.le_trans (by decide : (0:Int32).toInt ≤ (0:Int)) (by decide : (0:Int) ≤ 1)), (show (∀ (b : Nat → Int32) (n q c : Nat) (T : List Int), t_US b n q c gi gl gr ar0 → (T.length : Int) = ar1.toInt → s_pop T = T → ((0 : Int) = 1 ∧ ∃ q2 c2, s_Cnd b n false q c T = s_Cnd b n true q2 c2 T ∧ q < q2 ∧ t_US b n q2 c2 gi1 gl1 gr1 ar0 ∧ ¬ s_jnd b n q2 ∧ t_UT gi gi1 ar0 ∧ ∀ E : List Int, t_UE sh gi ar0 n q E → ∃ S : List Int, S.length + q ≤ q2 ∧ t_UE sh gi1 ar0 n q2 (E ++ S) ∧ s_e3 b n q q2 S) ∨ ((0 : Int) = 0 ∧ ∃ p x, x ≠ 0 ∧ s_Cnd b n false q c T = s_qb b n p x ∧ t_FL gi1 (ar0 + 1) (s_fk b n p x) (s_F b n p))) ∧ t_lq ar0 gi gl gr gi1 gl1 gr1 from ⟨fun b n q c T h hT hp => (by
                                                            obtain ⟨_, p, x, hx, hX, hf⟩ := (q1.1 b n _ _ T h hT hp).resolve_left (fun hh => absurd hh.1 (by omega))
                                                            exact Or.inr ⟨rfl, p, x, hx, hX, hf⟩), (t_lq.tr t_lq.rf q1.2)⟩)⟩⟩
  · have r4 : w1.toInt ≠ 0 := fun e => h2 (Int32.toInt_inj.mp (e.trans (by decide : (0:Int) = (0 : Int32).toInt)))
    have l5 : 1 ≤ w1.toInt := t_nel h2 l1 rfl rfl
    refine ev_ic f_X8_readEither (nx := 11) (v := 0) rfl (by decide) rfl ?_
    refine ev_loc f_X8_readEither (nx := 12) (lo' := [(2, .int 0), (0, .ref ar0), (1, .int ar1)]) rfl rfl rfl rfl ?_
    have L6 : ∀ (m6 : Nat) (gi6 : Nat → Nat → Int32) (gl6 : Nat → Nat → Int64) (gr6 : Nat → Nat → Value) (y6_2 : Int32), t_I sh gi6 gr6 → t_X wl_ue_readEither sh gi gl gr gi6 gl6 gr6 → t_UQ sh gr6 ar0 → 0 ≤ y6_2.toInt → y6_2.toInt ≤ 300 → (∀ (b : Nat → Int32) (n q c : Nat) (T : List Int), t_US b n q c gi gl gr ar0 → (T.length : Int) = ar1.toInt → s_pop T = T → ∃ q2 c2, s_Cnd b n false q c T = s_Cnd b n true q2 c2 T ∧ q < q2 ∧ y6_2.toInt < (q2 : Int) ∧ t_US b n q2 c2 gi6 gl6 gr6 ar0 ∧ s_W b n q2 ≠ some 19 ∧ t_UT gi gi6 ar0 ∧ ∀ E : List Int, t_UE sh gi ar0 n q E → ∃ S : List Int, S.length + q ≤ q2 ∧ t_UE sh gi6 ar0 n q2 (E ++ S) ∧ s_e3 b n q q2 S) ∧ t_lq ar0 gi gl gr gi6 gl6 gr6 → (300 - y6_2.toInt).toNat = m6 → x_Ev X (d + 4) n_X8_readEither 12 [(2, .int y6_2), (0, .ref ar0), (1, .int ar1)] [] (sh, gi6, gl6, gr6) (t_PI wl_ue_readEither sh gi gl gr 0 1 (Q_ue_readEither sh gi gl gr ar0 ar1)) := by
      intro m6
      induction m6 using Nat.strongRecOn with
      | _ m6 ih6 =>
      intro gi6 gl6 gr6 y6_2 hI hX p_a0 l6_2 u6_2 j6_0 hm6
      refine ev_loc f_X8_readEither (nx := 13) rfl rfl rfl rfl ?_
      refine ev_sp f_X8_readEither (nx := 16) (v := 300) rfl (by decide) rfl ?_
      refine ev_if f_X8_readEither (t1 := 65) (t2 := 19) rfl rfl rfl (fun h7 => ?_) (fun h7 => ?_)
      · have l8 : 300 ≤ y6_2.toInt := t_lel h7 (by decide : (300:Int) ≤ (300:Int32).toInt)
        refine ev_ic f_X8_readEither (nx := 66) (v := 1) rfl (by decide) rfl ?_
        exact ev_ret f_X8_readEither rfl rfl rfl ⟨_, _, _, rfl, hI, hX, ⟨_, rfl, (Int.le_trans (by decide : (0:Int) ≤ 1) (by decide : (1:Int) ≤ (1:Int32).toInt)), (by decide : (1:Int32).toInt ≤ (1:Int)), (show (∀ (b : Nat → Int32) (n q c : Nat) (T : List Int), t_US b n q c gi gl gr ar0 → (T.length : Int) = ar1.toInt → s_pop T = T → ((1 : Int) = 1 ∧ ∃ q2 c2, s_Cnd b n false q c T = s_Cnd b n true q2 c2 T ∧ q < q2 ∧ t_US b n q2 c2 gi6 gl6 gr6 ar0 ∧ ¬ s_jnd b n q2 ∧ t_UT gi gi6 ar0 ∧ ∀ E : List Int, t_UE sh gi ar0 n q E → ∃ S : List Int, S.length + q ≤ q2 ∧ t_UE sh gi6 ar0 n q2 (E ++ S) ∧ s_e3 b n q q2 S) ∨ ((1 : Int) = 0 ∧ ∃ p x, x ≠ 0 ∧ s_Cnd b n false q c T = s_qb b n p x ∧ t_FL gi6 (ar0 + 1) (s_fk b n p x) (s_F b n p))) ∧ t_lq ar0 gi gl gr gi6 gl6 gr6 from ⟨fun b n q c T h hT hp => (by
                                                            obtain ⟨q2, c2, hC, hl0, hi, h2, hw2, hT2, hE2⟩ := j6_0.1 b n q c T h hT hp
                                                            have h102 := p_a0.2.1
                                                            have hn3 := h2.2.1.1
                                                            have hq2 := h2.qn
                                                            exact absurd hi (by omega)), j6_0.2⟩)⟩⟩
      · have u9 : y6_2.toInt ≤ 299 := t_ltu (t_nle h7) (by decide : (300:Int32).toInt ≤ (300:Int)) rfl
        refine ev_loc f_X8_readEither (nx := 20) rfl rfl rfl rfl ?_
        have e10 := p_a0.2.2.1.1
        have p10 := p_a0.2.2.1.2
        refine ev_getR f_X8_readEither (nx := 23) rfl p_a0.1 rfl rfl e10 rfl rfl ?_
        have k11 := hI.2.2.2.1.2.2.2.2.2 (ar0 + 1) p10.1
        obtain ⟨v11, e11⟩ : ∃ v, gr6 (ar0 + 1) 7 = v := ⟨_, rfl⟩
        rw [e11] at k11
        refine ev_getR f_X8_readEither (nx := 26) rfl p10.1 rfl rfl e11 (t_KwR k11) rfl ?_
        refine ev_heap f_X8_readEither (nx := 29) rfl rfl rfl rfl ?_
        refine ev_ack f_X8_readEither (t1 := 32) (t2 := 65) rfl rfl rfl (t_knw k11) rfl (fun h12 => ?_) (fun h12 => ?_)
        · refine ev_loc f_X8_readEither (nx := 33) rfl rfl rfl rfl ?_
          refine ev_getR f_X8_readEither (nx := 36) (v := .ref (ar0 + 1)) rfl p_a0.1 rfl rfl e10 rfl rfl ?_
          refine ev_qN f_X8_readEither (nx := 39) (r := []) rfl rfl rfl rfl rfl rfl rfl (c_s_step hI ((ar0 + 1)) p10) rfl hX rfl (fun gi13 gl13 gr13 hI hX hC13 q13 => ?_)
          have q13 : (∀ (b : Nat → Int32) (n q : Nat), t_Sp b n q gi6 (ar0 + 1) → t_TC b n q gi13 gl13 gr13 (ar0 + 1)) ∧ t_nf gi6 gi13 (ar0 + 1) ∧ t_on (ar0 + 1) gi6 gl6 gr6 gi13 gl13 gr13 := q13
          replace p_a0 := p_a0.ext hC13.2
          replace p10 := p10.ext hC13.2
          refine ev_loc f_X8_readEither (nx := 40) rfl rfl rfl rfl ?_
          refine ev_loc f_X8_readEither (nx := 41) rfl rfl rfl rfl ?_
          refine ev_qI f_X8_readEither (nx := 44) (r := []) rfl rfl rfl rfl rfl rfl rfl (c_ue_readBoth hI (ar0) p_a0 (ar1) l_a1 u_a1 HO) rfl hX rfl (fun w14 gi14 gl14 gr14 l14 u14 hI hX hC14 q14 => ?_)
          have q14 : (∀ (b : Nat → Int32) (n q c : Nat) (T : List Int), t_US b n q c gi13 gl13 gr13 ar0 → (T.length : Int) = ar1.toInt → s_pop T = T → (w14.toInt = 1 ∧ ∃ q2 c2, s_Cnd b n false q c T = s_Cnd b n true q2 c2 T ∧ q < q2 ∧ t_US b n q2 c2 gi14 gl14 gr14 ar0 ∧ s_W b n q2 ≠ some 19 ∧ t_UT gi13 gi14 ar0 ∧ ∀ E : List Int, t_UE sh gi13 ar0 n q E → ∃ S : List Int, S.length + q ≤ q2 ∧ t_UE sh gi14 ar0 n q2 (E ++ S) ∧ s_e2 b n q q2 S) ∨ (w14.toInt = 0 ∧ ∃ p x, x ≠ 0 ∧ s_Cnd b n false q c T = s_qb b n p x ∧ t_FL gi14 (ar0 + 1) (s_fk b n p x) (s_F b n p))) ∧ t_lq ar0 gi13 gl13 gr13 gi14 gl14 gr14 := q14
          replace p_a0 := p_a0.ext hC14.2
          replace p10 := p10.ext hC14.2
          refine ev_if f_X8_readEither (t1 := 47) (t2 := 49) rfl rfl rfl (fun h15 => ?_) (fun h15 => ?_)
          · have u16 : w14.toInt ≤ 0 := t_equ h15 (by decide : (0:Int32).toInt ≤ (0:Int))
            refine ev_ic f_X8_readEither (nx := 48) (v := 0) rfl (by decide) rfl ?_
            exact ev_ret f_X8_readEither rfl rfl rfl ⟨_, _, _, rfl, hI, hX, ⟨_, rfl, (by decide : (0:Int) ≤ (0:Int32).toInt), (Int.le_trans (by decide : (0:Int32).toInt ≤ (0:Int)) (by decide : (0:Int) ≤ 1)), (show (∀ (b : Nat → Int32) (n q c : Nat) (T : List Int), t_US b n q c gi gl gr ar0 → (T.length : Int) = ar1.toInt → s_pop T = T → ((0 : Int) = 1 ∧ ∃ q2 c2, s_Cnd b n false q c T = s_Cnd b n true q2 c2 T ∧ q < q2 ∧ t_US b n q2 c2 gi14 gl14 gr14 ar0 ∧ ¬ s_jnd b n q2 ∧ t_UT gi gi14 ar0 ∧ ∀ E : List Int, t_UE sh gi ar0 n q E → ∃ S : List Int, S.length + q ≤ q2 ∧ t_UE sh gi14 ar0 n q2 (E ++ S) ∧ s_e3 b n q q2 S) ∨ ((0 : Int) = 0 ∧ ∃ p x, x ≠ 0 ∧ s_Cnd b n false q c T = s_qb b n p x ∧ t_FL gi14 (ar0 + 1) (s_fk b n p x) (s_F b n p))) ∧ t_lq ar0 gi gl gr gi14 gl14 gr14 from ⟨fun b n q c T h hT hp => (by
                                                            obtain ⟨q2, c2, hC, hl0, hi, h2, hw2, hT2, hE2⟩ := j6_0.1 b n q c T h hT hp
                                                            have h102 := p_a0.2.1
                                                            have hn3 := h2.2.1.1
                                                            have hq2 := h2.qn
                                                            have hW := h2.1.kwT e11 h12
                                                            have hJ : s_jnd b n q2 := Or.inl hW
                                                            have h2a := h2.on (q13.1 b n _ h2.1.S) q13.2.1 q13.2.2
                                                            obtain ⟨_, p, x, hx, hX, hf⟩ := (q14.1 b n _ _ T h2a hT hp).resolve_left (fun hh => absurd hh.1 (by omega))
                                                            exact Or.inr ⟨rfl, p, x, hx, (hC.trans (s_Cnd_j h2.qn hJ)).trans hX, hf⟩), (t_lq.tr (t_lq.on j6_0.2 q13.2.2 (by omega)) q14.2)⟩)⟩⟩
          · have r17 : w14.toInt ≠ 0 := fun e => h15 (Int32.toInt_inj.mp (e.trans (by decide : (0:Int) = (0 : Int32).toInt)))
            have l18 : 1 ≤ w14.toInt := t_nel h15 l14 rfl rfl
            refine ev_loc f_X8_readEither (nx := 50) rfl rfl rfl rfl ?_
            have e19 := p_a0.2.2.2.1
            have p19 := p_a0.2.2.2.2
            refine ev_getR f_X8_readEither (nx := 53) rfl p_a0.1 rfl rfl e19 rfl rfl ?_
            refine ev_ic f_X8_readEither (nx := 54) (v := 5) rfl (by decide) rfl ?_
            refine ev_ic f_X8_readEither (nx := 55) (v := 0) rfl (by decide) rfl ?_
            refine ev_ic f_X8_readEither (nx := 56) (v := 0) rfl (by decide) rfl ?_
            refine ev_qN f_X8_readEither (nx := 59) (r := []) rfl rfl rfl rfl rfl rfl rfl (c_ue_addStep hI ((ar0 + 2)) p19 (5) (0) (0)) rfl hX rfl (fun gi20 gl20 gr20 hI hX hC20 q20 => ?_)
            have q20 : t_xc [(ar0 + 2), (ar0 + 2) + 3, (ar0 + 2) + 4, (ar0 + 2) + 5] gi14 gl14 gr14 gi20 gl20 gr20 ∧ gi20 (ar0 + 2) 0 = gi14 (ar0 + 2) 0 ∧ ∀ n : Nat, sh[(ar0 + 2) + 3]? = some (.inr (0, n)) → (gi14 (ar0 + 2) 3).toInt < (n : Int) → t_AS gi14 gi20 (ar0 + 2) (5 : Int32) (0 : Int32) (0 : Int32) := q20
            replace p_a0 := p_a0.ext hC20.2
            replace p10 := p10.ext hC20.2
            replace p19 := p19.ext hC20.2
            refine ev_incR f_X8_readEither (nx := 62) (c := 1) (l := 1) (u := 300) rfl rfl (by decide) (by decide) l6_2 u9 rfl rfl (by decide) (by decide) rfl (fun z21 e21 l21 u21 => ?_)
            refine ev_jmp f_X8_readEither (nx := 12) rfl rfl rfl ?_
            refine ev_sub (lo := [(2, .int z21), (0, .ref ar0), (1, .int ar1)]) rfl (t_sc rfl (t_sc rfl (t_sc rfl t_sn))) ?_
            exact ih6 _ (by omega) gi20 gl20 gr20 (z21) hI hX p_a0 (Int.le_trans (by decide : (0:Int) ≤ 1) l21) u21 ⟨fun b n q c T h hT hp => (by
                                                            obtain ⟨q2, c2, hC, hl0, hi, h2, hw2, hT2, hE2⟩ := j6_0.1 b n q c T h hT hp
                                                            have h102 := p_a0.2.1
                                                            have hW := h2.1.kwT e11 h12
                                                            have hJ : s_jnd b n q2 := Or.inl hW
                                                            have hg := s_jnd_gt hJ
                                                            have h2a := h2.on (q13.1 b n _ h2.1.S) q13.2.1 q13.2.2
                                                            obtain ⟨_, q3, c3, hX, hlt, h3, hw3, hT3, hE3⟩ := (q14.1 b n _ _ T h2a hT hp).resolve_right (fun hh => absurd hh.1 (by omega))
                                                            have h4 := h3.xc q20.1 (by intro x hx; simp only [List.mem_cons, List.not_mem_nil, or_false] at hx; omega)
                                                            have hq3 := h4.qn
                                                            have hUT : t_UT gi gi20 ar0 := ((hT2.on q13.2.2 (by omega)).tr hT3).xc q20.1
                                                            have hEM : ∀ E : List Int, t_UE sh gi ar0 n q E → ∃ S : List Int, S.length + q ≤ q3 ∧ t_UE sh gi20 ar0 n q3 (E ++ S) ∧ s_e3 b n q q3 S := by
                                                              intro E hE
                                                              obtain ⟨S, s1, s2, s3⟩ := hE2 E hE
                                                              obtain ⟨S2, s4, s5, s6⟩ := hE3 _ (s2.on q13.2.2 (by omega) (Nat.le_of_lt hg.1))
                                                              have hb := hE.2.1.2
                                                              refine ⟨S ++ S2 ++ [18], by rw [List.length_append, List.length_append, List.length_singleton]; omega, ?_, s_e3_s h2.qn s3 hW s6⟩
                                                              rw [← List.append_assoc, ← List.append_assoc]
                                                              exact s5.ad2 (by rw [List.length_append, List.length_append]; omega) (by rw [List.length_append, List.length_append]; omega) q20.2.2 (s_cdr_r rfl rfl)
                                                            exact ⟨q3, c3, (hC.trans (s_Cnd_j h2.qn hJ)).trans hX, by omega, by omega, h4, hw3, hUT, hEM⟩), (t_lq.ex (t_lq.tr (t_lq.on j6_0.2 q13.2.2 (by omega)) q14.2) q20.1 (by intro x hx; simp only [List.mem_cons, List.not_mem_nil, or_false] at hx; omega))⟩ rfl
        · refine ev_ic f_X8_readEither (nx := 66) (v := 1) rfl (by decide) rfl ?_
          exact ev_ret f_X8_readEither rfl rfl rfl ⟨_, _, _, rfl, hI, hX, ⟨_, rfl, (Int.le_trans (by decide : (0:Int) ≤ 1) (by decide : (1:Int) ≤ (1:Int32).toInt)), (by decide : (1:Int32).toInt ≤ (1:Int)), (show (∀ (b : Nat → Int32) (n q c : Nat) (T : List Int), t_US b n q c gi gl gr ar0 → (T.length : Int) = ar1.toInt → s_pop T = T → ((1 : Int) = 1 ∧ ∃ q2 c2, s_Cnd b n false q c T = s_Cnd b n true q2 c2 T ∧ q < q2 ∧ t_US b n q2 c2 gi6 gl6 gr6 ar0 ∧ ¬ s_jnd b n q2 ∧ t_UT gi gi6 ar0 ∧ ∀ E : List Int, t_UE sh gi ar0 n q E → ∃ S : List Int, S.length + q ≤ q2 ∧ t_UE sh gi6 ar0 n q2 (E ++ S) ∧ s_e3 b n q q2 S) ∨ ((1 : Int) = 0 ∧ ∃ p x, x ≠ 0 ∧ s_Cnd b n false q c T = s_qb b n p x ∧ t_FL gi6 (ar0 + 1) (s_fk b n p x) (s_F b n p))) ∧ t_lq ar0 gi gl gr gi6 gl6 gr6 from ⟨fun b n q c T h hT hp => (by
                                                            obtain ⟨q2, c2, hC, hl0, hi, h2, hw2, hT2, hE2⟩ := j6_0.1 b n q c T h hT hp
                                                            have h102 := p_a0.2.1
                                                            have hn3 := h2.2.1.1
                                                            have hq2 := h2.qn
                                                            exact Or.inl ⟨rfl, q2, c2, hC, hl0, h2, (fun hh => hh.elim (fun x => (h2.1.kwF e11 h12) x) (fun x => hw2 x)), hT2, hE2⟩), j6_0.2⟩)⟩⟩
    refine ev_sub (lo := [(2, .int 0), (0, .ref ar0), (1, .int ar1)]) rfl (t_sc rfl (t_sc rfl (t_sc rfl t_sn))) ?_
    exact L6 _ gi1 gl1 gr1 (0) hI hX p_a0 (by decide : (0:Int) ≤ (0:Int32).toInt) (Int.le_trans (by decide : (0:Int32).toInt ≤ (0:Int)) (by decide : (0:Int) ≤ 300)) ⟨fun b n q c T h hT hp => (by
                                                            obtain ⟨_, q3, c3, hX, hlt, h3, hw3, hT3, hE3⟩ := (q1.1 b n _ _ T h hT hp).resolve_right (fun hh => absurd hh.1 (by omega))
                                                            exact ⟨q3, c3, hX, hlt, by have : (0 : Int32).toInt = 0 := rfl; omega, h3, hw3, hT3, fun E hE => (hE3 E hE).imp (fun S hS => ⟨hS.1, hS.2.1, s_e3_2 hS.2.2⟩)⟩), (t_lq.tr t_lq.rf q1.2)⟩ rfl
