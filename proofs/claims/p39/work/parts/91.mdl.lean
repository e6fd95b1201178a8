/-! ===== printed by mdl7.py: contracts of the model ===== -/
noncomputable def wl_m_isWithin : List (Nat × Nat) := []
noncomputable def Q_m_isWithin (gi : Nat → Nat → Int32) (gl : Nat → Nat → Int64) (gr : Nat → Nat → Value) : Int32 → (Nat → Nat → Int32) → (Nat → Nat → Int64) → (Nat → Nat → Value) → Prop := fun (v : Int32) (gi2 : Nat → Nat → Int32) (gl2 : Nat → Nat → Int64) (gr2 : Nat → Nat → Value) => (v.toInt = 1 → t_ex gi2) ∧ (v.toInt = 0 → t_n40 gi2)
theorem c_m_isWithin {X : x_Ext} {d : Nat} {sh : List (Nat ⊕ (Nat × Nat))} {gi : Nat → Nat → Int32} {gl : Nat → Nat → Int64} {gr : Nat → Nat → Value} (hI : t_I sh gi gr) : x_Me X (d + 1) n_X12_isWithin [.ref 69] (sh, gi, gl, gr) (t_PI wl_m_isWithin sh gi gl gr 0 1 (Q_m_isWithin gi gl gr)) := by
  have hX : t_X wl_m_isWithin sh gi gl gr gi gl gr := t_X.rf
  refine me_i f_X12_isWithin (hI.wf.s rfl) rfl rfl rfl ?_
  obtain ⟨l1, u1⟩ := hI.b (hI.wf.s (k := 69) rfl) (t_bdK rfl : t_bd 11 22 = some (0, 60))
  refine ev_ic f_X12_isWithin (nx := 1) (v := 0) rfl (by decide) rfl ?_
  refine ev_loc f_X12_isWithin (nx := 2) (lo' := [(1, .int 0), (0, .ref 69)]) rfl rfl rfl rfl ?_
  have L2 : ∀ (m2 : Nat) (gi2 : Nat → Nat → Int32) (gl2 : Nat → Nat → Int64) (gr2 : Nat → Nat → Value) (y2_1 : Int32), t_I sh gi2 gr2 → t_X wl_m_isWithin sh gi gl gr gi2 gl2 gr2 → 0 ≤ y2_1.toInt → y2_1.toInt ≤ 60 → gi2 69 22 = (gi 69 22) → (∀ j : Nat, (j : Int) < y2_1.toInt → (gi2 77 j).toInt ≠ 40) → (60 - y2_1.toInt).toNat = m2 → x_Ev X (d + 1) n_X12_isWithin 2 [(1, .int y2_1), (0, .ref 69)] [] (sh, gi2, gl2, gr2) (t_PI wl_m_isWithin sh gi gl gr 0 1 (Q_m_isWithin gi gl gr)) := by
    intro m2
    induction m2 using Nat.strongRecOn with
    | _ m2 ih2 =>
    intro gi2 gl2 gr2 y2_1 hI hX l2_1 u2_1 c2_0 j2_0 hm2
    have cf2_0 : (gi2 69 22).toInt = (gi 69 22).toInt := congrArg Int32.toInt c2_0
    refine ev_loc f_X12_isWithin (nx := 3) rfl rfl rfl rfl ?_
    refine ev_loc f_X12_isWithin (nx := 4) rfl rfl rfl rfl ?_
    refine ev_gvI f_X12_isWithin (nx := 7) (w := (gi 69 22)) rfl (hI.wf.s rfl) rfl rfl c2_0 rfl ?_
    refine ev_if f_X12_isWithin (t1 := 29) (t2 := 10) rfl rfl rfl (fun h3 => ?_) (fun h3 => ?_)
    · have r4 : (gi 69 22).toInt ≤ y2_1.toInt := Int32.le_iff_toInt_le.mp h3
      refine ev_ic f_X12_isWithin (nx := 30) (v := 0) rfl (by decide) rfl ?_
      exact ev_ret f_X12_isWithin rfl rfl rfl ⟨_, _, _, rfl, hI, hX, ⟨_, rfl, (by decide : (0:Int) ≤ (0:Int32).toInt), (Int.le_trans (by decide : (0:Int32).toInt ≤ (0:Int)) (by decide : (0:Int) ≤ 1)), (show (0 = 1 → t_ex gi2) ∧ (0 = 0 → t_n40 gi2) from ⟨fun h => absurd h (by decide), fun _ j hj => j2_0 j (by omega)⟩)⟩⟩
    · have r5 : y2_1.toInt < (gi 69 22).toInt := Int32.lt_iff_toInt_lt.mp (t_nle h3)
      have u6 : y2_1.toInt ≤ 59 := t_ltu (t_nle h3) u1 rfl
      have l7 : 1 ≤ (gi 69 22).toInt := t_ltl (t_nle h3) l2_1 rfl
      refine ev_loc f_X12_isWithin (nx := 11) rfl rfl rfl rfl ?_
      refine ev_getR f_X12_isWithin (nx := 14) rfl (hI.wf.s rfl) rfl rfl (hI.wf.r rfl) rfl rfl ?_
      refine ev_loc f_X12_isWithin (nx := 15) rfl rfl rfl rfl ?_
      refine ev_ialdT f_X12_isWithin (nx := 16) rfl (hI.wf.s rfl) l2_1 (by decide) u6 (by decide) rfl (fun w8 e8 => ?_)
      refine ev_bp f_X12_isWithin (nx := 18) (v := 40) rfl (by decide) rfl ?_
      refine ev_if f_X12_isWithin (t1 := 21) (t2 := 23) rfl rfl rfl (fun h9 => ?_) (fun h9 => ?_)
      · have u10 : w8.toInt ≤ 40 := t_equ h9 (by decide : (40:Int32).toInt ≤ (40:Int))
        have l11 : 40 ≤ w8.toInt := t_eql h9 (by decide : (40:Int) ≤ (40:Int32).toInt)
        refine ev_ic f_X12_isWithin (nx := 22) (v := 1) rfl (by decide) rfl ?_
        exact ev_ret f_X12_isWithin rfl rfl rfl ⟨_, _, _, rfl, hI, hX, ⟨_, rfl, (Int.le_trans (by decide : (0:Int) ≤ 1) (by decide : (1:Int) ≤ (1:Int32).toInt)), (by decide : (1:Int32).toInt ≤ (1:Int)), (show (1 = 1 → t_ex gi2) ∧ (1 = 0 → t_n40 gi2) from ⟨fun _ => ⟨y2_1.toNatClampNeg, by have hc := t_clamp (i := y2_1) (by omega); omega, by rw [← e8]; omega⟩, fun h => absurd h (by decide)⟩)⟩⟩
      · have r12 : w8.toInt ≠ 40 := fun e => h9 (Int32.toInt_inj.mp (e.trans (by decide : (40:Int) = (40 : Int32).toInt)))
        refine ev_incR f_X12_isWithin (nx := 26) (c := 1) (l := 1) (u := 60) rfl rfl (by decide) (by decide) l2_1 u6 rfl rfl (by decide) (by decide) rfl (fun z13 e13 l13 u13 => ?_)
        refine ev_jmp f_X12_isWithin (nx := 2) rfl rfl rfl ?_
        refine ev_sub (lo := [(1, .int z13), (0, .ref 69)]) rfl (t_sc rfl (t_sc rfl t_sn)) ?_
        exact ih2 _ (by omega) gi2 gl2 gr2 (z13) hI hX  (Int.le_trans (by decide : (0:Int) ≤ 1) l13) u13 c2_0 (fun j hj => (Classical.em ((j : Int) < y2_1.toInt)).elim (fun hq => j2_0 j hq) (fun hq => by have hc := t_clamp (i := y2_1) (by omega); have hx : j = y2_1.toNatClampNeg := (by omega); rw [hx, ← e8]; omega)) rfl
  refine ev_sub (lo := [(1, .int 0), (0, .ref 69)]) rfl (t_sc rfl (t_sc rfl t_sn)) ?_
  exact L2 _ gi gl gr (0) hI hX  (by decide : (0:Int) ≤ (0:Int32).toInt) (Int.le_trans (by decide : (0:Int32).toInt ≤ (0:Int)) (by decide : (0:Int) ≤ 60)) rfl (fun j hj => absurd hj (by have : (0 : Int32).toInt = 0 := rfl; omega)) rfl
noncomputable def wl_m_aCase : List (Nat × Nat) := [(69, 12), (69, 13), (69, 14), (69, 15), (69, 17), (69, 18), (69, 24), (69, 25), (70, 154011750)]
noncomputable def Q_m_aCase (gi : Nat → Nat → Int32) (gl : Nat → Nat → Int64) (gr : Nat → Nat → Value) (b : Nat → Int32) (ar1 : Int32) : Int32 → (Nat → Nat → Int32) → (Nat → Nat → Int64) → (Nat → Nat → Value) → Prop := fun (v : Int32) (gi2 : Nat → Nat → Int32) (gl2 : Nat → Nat → Int64) (gr2 : Nat → Nat → Value) => (gi 69 14).toInt ≤ (gi2 69 14).toInt ∧ (v.toInt = 1 → (gi2 69 12).toInt ≠ 0 → (gi 69 14).toInt < (gi2 69 14).toInt) ∧ (v.toInt = 0 → (gi2 69 18).toInt ≠ 0) ∧ (v.toInt = 1 → t_K b gi2 1)
theorem c_m_aCase {X : x_Ext} {d : Nat} {sh : List (Nat ⊕ (Nat × Nat))} {gi : Nat → Nat → Int32} {gl : Nat → Nat → Int64} {gr : Nat → Nat → Value} (hI : t_I sh gi gr) (ar1 : Int32) (l_a1 : 15 ≤ ar1.toInt) (u_a1 : ar1.toInt ≤ 26) {b : Nat → Int32} (e_p0 : t_K b gi 0) (e_p1 : (ar1.toInt = 15 ∨ ar1.toInt = 16 ∨ 22 ≤ ar1.toInt)) : x_Me X (d + 3) n_X12_aCase [.ref 69, .int ar1] (sh, gi, gl, gr) (t_PI wl_m_aCase sh gi gl gr 0 1 (Q_m_aCase gi gl gr b ar1)) := by
  have hX : t_X wl_m_aCase sh gi gl gr gi gl gr := t_X.rf
  refine me_i f_X12_aCase (hI.wf.s rfl) rfl rfl rfl ?_
  obtain ⟨l1, u1⟩ := hI.b (hI.wf.s (k := 69) rfl) (t_bdK rfl : t_bd 11 12 = some (0, 4))
  obtain ⟨l2, u2⟩ := hI.b (hI.wf.s (k := 69) rfl) (t_bdK rfl : t_bd 11 14 = some (0, 900))
  obtain ⟨l5, u5⟩ := hI.b (hI.wf.s (k := 69) rfl) (t_bdK rfl : t_bd 11 22 = some (0, 60))
  obtain ⟨l6, u6⟩ := hI.b (hI.wf.s (k := 69) rfl) (t_bdK rfl : t_bd 11 23 = some (0, 6))
  obtain ⟨l7, u7⟩ := hI.b (hI.wf.s (k := 69) rfl) (t_bdK rfl : t_bd 11 24 = some (0, 24))
  obtain ⟨l8, u8⟩ := hI.b (hI.wf.s (k := 69) rfl) (t_bdK rfl : t_bd 11 25 = some (0, 210))
  refine ev_loc f_X12_aCase (nx := 1) rfl rfl rfl rfl ?_
  refine ev_gvI f_X12_aCase (nx := 4) (w := (gi 69 24)) rfl (hI.wf.s rfl) rfl rfl rfl rfl ?_
  refine ev_bp f_X12_aCase (nx := 6) (v := 24) rfl (by decide) rfl ?_
  refine ev_if f_X12_aCase (t1 := 9) (t2 := 16) rfl rfl rfl (fun h9 => ?_) (fun h9 => ?_)
  · have l10 : 24 ≤ (gi 69 24).toInt := t_eql h9 (by decide : (24:Int) ≤ (24:Int32).toInt)
    refine ev_loc f_X12_aCase (nx := 10) rfl rfl rfl rfl ?_
    refine ev_bp f_X12_aCase (nx := 12) (v := 6) rfl (by decide) rfl ?_
    refine ev_inV2 f_X12_aCase (nx := 15) (lo2 := [(0, .ref 69), (1, .int 6)]) rfl rfl rfl rfl f_X12_fails (hI.wf.s rfl) rfl rfl rfl rfl rfl ?_
    refine ev_loc f_X12_fails (nx := 1) rfl rfl rfl rfl ?_
    refine ev_gvI f_X12_fails (nx := 4) (w := (gi 69 18)) rfl (hI.wf.s rfl) rfl rfl rfl rfl ?_
    refine ev_if f_X12_fails (t1 := 7) (t2 := 32) rfl rfl rfl (fun h11 => ?_) (fun h11 => ?_)
    · have u12 : (gi 69 18).toInt ≤ 0 := t_equ h11 (by decide : (0:Int32).toInt ≤ (0:Int))
      have l13 : 0 ≤ (gi 69 18).toInt := t_eql h11 (by decide : (0:Int) ≤ (0:Int32).toInt)
      refine ev_loc f_X12_fails (nx := 8) rfl rfl rfl rfl ?_
      refine ev_loc f_X12_fails (nx := 9) rfl rfl rfl rfl ?_
      refine ev_gvI f_X12_fails (nx := 12) (w := (gi 69 12)) rfl (hI.wf.s rfl) rfl rfl rfl rfl ?_
      refine ev_ic f_X12_fails (nx := 13) (v := 1) rfl (by decide) rfl ?_
      refine ev_if f_X12_fails (t1 := 16) (t2 := 20) rfl rfl rfl (fun h14 => ?_) (fun h14 => ?_)
      · have u15 : (gi 69 12).toInt ≤ 1 := t_equ h14 (by decide : (1:Int32).toInt ≤ (1:Int))
        have l16 : 1 ≤ (gi 69 12).toInt := t_eql h14 (by decide : (1:Int) ≤ (1:Int32).toInt)
        refine ev_ic f_X12_fails (nx := 17) (v := 1) rfl (by decide) rfl ?_
        refine ev_jmp f_X12_fails (nx := 21) rfl rfl rfl ?_
        refine ev_putIT f_X12_fails (nx := 24) rfl (hI.wf.s rfl) rfl rfl rfl (hI.put0 (hI.wf.s rfl) rfl rfl) (hX.upI rfl) (fun g17 e17 hI hX => ?_)
        refine ev_loc f_X12_fails (nx := 25) rfl rfl rfl rfl ?_
        refine ev_loc f_X12_fails (nx := 26) rfl rfl rfl rfl ?_
        refine ev_getI f_X12_fails (nx := 29) rfl (hI.wf.s rfl) rfl rfl rfl ?_
        obtain ⟨l18, u18⟩ := hI.b (hI.wf.s (k := 69) rfl) (t_bdK rfl : t_bd 11 13 = some (0, 900))
        refine ev_putIT f_X12_fails (nx := 32) rfl (hI.wf.s rfl) rfl rfl rfl (hI.put0 (hI.wf.s rfl) rfl rfl) (hX.upI rfl) (fun g19 e19 hI hX => ?_)
        refine ev_ic f_X12_fails (nx := 33) (v := 0) rfl (by decide) rfl ?_
        refine ev_retK1 f_X12_fails rfl rfl rfl ?_
        exact ev_ret f_X12_aCase rfl rfl rfl ⟨_, _, _, rfl, hI, hX, ⟨_, rfl, (by decide : (0:Int) ≤ (0:Int32).toInt), (Int.le_trans (by decide : (0:Int32).toInt ≤ (0:Int)) (by decide : (0:Int) ≤ 1)), (show (gi 69 14).toInt ≤ (g19 69 14).toInt ∧ (0 = 1 → (g19 69 12).toInt ≠ 0 → (gi 69 14).toInt < (g19 69 14).toInt) ∧ (0 = 0 → (g19 69 18).toInt ≠ 0) ∧ (0 = 1 → t_K b g19 1) from ⟨(by have ff20 : (g19 69 14).toInt = (gi 69 14).toInt := congrArg Int32.toInt ((by rw [e19]; exact x_up2_off (Or.inr (by decide)) : g19 69 14 = g17 69 14).trans ((by rw [e17]; exact x_up2_off (Or.inr (by decide)) : g17 69 14 = gi 69 14).trans rfl)); omega), (by have ff21 : (g19 69 12).toInt = (gi 69 12).toInt := congrArg Int32.toInt ((by rw [e19]; exact x_up2_off (Or.inr (by decide)) : g19 69 12 = g17 69 12).trans ((by rw [e17]; exact x_up2_off (Or.inr (by decide)) : g17 69 12 = gi 69 12).trans rfl)); have ff22 : (g19 69 14).toInt = (gi 69 14).toInt := congrArg Int32.toInt ((by rw [e19]; exact x_up2_off (Or.inr (by decide)) : g19 69 14 = g17 69 14).trans ((by rw [e17]; exact x_up2_off (Or.inr (by decide)) : g17 69 14 = gi 69 14).trans rfl)); omega), (by have ff23 : (g19 69 18).toInt = 1 := (congrArg Int32.toInt ((by rw [e19]; exact x_up2_off (Or.inr (by decide)) : g19 69 18 = g17 69 18).trans (by rw [e17]; exact x_up2_at _ _ _ _ : g17 69 18 = 1))).trans (by decide); omega), fun h => absurd h (by decide)⟩)⟩⟩
      · have r24 : (gi 69 12).toInt ≠ 1 := fun e => h14 (Int32.toInt_inj.mp (e.trans (by decide : (1:Int) = (1 : Int32).toInt)))
        refine ev_loc f_X12_fails (nx := 21) rfl rfl rfl rfl ?_
        refine ev_putIT f_X12_fails (nx := 24) rfl (hI.wf.s rfl) rfl rfl rfl (hI.put0 (hI.wf.s rfl) rfl rfl) (hX.upI rfl) (fun g25 e25 hI hX => ?_)
        refine ev_loc f_X12_fails (nx := 25) rfl rfl rfl rfl ?_
        refine ev_loc f_X12_fails (nx := 26) rfl rfl rfl rfl ?_
        refine ev_getI f_X12_fails (nx := 29) rfl (hI.wf.s rfl) rfl rfl rfl ?_
        obtain ⟨l26, u26⟩ := hI.b (hI.wf.s (k := 69) rfl) (t_bdK rfl : t_bd 11 13 = some (0, 900))
        refine ev_putIT f_X12_fails (nx := 32) rfl (hI.wf.s rfl) rfl rfl rfl (hI.put0 (hI.wf.s rfl) rfl rfl) (hX.upI rfl) (fun g27 e27 hI hX => ?_)
        refine ev_ic f_X12_fails (nx := 33) (v := 0) rfl (by decide) rfl ?_
        refine ev_retK1 f_X12_fails rfl rfl rfl ?_
        exact ev_ret f_X12_aCase rfl rfl rfl ⟨_, _, _, rfl, hI, hX, ⟨_, rfl, (by decide : (0:Int) ≤ (0:Int32).toInt), (Int.le_trans (by decide : (0:Int32).toInt ≤ (0:Int)) (by decide : (0:Int) ≤ 1)), (show (gi 69 14).toInt ≤ (g27 69 14).toInt ∧ (0 = 1 → (g27 69 12).toInt ≠ 0 → (gi 69 14).toInt < (g27 69 14).toInt) ∧ (0 = 0 → (g27 69 18).toInt ≠ 0) ∧ (0 = 1 → t_K b g27 1) from ⟨(by have ff28 : (g27 69 14).toInt = (gi 69 14).toInt := congrArg Int32.toInt ((by rw [e27]; exact x_up2_off (Or.inr (by decide)) : g27 69 14 = g25 69 14).trans ((by rw [e25]; exact x_up2_off (Or.inr (by decide)) : g25 69 14 = gi 69 14).trans rfl)); omega), (by have ff29 : (g27 69 12).toInt = (gi 69 12).toInt := congrArg Int32.toInt ((by rw [e27]; exact x_up2_off (Or.inr (by decide)) : g27 69 12 = g25 69 12).trans ((by rw [e25]; exact x_up2_off (Or.inr (by decide)) : g25 69 12 = gi 69 12).trans rfl)); have ff30 : (g27 69 14).toInt = (gi 69 14).toInt := congrArg Int32.toInt ((by rw [e27]; exact x_up2_off (Or.inr (by decide)) : g27 69 14 = g25 69 14).trans ((by rw [e25]; exact x_up2_off (Or.inr (by decide)) : g25 69 14 = gi 69 14).trans rfl)); omega), (by have ff31 : (g27 69 18).toInt = 6 := (congrArg Int32.toInt ((by rw [e27]; exact x_up2_off (Or.inr (by decide)) : g27 69 18 = g25 69 18).trans (by rw [e25]; exact x_up2_at _ _ _ _ : g25 69 18 = 6))).trans (by decide); omega), fun h => absurd h (by decide)⟩)⟩⟩
    · have r32 : (gi 69 18).toInt ≠ 0 := fun e => h11 (Int32.toInt_inj.mp (e.trans (by decide : (0:Int) = (0 : Int32).toInt)))
      refine ev_ic f_X12_fails (nx := 33) (v := 0) rfl (by decide) rfl ?_
      refine ev_retK1 f_X12_fails rfl rfl rfl ?_
      exact ev_ret f_X12_aCase rfl rfl rfl ⟨_, _, _, rfl, hI, hX, ⟨_, rfl, (by decide : (0:Int) ≤ (0:Int32).toInt), (Int.le_trans (by decide : (0:Int32).toInt ≤ (0:Int)) (by decide : (0:Int) ≤ 1)), (show (gi 69 14).toInt ≤ (gi 69 14).toInt ∧ (0 = 1 → (gi 69 12).toInt ≠ 0 → (gi 69 14).toInt < (gi 69 14).toInt) ∧ (0 = 0 → (gi 69 18).toInt ≠ 0) ∧ (0 = 1 → t_K b gi 1) from ⟨(by omega), (by omega), (by omega), fun h => absurd h (by decide)⟩)⟩⟩
  · have r33 : (gi 69 24).toInt ≠ 24 := fun e => h9 (Int32.toInt_inj.mp (e.trans (by decide : (24:Int) = (24 : Int32).toInt)))
    have u34 : (gi 69 24).toInt ≤ 23 := t_neu h9 u7 rfl rfl
    refine ev_loc f_X12_aCase (nx := 17) rfl rfl rfl rfl ?_
    refine ev_gvI f_X12_aCase (nx := 20) (w := (gi 69 23)) rfl (hI.wf.s rfl) rfl rfl rfl rfl ?_
    refine ev_bp f_X12_aCase (nx := 22) (v := 6) rfl (by decide) rfl ?_
    refine ev_if f_X12_aCase (t1 := 25) (t2 := 32) rfl rfl rfl (fun h35 => ?_) (fun h35 => ?_)
    · have l36 : 6 ≤ (gi 69 23).toInt := t_eql h35 (by decide : (6:Int) ≤ (6:Int32).toInt)
      refine ev_loc f_X12_aCase (nx := 26) rfl rfl rfl rfl ?_
      refine ev_bp f_X12_aCase (nx := 28) (v := 7) rfl (by decide) rfl ?_
      refine ev_inV2 f_X12_aCase (nx := 31) (lo2 := [(0, .ref 69), (1, .int 7)]) rfl rfl rfl rfl f_X12_fails (hI.wf.s rfl) rfl rfl rfl rfl rfl ?_
      refine ev_loc f_X12_fails (nx := 1) rfl rfl rfl rfl ?_
      refine ev_gvI f_X12_fails (nx := 4) (w := (gi 69 18)) rfl (hI.wf.s rfl) rfl rfl rfl rfl ?_
      refine ev_if f_X12_fails (t1 := 7) (t2 := 32) rfl rfl rfl (fun h37 => ?_) (fun h37 => ?_)
      · have u38 : (gi 69 18).toInt ≤ 0 := t_equ h37 (by decide : (0:Int32).toInt ≤ (0:Int))
        have l39 : 0 ≤ (gi 69 18).toInt := t_eql h37 (by decide : (0:Int) ≤ (0:Int32).toInt)
        refine ev_loc f_X12_fails (nx := 8) rfl rfl rfl rfl ?_
        refine ev_loc f_X12_fails (nx := 9) rfl rfl rfl rfl ?_
        refine ev_gvI f_X12_fails (nx := 12) (w := (gi 69 12)) rfl (hI.wf.s rfl) rfl rfl rfl rfl ?_
        refine ev_ic f_X12_fails (nx := 13) (v := 1) rfl (by decide) rfl ?_
        refine ev_if f_X12_fails (t1 := 16) (t2 := 20) rfl rfl rfl (fun h40 => ?_) (fun h40 => ?_)
        · have u41 : (gi 69 12).toInt ≤ 1 := t_equ h40 (by decide : (1:Int32).toInt ≤ (1:Int))
          have l42 : 1 ≤ (gi 69 12).toInt := t_eql h40 (by decide : (1:Int) ≤ (1:Int32).toInt)
          refine ev_ic f_X12_fails (nx := 17) (v := 1) rfl (by decide) rfl ?_
          refine ev_jmp f_X12_fails (nx := 21) rfl rfl rfl ?_
          refine ev_putIT f_X12_fails (nx := 24) rfl (hI.wf.s rfl) rfl rfl rfl (hI.put0 (hI.wf.s rfl) rfl rfl) (hX.upI rfl) (fun g43 e43 hI hX => ?_)
          refine ev_loc f_X12_fails (nx := 25) rfl rfl rfl rfl ?_
          refine ev_loc f_X12_fails (nx := 26) rfl rfl rfl rfl ?_
          refine ev_getI f_X12_fails (nx := 29) rfl (hI.wf.s rfl) rfl rfl rfl ?_
          obtain ⟨l44, u44⟩ := hI.b (hI.wf.s (k := 69) rfl) (t_bdK rfl : t_bd 11 13 = some (0, 900))
          refine ev_putIT f_X12_fails (nx := 32) rfl (hI.wf.s rfl) rfl rfl rfl (hI.put0 (hI.wf.s rfl) rfl rfl) (hX.upI rfl) (fun g45 e45 hI hX => ?_)
          refine ev_ic f_X12_fails (nx := 33) (v := 0) rfl (by decide) rfl ?_
          refine ev_retK1 f_X12_fails rfl rfl rfl ?_
          exact ev_ret f_X12_aCase rfl rfl rfl ⟨_, _, _, rfl, hI, hX, ⟨_, rfl, (by decide : (0:Int) ≤ (0:Int32).toInt), (Int.le_trans (by decide : (0:Int32).toInt ≤ (0:Int)) (by decide : (0:Int) ≤ 1)), (show (gi 69 14).toInt ≤ (g45 69 14).toInt ∧ (0 = 1 → (g45 69 12).toInt ≠ 0 → (gi 69 14).toInt < (g45 69 14).toInt) ∧ (0 = 0 → (g45 69 18).toInt ≠ 0) ∧ (0 = 1 → t_K b g45 1) from ⟨(by have ff46 : (g45 69 14).toInt = (gi 69 14).toInt := congrArg Int32.toInt ((by rw [e45]; exact x_up2_off (Or.inr (by decide)) : g45 69 14 = g43 69 14).trans ((by rw [e43]; exact x_up2_off (Or.inr (by decide)) : g43 69 14 = gi 69 14).trans rfl)); omega), (by have ff47 : (g45 69 12).toInt = (gi 69 12).toInt := congrArg Int32.toInt ((by rw [e45]; exact x_up2_off (Or.inr (by decide)) : g45 69 12 = g43 69 12).trans ((by rw [e43]; exact x_up2_off (Or.inr (by decide)) : g43 69 12 = gi 69 12).trans rfl)); have ff48 : (g45 69 14).toInt = (gi 69 14).toInt := congrArg Int32.toInt ((by rw [e45]; exact x_up2_off (Or.inr (by decide)) : g45 69 14 = g43 69 14).trans ((by rw [e43]; exact x_up2_off (Or.inr (by decide)) : g43 69 14 = gi 69 14).trans rfl)); omega), (by have ff49 : (g45 69 18).toInt = 1 := (congrArg Int32.toInt ((by rw [e45]; exact x_up2_off (Or.inr (by decide)) : g45 69 18 = g43 69 18).trans (by rw [e43]; exact x_up2_at _ _ _ _ : g43 69 18 = 1))).trans (by decide); omega), fun h => absurd h (by decide)⟩)⟩⟩
        · have r50 : (gi 69 12).toInt ≠ 1 := fun e => h40 (Int32.toInt_inj.mp (e.trans (by decide : (1:Int) = (1 : Int32).toInt)))
          refine ev_loc f_X12_fails (nx := 21) rfl rfl rfl rfl ?_
          refine ev_putIT f_X12_fails (nx := 24) rfl (hI.wf.s rfl) rfl rfl rfl (hI.put0 (hI.wf.s rfl) rfl rfl) (hX.upI rfl) (fun g51 e51 hI hX => ?_)
          refine ev_loc f_X12_fails (nx := 25) rfl rfl rfl rfl ?_
          refine ev_loc f_X12_fails (nx := 26) rfl rfl rfl rfl ?_
          refine ev_getI f_X12_fails (nx := 29) rfl (hI.wf.s rfl) rfl rfl rfl ?_
          obtain ⟨l52, u52⟩ := hI.b (hI.wf.s (k := 69) rfl) (t_bdK rfl : t_bd 11 13 = some (0, 900))
          refine ev_putIT f_X12_fails (nx := 32) rfl (hI.wf.s rfl) rfl rfl rfl (hI.put0 (hI.wf.s rfl) rfl rfl) (hX.upI rfl) (fun g53 e53 hI hX => ?_)
          refine ev_ic f_X12_fails (nx := 33) (v := 0) rfl (by decide) rfl ?_
          refine ev_retK1 f_X12_fails rfl rfl rfl ?_
          exact ev_ret f_X12_aCase rfl rfl rfl ⟨_, _, _, rfl, hI, hX, ⟨_, rfl, (by decide : (0:Int) ≤ (0:Int32).toInt), (Int.le_trans (by decide : (0:Int32).toInt ≤ (0:Int)) (by decide : (0:Int) ≤ 1)), (show (gi 69 14).toInt ≤ (g53 69 14).toInt ∧ (0 = 1 → (g53 69 12).toInt ≠ 0 → (gi 69 14).toInt < (g53 69 14).toInt) ∧ (0 = 0 → (g53 69 18).toInt ≠ 0) ∧ (0 = 1 → t_K b g53 1) from ⟨(by have ff54 : (g53 69 14).toInt = (gi 69 14).toInt := congrArg Int32.toInt ((by rw [e53]; exact x_up2_off (Or.inr (by decide)) : g53 69 14 = g51 69 14).trans ((by rw [e51]; exact x_up2_off (Or.inr (by decide)) : g51 69 14 = gi 69 14).trans rfl)); omega), (by have ff55 : (g53 69 12).toInt = (gi 69 12).toInt := congrArg Int32.toInt ((by rw [e53]; exact x_up2_off (Or.inr (by decide)) : g53 69 12 = g51 69 12).trans ((by rw [e51]; exact x_up2_off (Or.inr (by decide)) : g51 69 12 = gi 69 12).trans rfl)); have ff56 : (g53 69 14).toInt = (gi 69 14).toInt := congrArg Int32.toInt ((by rw [e53]; exact x_up2_off (Or.inr (by decide)) : g53 69 14 = g51 69 14).trans ((by rw [e51]; exact x_up2_off (Or.inr (by decide)) : g51 69 14 = gi 69 14).trans rfl)); omega), (by have ff57 : (g53 69 18).toInt = 7 := (congrArg Int32.toInt ((by rw [e53]; exact x_up2_off (Or.inr (by decide)) : g53 69 18 = g51 69 18).trans (by rw [e51]; exact x_up2_at _ _ _ _ : g51 69 18 = 7))).trans (by decide); omega), fun h => absurd h (by decide)⟩)⟩⟩
      · have r58 : (gi 69 18).toInt ≠ 0 := fun e => h37 (Int32.toInt_inj.mp (e.trans (by decide : (0:Int) = (0 : Int32).toInt)))
        refine ev_ic f_X12_fails (nx := 33) (v := 0) rfl (by decide) rfl ?_
        refine ev_retK1 f_X12_fails rfl rfl rfl ?_
        exact ev_ret f_X12_aCase rfl rfl rfl ⟨_, _, _, rfl, hI, hX, ⟨_, rfl, (by decide : (0:Int) ≤ (0:Int32).toInt), (Int.le_trans (by decide : (0:Int32).toInt ≤ (0:Int)) (by decide : (0:Int) ≤ 1)), (show (gi 69 14).toInt ≤ (gi 69 14).toInt ∧ (0 = 1 → (gi 69 12).toInt ≠ 0 → (gi 69 14).toInt < (gi 69 14).toInt) ∧ (0 = 0 → (gi 69 18).toInt ≠ 0) ∧ (0 = 1 → t_K b gi 1) from ⟨(by omega), (by omega), (by omega), fun h => absurd h (by decide)⟩)⟩⟩
    · have r59 : (gi 69 23).toInt ≠ 6 := fun e => h35 (Int32.toInt_inj.mp (e.trans (by decide : (6:Int) = (6 : Int32).toInt)))
      have u60 : (gi 69 23).toInt ≤ 5 := t_neu h35 u6 rfl rfl
      refine ev_loc f_X12_aCase (nx := 33) rfl rfl rfl rfl ?_
      refine ev_alu f_X12_aCase (nx := 34) rfl rfl rfl rfl ?_
      refine ev_gvI f_X12_aCase (nx := 37) (w := (gi 69 24)) rfl (hI.wf.s rfl) rfl rfl rfl rfl ?_
      refine ev_ic f_X12_aCase (nx := 38) (v := 1) rfl (by decide) rfl ?_
      refine ev_addC f_X12_aCase (nx := 39) (c := 1) (l := 1) (u := 24) rfl (by decide) l7 u34 rfl rfl (by decide) (by decide) rfl (fun z61 e61 l61 u61 => ?_)
      refine ev_putIT f_X12_aCase (nx := 42) rfl (hI.wf.s rfl) rfl rfl rfl (hI.putB (hI.wf.s rfl) rfl rfl l61 (by decide) u61 (by decide)) (hX.upI rfl) (fun g62 e62 hI hX => ?_)
      refine ev_loc f_X12_aCase (nx := 43) rfl rfl rfl rfl ?_
      refine ev_qN f_X12_aCase (nx := 46) (r := []) rfl rfl rfl rfl rfl rfl rfl (c_m_ahead2 hI ) rfl hX rfl (fun gi63 gl63 gr63 hI hX hC63 q63 => ?_)
      have ff64 : (g62 69 14).toInt = (gi 69 14).toInt := congrArg Int32.toInt ((by rw [e62]; exact x_up2_off (Or.inr (by decide)) : g62 69 14 = gi 69 14).trans rfl)
      have q63 : (g62 69 14).toInt ≤ (gi63 69 14).toInt ∧ ((gi63 69 12).toInt ≠ 0 → (g62 69 14).toInt < (gi63 69 14).toInt) ∧ ((gi63 69 12).toInt = 3 → 0 ≤ (gi63 69 15).toInt) := q63
      obtain ⟨l65, u65⟩ := hI.b (hI.wf.s (k := 69) rfl) (t_bdK rfl : t_bd 11 12 = some (0, 4))
      obtain ⟨l66, u66⟩ := hI.b (hI.wf.s (k := 69) rfl) (t_bdK rfl : t_bd 11 14 = some (0, 900))
      refine ev_loc f_X12_aCase (nx := 47) rfl rfl rfl rfl ?_
      refine ev_bp f_X12_aCase (nx := 49) (v := 15) rfl (by decide) rfl ?_
      refine ev_if f_X12_aCase (t1 := 58) (t2 := 52) rfl rfl rfl (fun h68 => ?_) (fun h68 => ?_)
      · have u69 : ar1.toInt ≤ 15 := t_equ h68 (by decide : (15:Int32).toInt ≤ (15:Int))
        refine ev_loc f_X12_aCase (nx := 59) rfl rfl rfl rfl ?_
        refine ev_loc f_X12_aCase (nx := 60) rfl rfl rfl rfl ?_
        refine ev_inV2 f_X12_aCase (nx := 63) (lo2 := [(0, .ref 69), (1, .int ar1)]) rfl rfl rfl rfl f_X12_asksAlso (hI.wf.s rfl) rfl rfl rfl rfl rfl ?_
        have kn70 := t_K_num e_p0
        refine ev_loc f_X12_asksAlso (nx := 1) rfl rfl rfl rfl ?_
        refine ev_getR f_X12_asksAlso (nx := 4) rfl (hI.wf.s rfl) rfl rfl (hI.wf.r rfl) rfl rfl ?_
        refine ev_sp f_X12_asksAlso (nx := 7) (v := 1540) rfl (by decide) rfl ?_
        refine ev_loc f_X12_asksAlso (nx := 8) rfl rfl rfl rfl ?_
        refine ev_gvI f_X12_asksAlso (nx := 11) (w := (gi 69 25)) rfl (hI.wf.s rfl) rfl rfl ((hC63.1 69 25 rfl).1.trans ((by rw [e62]; exact x_up2_off (Or.inr (by decide)) : g62 69 25 = gi 69 25).trans rfl)) rfl ?_
        refine ev_addK f_X12_asksAlso (nx := 12) (c := 1540) (l := 1540) (u := 1750) rfl (by decide) l8 u8 rfl rfl (by decide) (by decide) rfl (fun z71 e71 l71 u71 => ?_)
        refine ev_loc f_X12_asksAlso (nx := 13) rfl rfl rfl rfl ?_
        refine ev_iastT f_X12_asksAlso (nx := 14) rfl (hI.wf.s rfl) l71 (by decide) u71 (by decide) rfl (hI.astL (hI.wf.s rfl) (by decide +kernel : t_abw 70 1540 1750 15 15 = true) (t_cl1 l71 (by decide)) (t_cl2 l71 u71 (by decide) (by decide)) l_a1 u69 rfl) (hX.upI (t_inR (p := 1540) (m := 1750) rfl l71 (by decide) u71 (by decide) (by decide))) (fun g72 e72 hI hX => ?_)
        refine ev_loc f_X12_asksAlso (nx := 15) rfl rfl rfl rfl ?_
        refine ev_alu f_X12_asksAlso (nx := 16) rfl rfl rfl rfl ?_
        refine ev_gvI f_X12_asksAlso (nx := 19) (w := (gi 69 25)) rfl (hI.wf.s rfl) rfl rfl ((by rw [e72]; exact x_up2_off (Or.inl (by decide)) : g72 69 25 = gi63 69 25).trans ((hC63.1 69 25 rfl).1.trans ((by rw [e62]; exact x_up2_off (Or.inr (by decide)) : g62 69 25 = gi 69 25).trans rfl))) rfl ?_
        refine ev_ic f_X12_asksAlso (nx := 20) (v := 1) rfl (by decide) rfl ?_
        refine ev_addC f_X12_asksAlso (nx := 21) (c := 1) (l := 1) (u := 211) rfl (by decide) l8 u8 rfl rfl (by decide) (by decide) rfl (fun z73 e73 l73 u73 => ?_)
        have u75 : z73.toInt ≤ (210:Int) := (by omega)
        refine ev_putIT f_X12_asksAlso (nx := 24) rfl (hI.wf.s rfl) rfl rfl rfl (hI.putB (hI.wf.s rfl) rfl rfl l73 (by decide) u75 (by decide)) (hX.upI rfl) (fun g74 e74 hI hX => ?_)
        refine ev_retK0 f_X12_asksAlso rfl rfl rfl ?_
        refine ev_ic f_X12_aCase (nx := 64) (v := 1) rfl (by decide) rfl ?_
        exact ev_ret f_X12_aCase rfl rfl rfl ⟨_, _, _, rfl, hI, hX, ⟨_, rfl, (Int.le_trans (by decide : (0:Int) ≤ 1) (by decide : (1:Int) ≤ (1:Int32).toInt)), (by decide : (1:Int32).toInt ≤ (1:Int)), (show (gi 69 14).toInt ≤ (g74 69 14).toInt ∧ (1 = 1 → (g74 69 12).toInt ≠ 0 → (gi 69 14).toInt < (g74 69 14).toInt) ∧ (1 = 0 → (g74 69 18).toInt ≠ 0) ∧ (1 = 1 → t_K b g74 1) from ⟨(by have ff80 : (g74 69 14).toInt = (gi63 69 14).toInt := congrArg Int32.toInt ((by rw [e74]; exact x_up2_off (Or.inr (by decide)) : g74 69 14 = g72 69 14).trans ((by rw [e72]; exact x_up2_off (Or.inl (by decide)) : g72 69 14 = gi63 69 14).trans rfl)); omega), (by have ff81 : (g74 69 12).toInt = (gi63 69 12).toInt := congrArg Int32.toInt ((by rw [e74]; exact x_up2_off (Or.inr (by decide)) : g74 69 12 = g72 69 12).trans ((by rw [e72]; exact x_up2_off (Or.inl (by decide)) : g72 69 12 = gi63 69 12).trans rfl)); have ff82 : (g74 69 14).toInt = (gi63 69 14).toInt := congrArg Int32.toInt ((by rw [e74]; exact x_up2_off (Or.inr (by decide)) : g74 69 14 = g72 69 14).trans ((by rw [e72]; exact x_up2_off (Or.inl (by decide)) : g72 69 14 = gi63 69 14).trans rfl)); omega), (by have ff83 : (g74 69 18).toInt = (gi 69 18).toInt := congrArg Int32.toInt ((by rw [e74]; exact x_up2_off (Or.inr (by decide)) : g74 69 18 = g72 69 18).trans ((by rw [e72]; exact x_up2_off (Or.inl (by decide)) : g72 69 18 = gi63 69 18).trans ((hC63.1 69 18 rfl).1.trans ((by rw [e62]; exact x_up2_off (Or.inr (by decide)) : g62 69 18 = gi 69 18).trans rfl)))); omega), fun _ => (by have ho := (t_one (p := 1540 + (gi 69 25).toInt.toNat) ((funext (fun j => (hC63.1 70 j rfl).1) : gi63 70 = g62 70).trans ((by rw [e62]; exact x_up2_ne (by decide) : g62 70 = gi 70))) e72 ((by rw [e74]; exact x_up2_ne (by decide) : g74 70 = g72 70)) (by have hc := t_clamp (i := z71) (by omega); omega)); exact t_K_case e_p0 (by omega) (by omega) (by omega) (by omega) (show (g74 69 22).toInt = (gi 69 22).toInt from (by have ff76 : (g74 69 22).toInt = (gi 69 22).toInt := congrArg Int32.toInt ((by rw [e74]; exact x_up2_off (Or.inr (by decide)) : g74 69 22 = g72 69 22).trans ((by rw [e72]; exact x_up2_off (Or.inl (by decide)) : g72 69 22 = gi63 69 22).trans ((hC63.1 69 22 rfl).1.trans ((by rw [e62]; exact x_up2_off (Or.inr (by decide)) : g62 69 22 = gi 69 22).trans rfl)))); omega)) (show (g74 69 23).toInt = (gi 69 23).toInt from (by have ff77 : (g74 69 23).toInt = (gi 69 23).toInt := congrArg Int32.toInt ((by rw [e74]; exact x_up2_off (Or.inr (by decide)) : g74 69 23 = g72 69 23).trans ((by rw [e72]; exact x_up2_off (Or.inl (by decide)) : g72 69 23 = gi63 69 23).trans ((hC63.1 69 23 rfl).1.trans ((by rw [e62]; exact x_up2_off (Or.inr (by decide)) : g62 69 23 = gi 69 23).trans rfl)))); omega)) (show (g74 69 24).toInt = (gi 69 24).toInt + 1 from (by have ff78 : (g74 69 24).toInt = z61.toInt := congrArg Int32.toInt ((by rw [e74]; exact x_up2_off (Or.inr (by decide)) : g74 69 24 = g72 69 24).trans ((by rw [e72]; exact x_up2_off (Or.inl (by decide)) : g72 69 24 = gi63 69 24).trans ((hC63.1 69 24 rfl).1.trans (by rw [e62]; exact x_up2_at _ _ _ _ : g62 69 24 = z61)))); omega)) (show (g74 69 25).toInt = (gi 69 25).toInt + 1 from (by have ff79 : (g74 69 25).toInt = z73.toInt := congrArg Int32.toInt (by rw [e74]; exact x_up2_at _ _ _ _ : g74 69 25 = z73); omega)) ((by rw [e74]; exact x_up2_ne (by decide) : g74 77 = g72 77).trans ((by rw [e72]; exact x_up2_ne (by decide) : g72 77 = gi63 77).trans ((funext (fun j => (hC63.1 77 j rfl).1) : gi63 77 = g62 77).trans ((by rw [e62]; exact x_up2_ne (by decide) : g62 77 = gi 77))))) ho.1 ho.2)⟩)⟩⟩
      · have r84 : ar1.toInt ≠ 15 := fun e => h68 (Int32.toInt_inj.mp (e.trans (by decide : (15:Int) = (15 : Int32).toInt)))
        have l85 : 16 ≤ ar1.toInt := t_nel h68 l_a1 rfl rfl
        refine ev_loc f_X12_aCase (nx := 53) rfl rfl rfl rfl ?_
        refine ev_bp f_X12_aCase (nx := 55) (v := 16) rfl (by decide) rfl ?_
        refine ev_if f_X12_aCase (t1 := 58) (t2 := 65) rfl rfl rfl (fun h86 => ?_) (fun h86 => ?_)
        · have u87 : ar1.toInt ≤ 16 := t_equ h86 (by decide : (16:Int32).toInt ≤ (16:Int))
          refine ev_loc f_X12_aCase (nx := 59) rfl rfl rfl rfl ?_
          refine ev_loc f_X12_aCase (nx := 60) rfl rfl rfl rfl ?_
          refine ev_inV2 f_X12_aCase (nx := 63) (lo2 := [(0, .ref 69), (1, .int ar1)]) rfl rfl rfl rfl f_X12_asksAlso (hI.wf.s rfl) rfl rfl rfl rfl rfl ?_
          have kn88 := t_K_num e_p0
          refine ev_loc f_X12_asksAlso (nx := 1) rfl rfl rfl rfl ?_
          refine ev_getR f_X12_asksAlso (nx := 4) rfl (hI.wf.s rfl) rfl rfl (hI.wf.r rfl) rfl rfl ?_
          refine ev_sp f_X12_asksAlso (nx := 7) (v := 1540) rfl (by decide) rfl ?_
          refine ev_loc f_X12_asksAlso (nx := 8) rfl rfl rfl rfl ?_
          refine ev_gvI f_X12_asksAlso (nx := 11) (w := (gi 69 25)) rfl (hI.wf.s rfl) rfl rfl ((hC63.1 69 25 rfl).1.trans ((by rw [e62]; exact x_up2_off (Or.inr (by decide)) : g62 69 25 = gi 69 25).trans rfl)) rfl ?_
          refine ev_addK f_X12_asksAlso (nx := 12) (c := 1540) (l := 1540) (u := 1750) rfl (by decide) l8 u8 rfl rfl (by decide) (by decide) rfl (fun z89 e89 l89 u89 => ?_)
          refine ev_loc f_X12_asksAlso (nx := 13) rfl rfl rfl rfl ?_
          refine ev_iastT f_X12_asksAlso (nx := 14) rfl (hI.wf.s rfl) l89 (by decide) u89 (by decide) rfl (hI.astL (hI.wf.s rfl) (by decide +kernel : t_abw 70 1540 1750 16 16 = true) (t_cl1 l89 (by decide)) (t_cl2 l89 u89 (by decide) (by decide)) l85 u87 rfl) (hX.upI (t_inR (p := 1540) (m := 1750) rfl l89 (by decide) u89 (by decide) (by decide))) (fun g90 e90 hI hX => ?_)
          refine ev_loc f_X12_asksAlso (nx := 15) rfl rfl rfl rfl ?_
          refine ev_alu f_X12_asksAlso (nx := 16) rfl rfl rfl rfl ?_
          refine ev_gvI f_X12_asksAlso (nx := 19) (w := (gi 69 25)) rfl (hI.wf.s rfl) rfl rfl ((by rw [e90]; exact x_up2_off (Or.inl (by decide)) : g90 69 25 = gi63 69 25).trans ((hC63.1 69 25 rfl).1.trans ((by rw [e62]; exact x_up2_off (Or.inr (by decide)) : g62 69 25 = gi 69 25).trans rfl))) rfl ?_
          refine ev_ic f_X12_asksAlso (nx := 20) (v := 1) rfl (by decide) rfl ?_
          refine ev_addC f_X12_asksAlso (nx := 21) (c := 1) (l := 1) (u := 211) rfl (by decide) l8 u8 rfl rfl (by decide) (by decide) rfl (fun z91 e91 l91 u91 => ?_)
          have u93 : z91.toInt ≤ (210:Int) := (by omega)
          refine ev_putIT f_X12_asksAlso (nx := 24) rfl (hI.wf.s rfl) rfl rfl rfl (hI.putB (hI.wf.s rfl) rfl rfl l91 (by decide) u93 (by decide)) (hX.upI rfl) (fun g92 e92 hI hX => ?_)
          refine ev_retK0 f_X12_asksAlso rfl rfl rfl ?_
          refine ev_ic f_X12_aCase (nx := 64) (v := 1) rfl (by decide) rfl ?_
          exact ev_ret f_X12_aCase rfl rfl rfl ⟨_, _, _, rfl, hI, hX, ⟨_, rfl, (Int.le_trans (by decide : (0:Int) ≤ 1) (by decide : (1:Int) ≤ (1:Int32).toInt)), (by decide : (1:Int32).toInt ≤ (1:Int)), (show (gi 69 14).toInt ≤ (g92 69 14).toInt ∧ (1 = 1 → (g92 69 12).toInt ≠ 0 → (gi 69 14).toInt < (g92 69 14).toInt) ∧ (1 = 0 → (g92 69 18).toInt ≠ 0) ∧ (1 = 1 → t_K b g92 1) from ⟨(by have ff98 : (g92 69 14).toInt = (gi63 69 14).toInt := congrArg Int32.toInt ((by rw [e92]; exact x_up2_off (Or.inr (by decide)) : g92 69 14 = g90 69 14).trans ((by rw [e90]; exact x_up2_off (Or.inl (by decide)) : g90 69 14 = gi63 69 14).trans rfl)); omega), (by have ff99 : (g92 69 12).toInt = (gi63 69 12).toInt := congrArg Int32.toInt ((by rw [e92]; exact x_up2_off (Or.inr (by decide)) : g92 69 12 = g90 69 12).trans ((by rw [e90]; exact x_up2_off (Or.inl (by decide)) : g90 69 12 = gi63 69 12).trans rfl)); have ff100 : (g92 69 14).toInt = (gi63 69 14).toInt := congrArg Int32.toInt ((by rw [e92]; exact x_up2_off (Or.inr (by decide)) : g92 69 14 = g90 69 14).trans ((by rw [e90]; exact x_up2_off (Or.inl (by decide)) : g90 69 14 = gi63 69 14).trans rfl)); omega), (by have ff101 : (g92 69 18).toInt = (gi 69 18).toInt := congrArg Int32.toInt ((by rw [e92]; exact x_up2_off (Or.inr (by decide)) : g92 69 18 = g90 69 18).trans ((by rw [e90]; exact x_up2_off (Or.inl (by decide)) : g90 69 18 = gi63 69 18).trans ((hC63.1 69 18 rfl).1.trans ((by rw [e62]; exact x_up2_off (Or.inr (by decide)) : g62 69 18 = gi 69 18).trans rfl)))); omega), fun _ => (by have ho := (t_one (p := 1540 + (gi 69 25).toInt.toNat) ((funext (fun j => (hC63.1 70 j rfl).1) : gi63 70 = g62 70).trans ((by rw [e62]; exact x_up2_ne (by decide) : g62 70 = gi 70))) e90 ((by rw [e92]; exact x_up2_ne (by decide) : g92 70 = g90 70)) (by have hc := t_clamp (i := z89) (by omega); omega)); exact t_K_case e_p0 (by omega) (by omega) (by omega) (by omega) (show (g92 69 22).toInt = (gi 69 22).toInt from (by have ff94 : (g92 69 22).toInt = (gi 69 22).toInt := congrArg Int32.toInt ((by rw [e92]; exact x_up2_off (Or.inr (by decide)) : g92 69 22 = g90 69 22).trans ((by rw [e90]; exact x_up2_off (Or.inl (by decide)) : g90 69 22 = gi63 69 22).trans ((hC63.1 69 22 rfl).1.trans ((by rw [e62]; exact x_up2_off (Or.inr (by decide)) : g62 69 22 = gi 69 22).trans rfl)))); omega)) (show (g92 69 23).toInt = (gi 69 23).toInt from (by have ff95 : (g92 69 23).toInt = (gi 69 23).toInt := congrArg Int32.toInt ((by rw [e92]; exact x_up2_off (Or.inr (by decide)) : g92 69 23 = g90 69 23).trans ((by rw [e90]; exact x_up2_off (Or.inl (by decide)) : g90 69 23 = gi63 69 23).trans ((hC63.1 69 23 rfl).1.trans ((by rw [e62]; exact x_up2_off (Or.inr (by decide)) : g62 69 23 = gi 69 23).trans rfl)))); omega)) (show (g92 69 24).toInt = (gi 69 24).toInt + 1 from (by have ff96 : (g92 69 24).toInt = z61.toInt := congrArg Int32.toInt ((by rw [e92]; exact x_up2_off (Or.inr (by decide)) : g92 69 24 = g90 69 24).trans ((by rw [e90]; exact x_up2_off (Or.inl (by decide)) : g90 69 24 = gi63 69 24).trans ((hC63.1 69 24 rfl).1.trans (by rw [e62]; exact x_up2_at _ _ _ _ : g62 69 24 = z61)))); omega)) (show (g92 69 25).toInt = (gi 69 25).toInt + 1 from (by have ff97 : (g92 69 25).toInt = z91.toInt := congrArg Int32.toInt (by rw [e92]; exact x_up2_at _ _ _ _ : g92 69 25 = z91); omega)) ((by rw [e92]; exact x_up2_ne (by decide) : g92 77 = g90 77).trans ((by rw [e90]; exact x_up2_ne (by decide) : g90 77 = gi63 77).trans ((funext (fun j => (hC63.1 77 j rfl).1) : gi63 77 = g62 77).trans ((by rw [e62]; exact x_up2_ne (by decide) : g62 77 = gi 77))))) ho.1 ho.2)⟩)⟩⟩
        · have r102 : ar1.toInt ≠ 16 := fun e => h86 (Int32.toInt_inj.mp (e.trans (by decide : (16:Int) = (16 : Int32).toInt)))
          have l103 : 17 ≤ ar1.toInt := t_nel h86 l85 rfl rfl
          refine ev_loc f_X12_aCase (nx := 66) rfl rfl rfl rfl ?_
          refine ev_bp f_X12_aCase (nx := 68) (v := 60) rfl (by decide) rfl ?_
          refine ev_inV2 f_X12_aCase (nx := 71) (lo2 := [(0, .ref 69), (1, .int 60)]) rfl rfl rfl rfl f_X12_isSign (hI.wf.s rfl) rfl rfl rfl rfl rfl ?_
          refine ev_loc f_X12_isSign (nx := 1) rfl rfl rfl rfl ?_
          refine ev_gvI f_X12_isSign (nx := 4) (w := (gi63 69 12)) rfl (hI.wf.s rfl) rfl rfl rfl rfl ?_
          refine ev_ic f_X12_isSign (nx := 5) (v := 4) rfl (by decide) rfl ?_
          refine ev_if f_X12_isSign (t1 := 8) (t2 := 20) rfl rfl rfl (fun h104 => ?_) (fun h104 => ?_)
          · have l105 : 4 ≤ (gi63 69 12).toInt := t_eql h104 (by decide : (4:Int) ≤ (4:Int32).toInt)
            refine ev_loc f_X12_isSign (nx := 9) rfl rfl rfl rfl ?_
            refine ev_gvI f_X12_isSign (nx := 12) (w := (gi63 69 15)) rfl (hI.wf.s rfl) rfl rfl rfl rfl ?_
            refine ev_loc f_X12_isSign (nx := 13) rfl rfl rfl rfl ?_
            refine ev_if f_X12_isSign (t1 := 16) (t2 := 20) rfl rfl rfl (fun h106 => ?_) (fun h106 => ?_)
            · have u107 : (gi63 69 15).toInt ≤ 60 := t_equ h106 (by decide : (60:Int32).toInt ≤ (60:Int))
              have l108 : 60 ≤ (gi63 69 15).toInt := t_eql h106 (by decide : (60:Int) ≤ (60:Int32).toInt)
              refine ev_ic f_X12_isSign (nx := 17) (v := 1) rfl (by decide) rfl ?_
              refine ev_jmp f_X12_isSign (nx := 21) rfl rfl rfl ?_
              refine ev_retK1 f_X12_isSign rfl rfl rfl ?_
              refine ev_f f_X12_aCase (t1 := 74) (t2 := 98) rfl rfl rfl (by decide) ?_
              refine ev_loc f_X12_aCase (nx := 99) rfl rfl rfl rfl ?_
              refine ev_bp f_X12_aCase (nx := 101) (v := 60) rfl (by decide) rfl ?_
              refine ev_inV2 f_X12_aCase (nx := 104) (lo2 := [(0, .ref 69), (1, .int 60)]) rfl rfl rfl rfl f_X12_isSign (hI.wf.s rfl) rfl rfl rfl rfl rfl ?_
              refine ev_loc f_X12_isSign (nx := 1) rfl rfl rfl rfl ?_
              refine ev_gvI f_X12_isSign (nx := 4) (w := (gi63 69 12)) rfl (hI.wf.s rfl) rfl rfl rfl rfl ?_
              refine ev_ic f_X12_isSign (nx := 5) (v := 4) rfl (by decide) rfl ?_
              refine ev_t f_X12_isSign (t1 := 8) (t2 := 20) rfl rfl rfl (t_eqT u65 l105 (by decide : (4:Int32).toInt ≤ (4:Int)) (by decide : (4:Int) ≤ (4:Int32).toInt)) ?_
              refine ev_loc f_X12_isSign (nx := 9) rfl rfl rfl rfl ?_
              refine ev_gvI f_X12_isSign (nx := 12) (w := (gi63 69 15)) rfl (hI.wf.s rfl) rfl rfl rfl rfl ?_
              refine ev_loc f_X12_isSign (nx := 13) rfl rfl rfl rfl ?_
              refine ev_t f_X12_isSign (t1 := 16) (t2 := 20) rfl rfl rfl (t_eqT u107 l108 (by decide : (60:Int32).toInt ≤ (60:Int)) (by decide : (60:Int) ≤ (60:Int32).toInt)) ?_
              refine ev_ic f_X12_isSign (nx := 17) (v := 1) rfl (by decide) rfl ?_
              refine ev_jmp f_X12_isSign (nx := 21) rfl rfl rfl ?_
              refine ev_retK1 f_X12_isSign rfl rfl rfl ?_
              refine ev_f f_X12_aCase (t1 := 111) (t2 := 107) rfl rfl rfl (by decide) ?_
              refine ev_ic f_X12_aCase (nx := 108) (v := 0) rfl (by decide) rfl ?_
              refine ev_jmp f_X12_aCase (nx := 125) rfl rfl rfl ?_
              refine ev_loc f_X12_aCase (nx := 126) (lo' := [(2, .int 0), (0, .ref 69), (1, .int ar1)]) rfl rfl rfl rfl ?_
              refine ev_loc f_X12_aCase (nx := 127) rfl rfl rfl rfl ?_
              refine ev_qN f_X12_aCase (nx := 130) (r := []) rfl rfl rfl rfl rfl rfl rfl (c_m_ahead2 hI ) rfl hX rfl (fun gi109 gl109 gr109 hI hX hC109 q109 => ?_)
              have q109 : (gi63 69 14).toInt ≤ (gi109 69 14).toInt ∧ ((gi109 69 12).toInt ≠ 0 → (gi63 69 14).toInt < (gi109 69 14).toInt) ∧ ((gi109 69 12).toInt = 3 → 0 ≤ (gi109 69 15).toInt) := q109
              obtain ⟨l110, u110⟩ := hI.b (hI.wf.s (k := 69) rfl) (t_bdK rfl : t_bd 11 12 = some (0, 4))
              obtain ⟨l111, u111⟩ := hI.b (hI.wf.s (k := 69) rfl) (t_bdK rfl : t_bd 11 14 = some (0, 900))
              refine ev_loc f_X12_aCase (nx := 131) rfl rfl rfl rfl ?_
              refine ev_gvI f_X12_aCase (nx := 134) (w := (gi109 69 12)) rfl (hI.wf.s rfl) rfl rfl rfl rfl ?_
              refine ev_ic f_X12_aCase (nx := 135) (v := 3) rfl (by decide) rfl ?_
              refine ev_if f_X12_aCase (t1 := 144) (t2 := 138) rfl rfl rfl (fun h113 => ?_) (fun h113 => ?_)
              · have u114 : (gi109 69 12).toInt ≤ 3 := t_equ h113 (by decide : (3:Int32).toInt ≤ (3:Int))
                have l115 : 3 ≤ (gi109 69 12).toInt := t_eql h113 (by decide : (3:Int) ≤ (3:Int32).toInt)
                refine ev_loc f_X12_aCase (nx := 145) rfl rfl rfl rfl ?_
                refine ev_gvI f_X12_aCase (nx := 148) (w := (gi109 69 15)) rfl (hI.wf.s rfl) rfl rfl rfl rfl ?_
                refine ev_sp f_X12_aCase (nx := 151) (v := 300) rfl (by decide) rfl ?_
                refine ev_if f_X12_aCase (t1 := 160) (t2 := 154) rfl rfl rfl (fun h116 => ?_) (fun h116 => ?_)
                · have u117 : (gi109 69 15).toInt ≤ 300 := t_leu h116 (by decide : (300:Int32).toInt ≤ (300:Int))
                  have l118 : (0:Int) ≤ (gi109 69 15).toInt := by omega
                  refine ev_loc f_X12_aCase (nx := 161) rfl rfl rfl rfl ?_
                  refine ev_ldI f_X12_aCase (nx := 163) (v := 100000) rfl (by decide) rfl ?_
                  refine ev_loc f_X12_aCase (nx := 164) rfl rfl rfl rfl ?_
                  refine ev_mulL f_X12_aCase (nx := 165) (c := 100000) (l := 1700000) (u := 2600000) rfl (by decide) (by decide) l103 u_a1 rfl rfl (by decide) (by decide) rfl (fun z119 e119 l119 u119 => ?_)
                  refine ev_sp f_X12_aCase (nx := 168) (v := 1000) rfl (by decide) rfl ?_
                  refine ev_loc f_X12_aCase (nx := 169) rfl rfl rfl rfl ?_
                  refine ev_aluvI f_X12_aCase (nx := 170) (w := 0) rfl rfl rfl (by decide) rfl ?_
                  refine ev_addC f_X12_aCase (nx := 171) (c := 0) (l := 1700000) (u := 2600000) rfl (by decide) l119 u119 rfl rfl (by decide) (by decide) rfl (fun z120 e120 l120 u120 => ?_)
                  refine ev_loc f_X12_aCase (nx := 172) rfl rfl rfl rfl ?_
                  refine ev_gvI f_X12_aCase (nx := 175) (w := (gi109 69 15)) rfl (hI.wf.s rfl) rfl rfl rfl rfl ?_
                  refine ev_addR f_X12_aCase (nx := 176) (l := 1700000) (u := 2600300) rfl l120 u120 l118 u117 rfl rfl (by decide) (by decide) rfl (fun z121 e121 l121 u121 => ?_)
                  refine ev_inV2 f_X12_aCase (nx := 179) (lo2 := [(0, .ref 69), (1, .int z121)]) rfl rfl rfl rfl f_X12_asksAlso (hI.wf.s rfl) rfl rfl rfl rfl rfl ?_
                  have kn122 := t_K_num e_p0
                  refine ev_loc f_X12_asksAlso (nx := 1) rfl rfl rfl rfl ?_
                  refine ev_getR f_X12_asksAlso (nx := 4) rfl (hI.wf.s rfl) rfl rfl (hI.wf.r rfl) rfl rfl ?_
                  refine ev_sp f_X12_asksAlso (nx := 7) (v := 1540) rfl (by decide) rfl ?_
                  refine ev_loc f_X12_asksAlso (nx := 8) rfl rfl rfl rfl ?_
                  refine ev_gvI f_X12_asksAlso (nx := 11) (w := (gi 69 25)) rfl (hI.wf.s rfl) rfl rfl ((hC109.1 69 25 rfl).1.trans ((hC63.1 69 25 rfl).1.trans ((by rw [e62]; exact x_up2_off (Or.inr (by decide)) : g62 69 25 = gi 69 25).trans rfl))) rfl ?_
                  refine ev_addK f_X12_asksAlso (nx := 12) (c := 1540) (l := 1540) (u := 1750) rfl (by decide) l8 u8 rfl rfl (by decide) (by decide) rfl (fun z123 e123 l123 u123 => ?_)
                  refine ev_loc f_X12_asksAlso (nx := 13) rfl rfl rfl rfl ?_
                  refine ev_iastT f_X12_asksAlso (nx := 14) rfl (hI.wf.s rfl) l123 (by decide) u123 (by decide) rfl (hI.astL (hI.wf.s rfl) (by decide +kernel : t_abw 70 1540 1750 1700000 2600300 = true) (t_cl1 l123 (by decide)) (t_cl2 l123 u123 (by decide) (by decide)) l121 u121 rfl) (hX.upI (t_inR (p := 1540) (m := 1750) rfl l123 (by decide) u123 (by decide) (by decide))) (fun g124 e124 hI hX => ?_)
                  refine ev_loc f_X12_asksAlso (nx := 15) rfl rfl rfl rfl ?_
                  refine ev_alu f_X12_asksAlso (nx := 16) rfl rfl rfl rfl ?_
                  refine ev_gvI f_X12_asksAlso (nx := 19) (w := (gi 69 25)) rfl (hI.wf.s rfl) rfl rfl ((by rw [e124]; exact x_up2_off (Or.inl (by decide)) : g124 69 25 = gi109 69 25).trans ((hC109.1 69 25 rfl).1.trans ((hC63.1 69 25 rfl).1.trans ((by rw [e62]; exact x_up2_off (Or.inr (by decide)) : g62 69 25 = gi 69 25).trans rfl)))) rfl ?_
                  refine ev_ic f_X12_asksAlso (nx := 20) (v := 1) rfl (by decide) rfl ?_
                  refine ev_addC f_X12_asksAlso (nx := 21) (c := 1) (l := 1) (u := 211) rfl (by decide) l8 u8 rfl rfl (by decide) (by decide) rfl (fun z125 e125 l125 u125 => ?_)
                  have u127 : z125.toInt ≤ (210:Int) := (by omega)
                  refine ev_putIT f_X12_asksAlso (nx := 24) rfl (hI.wf.s rfl) rfl rfl rfl (hI.putB (hI.wf.s rfl) rfl rfl l125 (by decide) u127 (by decide)) (hX.upI rfl) (fun g126 e126 hI hX => ?_)
                  refine ev_retK0 f_X12_asksAlso rfl rfl rfl ?_
                  refine ev_loc f_X12_aCase (nx := 180) rfl rfl rfl rfl ?_
                  refine ev_qN f_X12_aCase (nx := 183) (r := []) rfl rfl rfl rfl rfl rfl rfl (c_m_ahead2 hI ) rfl hX rfl (fun gi128 gl128 gr128 hI hX hC128 q128 => ?_)
                  have ff129 : (g126 69 14).toInt = (gi109 69 14).toInt := congrArg Int32.toInt ((by rw [e126]; exact x_up2_off (Or.inr (by decide)) : g126 69 14 = g124 69 14).trans ((by rw [e124]; exact x_up2_off (Or.inl (by decide)) : g124 69 14 = gi109 69 14).trans rfl))
                  have q128 : (g126 69 14).toInt ≤ (gi128 69 14).toInt ∧ ((gi128 69 12).toInt ≠ 0 → (g126 69 14).toInt < (gi128 69 14).toInt) ∧ ((gi128 69 12).toInt = 3 → 0 ≤ (gi128 69 15).toInt) := q128
                  obtain ⟨l130, u130⟩ := hI.b (hI.wf.s (k := 69) rfl) (t_bdK rfl : t_bd 11 12 = some (0, 4))
                  obtain ⟨l131, u131⟩ := hI.b (hI.wf.s (k := 69) rfl) (t_bdK rfl : t_bd 11 14 = some (0, 900))
                  refine ev_ic f_X12_aCase (nx := 184) (v := 1) rfl (by decide) rfl ?_
                  exact ev_ret f_X12_aCase rfl rfl rfl ⟨_, _, _, rfl, hI, hX, ⟨_, rfl, (Int.le_trans (by decide : (0:Int) ≤ 1) (by decide : (1:Int) ≤ (1:Int32).toInt)), (by decide : (1:Int32).toInt ≤ (1:Int)), (show (gi 69 14).toInt ≤ (gi128 69 14).toInt ∧ (1 = 1 → (gi128 69 12).toInt ≠ 0 → (gi 69 14).toInt < (gi128 69 14).toInt) ∧ (1 = 0 → (gi128 69 18).toInt ≠ 0) ∧ (1 = 1 → t_K b gi128 1) from ⟨(by omega), (by omega), (by have ff137 : (gi128 69 18).toInt = (gi 69 18).toInt := congrArg Int32.toInt ((hC128.1 69 18 rfl).1.trans ((by rw [e126]; exact x_up2_off (Or.inr (by decide)) : g126 69 18 = g124 69 18).trans ((by rw [e124]; exact x_up2_off (Or.inl (by decide)) : g124 69 18 = gi109 69 18).trans ((hC109.1 69 18 rfl).1.trans ((hC63.1 69 18 rfl).1.trans ((by rw [e62]; exact x_up2_off (Or.inr (by decide)) : g62 69 18 = gi 69 18).trans rfl)))))); omega), fun _ => (by have ho := (t_one (p := 1540 + (gi 69 25).toInt.toNat) ((funext (fun j => (hC109.1 70 j rfl).1) : gi109 70 = gi63 70).trans ((funext (fun j => (hC63.1 70 j rfl).1) : gi63 70 = g62 70).trans ((by rw [e62]; exact x_up2_ne (by decide) : g62 70 = gi 70)))) e124 ((funext (fun j => (hC128.1 70 j rfl).1) : gi128 70 = g126 70).trans ((by rw [e126]; exact x_up2_ne (by decide) : g126 70 = g124 70))) (by have hc := t_clamp (i := z123) (by omega); omega)); exact t_K_case e_p0 (by omega) (by omega) (by omega) (by omega) (show (gi128 69 22).toInt = (gi 69 22).toInt from (by have ff133 : (gi128 69 22).toInt = (gi 69 22).toInt := congrArg Int32.toInt ((hC128.1 69 22 rfl).1.trans ((by rw [e126]; exact x_up2_off (Or.inr (by decide)) : g126 69 22 = g124 69 22).trans ((by rw [e124]; exact x_up2_off (Or.inl (by decide)) : g124 69 22 = gi109 69 22).trans ((hC109.1 69 22 rfl).1.trans ((hC63.1 69 22 rfl).1.trans ((by rw [e62]; exact x_up2_off (Or.inr (by decide)) : g62 69 22 = gi 69 22).trans rfl)))))); omega)) (show (gi128 69 23).toInt = (gi 69 23).toInt from (by have ff134 : (gi128 69 23).toInt = (gi 69 23).toInt := congrArg Int32.toInt ((hC128.1 69 23 rfl).1.trans ((by rw [e126]; exact x_up2_off (Or.inr (by decide)) : g126 69 23 = g124 69 23).trans ((by rw [e124]; exact x_up2_off (Or.inl (by decide)) : g124 69 23 = gi109 69 23).trans ((hC109.1 69 23 rfl).1.trans ((hC63.1 69 23 rfl).1.trans ((by rw [e62]; exact x_up2_off (Or.inr (by decide)) : g62 69 23 = gi 69 23).trans rfl)))))); omega)) (show (gi128 69 24).toInt = (gi 69 24).toInt + 1 from (by have ff135 : (gi128 69 24).toInt = z61.toInt := congrArg Int32.toInt ((hC128.1 69 24 rfl).1.trans ((by rw [e126]; exact x_up2_off (Or.inr (by decide)) : g126 69 24 = g124 69 24).trans ((by rw [e124]; exact x_up2_off (Or.inl (by decide)) : g124 69 24 = gi109 69 24).trans ((hC109.1 69 24 rfl).1.trans ((hC63.1 69 24 rfl).1.trans (by rw [e62]; exact x_up2_at _ _ _ _ : g62 69 24 = z61)))))); omega)) (show (gi128 69 25).toInt = (gi 69 25).toInt + 1 from (by have ff136 : (gi128 69 25).toInt = z125.toInt := congrArg Int32.toInt ((hC128.1 69 25 rfl).1.trans (by rw [e126]; exact x_up2_at _ _ _ _ : g126 69 25 = z125)); omega)) ((funext (fun j => (hC128.1 77 j rfl).1) : gi128 77 = g126 77).trans ((by rw [e126]; exact x_up2_ne (by decide) : g126 77 = g124 77).trans ((by rw [e124]; exact x_up2_ne (by decide) : g124 77 = gi109 77).trans ((funext (fun j => (hC109.1 77 j rfl).1) : gi109 77 = gi63 77).trans ((funext (fun j => (hC63.1 77 j rfl).1) : gi63 77 = g62 77).trans ((by rw [e62]; exact x_up2_ne (by decide) : g62 77 = gi 77))))))) ho.1 ho.2)⟩)⟩⟩
                · have l138 : 301 ≤ (gi109 69 15).toInt := t_ltl (t_nle h116) (by decide : (300:Int) ≤ (300:Int32).toInt) rfl
                  refine ev_loc f_X12_aCase (nx := 155) rfl rfl rfl rfl ?_
                  refine ev_ic f_X12_aCase (nx := 156) (v := 4) rfl (by decide) rfl ?_
                  refine ev_inV2 f_X12_aCase (nx := 159) (lo2 := [(0, .ref 69), (1, .int 4)]) rfl rfl rfl rfl f_X12_fails (hI.wf.s rfl) rfl rfl rfl rfl rfl ?_
                  refine ev_loc f_X12_fails (nx := 1) rfl rfl rfl rfl ?_
                  refine ev_gvI f_X12_fails (nx := 4) (w := (gi 69 18)) rfl (hI.wf.s rfl) rfl rfl ((hC109.1 69 18 rfl).1.trans ((hC63.1 69 18 rfl).1.trans ((by rw [e62]; exact x_up2_off (Or.inr (by decide)) : g62 69 18 = gi 69 18).trans rfl))) rfl ?_
                  refine ev_if f_X12_fails (t1 := 7) (t2 := 32) rfl rfl rfl (fun h139 => ?_) (fun h139 => ?_)
                  · have u140 : (gi 69 18).toInt ≤ 0 := t_equ h139 (by decide : (0:Int32).toInt ≤ (0:Int))
                    have l141 : 0 ≤ (gi 69 18).toInt := t_eql h139 (by decide : (0:Int) ≤ (0:Int32).toInt)
                    refine ev_loc f_X12_fails (nx := 8) rfl rfl rfl rfl ?_
                    refine ev_loc f_X12_fails (nx := 9) rfl rfl rfl rfl ?_
                    refine ev_gvI f_X12_fails (nx := 12) (w := (gi109 69 12)) rfl (hI.wf.s rfl) rfl rfl rfl rfl ?_
                    refine ev_ic f_X12_fails (nx := 13) (v := 1) rfl (by decide) rfl ?_
                    refine ev_f f_X12_fails (t1 := 16) (t2 := 20) rfl rfl rfl (t_neT' (by decide : (1:Int32).toInt ≤ (1:Int)) l115 (by decide)) ?_
                    refine ev_loc f_X12_fails (nx := 21) rfl rfl rfl rfl ?_
                    refine ev_putIT f_X12_fails (nx := 24) rfl (hI.wf.s rfl) rfl rfl rfl (hI.put0 (hI.wf.s rfl) rfl rfl) (hX.upI rfl) (fun g142 e142 hI hX => ?_)
                    refine ev_loc f_X12_fails (nx := 25) rfl rfl rfl rfl ?_
                    refine ev_loc f_X12_fails (nx := 26) rfl rfl rfl rfl ?_
                    refine ev_getI f_X12_fails (nx := 29) rfl (hI.wf.s rfl) rfl rfl rfl ?_
                    obtain ⟨l143, u143⟩ := hI.b (hI.wf.s (k := 69) rfl) (t_bdK rfl : t_bd 11 13 = some (0, 900))
                    refine ev_putIT f_X12_fails (nx := 32) rfl (hI.wf.s rfl) rfl rfl rfl (hI.put0 (hI.wf.s rfl) rfl rfl) (hX.upI rfl) (fun g144 e144 hI hX => ?_)
                    refine ev_ic f_X12_fails (nx := 33) (v := 0) rfl (by decide) rfl ?_
                    refine ev_retK1 f_X12_fails rfl rfl rfl ?_
                    exact ev_ret f_X12_aCase rfl rfl rfl ⟨_, _, _, rfl, hI, hX, ⟨_, rfl, (by decide : (0:Int) ≤ (0:Int32).toInt), (Int.le_trans (by decide : (0:Int32).toInt ≤ (0:Int)) (by decide : (0:Int) ≤ 1)), (show (gi 69 14).toInt ≤ (g144 69 14).toInt ∧ (0 = 1 → (g144 69 12).toInt ≠ 0 → (gi 69 14).toInt < (g144 69 14).toInt) ∧ (0 = 0 → (g144 69 18).toInt ≠ 0) ∧ (0 = 1 → t_K b g144 1) from ⟨(by have ff145 : (g144 69 14).toInt = (gi109 69 14).toInt := congrArg Int32.toInt ((by rw [e144]; exact x_up2_off (Or.inr (by decide)) : g144 69 14 = g142 69 14).trans ((by rw [e142]; exact x_up2_off (Or.inr (by decide)) : g142 69 14 = gi109 69 14).trans rfl)); omega), (by have ff146 : (g144 69 12).toInt = (gi109 69 12).toInt := congrArg Int32.toInt ((by rw [e144]; exact x_up2_off (Or.inr (by decide)) : g144 69 12 = g142 69 12).trans ((by rw [e142]; exact x_up2_off (Or.inr (by decide)) : g142 69 12 = gi109 69 12).trans rfl)); have ff147 : (g144 69 14).toInt = (gi109 69 14).toInt := congrArg Int32.toInt ((by rw [e144]; exact x_up2_off (Or.inr (by decide)) : g144 69 14 = g142 69 14).trans ((by rw [e142]; exact x_up2_off (Or.inr (by decide)) : g142 69 14 = gi109 69 14).trans rfl)); omega), (by have ff148 : (g144 69 18).toInt = 4 := (congrArg Int32.toInt ((by rw [e144]; exact x_up2_off (Or.inr (by decide)) : g144 69 18 = g142 69 18).trans (by rw [e142]; exact x_up2_at _ _ _ _ : g142 69 18 = 4))).trans (by decide); omega), fun h => absurd h (by decide)⟩)⟩⟩
                  · have r149 : (gi 69 18).toInt ≠ 0 := fun e => h139 (Int32.toInt_inj.mp (e.trans (by decide : (0:Int) = (0 : Int32).toInt)))
                    refine ev_ic f_X12_fails (nx := 33) (v := 0) rfl (by decide) rfl ?_
                    refine ev_retK1 f_X12_fails rfl rfl rfl ?_
                    exact ev_ret f_X12_aCase rfl rfl rfl ⟨_, _, _, rfl, hI, hX, ⟨_, rfl, (by decide : (0:Int) ≤ (0:Int32).toInt), (Int.le_trans (by decide : (0:Int32).toInt ≤ (0:Int)) (by decide : (0:Int) ≤ 1)), (show (gi 69 14).toInt ≤ (gi109 69 14).toInt ∧ (0 = 1 → (gi109 69 12).toInt ≠ 0 → (gi 69 14).toInt < (gi109 69 14).toInt) ∧ (0 = 0 → (gi109 69 18).toInt ≠ 0) ∧ (0 = 1 → t_K b gi109 1) from ⟨(by omega), (by omega), (by have ff150 : (gi109 69 18).toInt = (gi 69 18).toInt := congrArg Int32.toInt ((hC109.1 69 18 rfl).1.trans ((hC63.1 69 18 rfl).1.trans ((by rw [e62]; exact x_up2_off (Or.inr (by decide)) : g62 69 18 = gi 69 18).trans rfl))); omega), fun h => absurd h (by decide)⟩)⟩⟩
              · have r151 : (gi109 69 12).toInt ≠ 3 := fun e => h113 (Int32.toInt_inj.mp (e.trans (by decide : (3:Int) = (3 : Int32).toInt)))
                refine ev_loc f_X12_aCase (nx := 139) rfl rfl rfl rfl ?_
                refine ev_ic f_X12_aCase (nx := 140) (v := 2) rfl (by decide) rfl ?_
                refine ev_inV2 f_X12_aCase (nx := 143) (lo2 := [(0, .ref 69), (1, .int 2)]) rfl rfl rfl rfl f_X12_fails (hI.wf.s rfl) rfl rfl rfl rfl rfl ?_
                refine ev_loc f_X12_fails (nx := 1) rfl rfl rfl rfl ?_
                refine ev_gvI f_X12_fails (nx := 4) (w := (gi 69 18)) rfl (hI.wf.s rfl) rfl rfl ((hC109.1 69 18 rfl).1.trans ((hC63.1 69 18 rfl).1.trans ((by rw [e62]; exact x_up2_off (Or.inr (by decide)) : g62 69 18 = gi 69 18).trans rfl))) rfl ?_
                refine ev_if f_X12_fails (t1 := 7) (t2 := 32) rfl rfl rfl (fun h152 => ?_) (fun h152 => ?_)
                · have u153 : (gi 69 18).toInt ≤ 0 := t_equ h152 (by decide : (0:Int32).toInt ≤ (0:Int))
                  have l154 : 0 ≤ (gi 69 18).toInt := t_eql h152 (by decide : (0:Int) ≤ (0:Int32).toInt)
                  refine ev_loc f_X12_fails (nx := 8) rfl rfl rfl rfl ?_
                  refine ev_loc f_X12_fails (nx := 9) rfl rfl rfl rfl ?_
                  refine ev_gvI f_X12_fails (nx := 12) (w := (gi109 69 12)) rfl (hI.wf.s rfl) rfl rfl rfl rfl ?_
                  refine ev_ic f_X12_fails (nx := 13) (v := 1) rfl (by decide) rfl ?_
                  refine ev_if f_X12_fails (t1 := 16) (t2 := 20) rfl rfl rfl (fun h155 => ?_) (fun h155 => ?_)
                  · have u156 : (gi109 69 12).toInt ≤ 1 := t_equ h155 (by decide : (1:Int32).toInt ≤ (1:Int))
                    have l157 : 1 ≤ (gi109 69 12).toInt := t_eql h155 (by decide : (1:Int) ≤ (1:Int32).toInt)
                    refine ev_ic f_X12_fails (nx := 17) (v := 1) rfl (by decide) rfl ?_
                    refine ev_jmp f_X12_fails (nx := 21) rfl rfl rfl ?_
                    refine ev_putIT f_X12_fails (nx := 24) rfl (hI.wf.s rfl) rfl rfl rfl (hI.put0 (hI.wf.s rfl) rfl rfl) (hX.upI rfl) (fun g158 e158 hI hX => ?_)
                    refine ev_loc f_X12_fails (nx := 25) rfl rfl rfl rfl ?_
                    refine ev_loc f_X12_fails (nx := 26) rfl rfl rfl rfl ?_
                    refine ev_getI f_X12_fails (nx := 29) rfl (hI.wf.s rfl) rfl rfl rfl ?_
                    obtain ⟨l159, u159⟩ := hI.b (hI.wf.s (k := 69) rfl) (t_bdK rfl : t_bd 11 13 = some (0, 900))
                    refine ev_putIT f_X12_fails (nx := 32) rfl (hI.wf.s rfl) rfl rfl rfl (hI.put0 (hI.wf.s rfl) rfl rfl) (hX.upI rfl) (fun g160 e160 hI hX => ?_)
                    refine ev_ic f_X12_fails (nx := 33) (v := 0) rfl (by decide) rfl ?_
                    refine ev_retK1 f_X12_fails rfl rfl rfl ?_
                    exact ev_ret f_X12_aCase rfl rfl rfl ⟨_, _, _, rfl, hI, hX, ⟨_, rfl, (by decide : (0:Int) ≤ (0:Int32).toInt), (Int.le_trans (by decide : (0:Int32).toInt ≤ (0:Int)) (by decide : (0:Int) ≤ 1)), (show (gi 69 14).toInt ≤ (g160 69 14).toInt ∧ (0 = 1 → (g160 69 12).toInt ≠ 0 → (gi 69 14).toInt < (g160 69 14).toInt) ∧ (0 = 0 → (g160 69 18).toInt ≠ 0) ∧ (0 = 1 → t_K b g160 1) from ⟨(by have ff161 : (g160 69 14).toInt = (gi109 69 14).toInt := congrArg Int32.toInt ((by rw [e160]; exact x_up2_off (Or.inr (by decide)) : g160 69 14 = g158 69 14).trans ((by rw [e158]; exact x_up2_off (Or.inr (by decide)) : g158 69 14 = gi109 69 14).trans rfl)); omega), (by have ff162 : (g160 69 12).toInt = (gi109 69 12).toInt := congrArg Int32.toInt ((by rw [e160]; exact x_up2_off (Or.inr (by decide)) : g160 69 12 = g158 69 12).trans ((by rw [e158]; exact x_up2_off (Or.inr (by decide)) : g158 69 12 = gi109 69 12).trans rfl)); have ff163 : (g160 69 14).toInt = (gi109 69 14).toInt := congrArg Int32.toInt ((by rw [e160]; exact x_up2_off (Or.inr (by decide)) : g160 69 14 = g158 69 14).trans ((by rw [e158]; exact x_up2_off (Or.inr (by decide)) : g158 69 14 = gi109 69 14).trans rfl)); omega), (by have ff164 : (g160 69 18).toInt = 1 := (congrArg Int32.toInt ((by rw [e160]; exact x_up2_off (Or.inr (by decide)) : g160 69 18 = g158 69 18).trans (by rw [e158]; exact x_up2_at _ _ _ _ : g158 69 18 = 1))).trans (by decide); omega), fun h => absurd h (by decide)⟩)⟩⟩
                  · have r165 : (gi109 69 12).toInt ≠ 1 := fun e => h155 (Int32.toInt_inj.mp (e.trans (by decide : (1:Int) = (1 : Int32).toInt)))
                    refine ev_loc f_X12_fails (nx := 21) rfl rfl rfl rfl ?_
                    refine ev_putIT f_X12_fails (nx := 24) rfl (hI.wf.s rfl) rfl rfl rfl (hI.put0 (hI.wf.s rfl) rfl rfl) (hX.upI rfl) (fun g166 e166 hI hX => ?_)
                    refine ev_loc f_X12_fails (nx := 25) rfl rfl rfl rfl ?_
                    refine ev_loc f_X12_fails (nx := 26) rfl rfl rfl rfl ?_
                    refine ev_getI f_X12_fails (nx := 29) rfl (hI.wf.s rfl) rfl rfl rfl ?_
                    obtain ⟨l167, u167⟩ := hI.b (hI.wf.s (k := 69) rfl) (t_bdK rfl : t_bd 11 13 = some (0, 900))
                    refine ev_putIT f_X12_fails (nx := 32) rfl (hI.wf.s rfl) rfl rfl rfl (hI.put0 (hI.wf.s rfl) rfl rfl) (hX.upI rfl) (fun g168 e168 hI hX => ?_)
                    refine ev_ic f_X12_fails (nx := 33) (v := 0) rfl (by decide) rfl ?_
                    refine ev_retK1 f_X12_fails rfl rfl rfl ?_
                    exact ev_ret f_X12_aCase rfl rfl rfl ⟨_, _, _, rfl, hI, hX, ⟨_, rfl, (by decide : (0:Int) ≤ (0:Int32).toInt), (Int.le_trans (by decide : (0:Int32).toInt ≤ (0:Int)) (by decide : (0:Int) ≤ 1)), (show (gi 69 14).toInt ≤ (g168 69 14).toInt ∧ (0 = 1 → (g168 69 12).toInt ≠ 0 → (gi 69 14).toInt < (g168 69 14).toInt) ∧ (0 = 0 → (g168 69 18).toInt ≠ 0) ∧ (0 = 1 → t_K b g168 1) from ⟨(by have ff169 : (g168 69 14).toInt = (gi109 69 14).toInt := congrArg Int32.toInt ((by rw [e168]; exact x_up2_off (Or.inr (by decide)) : g168 69 14 = g166 69 14).trans ((by rw [e166]; exact x_up2_off (Or.inr (by decide)) : g166 69 14 = gi109 69 14).trans rfl)); omega), (by have ff170 : (g168 69 12).toInt = (gi109 69 12).toInt := congrArg Int32.toInt ((by rw [e168]; exact x_up2_off (Or.inr (by decide)) : g168 69 12 = g166 69 12).trans ((by rw [e166]; exact x_up2_off (Or.inr (by decide)) : g166 69 12 = gi109 69 12).trans rfl)); have ff171 : (g168 69 14).toInt = (gi109 69 14).toInt := congrArg Int32.toInt ((by rw [e168]; exact x_up2_off (Or.inr (by decide)) : g168 69 14 = g166 69 14).trans ((by rw [e166]; exact x_up2_off (Or.inr (by decide)) : g166 69 14 = gi109 69 14).trans rfl)); omega), (by have ff172 : (g168 69 18).toInt = 2 := (congrArg Int32.toInt ((by rw [e168]; exact x_up2_off (Or.inr (by decide)) : g168 69 18 = g166 69 18).trans (by rw [e166]; exact x_up2_at _ _ _ _ : g166 69 18 = 2))).trans (by decide); omega), fun h => absurd h (by decide)⟩)⟩⟩
                · have r173 : (gi 69 18).toInt ≠ 0 := fun e => h152 (Int32.toInt_inj.mp (e.trans (by decide : (0:Int) = (0 : Int32).toInt)))
                  refine ev_ic f_X12_fails (nx := 33) (v := 0) rfl (by decide) rfl ?_
                  refine ev_retK1 f_X12_fails rfl rfl rfl ?_
                  exact ev_ret f_X12_aCase rfl rfl rfl ⟨_, _, _, rfl, hI, hX, ⟨_, rfl, (by decide : (0:Int) ≤ (0:Int32).toInt), (Int.le_trans (by decide : (0:Int32).toInt ≤ (0:Int)) (by decide : (0:Int) ≤ 1)), (show (gi 69 14).toInt ≤ (gi109 69 14).toInt ∧ (0 = 1 → (gi109 69 12).toInt ≠ 0 → (gi 69 14).toInt < (gi109 69 14).toInt) ∧ (0 = 0 → (gi109 69 18).toInt ≠ 0) ∧ (0 = 1 → t_K b gi109 1) from ⟨(by omega), (by omega), (by have ff174 : (gi109 69 18).toInt = (gi 69 18).toInt := congrArg Int32.toInt ((hC109.1 69 18 rfl).1.trans ((hC63.1 69 18 rfl).1.trans ((by rw [e62]; exact x_up2_off (Or.inr (by decide)) : g62 69 18 = gi 69 18).trans rfl))); omega), fun h => absurd h (by decide)⟩)⟩⟩
            · have r175 : (gi63 69 15).toInt ≠ 60 := fun e => h106 (Int32.toInt_inj.mp (e.trans (by decide : (60:Int) = (60 : Int32).toInt)))
              refine ev_ic f_X12_isSign (nx := 21) (v := 0) rfl (by decide) rfl ?_
              refine ev_retK1 f_X12_isSign rfl rfl rfl ?_
              refine ev_t f_X12_aCase (t1 := 74) (t2 := 98) rfl rfl rfl (by decide) ?_
              refine ev_loc f_X12_aCase (nx := 75) rfl rfl rfl rfl ?_
              refine ev_bp f_X12_aCase (nx := 77) (v := 62) rfl (by decide) rfl ?_
              refine ev_inV2 f_X12_aCase (nx := 80) (lo2 := [(0, .ref 69), (1, .int 62)]) rfl rfl rfl rfl f_X12_isSign (hI.wf.s rfl) rfl rfl rfl rfl rfl ?_
              refine ev_loc f_X12_isSign (nx := 1) rfl rfl rfl rfl ?_
              refine ev_gvI f_X12_isSign (nx := 4) (w := (gi63 69 12)) rfl (hI.wf.s rfl) rfl rfl rfl rfl ?_
              refine ev_ic f_X12_isSign (nx := 5) (v := 4) rfl (by decide) rfl ?_
              refine ev_t f_X12_isSign (t1 := 8) (t2 := 20) rfl rfl rfl (t_eqT u65 l105 (by decide : (4:Int32).toInt ≤ (4:Int)) (by decide : (4:Int) ≤ (4:Int32).toInt)) ?_
              refine ev_loc f_X12_isSign (nx := 9) rfl rfl rfl rfl ?_
              refine ev_gvI f_X12_isSign (nx := 12) (w := (gi63 69 15)) rfl (hI.wf.s rfl) rfl rfl rfl rfl ?_
              refine ev_loc f_X12_isSign (nx := 13) rfl rfl rfl rfl ?_
              refine ev_if f_X12_isSign (t1 := 16) (t2 := 20) rfl rfl rfl (fun h176 => ?_) (fun h176 => ?_)
              · have u177 : (gi63 69 15).toInt ≤ 62 := t_equ h176 (by decide : (62:Int32).toInt ≤ (62:Int))
                have l178 : 62 ≤ (gi63 69 15).toInt := t_eql h176 (by decide : (62:Int) ≤ (62:Int32).toInt)
                refine ev_ic f_X12_isSign (nx := 17) (v := 1) rfl (by decide) rfl ?_
                refine ev_jmp f_X12_isSign (nx := 21) rfl rfl rfl ?_
                refine ev_retK1 f_X12_isSign rfl rfl rfl ?_
                refine ev_f f_X12_aCase (t1 := 83) (t2 := 98) rfl rfl rfl (by decide) ?_
                refine ev_loc f_X12_aCase (nx := 99) rfl rfl rfl rfl ?_
                refine ev_bp f_X12_aCase (nx := 101) (v := 60) rfl (by decide) rfl ?_
                refine ev_inV2 f_X12_aCase (nx := 104) (lo2 := [(0, .ref 69), (1, .int 60)]) rfl rfl rfl rfl f_X12_isSign (hI.wf.s rfl) rfl rfl rfl rfl rfl ?_
                refine ev_loc f_X12_isSign (nx := 1) rfl rfl rfl rfl ?_
                refine ev_gvI f_X12_isSign (nx := 4) (w := (gi63 69 12)) rfl (hI.wf.s rfl) rfl rfl rfl rfl ?_
                refine ev_ic f_X12_isSign (nx := 5) (v := 4) rfl (by decide) rfl ?_
                refine ev_t f_X12_isSign (t1 := 8) (t2 := 20) rfl rfl rfl (t_eqT u65 l105 (by decide : (4:Int32).toInt ≤ (4:Int)) (by decide : (4:Int) ≤ (4:Int32).toInt)) ?_
                refine ev_loc f_X12_isSign (nx := 9) rfl rfl rfl rfl ?_
                refine ev_gvI f_X12_isSign (nx := 12) (w := (gi63 69 15)) rfl (hI.wf.s rfl) rfl rfl rfl rfl ?_
                refine ev_loc f_X12_isSign (nx := 13) rfl rfl rfl rfl ?_
                refine ev_f f_X12_isSign (t1 := 16) (t2 := 20) rfl rfl rfl (t_neT' (by decide : (60:Int32).toInt ≤ (60:Int)) l178 (by decide)) ?_
                refine ev_ic f_X12_isSign (nx := 21) (v := 0) rfl (by decide) rfl ?_
                refine ev_retK1 f_X12_isSign rfl rfl rfl ?_
                refine ev_t f_X12_aCase (t1 := 111) (t2 := 107) rfl rfl rfl (by decide) ?_
                refine ev_loc f_X12_aCase (nx := 112) rfl rfl rfl rfl ?_
                refine ev_bp f_X12_aCase (nx := 114) (v := 62) rfl (by decide) rfl ?_
                refine ev_inV2 f_X12_aCase (nx := 117) (lo2 := [(0, .ref 69), (1, .int 62)]) rfl rfl rfl rfl f_X12_isSign (hI.wf.s rfl) rfl rfl rfl rfl rfl ?_
                refine ev_loc f_X12_isSign (nx := 1) rfl rfl rfl rfl ?_
                refine ev_gvI f_X12_isSign (nx := 4) (w := (gi63 69 12)) rfl (hI.wf.s rfl) rfl rfl rfl rfl ?_
                refine ev_ic f_X12_isSign (nx := 5) (v := 4) rfl (by decide) rfl ?_
                refine ev_t f_X12_isSign (t1 := 8) (t2 := 20) rfl rfl rfl (t_eqT u65 l105 (by decide : (4:Int32).toInt ≤ (4:Int)) (by decide : (4:Int) ≤ (4:Int32).toInt)) ?_
                refine ev_loc f_X12_isSign (nx := 9) rfl rfl rfl rfl ?_
                refine ev_gvI f_X12_isSign (nx := 12) (w := (gi63 69 15)) rfl (hI.wf.s rfl) rfl rfl rfl rfl ?_
                refine ev_loc f_X12_isSign (nx := 13) rfl rfl rfl rfl ?_
                refine ev_t f_X12_isSign (t1 := 16) (t2 := 20) rfl rfl rfl (t_eqT u177 l178 (by decide : (62:Int32).toInt ≤ (62:Int)) (by decide : (62:Int) ≤ (62:Int32).toInt)) ?_
                refine ev_ic f_X12_isSign (nx := 17) (v := 1) rfl (by decide) rfl ?_
                refine ev_jmp f_X12_isSign (nx := 21) rfl rfl rfl ?_
                refine ev_retK1 f_X12_isSign rfl rfl rfl ?_
                refine ev_f f_X12_aCase (t1 := 124) (t2 := 120) rfl rfl rfl (by decide) ?_
                refine ev_ic f_X12_aCase (nx := 121) (v := 1) rfl (by decide) rfl ?_
                refine ev_jmp f_X12_aCase (nx := 125) rfl rfl rfl ?_
                refine ev_loc f_X12_aCase (nx := 126) (lo' := [(2, .int 1), (0, .ref 69), (1, .int ar1)]) rfl rfl rfl rfl ?_
                refine ev_loc f_X12_aCase (nx := 127) rfl rfl rfl rfl ?_
                refine ev_qN f_X12_aCase (nx := 130) (r := []) rfl rfl rfl rfl rfl rfl rfl (c_m_ahead2 hI ) rfl hX rfl (fun gi179 gl179 gr179 hI hX hC179 q179 => ?_)
                have q179 : (gi63 69 14).toInt ≤ (gi179 69 14).toInt ∧ ((gi179 69 12).toInt ≠ 0 → (gi63 69 14).toInt < (gi179 69 14).toInt) ∧ ((gi179 69 12).toInt = 3 → 0 ≤ (gi179 69 15).toInt) := q179
                obtain ⟨l180, u180⟩ := hI.b (hI.wf.s (k := 69) rfl) (t_bdK rfl : t_bd 11 12 = some (0, 4))
                obtain ⟨l181, u181⟩ := hI.b (hI.wf.s (k := 69) rfl) (t_bdK rfl : t_bd 11 14 = some (0, 900))
                refine ev_loc f_X12_aCase (nx := 131) rfl rfl rfl rfl ?_
                refine ev_gvI f_X12_aCase (nx := 134) (w := (gi179 69 12)) rfl (hI.wf.s rfl) rfl rfl rfl rfl ?_
                refine ev_ic f_X12_aCase (nx := 135) (v := 3) rfl (by decide) rfl ?_
                refine ev_if f_X12_aCase (t1 := 144) (t2 := 138) rfl rfl rfl (fun h183 => ?_) (fun h183 => ?_)
                · have u184 : (gi179 69 12).toInt ≤ 3 := t_equ h183 (by decide : (3:Int32).toInt ≤ (3:Int))
                  have l185 : 3 ≤ (gi179 69 12).toInt := t_eql h183 (by decide : (3:Int) ≤ (3:Int32).toInt)
                  refine ev_loc f_X12_aCase (nx := 145) rfl rfl rfl rfl ?_
                  refine ev_gvI f_X12_aCase (nx := 148) (w := (gi179 69 15)) rfl (hI.wf.s rfl) rfl rfl rfl rfl ?_
                  refine ev_sp f_X12_aCase (nx := 151) (v := 300) rfl (by decide) rfl ?_
                  refine ev_if f_X12_aCase (t1 := 160) (t2 := 154) rfl rfl rfl (fun h186 => ?_) (fun h186 => ?_)
                  · have u187 : (gi179 69 15).toInt ≤ 300 := t_leu h186 (by decide : (300:Int32).toInt ≤ (300:Int))
                    have l188 : (0:Int) ≤ (gi179 69 15).toInt := by omega
                    refine ev_loc f_X12_aCase (nx := 161) rfl rfl rfl rfl ?_
                    refine ev_ldI f_X12_aCase (nx := 163) (v := 100000) rfl (by decide) rfl ?_
                    refine ev_loc f_X12_aCase (nx := 164) rfl rfl rfl rfl ?_
                    refine ev_mulL f_X12_aCase (nx := 165) (c := 100000) (l := 1700000) (u := 2600000) rfl (by decide) (by decide) l103 u_a1 rfl rfl (by decide) (by decide) rfl (fun z189 e189 l189 u189 => ?_)
                    refine ev_sp f_X12_aCase (nx := 168) (v := 1000) rfl (by decide) rfl ?_
                    refine ev_loc f_X12_aCase (nx := 169) rfl rfl rfl rfl ?_
                    refine ev_aluvI f_X12_aCase (nx := 170) (w := 1000) rfl rfl rfl (by decide) rfl ?_
                    refine ev_addC f_X12_aCase (nx := 171) (c := 1000) (l := 1701000) (u := 2601000) rfl (by decide) l189 u189 rfl rfl (by decide) (by decide) rfl (fun z190 e190 l190 u190 => ?_)
                    refine ev_loc f_X12_aCase (nx := 172) rfl rfl rfl rfl ?_
                    refine ev_gvI f_X12_aCase (nx := 175) (w := (gi179 69 15)) rfl (hI.wf.s rfl) rfl rfl rfl rfl ?_
                    refine ev_addR f_X12_aCase (nx := 176) (l := 1701000) (u := 2601300) rfl l190 u190 l188 u187 rfl rfl (by decide) (by decide) rfl (fun z191 e191 l191 u191 => ?_)
                    refine ev_inV2 f_X12_aCase (nx := 179) (lo2 := [(0, .ref 69), (1, .int z191)]) rfl rfl rfl rfl f_X12_asksAlso (hI.wf.s rfl) rfl rfl rfl rfl rfl ?_
                    have kn192 := t_K_num e_p0
                    refine ev_loc f_X12_asksAlso (nx := 1) rfl rfl rfl rfl ?_
                    refine ev_getR f_X12_asksAlso (nx := 4) rfl (hI.wf.s rfl) rfl rfl (hI.wf.r rfl) rfl rfl ?_
                    refine ev_sp f_X12_asksAlso (nx := 7) (v := 1540) rfl (by decide) rfl ?_
                    refine ev_loc f_X12_asksAlso (nx := 8) rfl rfl rfl rfl ?_
                    refine ev_gvI f_X12_asksAlso (nx := 11) (w := (gi 69 25)) rfl (hI.wf.s rfl) rfl rfl ((hC179.1 69 25 rfl).1.trans ((hC63.1 69 25 rfl).1.trans ((by rw [e62]; exact x_up2_off (Or.inr (by decide)) : g62 69 25 = gi 69 25).trans rfl))) rfl ?_
                    refine ev_addK f_X12_asksAlso (nx := 12) (c := 1540) (l := 1540) (u := 1750) rfl (by decide) l8 u8 rfl rfl (by decide) (by decide) rfl (fun z193 e193 l193 u193 => ?_)
                    refine ev_loc f_X12_asksAlso (nx := 13) rfl rfl rfl rfl ?_
                    refine ev_iastT f_X12_asksAlso (nx := 14) rfl (hI.wf.s rfl) l193 (by decide) u193 (by decide) rfl (hI.astL (hI.wf.s rfl) (by decide +kernel : t_abw 70 1540 1750 1701000 2601300 = true) (t_cl1 l193 (by decide)) (t_cl2 l193 u193 (by decide) (by decide)) l191 u191 rfl) (hX.upI (t_inR (p := 1540) (m := 1750) rfl l193 (by decide) u193 (by decide) (by decide))) (fun g194 e194 hI hX => ?_)
                    refine ev_loc f_X12_asksAlso (nx := 15) rfl rfl rfl rfl ?_
                    refine ev_alu f_X12_asksAlso (nx := 16) rfl rfl rfl rfl ?_
                    refine ev_gvI f_X12_asksAlso (nx := 19) (w := (gi 69 25)) rfl (hI.wf.s rfl) rfl rfl ((by rw [e194]; exact x_up2_off (Or.inl (by decide)) : g194 69 25 = gi179 69 25).trans ((hC179.1 69 25 rfl).1.trans ((hC63.1 69 25 rfl).1.trans ((by rw [e62]; exact x_up2_off (Or.inr (by decide)) : g62 69 25 = gi 69 25).trans rfl)))) rfl ?_
                    refine ev_ic f_X12_asksAlso (nx := 20) (v := 1) rfl (by decide) rfl ?_
                    refine ev_addC f_X12_asksAlso (nx := 21) (c := 1) (l := 1) (u := 211) rfl (by decide) l8 u8 rfl rfl (by decide) (by decide) rfl (fun z195 e195 l195 u195 => ?_)
                    have u197 : z195.toInt ≤ (210:Int) := (by omega)
                    refine ev_putIT f_X12_asksAlso (nx := 24) rfl (hI.wf.s rfl) rfl rfl rfl (hI.putB (hI.wf.s rfl) rfl rfl l195 (by decide) u197 (by decide)) (hX.upI rfl) (fun g196 e196 hI hX => ?_)
                    refine ev_retK0 f_X12_asksAlso rfl rfl rfl ?_
                    refine ev_loc f_X12_aCase (nx := 180) rfl rfl rfl rfl ?_
                    refine ev_qN f_X12_aCase (nx := 183) (r := []) rfl rfl rfl rfl rfl rfl rfl (c_m_ahead2 hI ) rfl hX rfl (fun gi198 gl198 gr198 hI hX hC198 q198 => ?_)
                    have ff199 : (g196 69 14).toInt = (gi179 69 14).toInt := congrArg Int32.toInt ((by rw [e196]; exact x_up2_off (Or.inr (by decide)) : g196 69 14 = g194 69 14).trans ((by rw [e194]; exact x_up2_off (Or.inl (by decide)) : g194 69 14 = gi179 69 14).trans rfl))
                    have q198 : (g196 69 14).toInt ≤ (gi198 69 14).toInt ∧ ((gi198 69 12).toInt ≠ 0 → (g196 69 14).toInt < (gi198 69 14).toInt) ∧ ((gi198 69 12).toInt = 3 → 0 ≤ (gi198 69 15).toInt) := q198
                    obtain ⟨l200, u200⟩ := hI.b (hI.wf.s (k := 69) rfl) (t_bdK rfl : t_bd 11 12 = some (0, 4))
                    obtain ⟨l201, u201⟩ := hI.b (hI.wf.s (k := 69) rfl) (t_bdK rfl : t_bd 11 14 = some (0, 900))
                    refine ev_ic f_X12_aCase (nx := 184) (v := 1) rfl (by decide) rfl ?_
                    exact ev_ret f_X12_aCase rfl rfl rfl ⟨_, _, _, rfl, hI, hX, ⟨_, rfl, (Int.le_trans (by decide : (0:Int) ≤ 1) (by decide : (1:Int) ≤ (1:Int32).toInt)), (by decide : (1:Int32).toInt ≤ (1:Int)), (show (gi 69 14).toInt ≤ (gi198 69 14).toInt ∧ (1 = 1 → (gi198 69 12).toInt ≠ 0 → (gi 69 14).toInt < (gi198 69 14).toInt) ∧ (1 = 0 → (gi198 69 18).toInt ≠ 0) ∧ (1 = 1 → t_K b gi198 1) from ⟨(by omega), (by omega), (by have ff207 : (gi198 69 18).toInt = (gi 69 18).toInt := congrArg Int32.toInt ((hC198.1 69 18 rfl).1.trans ((by rw [e196]; exact x_up2_off (Or.inr (by decide)) : g196 69 18 = g194 69 18).trans ((by rw [e194]; exact x_up2_off (Or.inl (by decide)) : g194 69 18 = gi179 69 18).trans ((hC179.1 69 18 rfl).1.trans ((hC63.1 69 18 rfl).1.trans ((by rw [e62]; exact x_up2_off (Or.inr (by decide)) : g62 69 18 = gi 69 18).trans rfl)))))); omega), fun _ => (by have ho := (t_one (p := 1540 + (gi 69 25).toInt.toNat) ((funext (fun j => (hC179.1 70 j rfl).1) : gi179 70 = gi63 70).trans ((funext (fun j => (hC63.1 70 j rfl).1) : gi63 70 = g62 70).trans ((by rw [e62]; exact x_up2_ne (by decide) : g62 70 = gi 70)))) e194 ((funext (fun j => (hC198.1 70 j rfl).1) : gi198 70 = g196 70).trans ((by rw [e196]; exact x_up2_ne (by decide) : g196 70 = g194 70))) (by have hc := t_clamp (i := z193) (by omega); omega)); exact t_K_case e_p0 (by omega) (by omega) (by omega) (by omega) (show (gi198 69 22).toInt = (gi 69 22).toInt from (by have ff203 : (gi198 69 22).toInt = (gi 69 22).toInt := congrArg Int32.toInt ((hC198.1 69 22 rfl).1.trans ((by rw [e196]; exact x_up2_off (Or.inr (by decide)) : g196 69 22 = g194 69 22).trans ((by rw [e194]; exact x_up2_off (Or.inl (by decide)) : g194 69 22 = gi179 69 22).trans ((hC179.1 69 22 rfl).1.trans ((hC63.1 69 22 rfl).1.trans ((by rw [e62]; exact x_up2_off (Or.inr (by decide)) : g62 69 22 = gi 69 22).trans rfl)))))); omega)) (show (gi198 69 23).toInt = (gi 69 23).toInt from (by have ff204 : (gi198 69 23).toInt = (gi 69 23).toInt := congrArg Int32.toInt ((hC198.1 69 23 rfl).1.trans ((by rw [e196]; exact x_up2_off (Or.inr (by decide)) : g196 69 23 = g194 69 23).trans ((by rw [e194]; exact x_up2_off (Or.inl (by decide)) : g194 69 23 = gi179 69 23).trans ((hC179.1 69 23 rfl).1.trans ((hC63.1 69 23 rfl).1.trans ((by rw [e62]; exact x_up2_off (Or.inr (by decide)) : g62 69 23 = gi 69 23).trans rfl)))))); omega)) (show (gi198 69 24).toInt = (gi 69 24).toInt + 1 from (by have ff205 : (gi198 69 24).toInt = z61.toInt := congrArg Int32.toInt ((hC198.1 69 24 rfl).1.trans ((by rw [e196]; exact x_up2_off (Or.inr (by decide)) : g196 69 24 = g194 69 24).trans ((by rw [e194]; exact x_up2_off (Or.inl (by decide)) : g194 69 24 = gi179 69 24).trans ((hC179.1 69 24 rfl).1.trans ((hC63.1 69 24 rfl).1.trans (by rw [e62]; exact x_up2_at _ _ _ _ : g62 69 24 = z61)))))); omega)) (show (gi198 69 25).toInt = (gi 69 25).toInt + 1 from (by have ff206 : (gi198 69 25).toInt = z195.toInt := congrArg Int32.toInt ((hC198.1 69 25 rfl).1.trans (by rw [e196]; exact x_up2_at _ _ _ _ : g196 69 25 = z195)); omega)) ((funext (fun j => (hC198.1 77 j rfl).1) : gi198 77 = g196 77).trans ((by rw [e196]; exact x_up2_ne (by decide) : g196 77 = g194 77).trans ((by rw [e194]; exact x_up2_ne (by decide) : g194 77 = gi179 77).trans ((funext (fun j => (hC179.1 77 j rfl).1) : gi179 77 = gi63 77).trans ((funext (fun j => (hC63.1 77 j rfl).1) : gi63 77 = g62 77).trans ((by rw [e62]; exact x_up2_ne (by decide) : g62 77 = gi 77))))))) ho.1 ho.2)⟩)⟩⟩
                  · have l208 : 301 ≤ (gi179 69 15).toInt := t_ltl (t_nle h186) (by decide : (300:Int) ≤ (300:Int32).toInt) rfl
                    refine ev_loc f_X12_aCase (nx := 155) rfl rfl rfl rfl ?_
                    refine ev_ic f_X12_aCase (nx := 156) (v := 4) rfl (by decide) rfl ?_
                    refine ev_inV2 f_X12_aCase (nx := 159) (lo2 := [(0, .ref 69), (1, .int 4)]) rfl rfl rfl rfl f_X12_fails (hI.wf.s rfl) rfl rfl rfl rfl rfl ?_
                    refine ev_loc f_X12_fails (nx := 1) rfl rfl rfl rfl ?_
                    refine ev_gvI f_X12_fails (nx := 4) (w := (gi 69 18)) rfl (hI.wf.s rfl) rfl rfl ((hC179.1 69 18 rfl).1.trans ((hC63.1 69 18 rfl).1.trans ((by rw [e62]; exact x_up2_off (Or.inr (by decide)) : g62 69 18 = gi 69 18).trans rfl))) rfl ?_
                    refine ev_if f_X12_fails (t1 := 7) (t2 := 32) rfl rfl rfl (fun h209 => ?_) (fun h209 => ?_)
                    · have u210 : (gi 69 18).toInt ≤ 0 := t_equ h209 (by decide : (0:Int32).toInt ≤ (0:Int))
                      have l211 : 0 ≤ (gi 69 18).toInt := t_eql h209 (by decide : (0:Int) ≤ (0:Int32).toInt)
                      refine ev_loc f_X12_fails (nx := 8) rfl rfl rfl rfl ?_
                      refine ev_loc f_X12_fails (nx := 9) rfl rfl rfl rfl ?_
                      refine ev_gvI f_X12_fails (nx := 12) (w := (gi179 69 12)) rfl (hI.wf.s rfl) rfl rfl rfl rfl ?_
                      refine ev_ic f_X12_fails (nx := 13) (v := 1) rfl (by decide) rfl ?_
                      refine ev_f f_X12_fails (t1 := 16) (t2 := 20) rfl rfl rfl (t_neT' (by decide : (1:Int32).toInt ≤ (1:Int)) l185 (by decide)) ?_
                      refine ev_loc f_X12_fails (nx := 21) rfl rfl rfl rfl ?_
                      refine ev_putIT f_X12_fails (nx := 24) rfl (hI.wf.s rfl) rfl rfl rfl (hI.put0 (hI.wf.s rfl) rfl rfl) (hX.upI rfl) (fun g212 e212 hI hX => ?_)
                      refine ev_loc f_X12_fails (nx := 25) rfl rfl rfl rfl ?_
                      refine ev_loc f_X12_fails (nx := 26) rfl rfl rfl rfl ?_
                      refine ev_getI f_X12_fails (nx := 29) rfl (hI.wf.s rfl) rfl rfl rfl ?_
                      obtain ⟨l213, u213⟩ := hI.b (hI.wf.s (k := 69) rfl) (t_bdK rfl : t_bd 11 13 = some (0, 900))
                      refine ev_putIT f_X12_fails (nx := 32) rfl (hI.wf.s rfl) rfl rfl rfl (hI.put0 (hI.wf.s rfl) rfl rfl) (hX.upI rfl) (fun g214 e214 hI hX => ?_)
                      refine ev_ic f_X12_fails (nx := 33) (v := 0) rfl (by decide) rfl ?_
                      refine ev_retK1 f_X12_fails rfl rfl rfl ?_
                      exact ev_ret f_X12_aCase rfl rfl rfl ⟨_, _, _, rfl, hI, hX, ⟨_, rfl, (by decide : (0:Int) ≤ (0:Int32).toInt), (Int.le_trans (by decide : (0:Int32).toInt ≤ (0:Int)) (by decide : (0:Int) ≤ 1)), (show (gi 69 14).toInt ≤ (g214 69 14).toInt ∧ (0 = 1 → (g214 69 12).toInt ≠ 0 → (gi 69 14).toInt < (g214 69 14).toInt) ∧ (0 = 0 → (g214 69 18).toInt ≠ 0) ∧ (0 = 1 → t_K b g214 1) from ⟨(by have ff215 : (g214 69 14).toInt = (gi179 69 14).toInt := congrArg Int32.toInt ((by rw [e214]; exact x_up2_off (Or.inr (by decide)) : g214 69 14 = g212 69 14).trans ((by rw [e212]; exact x_up2_off (Or.inr (by decide)) : g212 69 14 = gi179 69 14).trans rfl)); omega), (by have ff216 : (g214 69 12).toInt = (gi179 69 12).toInt := congrArg Int32.toInt ((by rw [e214]; exact x_up2_off (Or.inr (by decide)) : g214 69 12 = g212 69 12).trans ((by rw [e212]; exact x_up2_off (Or.inr (by decide)) : g212 69 12 = gi179 69 12).trans rfl)); have ff217 : (g214 69 14).toInt = (gi179 69 14).toInt := congrArg Int32.toInt ((by rw [e214]; exact x_up2_off (Or.inr (by decide)) : g214 69 14 = g212 69 14).trans ((by rw [e212]; exact x_up2_off (Or.inr (by decide)) : g212 69 14 = gi179 69 14).trans rfl)); omega), (by have ff218 : (g214 69 18).toInt = 4 := (congrArg Int32.toInt ((by rw [e214]; exact x_up2_off (Or.inr (by decide)) : g214 69 18 = g212 69 18).trans (by rw [e212]; exact x_up2_at _ _ _ _ : g212 69 18 = 4))).trans (by decide); omega), fun h => absurd h (by decide)⟩)⟩⟩
                    · have r219 : (gi 69 18).toInt ≠ 0 := fun e => h209 (Int32.toInt_inj.mp (e.trans (by decide : (0:Int) = (0 : Int32).toInt)))
                      refine ev_ic f_X12_fails (nx := 33) (v := 0) rfl (by decide) rfl ?_
                      refine ev_retK1 f_X12_fails rfl rfl rfl ?_
                      exact ev_ret f_X12_aCase rfl rfl rfl ⟨_, _, _, rfl, hI, hX, ⟨_, rfl, (by decide : (0:Int) ≤ (0:Int32).toInt), (Int.le_trans (by decide : (0:Int32).toInt ≤ (0:Int)) (by decide : (0:Int) ≤ 1)), (show (gi 69 14).toInt ≤ (gi179 69 14).toInt ∧ (0 = 1 → (gi179 69 12).toInt ≠ 0 → (gi 69 14).toInt < (gi179 69 14).toInt) ∧ (0 = 0 → (gi179 69 18).toInt ≠ 0) ∧ (0 = 1 → t_K b gi179 1) from ⟨(by omega), (by omega), (by have ff220 : (gi179 69 18).toInt = (gi 69 18).toInt := congrArg Int32.toInt ((hC179.1 69 18 rfl).1.trans ((hC63.1 69 18 rfl).1.trans ((by rw [e62]; exact x_up2_off (Or.inr (by decide)) : g62 69 18 = gi 69 18).trans rfl))); omega), fun h => absurd h (by decide)⟩)⟩⟩
                · have r221 : (gi179 69 12).toInt ≠ 3 := fun e => h183 (Int32.toInt_inj.mp (e.trans (by decide : (3:Int) = (3 : Int32).toInt)))
                  refine ev_loc f_X12_aCase (nx := 139) rfl rfl rfl rfl ?_
                  refine ev_ic f_X12_aCase (nx := 140) (v := 2) rfl (by decide) rfl ?_
                  refine ev_inV2 f_X12_aCase (nx := 143) (lo2 := [(0, .ref 69), (1, .int 2)]) rfl rfl rfl rfl f_X12_fails (hI.wf.s rfl) rfl rfl rfl rfl rfl ?_
                  refine ev_loc f_X12_fails (nx := 1) rfl rfl rfl rfl ?_
                  refine ev_gvI f_X12_fails (nx := 4) (w := (gi 69 18)) rfl (hI.wf.s rfl) rfl rfl ((hC179.1 69 18 rfl).1.trans ((hC63.1 69 18 rfl).1.trans ((by rw [e62]; exact x_up2_off (Or.inr (by decide)) : g62 69 18 = gi 69 18).trans rfl))) rfl ?_
                  refine ev_if f_X12_fails (t1 := 7) (t2 := 32) rfl rfl rfl (fun h222 => ?_) (fun h222 => ?_)
                  · have u223 : (gi 69 18).toInt ≤ 0 := t_equ h222 (by decide : (0:Int32).toInt ≤ (0:Int))
                    have l224 : 0 ≤ (gi 69 18).toInt := t_eql h222 (by decide : (0:Int) ≤ (0:Int32).toInt)
                    refine ev_loc f_X12_fails (nx := 8) rfl rfl rfl rfl ?_
                    refine ev_loc f_X12_fails (nx := 9) rfl rfl rfl rfl ?_
                    refine ev_gvI f_X12_fails (nx := 12) (w := (gi179 69 12)) rfl (hI.wf.s rfl) rfl rfl rfl rfl ?_
                    refine ev_ic f_X12_fails (nx := 13) (v := 1) rfl (by decide) rfl ?_
                    refine ev_if f_X12_fails (t1 := 16) (t2 := 20) rfl rfl rfl (fun h225 => ?_) (fun h225 => ?_)
                    · have u226 : (gi179 69 12).toInt ≤ 1 := t_equ h225 (by decide : (1:Int32).toInt ≤ (1:Int))
                      have l227 : 1 ≤ (gi179 69 12).toInt := t_eql h225 (by decide : (1:Int) ≤ (1:Int32).toInt)
                      refine ev_ic f_X12_fails (nx := 17) (v := 1) rfl (by decide) rfl ?_
                      refine ev_jmp f_X12_fails (nx := 21) rfl rfl rfl ?_
                      refine ev_putIT f_X12_fails (nx := 24) rfl (hI.wf.s rfl) rfl rfl rfl (hI.put0 (hI.wf.s rfl) rfl rfl) (hX.upI rfl) (fun g228 e228 hI hX => ?_)
                      refine ev_loc f_X12_fails (nx := 25) rfl rfl rfl rfl ?_
                      refine ev_loc f_X12_fails (nx := 26) rfl rfl rfl rfl ?_
                      refine ev_getI f_X12_fails (nx := 29) rfl (hI.wf.s rfl) rfl rfl rfl ?_
                      obtain ⟨l229, u229⟩ := hI.b (hI.wf.s (k := 69) rfl) (t_bdK rfl : t_bd 11 13 = some (0, 900))
                      refine ev_putIT f_X12_fails (nx := 32) rfl (hI.wf.s rfl) rfl rfl rfl (hI.put0 (hI.wf.s rfl) rfl rfl) (hX.upI rfl) (fun g230 e230 hI hX => ?_)
                      refine ev_ic f_X12_fails (nx := 33) (v := 0) rfl (by decide) rfl ?_
                      refine ev_retK1 f_X12_fails rfl rfl rfl ?_
                      exact ev_ret f_X12_aCase rfl rfl rfl ⟨_, _, _, rfl, hI, hX, ⟨_, rfl, (by decide : (0:Int) ≤ (0:Int32).toInt), (Int.le_trans (by decide : (0:Int32).toInt ≤ (0:Int)) (by decide : (0:Int) ≤ 1)), (show (gi 69 14).toInt ≤ (g230 69 14).toInt ∧ (0 = 1 → (g230 69 12).toInt ≠ 0 → (gi 69 14).toInt < (g230 69 14).toInt) ∧ (0 = 0 → (g230 69 18).toInt ≠ 0) ∧ (0 = 1 → t_K b g230 1) from ⟨(by have ff231 : (g230 69 14).toInt = (gi179 69 14).toInt := congrArg Int32.toInt ((by rw [e230]; exact x_up2_off (Or.inr (by decide)) : g230 69 14 = g228 69 14).trans ((by rw [e228]; exact x_up2_off (Or.inr (by decide)) : g228 69 14 = gi179 69 14).trans rfl)); omega), (by have ff232 : (g230 69 12).toInt = (gi179 69 12).toInt := congrArg Int32.toInt ((by rw [e230]; exact x_up2_off (Or.inr (by decide)) : g230 69 12 = g228 69 12).trans ((by rw [e228]; exact x_up2_off (Or.inr (by decide)) : g228 69 12 = gi179 69 12).trans rfl)); have ff233 : (g230 69 14).toInt = (gi179 69 14).toInt := congrArg Int32.toInt ((by rw [e230]; exact x_up2_off (Or.inr (by decide)) : g230 69 14 = g228 69 14).trans ((by rw [e228]; exact x_up2_off (Or.inr (by decide)) : g228 69 14 = gi179 69 14).trans rfl)); omega), (by have ff234 : (g230 69 18).toInt = 1 := (congrArg Int32.toInt ((by rw [e230]; exact x_up2_off (Or.inr (by decide)) : g230 69 18 = g228 69 18).trans (by rw [e228]; exact x_up2_at _ _ _ _ : g228 69 18 = 1))).trans (by decide); omega), fun h => absurd h (by decide)⟩)⟩⟩
                    · have r235 : (gi179 69 12).toInt ≠ 1 := fun e => h225 (Int32.toInt_inj.mp (e.trans (by decide : (1:Int) = (1 : Int32).toInt)))
                      refine ev_loc f_X12_fails (nx := 21) rfl rfl rfl rfl ?_
                      refine ev_putIT f_X12_fails (nx := 24) rfl (hI.wf.s rfl) rfl rfl rfl (hI.put0 (hI.wf.s rfl) rfl rfl) (hX.upI rfl) (fun g236 e236 hI hX => ?_)
                      refine ev_loc f_X12_fails (nx := 25) rfl rfl rfl rfl ?_
                      refine ev_loc f_X12_fails (nx := 26) rfl rfl rfl rfl ?_
                      refine ev_getI f_X12_fails (nx := 29) rfl (hI.wf.s rfl) rfl rfl rfl ?_
                      obtain ⟨l237, u237⟩ := hI.b (hI.wf.s (k := 69) rfl) (t_bdK rfl : t_bd 11 13 = some (0, 900))
                      refine ev_putIT f_X12_fails (nx := 32) rfl (hI.wf.s rfl) rfl rfl rfl (hI.put0 (hI.wf.s rfl) rfl rfl) (hX.upI rfl) (fun g238 e238 hI hX => ?_)
                      refine ev_ic f_X12_fails (nx := 33) (v := 0) rfl (by decide) rfl ?_
                      refine ev_retK1 f_X12_fails rfl rfl rfl ?_
                      exact ev_ret f_X12_aCase rfl rfl rfl ⟨_, _, _, rfl, hI, hX, ⟨_, rfl, (by decide : (0:Int) ≤ (0:Int32).toInt), (Int.le_trans (by decide : (0:Int32).toInt ≤ (0:Int)) (by decide : (0:Int) ≤ 1)), (show (gi 69 14).toInt ≤ (g238 69 14).toInt ∧ (0 = 1 → (g238 69 12).toInt ≠ 0 → (gi 69 14).toInt < (g238 69 14).toInt) ∧ (0 = 0 → (g238 69 18).toInt ≠ 0) ∧ (0 = 1 → t_K b g238 1) from ⟨(by have ff239 : (g238 69 14).toInt = (gi179 69 14).toInt := congrArg Int32.toInt ((by rw [e238]; exact x_up2_off (Or.inr (by decide)) : g238 69 14 = g236 69 14).trans ((by rw [e236]; exact x_up2_off (Or.inr (by decide)) : g236 69 14 = gi179 69 14).trans rfl)); omega), (by have ff240 : (g238 69 12).toInt = (gi179 69 12).toInt := congrArg Int32.toInt ((by rw [e238]; exact x_up2_off (Or.inr (by decide)) : g238 69 12 = g236 69 12).trans ((by rw [e236]; exact x_up2_off (Or.inr (by decide)) : g236 69 12 = gi179 69 12).trans rfl)); have ff241 : (g238 69 14).toInt = (gi179 69 14).toInt := congrArg Int32.toInt ((by rw [e238]; exact x_up2_off (Or.inr (by decide)) : g238 69 14 = g236 69 14).trans ((by rw [e236]; exact x_up2_off (Or.inr (by decide)) : g236 69 14 = gi179 69 14).trans rfl)); omega), (by have ff242 : (g238 69 18).toInt = 2 := (congrArg Int32.toInt ((by rw [e238]; exact x_up2_off (Or.inr (by decide)) : g238 69 18 = g236 69 18).trans (by rw [e236]; exact x_up2_at _ _ _ _ : g236 69 18 = 2))).trans (by decide); omega), fun h => absurd h (by decide)⟩)⟩⟩
                  · have r243 : (gi 69 18).toInt ≠ 0 := fun e => h222 (Int32.toInt_inj.mp (e.trans (by decide : (0:Int) = (0 : Int32).toInt)))
                    refine ev_ic f_X12_fails (nx := 33) (v := 0) rfl (by decide) rfl ?_
                    refine ev_retK1 f_X12_fails rfl rfl rfl ?_
                    exact ev_ret f_X12_aCase rfl rfl rfl ⟨_, _, _, rfl, hI, hX, ⟨_, rfl, (by decide : (0:Int) ≤ (0:Int32).toInt), (Int.le_trans (by decide : (0:Int32).toInt ≤ (0:Int)) (by decide : (0:Int) ≤ 1)), (show (gi 69 14).toInt ≤ (gi179 69 14).toInt ∧ (0 = 1 → (gi179 69 12).toInt ≠ 0 → (gi 69 14).toInt < (gi179 69 14).toInt) ∧ (0 = 0 → (gi179 69 18).toInt ≠ 0) ∧ (0 = 1 → t_K b gi179 1) from ⟨(by omega), (by omega), (by have ff244 : (gi179 69 18).toInt = (gi 69 18).toInt := congrArg Int32.toInt ((hC179.1 69 18 rfl).1.trans ((hC63.1 69 18 rfl).1.trans ((by rw [e62]; exact x_up2_off (Or.inr (by decide)) : g62 69 18 = gi 69 18).trans rfl))); omega), fun h => absurd h (by decide)⟩)⟩⟩
              · have r245 : (gi63 69 15).toInt ≠ 62 := fun e => h176 (Int32.toInt_inj.mp (e.trans (by decide : (62:Int) = (62 : Int32).toInt)))
                refine ev_ic f_X12_isSign (nx := 21) (v := 0) rfl (by decide) rfl ?_
                refine ev_retK1 f_X12_isSign rfl rfl rfl ?_
                refine ev_t f_X12_aCase (t1 := 83) (t2 := 98) rfl rfl rfl (by decide) ?_
                refine ev_loc f_X12_aCase (nx := 84) rfl rfl rfl rfl ?_
                refine ev_bp f_X12_aCase (nx := 86) (v := 61) rfl (by decide) rfl ?_
                refine ev_inV2 f_X12_aCase (nx := 89) (lo2 := [(0, .ref 69), (1, .int 61)]) rfl rfl rfl rfl f_X12_isSign (hI.wf.s rfl) rfl rfl rfl rfl rfl ?_
                refine ev_loc f_X12_isSign (nx := 1) rfl rfl rfl rfl ?_
                refine ev_gvI f_X12_isSign (nx := 4) (w := (gi63 69 12)) rfl (hI.wf.s rfl) rfl rfl rfl rfl ?_
                refine ev_ic f_X12_isSign (nx := 5) (v := 4) rfl (by decide) rfl ?_
                refine ev_t f_X12_isSign (t1 := 8) (t2 := 20) rfl rfl rfl (t_eqT u65 l105 (by decide : (4:Int32).toInt ≤ (4:Int)) (by decide : (4:Int) ≤ (4:Int32).toInt)) ?_
                refine ev_loc f_X12_isSign (nx := 9) rfl rfl rfl rfl ?_
                refine ev_gvI f_X12_isSign (nx := 12) (w := (gi63 69 15)) rfl (hI.wf.s rfl) rfl rfl rfl rfl ?_
                refine ev_loc f_X12_isSign (nx := 13) rfl rfl rfl rfl ?_
                refine ev_if f_X12_isSign (t1 := 16) (t2 := 20) rfl rfl rfl (fun h246 => ?_) (fun h246 => ?_)
                · have u247 : (gi63 69 15).toInt ≤ 61 := t_equ h246 (by decide : (61:Int32).toInt ≤ (61:Int))
                  have l248 : 61 ≤ (gi63 69 15).toInt := t_eql h246 (by decide : (61:Int) ≤ (61:Int32).toInt)
                  refine ev_ic f_X12_isSign (nx := 17) (v := 1) rfl (by decide) rfl ?_
                  refine ev_jmp f_X12_isSign (nx := 21) rfl rfl rfl ?_
                  refine ev_retK1 f_X12_isSign rfl rfl rfl ?_
                  refine ev_f f_X12_aCase (t1 := 92) (t2 := 98) rfl rfl rfl (by decide) ?_
                  refine ev_loc f_X12_aCase (nx := 99) rfl rfl rfl rfl ?_
                  refine ev_bp f_X12_aCase (nx := 101) (v := 60) rfl (by decide) rfl ?_
                  refine ev_inV2 f_X12_aCase (nx := 104) (lo2 := [(0, .ref 69), (1, .int 60)]) rfl rfl rfl rfl f_X12_isSign (hI.wf.s rfl) rfl rfl rfl rfl rfl ?_
                  refine ev_loc f_X12_isSign (nx := 1) rfl rfl rfl rfl ?_
                  refine ev_gvI f_X12_isSign (nx := 4) (w := (gi63 69 12)) rfl (hI.wf.s rfl) rfl rfl rfl rfl ?_
                  refine ev_ic f_X12_isSign (nx := 5) (v := 4) rfl (by decide) rfl ?_
                  refine ev_t f_X12_isSign (t1 := 8) (t2 := 20) rfl rfl rfl (t_eqT u65 l105 (by decide : (4:Int32).toInt ≤ (4:Int)) (by decide : (4:Int) ≤ (4:Int32).toInt)) ?_
                  refine ev_loc f_X12_isSign (nx := 9) rfl rfl rfl rfl ?_
                  refine ev_gvI f_X12_isSign (nx := 12) (w := (gi63 69 15)) rfl (hI.wf.s rfl) rfl rfl rfl rfl ?_
                  refine ev_loc f_X12_isSign (nx := 13) rfl rfl rfl rfl ?_
                  refine ev_f f_X12_isSign (t1 := 16) (t2 := 20) rfl rfl rfl (t_neT' (by decide : (60:Int32).toInt ≤ (60:Int)) l248 (by decide)) ?_
                  refine ev_ic f_X12_isSign (nx := 21) (v := 0) rfl (by decide) rfl ?_
                  refine ev_retK1 f_X12_isSign rfl rfl rfl ?_
                  refine ev_t f_X12_aCase (t1 := 111) (t2 := 107) rfl rfl rfl (by decide) ?_
                  refine ev_loc f_X12_aCase (nx := 112) rfl rfl rfl rfl ?_
                  refine ev_bp f_X12_aCase (nx := 114) (v := 62) rfl (by decide) rfl ?_
                  refine ev_inV2 f_X12_aCase (nx := 117) (lo2 := [(0, .ref 69), (1, .int 62)]) rfl rfl rfl rfl f_X12_isSign (hI.wf.s rfl) rfl rfl rfl rfl rfl ?_
                  refine ev_loc f_X12_isSign (nx := 1) rfl rfl rfl rfl ?_
                  refine ev_gvI f_X12_isSign (nx := 4) (w := (gi63 69 12)) rfl (hI.wf.s rfl) rfl rfl rfl rfl ?_
                  refine ev_ic f_X12_isSign (nx := 5) (v := 4) rfl (by decide) rfl ?_
                  refine ev_t f_X12_isSign (t1 := 8) (t2 := 20) rfl rfl rfl (t_eqT u65 l105 (by decide : (4:Int32).toInt ≤ (4:Int)) (by decide : (4:Int) ≤ (4:Int32).toInt)) ?_
                  refine ev_loc f_X12_isSign (nx := 9) rfl rfl rfl rfl ?_
                  refine ev_gvI f_X12_isSign (nx := 12) (w := (gi63 69 15)) rfl (hI.wf.s rfl) rfl rfl rfl rfl ?_
                  refine ev_loc f_X12_isSign (nx := 13) rfl rfl rfl rfl ?_
                  refine ev_f f_X12_isSign (t1 := 16) (t2 := 20) rfl rfl rfl (t_neT u247 (by decide : (62:Int) ≤ (62:Int32).toInt) (by decide)) ?_
                  refine ev_ic f_X12_isSign (nx := 21) (v := 0) rfl (by decide) rfl ?_
                  refine ev_retK1 f_X12_isSign rfl rfl rfl ?_
                  refine ev_t f_X12_aCase (t1 := 124) (t2 := 120) rfl rfl rfl (by decide) ?_
                  refine ev_ic f_X12_aCase (nx := 125) (v := 2) rfl (by decide) rfl ?_
                  refine ev_loc f_X12_aCase (nx := 126) (lo' := [(2, .int 2), (0, .ref 69), (1, .int ar1)]) rfl rfl rfl rfl ?_
                  refine ev_loc f_X12_aCase (nx := 127) rfl rfl rfl rfl ?_
                  refine ev_qN f_X12_aCase (nx := 130) (r := []) rfl rfl rfl rfl rfl rfl rfl (c_m_ahead2 hI ) rfl hX rfl (fun gi249 gl249 gr249 hI hX hC249 q249 => ?_)
                  have q249 : (gi63 69 14).toInt ≤ (gi249 69 14).toInt ∧ ((gi249 69 12).toInt ≠ 0 → (gi63 69 14).toInt < (gi249 69 14).toInt) ∧ ((gi249 69 12).toInt = 3 → 0 ≤ (gi249 69 15).toInt) := q249
                  obtain ⟨l250, u250⟩ := hI.b (hI.wf.s (k := 69) rfl) (t_bdK rfl : t_bd 11 12 = some (0, 4))
                  obtain ⟨l251, u251⟩ := hI.b (hI.wf.s (k := 69) rfl) (t_bdK rfl : t_bd 11 14 = some (0, 900))
                  refine ev_loc f_X12_aCase (nx := 131) rfl rfl rfl rfl ?_
                  refine ev_gvI f_X12_aCase (nx := 134) (w := (gi249 69 12)) rfl (hI.wf.s rfl) rfl rfl rfl rfl ?_
                  refine ev_ic f_X12_aCase (nx := 135) (v := 3) rfl (by decide) rfl ?_
                  refine ev_if f_X12_aCase (t1 := 144) (t2 := 138) rfl rfl rfl (fun h253 => ?_) (fun h253 => ?_)
                  · have u254 : (gi249 69 12).toInt ≤ 3 := t_equ h253 (by decide : (3:Int32).toInt ≤ (3:Int))
                    have l255 : 3 ≤ (gi249 69 12).toInt := t_eql h253 (by decide : (3:Int) ≤ (3:Int32).toInt)
                    refine ev_loc f_X12_aCase (nx := 145) rfl rfl rfl rfl ?_
                    refine ev_gvI f_X12_aCase (nx := 148) (w := (gi249 69 15)) rfl (hI.wf.s rfl) rfl rfl rfl rfl ?_
                    refine ev_sp f_X12_aCase (nx := 151) (v := 300) rfl (by decide) rfl ?_
                    refine ev_if f_X12_aCase (t1 := 160) (t2 := 154) rfl rfl rfl (fun h256 => ?_) (fun h256 => ?_)
                    · have u257 : (gi249 69 15).toInt ≤ 300 := t_leu h256 (by decide : (300:Int32).toInt ≤ (300:Int))
                      have l258 : (0:Int) ≤ (gi249 69 15).toInt := by omega
                      refine ev_loc f_X12_aCase (nx := 161) rfl rfl rfl rfl ?_
                      refine ev_ldI f_X12_aCase (nx := 163) (v := 100000) rfl (by decide) rfl ?_
                      refine ev_loc f_X12_aCase (nx := 164) rfl rfl rfl rfl ?_
                      refine ev_mulL f_X12_aCase (nx := 165) (c := 100000) (l := 1700000) (u := 2600000) rfl (by decide) (by decide) l103 u_a1 rfl rfl (by decide) (by decide) rfl (fun z259 e259 l259 u259 => ?_)
                      refine ev_sp f_X12_aCase (nx := 168) (v := 1000) rfl (by decide) rfl ?_
                      refine ev_loc f_X12_aCase (nx := 169) rfl rfl rfl rfl ?_
                      refine ev_aluvI f_X12_aCase (nx := 170) (w := 2000) rfl rfl rfl (by decide) rfl ?_
                      refine ev_addC f_X12_aCase (nx := 171) (c := 2000) (l := 1702000) (u := 2602000) rfl (by decide) l259 u259 rfl rfl (by decide) (by decide) rfl (fun z260 e260 l260 u260 => ?_)
                      refine ev_loc f_X12_aCase (nx := 172) rfl rfl rfl rfl ?_
                      refine ev_gvI f_X12_aCase (nx := 175) (w := (gi249 69 15)) rfl (hI.wf.s rfl) rfl rfl rfl rfl ?_
                      refine ev_addR f_X12_aCase (nx := 176) (l := 1702000) (u := 2602300) rfl l260 u260 l258 u257 rfl rfl (by decide) (by decide) rfl (fun z261 e261 l261 u261 => ?_)
                      refine ev_inV2 f_X12_aCase (nx := 179) (lo2 := [(0, .ref 69), (1, .int z261)]) rfl rfl rfl rfl f_X12_asksAlso (hI.wf.s rfl) rfl rfl rfl rfl rfl ?_
                      have kn262 := t_K_num e_p0
                      refine ev_loc f_X12_asksAlso (nx := 1) rfl rfl rfl rfl ?_
                      refine ev_getR f_X12_asksAlso (nx := 4) rfl (hI.wf.s rfl) rfl rfl (hI.wf.r rfl) rfl rfl ?_
                      refine ev_sp f_X12_asksAlso (nx := 7) (v := 1540) rfl (by decide) rfl ?_
                      refine ev_loc f_X12_asksAlso (nx := 8) rfl rfl rfl rfl ?_
                      refine ev_gvI f_X12_asksAlso (nx := 11) (w := (gi 69 25)) rfl (hI.wf.s rfl) rfl rfl ((hC249.1 69 25 rfl).1.trans ((hC63.1 69 25 rfl).1.trans ((by rw [e62]; exact x_up2_off (Or.inr (by decide)) : g62 69 25 = gi 69 25).trans rfl))) rfl ?_
                      refine ev_addK f_X12_asksAlso (nx := 12) (c := 1540) (l := 1540) (u := 1750) rfl (by decide) l8 u8 rfl rfl (by decide) (by decide) rfl (fun z263 e263 l263 u263 => ?_)
                      refine ev_loc f_X12_asksAlso (nx := 13) rfl rfl rfl rfl ?_
                      refine ev_iastT f_X12_asksAlso (nx := 14) rfl (hI.wf.s rfl) l263 (by decide) u263 (by decide) rfl (hI.astL (hI.wf.s rfl) (by decide +kernel : t_abw 70 1540 1750 1702000 2602300 = true) (t_cl1 l263 (by decide)) (t_cl2 l263 u263 (by decide) (by decide)) l261 u261 rfl) (hX.upI (t_inR (p := 1540) (m := 1750) rfl l263 (by decide) u263 (by decide) (by decide))) (fun g264 e264 hI hX => ?_)
                      refine ev_loc f_X12_asksAlso (nx := 15) rfl rfl rfl rfl ?_
                      refine ev_alu f_X12_asksAlso (nx := 16) rfl rfl rfl rfl ?_
                      refine ev_gvI f_X12_asksAlso (nx := 19) (w := (gi 69 25)) rfl (hI.wf.s rfl) rfl rfl ((by rw [e264]; exact x_up2_off (Or.inl (by decide)) : g264 69 25 = gi249 69 25).trans ((hC249.1 69 25 rfl).1.trans ((hC63.1 69 25 rfl).1.trans ((by rw [e62]; exact x_up2_off (Or.inr (by decide)) : g62 69 25 = gi 69 25).trans rfl)))) rfl ?_
                      refine ev_ic f_X12_asksAlso (nx := 20) (v := 1) rfl (by decide) rfl ?_
                      refine ev_addC f_X12_asksAlso (nx := 21) (c := 1) (l := 1) (u := 211) rfl (by decide) l8 u8 rfl rfl (by decide) (by decide) rfl (fun z265 e265 l265 u265 => ?_)
                      have u267 : z265.toInt ≤ (210:Int) := (by omega)
                      refine ev_putIT f_X12_asksAlso (nx := 24) rfl (hI.wf.s rfl) rfl rfl rfl (hI.putB (hI.wf.s rfl) rfl rfl l265 (by decide) u267 (by decide)) (hX.upI rfl) (fun g266 e266 hI hX => ?_)
                      refine ev_retK0 f_X12_asksAlso rfl rfl rfl ?_
                      refine ev_loc f_X12_aCase (nx := 180) rfl rfl rfl rfl ?_
                      refine ev_qN f_X12_aCase (nx := 183) (r := []) rfl rfl rfl rfl rfl rfl rfl (c_m_ahead2 hI ) rfl hX rfl (fun gi268 gl268 gr268 hI hX hC268 q268 => ?_)
                      have ff269 : (g266 69 14).toInt = (gi249 69 14).toInt := congrArg Int32.toInt ((by rw [e266]; exact x_up2_off (Or.inr (by decide)) : g266 69 14 = g264 69 14).trans ((by rw [e264]; exact x_up2_off (Or.inl (by decide)) : g264 69 14 = gi249 69 14).trans rfl))
                      have q268 : (g266 69 14).toInt ≤ (gi268 69 14).toInt ∧ ((gi268 69 12).toInt ≠ 0 → (g266 69 14).toInt < (gi268 69 14).toInt) ∧ ((gi268 69 12).toInt = 3 → 0 ≤ (gi268 69 15).toInt) := q268
                      obtain ⟨l270, u270⟩ := hI.b (hI.wf.s (k := 69) rfl) (t_bdK rfl : t_bd 11 12 = some (0, 4))
                      obtain ⟨l271, u271⟩ := hI.b (hI.wf.s (k := 69) rfl) (t_bdK rfl : t_bd 11 14 = some (0, 900))
                      refine ev_ic f_X12_aCase (nx := 184) (v := 1) rfl (by decide) rfl ?_
                      exact ev_ret f_X12_aCase rfl rfl rfl ⟨_, _, _, rfl, hI, hX, ⟨_, rfl, (Int.le_trans (by decide : (0:Int) ≤ 1) (by decide : (1:Int) ≤ (1:Int32).toInt)), (by decide : (1:Int32).toInt ≤ (1:Int)), (show (gi 69 14).toInt ≤ (gi268 69 14).toInt ∧ (1 = 1 → (gi268 69 12).toInt ≠ 0 → (gi 69 14).toInt < (gi268 69 14).toInt) ∧ (1 = 0 → (gi268 69 18).toInt ≠ 0) ∧ (1 = 1 → t_K b gi268 1) from ⟨(by omega), (by omega), (by have ff277 : (gi268 69 18).toInt = (gi 69 18).toInt := congrArg Int32.toInt ((hC268.1 69 18 rfl).1.trans ((by rw [e266]; exact x_up2_off (Or.inr (by decide)) : g266 69 18 = g264 69 18).trans ((by rw [e264]; exact x_up2_off (Or.inl (by decide)) : g264 69 18 = gi249 69 18).trans ((hC249.1 69 18 rfl).1.trans ((hC63.1 69 18 rfl).1.trans ((by rw [e62]; exact x_up2_off (Or.inr (by decide)) : g62 69 18 = gi 69 18).trans rfl)))))); omega), fun _ => (by have ho := (t_one (p := 1540 + (gi 69 25).toInt.toNat) ((funext (fun j => (hC249.1 70 j rfl).1) : gi249 70 = gi63 70).trans ((funext (fun j => (hC63.1 70 j rfl).1) : gi63 70 = g62 70).trans ((by rw [e62]; exact x_up2_ne (by decide) : g62 70 = gi 70)))) e264 ((funext (fun j => (hC268.1 70 j rfl).1) : gi268 70 = g266 70).trans ((by rw [e266]; exact x_up2_ne (by decide) : g266 70 = g264 70))) (by have hc := t_clamp (i := z263) (by omega); omega)); exact t_K_case e_p0 (by omega) (by omega) (by omega) (by omega) (show (gi268 69 22).toInt = (gi 69 22).toInt from (by have ff273 : (gi268 69 22).toInt = (gi 69 22).toInt := congrArg Int32.toInt ((hC268.1 69 22 rfl).1.trans ((by rw [e266]; exact x_up2_off (Or.inr (by decide)) : g266 69 22 = g264 69 22).trans ((by rw [e264]; exact x_up2_off (Or.inl (by decide)) : g264 69 22 = gi249 69 22).trans ((hC249.1 69 22 rfl).1.trans ((hC63.1 69 22 rfl).1.trans ((by rw [e62]; exact x_up2_off (Or.inr (by decide)) : g62 69 22 = gi 69 22).trans rfl)))))); omega)) (show (gi268 69 23).toInt = (gi 69 23).toInt from (by have ff274 : (gi268 69 23).toInt = (gi 69 23).toInt := congrArg Int32.toInt ((hC268.1 69 23 rfl).1.trans ((by rw [e266]; exact x_up2_off (Or.inr (by decide)) : g266 69 23 = g264 69 23).trans ((by rw [e264]; exact x_up2_off (Or.inl (by decide)) : g264 69 23 = gi249 69 23).trans ((hC249.1 69 23 rfl).1.trans ((hC63.1 69 23 rfl).1.trans ((by rw [e62]; exact x_up2_off (Or.inr (by decide)) : g62 69 23 = gi 69 23).trans rfl)))))); omega)) (show (gi268 69 24).toInt = (gi 69 24).toInt + 1 from (by have ff275 : (gi268 69 24).toInt = z61.toInt := congrArg Int32.toInt ((hC268.1 69 24 rfl).1.trans ((by rw [e266]; exact x_up2_off (Or.inr (by decide)) : g266 69 24 = g264 69 24).trans ((by rw [e264]; exact x_up2_off (Or.inl (by decide)) : g264 69 24 = gi249 69 24).trans ((hC249.1 69 24 rfl).1.trans ((hC63.1 69 24 rfl).1.trans (by rw [e62]; exact x_up2_at _ _ _ _ : g62 69 24 = z61)))))); omega)) (show (gi268 69 25).toInt = (gi 69 25).toInt + 1 from (by have ff276 : (gi268 69 25).toInt = z265.toInt := congrArg Int32.toInt ((hC268.1 69 25 rfl).1.trans (by rw [e266]; exact x_up2_at _ _ _ _ : g266 69 25 = z265)); omega)) ((funext (fun j => (hC268.1 77 j rfl).1) : gi268 77 = g266 77).trans ((by rw [e266]; exact x_up2_ne (by decide) : g266 77 = g264 77).trans ((by rw [e264]; exact x_up2_ne (by decide) : g264 77 = gi249 77).trans ((funext (fun j => (hC249.1 77 j rfl).1) : gi249 77 = gi63 77).trans ((funext (fun j => (hC63.1 77 j rfl).1) : gi63 77 = g62 77).trans ((by rw [e62]; exact x_up2_ne (by decide) : g62 77 = gi 77))))))) ho.1 ho.2)⟩)⟩⟩
                    · have l278 : 301 ≤ (gi249 69 15).toInt := t_ltl (t_nle h256) (by decide : (300:Int) ≤ (300:Int32).toInt) rfl
                      refine ev_loc f_X12_aCase (nx := 155) rfl rfl rfl rfl ?_
                      refine ev_ic f_X12_aCase (nx := 156) (v := 4) rfl (by decide) rfl ?_
                      refine ev_inV2 f_X12_aCase (nx := 159) (lo2 := [(0, .ref 69), (1, .int 4)]) rfl rfl rfl rfl f_X12_fails (hI.wf.s rfl) rfl rfl rfl rfl rfl ?_
                      refine ev_loc f_X12_fails (nx := 1) rfl rfl rfl rfl ?_
                      refine ev_gvI f_X12_fails (nx := 4) (w := (gi 69 18)) rfl (hI.wf.s rfl) rfl rfl ((hC249.1 69 18 rfl).1.trans ((hC63.1 69 18 rfl).1.trans ((by rw [e62]; exact x_up2_off (Or.inr (by decide)) : g62 69 18 = gi 69 18).trans rfl))) rfl ?_
                      refine ev_if f_X12_fails (t1 := 7) (t2 := 32) rfl rfl rfl (fun h279 => ?_) (fun h279 => ?_)
                      · have u280 : (gi 69 18).toInt ≤ 0 := t_equ h279 (by decide : (0:Int32).toInt ≤ (0:Int))
                        have l281 : 0 ≤ (gi 69 18).toInt := t_eql h279 (by decide : (0:Int) ≤ (0:Int32).toInt)
                        refine ev_loc f_X12_fails (nx := 8) rfl rfl rfl rfl ?_
                        refine ev_loc f_X12_fails (nx := 9) rfl rfl rfl rfl ?_
                        refine ev_gvI f_X12_fails (nx := 12) (w := (gi249 69 12)) rfl (hI.wf.s rfl) rfl rfl rfl rfl ?_
                        refine ev_ic f_X12_fails (nx := 13) (v := 1) rfl (by decide) rfl ?_
                        refine ev_f f_X12_fails (t1 := 16) (t2 := 20) rfl rfl rfl (t_neT' (by decide : (1:Int32).toInt ≤ (1:Int)) l255 (by decide)) ?_
                        refine ev_loc f_X12_fails (nx := 21) rfl rfl rfl rfl ?_
                        refine ev_putIT f_X12_fails (nx := 24) rfl (hI.wf.s rfl) rfl rfl rfl (hI.put0 (hI.wf.s rfl) rfl rfl) (hX.upI rfl) (fun g282 e282 hI hX => ?_)
                        refine ev_loc f_X12_fails (nx := 25) rfl rfl rfl rfl ?_
                        refine ev_loc f_X12_fails (nx := 26) rfl rfl rfl rfl ?_
                        refine ev_getI f_X12_fails (nx := 29) rfl (hI.wf.s rfl) rfl rfl rfl ?_
                        obtain ⟨l283, u283⟩ := hI.b (hI.wf.s (k := 69) rfl) (t_bdK rfl : t_bd 11 13 = some (0, 900))
                        refine ev_putIT f_X12_fails (nx := 32) rfl (hI.wf.s rfl) rfl rfl rfl (hI.put0 (hI.wf.s rfl) rfl rfl) (hX.upI rfl) (fun g284 e284 hI hX => ?_)
                        refine ev_ic f_X12_fails (nx := 33) (v := 0) rfl (by decide) rfl ?_
                        refine ev_retK1 f_X12_fails rfl rfl rfl ?_
                        exact ev_ret f_X12_aCase rfl rfl rfl ⟨_, _, _, rfl, hI, hX, ⟨_, rfl, (by decide : (0:Int) ≤ (0:Int32).toInt), (Int.le_trans (by decide : (0:Int32).toInt ≤ (0:Int)) (by decide : (0:Int) ≤ 1)), (show (gi 69 14).toInt ≤ (g284 69 14).toInt ∧ (0 = 1 → (g284 69 12).toInt ≠ 0 → (gi 69 14).toInt < (g284 69 14).toInt) ∧ (0 = 0 → (g284 69 18).toInt ≠ 0) ∧ (0 = 1 → t_K b g284 1) from ⟨(by have ff285 : (g284 69 14).toInt = (gi249 69 14).toInt := congrArg Int32.toInt ((by rw [e284]; exact x_up2_off (Or.inr (by decide)) : g284 69 14 = g282 69 14).trans ((by rw [e282]; exact x_up2_off (Or.inr (by decide)) : g282 69 14 = gi249 69 14).trans rfl)); omega), (by have ff286 : (g284 69 12).toInt = (gi249 69 12).toInt := congrArg Int32.toInt ((by rw [e284]; exact x_up2_off (Or.inr (by decide)) : g284 69 12 = g282 69 12).trans ((by rw [e282]; exact x_up2_off (Or.inr (by decide)) : g282 69 12 = gi249 69 12).trans rfl)); have ff287 : (g284 69 14).toInt = (gi249 69 14).toInt := congrArg Int32.toInt ((by rw [e284]; exact x_up2_off (Or.inr (by decide)) : g284 69 14 = g282 69 14).trans ((by rw [e282]; exact x_up2_off (Or.inr (by decide)) : g282 69 14 = gi249 69 14).trans rfl)); omega), (by have ff288 : (g284 69 18).toInt = 4 := (congrArg Int32.toInt ((by rw [e284]; exact x_up2_off (Or.inr (by decide)) : g284 69 18 = g282 69 18).trans (by rw [e282]; exact x_up2_at _ _ _ _ : g282 69 18 = 4))).trans (by decide); omega), fun h => absurd h (by decide)⟩)⟩⟩
                      · have r289 : (gi 69 18).toInt ≠ 0 := fun e => h279 (Int32.toInt_inj.mp (e.trans (by decide : (0:Int) = (0 : Int32).toInt)))
                        refine ev_ic f_X12_fails (nx := 33) (v := 0) rfl (by decide) rfl ?_
                        refine ev_retK1 f_X12_fails rfl rfl rfl ?_
                        exact ev_ret f_X12_aCase rfl rfl rfl ⟨_, _, _, rfl, hI, hX, ⟨_, rfl, (by decide : (0:Int) ≤ (0:Int32).toInt), (Int.le_trans (by decide : (0:Int32).toInt ≤ (0:Int)) (by decide : (0:Int) ≤ 1)), (show (gi 69 14).toInt ≤ (gi249 69 14).toInt ∧ (0 = 1 → (gi249 69 12).toInt ≠ 0 → (gi 69 14).toInt < (gi249 69 14).toInt) ∧ (0 = 0 → (gi249 69 18).toInt ≠ 0) ∧ (0 = 1 → t_K b gi249 1) from ⟨(by omega), (by omega), (by have ff290 : (gi249 69 18).toInt = (gi 69 18).toInt := congrArg Int32.toInt ((hC249.1 69 18 rfl).1.trans ((hC63.1 69 18 rfl).1.trans ((by rw [e62]; exact x_up2_off (Or.inr (by decide)) : g62 69 18 = gi 69 18).trans rfl))); omega), fun h => absurd h (by decide)⟩)⟩⟩
                  · have r291 : (gi249 69 12).toInt ≠ 3 := fun e => h253 (Int32.toInt_inj.mp (e.trans (by decide : (3:Int) = (3 : Int32).toInt)))
                    refine ev_loc f_X12_aCase (nx := 139) rfl rfl rfl rfl ?_
                    refine ev_ic f_X12_aCase (nx := 140) (v := 2) rfl (by decide) rfl ?_
                    refine ev_inV2 f_X12_aCase (nx := 143) (lo2 := [(0, .ref 69), (1, .int 2)]) rfl rfl rfl rfl f_X12_fails (hI.wf.s rfl) rfl rfl rfl rfl rfl ?_
                    refine ev_loc f_X12_fails (nx := 1) rfl rfl rfl rfl ?_
                    refine ev_gvI f_X12_fails (nx := 4) (w := (gi 69 18)) rfl (hI.wf.s rfl) rfl rfl ((hC249.1 69 18 rfl).1.trans ((hC63.1 69 18 rfl).1.trans ((by rw [e62]; exact x_up2_off (Or.inr (by decide)) : g62 69 18 = gi 69 18).trans rfl))) rfl ?_
                    refine ev_if f_X12_fails (t1 := 7) (t2 := 32) rfl rfl rfl (fun h292 => ?_) (fun h292 => ?_)
                    · have u293 : (gi 69 18).toInt ≤ 0 := t_equ h292 (by decide : (0:Int32).toInt ≤ (0:Int))
                      have l294 : 0 ≤ (gi 69 18).toInt := t_eql h292 (by decide : (0:Int) ≤ (0:Int32).toInt)
                      refine ev_loc f_X12_fails (nx := 8) rfl rfl rfl rfl ?_
                      refine ev_loc f_X12_fails (nx := 9) rfl rfl rfl rfl ?_
                      refine ev_gvI f_X12_fails (nx := 12) (w := (gi249 69 12)) rfl (hI.wf.s rfl) rfl rfl rfl rfl ?_
                      refine ev_ic f_X12_fails (nx := 13) (v := 1) rfl (by decide) rfl ?_
                      refine ev_if f_X12_fails (t1 := 16) (t2 := 20) rfl rfl rfl (fun h295 => ?_) (fun h295 => ?_)
                      · have u296 : (gi249 69 12).toInt ≤ 1 := t_equ h295 (by decide : (1:Int32).toInt ≤ (1:Int))
                        have l297 : 1 ≤ (gi249 69 12).toInt := t_eql h295 (by decide : (1:Int) ≤ (1:Int32).toInt)
                        refine ev_ic f_X12_fails (nx := 17) (v := 1) rfl (by decide) rfl ?_
                        refine ev_jmp f_X12_fails (nx := 21) rfl rfl rfl ?_
                        refine ev_putIT f_X12_fails (nx := 24) rfl (hI.wf.s rfl) rfl rfl rfl (hI.put0 (hI.wf.s rfl) rfl rfl) (hX.upI rfl) (fun g298 e298 hI hX => ?_)
                        refine ev_loc f_X12_fails (nx := 25) rfl rfl rfl rfl ?_
                        refine ev_loc f_X12_fails (nx := 26) rfl rfl rfl rfl ?_
                        refine ev_getI f_X12_fails (nx := 29) rfl (hI.wf.s rfl) rfl rfl rfl ?_
                        obtain ⟨l299, u299⟩ := hI.b (hI.wf.s (k := 69) rfl) (t_bdK rfl : t_bd 11 13 = some (0, 900))
                        refine ev_putIT f_X12_fails (nx := 32) rfl (hI.wf.s rfl) rfl rfl rfl (hI.put0 (hI.wf.s rfl) rfl rfl) (hX.upI rfl) (fun g300 e300 hI hX => ?_)
                        refine ev_ic f_X12_fails (nx := 33) (v := 0) rfl (by decide) rfl ?_
                        refine ev_retK1 f_X12_fails rfl rfl rfl ?_
                        exact ev_ret f_X12_aCase rfl rfl rfl ⟨_, _, _, rfl, hI, hX, ⟨_, rfl, (by decide : (0:Int) ≤ (0:Int32).toInt), (Int.le_trans (by decide : (0:Int32).toInt ≤ (0:Int)) (by decide : (0:Int) ≤ 1)), (show (gi 69 14).toInt ≤ (g300 69 14).toInt ∧ (0 = 1 → (g300 69 12).toInt ≠ 0 → (gi 69 14).toInt < (g300 69 14).toInt) ∧ (0 = 0 → (g300 69 18).toInt ≠ 0) ∧ (0 = 1 → t_K b g300 1) from ⟨(by have ff301 : (g300 69 14).toInt = (gi249 69 14).toInt := congrArg Int32.toInt ((by rw [e300]; exact x_up2_off (Or.inr (by decide)) : g300 69 14 = g298 69 14).trans ((by rw [e298]; exact x_up2_off (Or.inr (by decide)) : g298 69 14 = gi249 69 14).trans rfl)); omega), (by have ff302 : (g300 69 12).toInt = (gi249 69 12).toInt := congrArg Int32.toInt ((by rw [e300]; exact x_up2_off (Or.inr (by decide)) : g300 69 12 = g298 69 12).trans ((by rw [e298]; exact x_up2_off (Or.inr (by decide)) : g298 69 12 = gi249 69 12).trans rfl)); have ff303 : (g300 69 14).toInt = (gi249 69 14).toInt := congrArg Int32.toInt ((by rw [e300]; exact x_up2_off (Or.inr (by decide)) : g300 69 14 = g298 69 14).trans ((by rw [e298]; exact x_up2_off (Or.inr (by decide)) : g298 69 14 = gi249 69 14).trans rfl)); omega), (by have ff304 : (g300 69 18).toInt = 1 := (congrArg Int32.toInt ((by rw [e300]; exact x_up2_off (Or.inr (by decide)) : g300 69 18 = g298 69 18).trans (by rw [e298]; exact x_up2_at _ _ _ _ : g298 69 18 = 1))).trans (by decide); omega), fun h => absurd h (by decide)⟩)⟩⟩
                      · have r305 : (gi249 69 12).toInt ≠ 1 := fun e => h295 (Int32.toInt_inj.mp (e.trans (by decide : (1:Int) = (1 : Int32).toInt)))
                        refine ev_loc f_X12_fails (nx := 21) rfl rfl rfl rfl ?_
                        refine ev_putIT f_X12_fails (nx := 24) rfl (hI.wf.s rfl) rfl rfl rfl (hI.put0 (hI.wf.s rfl) rfl rfl) (hX.upI rfl) (fun g306 e306 hI hX => ?_)
                        refine ev_loc f_X12_fails (nx := 25) rfl rfl rfl rfl ?_
                        refine ev_loc f_X12_fails (nx := 26) rfl rfl rfl rfl ?_
                        refine ev_getI f_X12_fails (nx := 29) rfl (hI.wf.s rfl) rfl rfl rfl ?_
                        obtain ⟨l307, u307⟩ := hI.b (hI.wf.s (k := 69) rfl) (t_bdK rfl : t_bd 11 13 = some (0, 900))
                        refine ev_putIT f_X12_fails (nx := 32) rfl (hI.wf.s rfl) rfl rfl rfl (hI.put0 (hI.wf.s rfl) rfl rfl) (hX.upI rfl) (fun g308 e308 hI hX => ?_)
                        refine ev_ic f_X12_fails (nx := 33) (v := 0) rfl (by decide) rfl ?_
                        refine ev_retK1 f_X12_fails rfl rfl rfl ?_
                        exact ev_ret f_X12_aCase rfl rfl rfl ⟨_, _, _, rfl, hI, hX, ⟨_, rfl, (by decide : (0:Int) ≤ (0:Int32).toInt), (Int.le_trans (by decide : (0:Int32).toInt ≤ (0:Int)) (by decide : (0:Int) ≤ 1)), (show (gi 69 14).toInt ≤ (g308 69 14).toInt ∧ (0 = 1 → (g308 69 12).toInt ≠ 0 → (gi 69 14).toInt < (g308 69 14).toInt) ∧ (0 = 0 → (g308 69 18).toInt ≠ 0) ∧ (0 = 1 → t_K b g308 1) from ⟨(by have ff309 : (g308 69 14).toInt = (gi249 69 14).toInt := congrArg Int32.toInt ((by rw [e308]; exact x_up2_off (Or.inr (by decide)) : g308 69 14 = g306 69 14).trans ((by rw [e306]; exact x_up2_off (Or.inr (by decide)) : g306 69 14 = gi249 69 14).trans rfl)); omega), (by have ff310 : (g308 69 12).toInt = (gi249 69 12).toInt := congrArg Int32.toInt ((by rw [e308]; exact x_up2_off (Or.inr (by decide)) : g308 69 12 = g306 69 12).trans ((by rw [e306]; exact x_up2_off (Or.inr (by decide)) : g306 69 12 = gi249 69 12).trans rfl)); have ff311 : (g308 69 14).toInt = (gi249 69 14).toInt := congrArg Int32.toInt ((by rw [e308]; exact x_up2_off (Or.inr (by decide)) : g308 69 14 = g306 69 14).trans ((by rw [e306]; exact x_up2_off (Or.inr (by decide)) : g306 69 14 = gi249 69 14).trans rfl)); omega), (by have ff312 : (g308 69 18).toInt = 2 := (congrArg Int32.toInt ((by rw [e308]; exact x_up2_off (Or.inr (by decide)) : g308 69 18 = g306 69 18).trans (by rw [e306]; exact x_up2_at _ _ _ _ : g306 69 18 = 2))).trans (by decide); omega), fun h => absurd h (by decide)⟩)⟩⟩
                    · have r313 : (gi 69 18).toInt ≠ 0 := fun e => h292 (Int32.toInt_inj.mp (e.trans (by decide : (0:Int) = (0 : Int32).toInt)))
                      refine ev_ic f_X12_fails (nx := 33) (v := 0) rfl (by decide) rfl ?_
                      refine ev_retK1 f_X12_fails rfl rfl rfl ?_
                      exact ev_ret f_X12_aCase rfl rfl rfl ⟨_, _, _, rfl, hI, hX, ⟨_, rfl, (by decide : (0:Int) ≤ (0:Int32).toInt), (Int.le_trans (by decide : (0:Int32).toInt ≤ (0:Int)) (by decide : (0:Int) ≤ 1)), (show (gi 69 14).toInt ≤ (gi249 69 14).toInt ∧ (0 = 1 → (gi249 69 12).toInt ≠ 0 → (gi 69 14).toInt < (gi249 69 14).toInt) ∧ (0 = 0 → (gi249 69 18).toInt ≠ 0) ∧ (0 = 1 → t_K b gi249 1) from ⟨(by omega), (by omega), (by have ff314 : (gi249 69 18).toInt = (gi 69 18).toInt := congrArg Int32.toInt ((hC249.1 69 18 rfl).1.trans ((hC63.1 69 18 rfl).1.trans ((by rw [e62]; exact x_up2_off (Or.inr (by decide)) : g62 69 18 = gi 69 18).trans rfl))); omega), fun h => absurd h (by decide)⟩)⟩⟩
                · have r315 : (gi63 69 15).toInt ≠ 61 := fun e => h246 (Int32.toInt_inj.mp (e.trans (by decide : (61:Int) = (61 : Int32).toInt)))
                  refine ev_ic f_X12_isSign (nx := 21) (v := 0) rfl (by decide) rfl ?_
                  refine ev_retK1 f_X12_isSign rfl rfl rfl ?_
                  refine ev_t f_X12_aCase (t1 := 92) (t2 := 98) rfl rfl rfl (by decide) ?_
                  refine ev_loc f_X12_aCase (nx := 93) rfl rfl rfl rfl ?_
                  refine ev_ic f_X12_aCase (nx := 94) (v := 2) rfl (by decide) rfl ?_
                  refine ev_inV2 f_X12_aCase (nx := 97) (lo2 := [(0, .ref 69), (1, .int 2)]) rfl rfl rfl rfl f_X12_fails (hI.wf.s rfl) rfl rfl rfl rfl rfl ?_
                  refine ev_loc f_X12_fails (nx := 1) rfl rfl rfl rfl ?_
                  refine ev_gvI f_X12_fails (nx := 4) (w := (gi 69 18)) rfl (hI.wf.s rfl) rfl rfl ((hC63.1 69 18 rfl).1.trans ((by rw [e62]; exact x_up2_off (Or.inr (by decide)) : g62 69 18 = gi 69 18).trans rfl)) rfl ?_
                  refine ev_if f_X12_fails (t1 := 7) (t2 := 32) rfl rfl rfl (fun h316 => ?_) (fun h316 => ?_)
                  · have u317 : (gi 69 18).toInt ≤ 0 := t_equ h316 (by decide : (0:Int32).toInt ≤ (0:Int))
                    have l318 : 0 ≤ (gi 69 18).toInt := t_eql h316 (by decide : (0:Int) ≤ (0:Int32).toInt)
                    refine ev_loc f_X12_fails (nx := 8) rfl rfl rfl rfl ?_
                    refine ev_loc f_X12_fails (nx := 9) rfl rfl rfl rfl ?_
                    refine ev_gvI f_X12_fails (nx := 12) (w := (gi63 69 12)) rfl (hI.wf.s rfl) rfl rfl rfl rfl ?_
                    refine ev_ic f_X12_fails (nx := 13) (v := 1) rfl (by decide) rfl ?_
                    refine ev_f f_X12_fails (t1 := 16) (t2 := 20) rfl rfl rfl (t_neT' (by decide : (1:Int32).toInt ≤ (1:Int)) l105 (by decide)) ?_
                    refine ev_loc f_X12_fails (nx := 21) rfl rfl rfl rfl ?_
                    refine ev_putIT f_X12_fails (nx := 24) rfl (hI.wf.s rfl) rfl rfl rfl (hI.put0 (hI.wf.s rfl) rfl rfl) (hX.upI rfl) (fun g319 e319 hI hX => ?_)
                    refine ev_loc f_X12_fails (nx := 25) rfl rfl rfl rfl ?_
                    refine ev_loc f_X12_fails (nx := 26) rfl rfl rfl rfl ?_
                    refine ev_getI f_X12_fails (nx := 29) rfl (hI.wf.s rfl) rfl rfl rfl ?_
                    obtain ⟨l320, u320⟩ := hI.b (hI.wf.s (k := 69) rfl) (t_bdK rfl : t_bd 11 13 = some (0, 900))
                    refine ev_putIT f_X12_fails (nx := 32) rfl (hI.wf.s rfl) rfl rfl rfl (hI.put0 (hI.wf.s rfl) rfl rfl) (hX.upI rfl) (fun g321 e321 hI hX => ?_)
                    refine ev_ic f_X12_fails (nx := 33) (v := 0) rfl (by decide) rfl ?_
                    refine ev_retK1 f_X12_fails rfl rfl rfl ?_
                    exact ev_ret f_X12_aCase rfl rfl rfl ⟨_, _, _, rfl, hI, hX, ⟨_, rfl, (by decide : (0:Int) ≤ (0:Int32).toInt), (Int.le_trans (by decide : (0:Int32).toInt ≤ (0:Int)) (by decide : (0:Int) ≤ 1)), (show (gi 69 14).toInt ≤ (g321 69 14).toInt ∧ (0 = 1 → (g321 69 12).toInt ≠ 0 → (gi 69 14).toInt < (g321 69 14).toInt) ∧ (0 = 0 → (g321 69 18).toInt ≠ 0) ∧ (0 = 1 → t_K b g321 1) from ⟨(by have ff322 : (g321 69 14).toInt = (gi63 69 14).toInt := congrArg Int32.toInt ((by rw [e321]; exact x_up2_off (Or.inr (by decide)) : g321 69 14 = g319 69 14).trans ((by rw [e319]; exact x_up2_off (Or.inr (by decide)) : g319 69 14 = gi63 69 14).trans rfl)); omega), (by have ff323 : (g321 69 12).toInt = (gi63 69 12).toInt := congrArg Int32.toInt ((by rw [e321]; exact x_up2_off (Or.inr (by decide)) : g321 69 12 = g319 69 12).trans ((by rw [e319]; exact x_up2_off (Or.inr (by decide)) : g319 69 12 = gi63 69 12).trans rfl)); have ff324 : (g321 69 14).toInt = (gi63 69 14).toInt := congrArg Int32.toInt ((by rw [e321]; exact x_up2_off (Or.inr (by decide)) : g321 69 14 = g319 69 14).trans ((by rw [e319]; exact x_up2_off (Or.inr (by decide)) : g319 69 14 = gi63 69 14).trans rfl)); omega), (by have ff325 : (g321 69 18).toInt = 2 := (congrArg Int32.toInt ((by rw [e321]; exact x_up2_off (Or.inr (by decide)) : g321 69 18 = g319 69 18).trans (by rw [e319]; exact x_up2_at _ _ _ _ : g319 69 18 = 2))).trans (by decide); omega), fun h => absurd h (by decide)⟩)⟩⟩
                  · have r326 : (gi 69 18).toInt ≠ 0 := fun e => h316 (Int32.toInt_inj.mp (e.trans (by decide : (0:Int) = (0 : Int32).toInt)))
                    refine ev_ic f_X12_fails (nx := 33) (v := 0) rfl (by decide) rfl ?_
                    refine ev_retK1 f_X12_fails rfl rfl rfl ?_
                    exact ev_ret f_X12_aCase rfl rfl rfl ⟨_, _, _, rfl, hI, hX, ⟨_, rfl, (by decide : (0:Int) ≤ (0:Int32).toInt), (Int.le_trans (by decide : (0:Int32).toInt ≤ (0:Int)) (by decide : (0:Int) ≤ 1)), (show (gi 69 14).toInt ≤ (gi63 69 14).toInt ∧ (0 = 1 → (gi63 69 12).toInt ≠ 0 → (gi 69 14).toInt < (gi63 69 14).toInt) ∧ (0 = 0 → (gi63 69 18).toInt ≠ 0) ∧ (0 = 1 → t_K b gi63 1) from ⟨(by omega), (by omega), (by have ff327 : (gi63 69 18).toInt = (gi 69 18).toInt := congrArg Int32.toInt ((hC63.1 69 18 rfl).1.trans ((by rw [e62]; exact x_up2_off (Or.inr (by decide)) : g62 69 18 = gi 69 18).trans rfl)); omega), fun h => absurd h (by decide)⟩)⟩⟩
          · have r328 : (gi63 69 12).toInt ≠ 4 := fun e => h104 (Int32.toInt_inj.mp (e.trans (by decide : (4:Int) = (4 : Int32).toInt)))
            have u329 : (gi63 69 12).toInt ≤ 3 := t_neu h104 u65 rfl rfl
            refine ev_ic f_X12_isSign (nx := 21) (v := 0) rfl (by decide) rfl ?_
            refine ev_retK1 f_X12_isSign rfl rfl rfl ?_
            refine ev_t f_X12_aCase (t1 := 74) (t2 := 98) rfl rfl rfl (by decide) ?_
            refine ev_loc f_X12_aCase (nx := 75) rfl rfl rfl rfl ?_
            refine ev_bp f_X12_aCase (nx := 77) (v := 62) rfl (by decide) rfl ?_
            refine ev_inV2 f_X12_aCase (nx := 80) (lo2 := [(0, .ref 69), (1, .int 62)]) rfl rfl rfl rfl f_X12_isSign (hI.wf.s rfl) rfl rfl rfl rfl rfl ?_
            refine ev_loc f_X12_isSign (nx := 1) rfl rfl rfl rfl ?_
            refine ev_gvI f_X12_isSign (nx := 4) (w := (gi63 69 12)) rfl (hI.wf.s rfl) rfl rfl rfl rfl ?_
            refine ev_ic f_X12_isSign (nx := 5) (v := 4) rfl (by decide) rfl ?_
            refine ev_f f_X12_isSign (t1 := 8) (t2 := 20) rfl rfl rfl (t_neT u329 (by decide : (4:Int) ≤ (4:Int32).toInt) (by decide)) ?_
            refine ev_ic f_X12_isSign (nx := 21) (v := 0) rfl (by decide) rfl ?_
            refine ev_retK1 f_X12_isSign rfl rfl rfl ?_
            refine ev_t f_X12_aCase (t1 := 83) (t2 := 98) rfl rfl rfl (by decide) ?_
            refine ev_loc f_X12_aCase (nx := 84) rfl rfl rfl rfl ?_
            refine ev_bp f_X12_aCase (nx := 86) (v := 61) rfl (by decide) rfl ?_
            refine ev_inV2 f_X12_aCase (nx := 89) (lo2 := [(0, .ref 69), (1, .int 61)]) rfl rfl rfl rfl f_X12_isSign (hI.wf.s rfl) rfl rfl rfl rfl rfl ?_
            refine ev_loc f_X12_isSign (nx := 1) rfl rfl rfl rfl ?_
            refine ev_gvI f_X12_isSign (nx := 4) (w := (gi63 69 12)) rfl (hI.wf.s rfl) rfl rfl rfl rfl ?_
            refine ev_ic f_X12_isSign (nx := 5) (v := 4) rfl (by decide) rfl ?_
            refine ev_f f_X12_isSign (t1 := 8) (t2 := 20) rfl rfl rfl (t_neT u329 (by decide : (4:Int) ≤ (4:Int32).toInt) (by decide)) ?_
            refine ev_ic f_X12_isSign (nx := 21) (v := 0) rfl (by decide) rfl ?_
            refine ev_retK1 f_X12_isSign rfl rfl rfl ?_
            refine ev_t f_X12_aCase (t1 := 92) (t2 := 98) rfl rfl rfl (by decide) ?_
            refine ev_loc f_X12_aCase (nx := 93) rfl rfl rfl rfl ?_
            refine ev_ic f_X12_aCase (nx := 94) (v := 2) rfl (by decide) rfl ?_
            refine ev_inV2 f_X12_aCase (nx := 97) (lo2 := [(0, .ref 69), (1, .int 2)]) rfl rfl rfl rfl f_X12_fails (hI.wf.s rfl) rfl rfl rfl rfl rfl ?_
            refine ev_loc f_X12_fails (nx := 1) rfl rfl rfl rfl ?_
            refine ev_gvI f_X12_fails (nx := 4) (w := (gi 69 18)) rfl (hI.wf.s rfl) rfl rfl ((hC63.1 69 18 rfl).1.trans ((by rw [e62]; exact x_up2_off (Or.inr (by decide)) : g62 69 18 = gi 69 18).trans rfl)) rfl ?_
            refine ev_if f_X12_fails (t1 := 7) (t2 := 32) rfl rfl rfl (fun h330 => ?_) (fun h330 => ?_)
            · have u331 : (gi 69 18).toInt ≤ 0 := t_equ h330 (by decide : (0:Int32).toInt ≤ (0:Int))
              have l332 : 0 ≤ (gi 69 18).toInt := t_eql h330 (by decide : (0:Int) ≤ (0:Int32).toInt)
              refine ev_loc f_X12_fails (nx := 8) rfl rfl rfl rfl ?_
              refine ev_loc f_X12_fails (nx := 9) rfl rfl rfl rfl ?_
              refine ev_gvI f_X12_fails (nx := 12) (w := (gi63 69 12)) rfl (hI.wf.s rfl) rfl rfl rfl rfl ?_
              refine ev_ic f_X12_fails (nx := 13) (v := 1) rfl (by decide) rfl ?_
              refine ev_if f_X12_fails (t1 := 16) (t2 := 20) rfl rfl rfl (fun h333 => ?_) (fun h333 => ?_)
              · have u334 : (gi63 69 12).toInt ≤ 1 := t_equ h333 (by decide : (1:Int32).toInt ≤ (1:Int))
                have l335 : 1 ≤ (gi63 69 12).toInt := t_eql h333 (by decide : (1:Int) ≤ (1:Int32).toInt)
                refine ev_ic f_X12_fails (nx := 17) (v := 1) rfl (by decide) rfl ?_
                refine ev_jmp f_X12_fails (nx := 21) rfl rfl rfl ?_
                refine ev_putIT f_X12_fails (nx := 24) rfl (hI.wf.s rfl) rfl rfl rfl (hI.put0 (hI.wf.s rfl) rfl rfl) (hX.upI rfl) (fun g336 e336 hI hX => ?_)
                refine ev_loc f_X12_fails (nx := 25) rfl rfl rfl rfl ?_
                refine ev_loc f_X12_fails (nx := 26) rfl rfl rfl rfl ?_
                refine ev_getI f_X12_fails (nx := 29) rfl (hI.wf.s rfl) rfl rfl rfl ?_
                obtain ⟨l337, u337⟩ := hI.b (hI.wf.s (k := 69) rfl) (t_bdK rfl : t_bd 11 13 = some (0, 900))
                refine ev_putIT f_X12_fails (nx := 32) rfl (hI.wf.s rfl) rfl rfl rfl (hI.put0 (hI.wf.s rfl) rfl rfl) (hX.upI rfl) (fun g338 e338 hI hX => ?_)
                refine ev_ic f_X12_fails (nx := 33) (v := 0) rfl (by decide) rfl ?_
                refine ev_retK1 f_X12_fails rfl rfl rfl ?_
                exact ev_ret f_X12_aCase rfl rfl rfl ⟨_, _, _, rfl, hI, hX, ⟨_, rfl, (by decide : (0:Int) ≤ (0:Int32).toInt), (Int.le_trans (by decide : (0:Int32).toInt ≤ (0:Int)) (by decide : (0:Int) ≤ 1)), (show (gi 69 14).toInt ≤ (g338 69 14).toInt ∧ (0 = 1 → (g338 69 12).toInt ≠ 0 → (gi 69 14).toInt < (g338 69 14).toInt) ∧ (0 = 0 → (g338 69 18).toInt ≠ 0) ∧ (0 = 1 → t_K b g338 1) from ⟨(by have ff339 : (g338 69 14).toInt = (gi63 69 14).toInt := congrArg Int32.toInt ((by rw [e338]; exact x_up2_off (Or.inr (by decide)) : g338 69 14 = g336 69 14).trans ((by rw [e336]; exact x_up2_off (Or.inr (by decide)) : g336 69 14 = gi63 69 14).trans rfl)); omega), (by have ff340 : (g338 69 12).toInt = (gi63 69 12).toInt := congrArg Int32.toInt ((by rw [e338]; exact x_up2_off (Or.inr (by decide)) : g338 69 12 = g336 69 12).trans ((by rw [e336]; exact x_up2_off (Or.inr (by decide)) : g336 69 12 = gi63 69 12).trans rfl)); have ff341 : (g338 69 14).toInt = (gi63 69 14).toInt := congrArg Int32.toInt ((by rw [e338]; exact x_up2_off (Or.inr (by decide)) : g338 69 14 = g336 69 14).trans ((by rw [e336]; exact x_up2_off (Or.inr (by decide)) : g336 69 14 = gi63 69 14).trans rfl)); omega), (by have ff342 : (g338 69 18).toInt = 1 := (congrArg Int32.toInt ((by rw [e338]; exact x_up2_off (Or.inr (by decide)) : g338 69 18 = g336 69 18).trans (by rw [e336]; exact x_up2_at _ _ _ _ : g336 69 18 = 1))).trans (by decide); omega), fun h => absurd h (by decide)⟩)⟩⟩
              · have r343 : (gi63 69 12).toInt ≠ 1 := fun e => h333 (Int32.toInt_inj.mp (e.trans (by decide : (1:Int) = (1 : Int32).toInt)))
                refine ev_loc f_X12_fails (nx := 21) rfl rfl rfl rfl ?_
                refine ev_putIT f_X12_fails (nx := 24) rfl (hI.wf.s rfl) rfl rfl rfl (hI.put0 (hI.wf.s rfl) rfl rfl) (hX.upI rfl) (fun g344 e344 hI hX => ?_)
                refine ev_loc f_X12_fails (nx := 25) rfl rfl rfl rfl ?_
                refine ev_loc f_X12_fails (nx := 26) rfl rfl rfl rfl ?_
                refine ev_getI f_X12_fails (nx := 29) rfl (hI.wf.s rfl) rfl rfl rfl ?_
                obtain ⟨l345, u345⟩ := hI.b (hI.wf.s (k := 69) rfl) (t_bdK rfl : t_bd 11 13 = some (0, 900))
                refine ev_putIT f_X12_fails (nx := 32) rfl (hI.wf.s rfl) rfl rfl rfl (hI.put0 (hI.wf.s rfl) rfl rfl) (hX.upI rfl) (fun g346 e346 hI hX => ?_)
                refine ev_ic f_X12_fails (nx := 33) (v := 0) rfl (by decide) rfl ?_
                refine ev_retK1 f_X12_fails rfl rfl rfl ?_
                exact ev_ret f_X12_aCase rfl rfl rfl ⟨_, _, _, rfl, hI, hX, ⟨_, rfl, (by decide : (0:Int) ≤ (0:Int32).toInt), (Int.le_trans (by decide : (0:Int32).toInt ≤ (0:Int)) (by decide : (0:Int) ≤ 1)), (show (gi 69 14).toInt ≤ (g346 69 14).toInt ∧ (0 = 1 → (g346 69 12).toInt ≠ 0 → (gi 69 14).toInt < (g346 69 14).toInt) ∧ (0 = 0 → (g346 69 18).toInt ≠ 0) ∧ (0 = 1 → t_K b g346 1) from ⟨(by have ff347 : (g346 69 14).toInt = (gi63 69 14).toInt := congrArg Int32.toInt ((by rw [e346]; exact x_up2_off (Or.inr (by decide)) : g346 69 14 = g344 69 14).trans ((by rw [e344]; exact x_up2_off (Or.inr (by decide)) : g344 69 14 = gi63 69 14).trans rfl)); omega), (by have ff348 : (g346 69 12).toInt = (gi63 69 12).toInt := congrArg Int32.toInt ((by rw [e346]; exact x_up2_off (Or.inr (by decide)) : g346 69 12 = g344 69 12).trans ((by rw [e344]; exact x_up2_off (Or.inr (by decide)) : g344 69 12 = gi63 69 12).trans rfl)); have ff349 : (g346 69 14).toInt = (gi63 69 14).toInt := congrArg Int32.toInt ((by rw [e346]; exact x_up2_off (Or.inr (by decide)) : g346 69 14 = g344 69 14).trans ((by rw [e344]; exact x_up2_off (Or.inr (by decide)) : g344 69 14 = gi63 69 14).trans rfl)); omega), (by have ff350 : (g346 69 18).toInt = 2 := (congrArg Int32.toInt ((by rw [e346]; exact x_up2_off (Or.inr (by decide)) : g346 69 18 = g344 69 18).trans (by rw [e344]; exact x_up2_at _ _ _ _ : g344 69 18 = 2))).trans (by decide); omega), fun h => absurd h (by decide)⟩)⟩⟩
            · have r351 : (gi 69 18).toInt ≠ 0 := fun e => h330 (Int32.toInt_inj.mp (e.trans (by decide : (0:Int) = (0 : Int32).toInt)))
              refine ev_ic f_X12_fails (nx := 33) (v := 0) rfl (by decide) rfl ?_
              refine ev_retK1 f_X12_fails rfl rfl rfl ?_
              exact ev_ret f_X12_aCase rfl rfl rfl ⟨_, _, _, rfl, hI, hX, ⟨_, rfl, (by decide : (0:Int) ≤ (0:Int32).toInt), (Int.le_trans (by decide : (0:Int32).toInt ≤ (0:Int)) (by decide : (0:Int) ≤ 1)), (show (gi 69 14).toInt ≤ (gi63 69 14).toInt ∧ (0 = 1 → (gi63 69 12).toInt ≠ 0 → (gi 69 14).toInt < (gi63 69 14).toInt) ∧ (0 = 0 → (gi63 69 18).toInt ≠ 0) ∧ (0 = 1 → t_K b gi63 1) from ⟨(by omega), (by omega), (by have ff352 : (gi63 69 18).toInt = (gi 69 18).toInt := congrArg Int32.toInt ((hC63.1 69 18 rfl).1.trans ((by rw [e62]; exact x_up2_off (Or.inr (by decide)) : g62 69 18 = gi 69 18).trans rfl)); omega), fun h => absurd h (by decide)⟩)⟩⟩
noncomputable def wl_m_aOne : List (Nat × Nat) := [(69, 12), (69, 13), (69, 14), (69, 15), (69, 17), (69, 18), (69, 22), (69, 23), (69, 24), (69, 25), (70, 154011750), (77, 9999)]
noncomputable def Q_m_aOne (gi : Nat → Nat → Int32) (gl : Nat → Nat → Int64) (gr : Nat → Nat → Value) (b : Nat → Int32) : Int32 → (Nat → Nat → Int32) → (Nat → Nat → Int64) → (Nat → Nat → Value) → Prop := fun (v : Int32) (gi2 : Nat → Nat → Int32) (gl2 : Nat → Nat → Int64) (gr2 : Nat → Nat → Value) => (gi 69 14).toInt ≤ (gi2 69 14).toInt ∧ (v.toInt = 1 → (gi2 69 12).toInt ≠ 0 → (gi 69 14).toInt < (gi2 69 14).toInt) ∧ (v.toInt = 0 → (gi2 69 18).toInt ≠ 0) ∧ (v.toInt = 1 → t_K b gi2 2)
theorem c_m_aOne {X : x_Ext} {d : Nat} {sh : List (Nat ⊕ (Nat × Nat))} {gi : Nat → Nat → Int32} {gl : Nat → Nat → Int64} {gr : Nat → Nat → Value} (hI : t_I sh gi gr) {b : Nat → Int32} (e_p0 : t_K b gi 0) : x_Me X (d + 6) n_X12_aOne [.ref 69] (sh, gi, gl, gr) (t_PI wl_m_aOne sh gi gl gr 0 1 (Q_m_aOne gi gl gr b)) := by
  have hX : t_X wl_m_aOne sh gi gl gr gi gl gr := t_X.rf
  refine me_i f_X12_aOne (hI.wf.s rfl) rfl rfl rfl ?_
  obtain ⟨l1, u1⟩ := hI.b (hI.wf.s (k := 69) rfl) (t_bdK rfl : t_bd 11 12 = some (0, 4))
  obtain ⟨l2, u2⟩ := hI.b (hI.wf.s (k := 69) rfl) (t_bdK rfl : t_bd 11 14 = some (0, 900))
  obtain ⟨l4, u4⟩ := hI.b (hI.wf.s (k := 69) rfl) (t_bdK rfl : t_bd 11 22 = some (0, 60))
  obtain ⟨l5, u5⟩ := hI.b (hI.wf.s (k := 69) rfl) (t_bdK rfl : t_bd 11 23 = some (0, 6))
  obtain ⟨l6, u6⟩ := hI.b (hI.wf.s (k := 69) rfl) (t_bdK rfl : t_bd 11 24 = some (0, 24))
  obtain ⟨l7, u7⟩ := hI.b (hI.wf.s (k := 69) rfl) (t_bdK rfl : t_bd 11 25 = some (0, 210))
  have L8 : ∀ (m8 : Nat) (gi8 : Nat → Nat → Int32) (gl8 : Nat → Nat → Int64) (gr8 : Nat → Nat → Value), t_I sh gi8 gr8 → t_X wl_m_aOne sh gi gl gr gi8 gl8 gr8 → gi8 69 18 = (gi 69 18) → gi8 69 24 = (gi 69 24) → gi8 69 25 = (gi 69 25) → t_K b gi8 0 → (gi 69 14).toInt ≤ (gi8 69 14).toInt → (2 * (900 - (gi8 69 14).toInt) + min (gi8 69 12).toInt 1).toNat = m8 → x_Ev X (d + 6) n_X12_aOne 0 [(0, .ref 69)] [] (sh, gi8, gl8, gr8) (t_PI wl_m_aOne sh gi gl gr 0 1 (Q_m_aOne gi gl gr b)) := by
    intro m8
    induction m8 using Nat.strongRecOn with
    | _ m8 ih8 =>
    intro gi8 gl8 gr8 hI hX c8_0 c8_1 c8_2 j8_0 j8_1 hm8
    have cf8_0 : (gi8 69 18).toInt = (gi 69 18).toInt := congrArg Int32.toInt c8_0
    have cf8_1 : (gi8 69 24).toInt = (gi 69 24).toInt := congrArg Int32.toInt c8_1
    have cf8_2 : (gi8 69 25).toInt = (gi 69 25).toInt := congrArg Int32.toInt c8_2
    obtain ⟨l9, u9⟩ := hI.b (hI.wf.s (k := 69) rfl) (t_bdK rfl : t_bd 11 12 = some (0, 4))
    obtain ⟨l10, u10⟩ := hI.b (hI.wf.s (k := 69) rfl) (t_bdK rfl : t_bd 11 14 = some (0, 900))
    obtain ⟨l11, u11⟩ := hI.b (hI.wf.s (k := 69) rfl) (t_bdK rfl : t_bd 11 22 = some (0, 60))
    obtain ⟨l12, u12⟩ := hI.b (hI.wf.s (k := 69) rfl) (t_bdK rfl : t_bd 11 23 = some (0, 6))
    refine ev_loc f_X12_aOne (nx := 1) rfl rfl rfl rfl ?_
    refine ev_heap f_X12_aOne (nx := 3) rfl rfl rfl rfl ?_
    refine ev_qI f_X12_aOne (nx := 6) (r := []) rfl rfl rfl rfl rfl rfl rfl (c_m_inWords hI ) rfl hX rfl (fun w13 gi13 gl13 gr13 l13 u13 hI hX hC13 q13 => ?_)
    have q13 : 0 ≤ w13.toInt → (gi8 69 12).toInt = 2 := q13
    refine ev_bp f_X12_aOne (nx := 8) (v := 20) rfl (by decide) rfl ?_
    refine ev_if f_X12_aOne (t1 := 20) (t2 := 11) rfl rfl rfl (fun h14 => ?_) (fun h14 => ?_)
    · have u15 : w13.toInt ≤ 20 := t_equ h14 (by decide : (20:Int32).toInt ≤ (20:Int))
      have l16 : 20 ≤ w13.toInt := t_eql h14 (by decide : (20:Int) ≤ (20:Int32).toInt)
      refine ev_loc f_X12_aOne (nx := 21) rfl rfl rfl rfl ?_
      refine ev_gvI f_X12_aOne (nx := 24) (w := (gi8 69 23)) rfl (hI.wf.s rfl) rfl rfl ((hC13.1 69 23 rfl).1.trans rfl) rfl ?_
      refine ev_bp f_X12_aOne (nx := 26) (v := 6) rfl (by decide) rfl ?_
      refine ev_if f_X12_aOne (t1 := 29) (t2 := 36) rfl rfl rfl (fun h17 => ?_) (fun h17 => ?_)
      · have l18 : 6 ≤ (gi8 69 23).toInt := t_eql h17 (by decide : (6:Int) ≤ (6:Int32).toInt)
        refine ev_loc f_X12_aOne (nx := 30) rfl rfl rfl rfl ?_
        refine ev_bp f_X12_aOne (nx := 32) (v := 7) rfl (by decide) rfl ?_
        refine ev_inV2 f_X12_aOne (nx := 35) (lo2 := [(0, .ref 69), (1, .int 7)]) rfl rfl rfl rfl f_X12_fails (hI.wf.s rfl) rfl rfl rfl rfl rfl ?_
        refine ev_loc f_X12_fails (nx := 1) rfl rfl rfl rfl ?_
        refine ev_gvI f_X12_fails (nx := 4) (w := (gi 69 18)) rfl (hI.wf.s rfl) rfl rfl ((hC13.1 69 18 rfl).1.trans c8_0) rfl ?_
        refine ev_if f_X12_fails (t1 := 7) (t2 := 32) rfl rfl rfl (fun h19 => ?_) (fun h19 => ?_)
        · have u20 : (gi 69 18).toInt ≤ 0 := t_equ h19 (by decide : (0:Int32).toInt ≤ (0:Int))
          have l21 : 0 ≤ (gi 69 18).toInt := t_eql h19 (by decide : (0:Int) ≤ (0:Int32).toInt)
          refine ev_loc f_X12_fails (nx := 8) rfl rfl rfl rfl ?_
          refine ev_loc f_X12_fails (nx := 9) rfl rfl rfl rfl ?_
          refine ev_gvI f_X12_fails (nx := 12) (w := (gi8 69 12)) rfl (hI.wf.s rfl) rfl rfl ((hC13.1 69 12 rfl).1.trans rfl) rfl ?_
          refine ev_ic f_X12_fails (nx := 13) (v := 1) rfl (by decide) rfl ?_
          refine ev_if f_X12_fails (t1 := 16) (t2 := 20) rfl rfl rfl (fun h22 => ?_) (fun h22 => ?_)
          · have u23 : (gi8 69 12).toInt ≤ 1 := t_equ h22 (by decide : (1:Int32).toInt ≤ (1:Int))
            have l24 : 1 ≤ (gi8 69 12).toInt := t_eql h22 (by decide : (1:Int) ≤ (1:Int32).toInt)
            refine ev_ic f_X12_fails (nx := 17) (v := 1) rfl (by decide) rfl ?_
            refine ev_jmp f_X12_fails (nx := 21) rfl rfl rfl ?_
            refine ev_putIT f_X12_fails (nx := 24) rfl (hI.wf.s rfl) rfl rfl rfl (hI.put0 (hI.wf.s rfl) rfl rfl) (hX.upI rfl) (fun g25 e25 hI hX => ?_)
            refine ev_loc f_X12_fails (nx := 25) rfl rfl rfl rfl ?_
            refine ev_loc f_X12_fails (nx := 26) rfl rfl rfl rfl ?_
            refine ev_getI f_X12_fails (nx := 29) rfl (hI.wf.s rfl) rfl rfl rfl ?_
            obtain ⟨l26, u26⟩ := hI.b (hI.wf.s (k := 69) rfl) (t_bdK rfl : t_bd 11 13 = some (0, 900))
            refine ev_putIT f_X12_fails (nx := 32) rfl (hI.wf.s rfl) rfl rfl rfl (hI.put0 (hI.wf.s rfl) rfl rfl) (hX.upI rfl) (fun g27 e27 hI hX => ?_)
            refine ev_ic f_X12_fails (nx := 33) (v := 0) rfl (by decide) rfl ?_
            refine ev_retK1 f_X12_fails rfl rfl rfl ?_
            exact ev_ret f_X12_aOne rfl rfl rfl ⟨_, _, _, rfl, hI, hX, ⟨_, rfl, (by decide : (0:Int) ≤ (0:Int32).toInt), (Int.le_trans (by decide : (0:Int32).toInt ≤ (0:Int)) (by decide : (0:Int) ≤ 1)), (show (gi 69 14).toInt ≤ (g27 69 14).toInt ∧ (0 = 1 → (g27 69 12).toInt ≠ 0 → (gi 69 14).toInt < (g27 69 14).toInt) ∧ (0 = 0 → (g27 69 18).toInt ≠ 0) ∧ (0 = 1 → t_K b g27 2) from ⟨(by have ff28 : (g27 69 14).toInt = (gi8 69 14).toInt := congrArg Int32.toInt ((by rw [e27]; exact x_up2_off (Or.inr (by decide)) : g27 69 14 = g25 69 14).trans ((by rw [e25]; exact x_up2_off (Or.inr (by decide)) : g25 69 14 = gi13 69 14).trans ((hC13.1 69 14 rfl).1.trans rfl))); omega), (by have ff29 : (g27 69 12).toInt = (gi8 69 12).toInt := congrArg Int32.toInt ((by rw [e27]; exact x_up2_off (Or.inr (by decide)) : g27 69 12 = g25 69 12).trans ((by rw [e25]; exact x_up2_off (Or.inr (by decide)) : g25 69 12 = gi13 69 12).trans ((hC13.1 69 12 rfl).1.trans rfl))); have ff30 : (g27 69 14).toInt = (gi8 69 14).toInt := congrArg Int32.toInt ((by rw [e27]; exact x_up2_off (Or.inr (by decide)) : g27 69 14 = g25 69 14).trans ((by rw [e25]; exact x_up2_off (Or.inr (by decide)) : g25 69 14 = gi13 69 14).trans ((hC13.1 69 14 rfl).1.trans rfl))); omega), (by have ff31 : (g27 69 18).toInt = 1 := (congrArg Int32.toInt ((by rw [e27]; exact x_up2_off (Or.inr (by decide)) : g27 69 18 = g25 69 18).trans (by rw [e25]; exact x_up2_at _ _ _ _ : g25 69 18 = 1))).trans (by decide); omega), fun h => absurd h (by decide)⟩)⟩⟩
          · have r32 : (gi8 69 12).toInt ≠ 1 := fun e => h22 (Int32.toInt_inj.mp (e.trans (by decide : (1:Int) = (1 : Int32).toInt)))
            refine ev_loc f_X12_fails (nx := 21) rfl rfl rfl rfl ?_
            refine ev_putIT f_X12_fails (nx := 24) rfl (hI.wf.s rfl) rfl rfl rfl (hI.put0 (hI.wf.s rfl) rfl rfl) (hX.upI rfl) (fun g33 e33 hI hX => ?_)
            refine ev_loc f_X12_fails (nx := 25) rfl rfl rfl rfl ?_
            refine ev_loc f_X12_fails (nx := 26) rfl rfl rfl rfl ?_
            refine ev_getI f_X12_fails (nx := 29) rfl (hI.wf.s rfl) rfl rfl rfl ?_
            obtain ⟨l34, u34⟩ := hI.b (hI.wf.s (k := 69) rfl) (t_bdK rfl : t_bd 11 13 = some (0, 900))
            refine ev_putIT f_X12_fails (nx := 32) rfl (hI.wf.s rfl) rfl rfl rfl (hI.put0 (hI.wf.s rfl) rfl rfl) (hX.upI rfl) (fun g35 e35 hI hX => ?_)
            refine ev_ic f_X12_fails (nx := 33) (v := 0) rfl (by decide) rfl ?_
            refine ev_retK1 f_X12_fails rfl rfl rfl ?_
            exact ev_ret f_X12_aOne rfl rfl rfl ⟨_, _, _, rfl, hI, hX, ⟨_, rfl, (by decide : (0:Int) ≤ (0:Int32).toInt), (Int.le_trans (by decide : (0:Int32).toInt ≤ (0:Int)) (by decide : (0:Int) ≤ 1)), (show (gi 69 14).toInt ≤ (g35 69 14).toInt ∧ (0 = 1 → (g35 69 12).toInt ≠ 0 → (gi 69 14).toInt < (g35 69 14).toInt) ∧ (0 = 0 → (g35 69 18).toInt ≠ 0) ∧ (0 = 1 → t_K b g35 2) from ⟨(by have ff36 : (g35 69 14).toInt = (gi8 69 14).toInt := congrArg Int32.toInt ((by rw [e35]; exact x_up2_off (Or.inr (by decide)) : g35 69 14 = g33 69 14).trans ((by rw [e33]; exact x_up2_off (Or.inr (by decide)) : g33 69 14 = gi13 69 14).trans ((hC13.1 69 14 rfl).1.trans rfl))); omega), (by have ff37 : (g35 69 12).toInt = (gi8 69 12).toInt := congrArg Int32.toInt ((by rw [e35]; exact x_up2_off (Or.inr (by decide)) : g35 69 12 = g33 69 12).trans ((by rw [e33]; exact x_up2_off (Or.inr (by decide)) : g33 69 12 = gi13 69 12).trans ((hC13.1 69 12 rfl).1.trans rfl))); have ff38 : (g35 69 14).toInt = (gi8 69 14).toInt := congrArg Int32.toInt ((by rw [e35]; exact x_up2_off (Or.inr (by decide)) : g35 69 14 = g33 69 14).trans ((by rw [e33]; exact x_up2_off (Or.inr (by decide)) : g33 69 14 = gi13 69 14).trans ((hC13.1 69 14 rfl).1.trans rfl))); omega), (by have ff39 : (g35 69 18).toInt = 7 := (congrArg Int32.toInt ((by rw [e35]; exact x_up2_off (Or.inr (by decide)) : g35 69 18 = g33 69 18).trans (by rw [e33]; exact x_up2_at _ _ _ _ : g33 69 18 = 7))).trans (by decide); omega), fun h => absurd h (by decide)⟩)⟩⟩
        · have r40 : (gi 69 18).toInt ≠ 0 := fun e => h19 (Int32.toInt_inj.mp (e.trans (by decide : (0:Int) = (0 : Int32).toInt)))
          refine ev_ic f_X12_fails (nx := 33) (v := 0) rfl (by decide) rfl ?_
          refine ev_retK1 f_X12_fails rfl rfl rfl ?_
          exact ev_ret f_X12_aOne rfl rfl rfl ⟨_, _, _, rfl, hI, hX, ⟨_, rfl, (by decide : (0:Int) ≤ (0:Int32).toInt), (Int.le_trans (by decide : (0:Int32).toInt ≤ (0:Int)) (by decide : (0:Int) ≤ 1)), (show (gi 69 14).toInt ≤ (gi13 69 14).toInt ∧ (0 = 1 → (gi13 69 12).toInt ≠ 0 → (gi 69 14).toInt < (gi13 69 14).toInt) ∧ (0 = 0 → (gi13 69 18).toInt ≠ 0) ∧ (0 = 1 → t_K b gi13 2) from ⟨(by have ff41 : (gi13 69 14).toInt = (gi8 69 14).toInt := congrArg Int32.toInt ((hC13.1 69 14 rfl).1.trans rfl); omega), (by have ff42 : (gi13 69 12).toInt = (gi8 69 12).toInt := congrArg Int32.toInt ((hC13.1 69 12 rfl).1.trans rfl); have ff43 : (gi13 69 14).toInt = (gi8 69 14).toInt := congrArg Int32.toInt ((hC13.1 69 14 rfl).1.trans rfl); omega), (by have ff44 : (gi13 69 18).toInt = (gi 69 18).toInt := congrArg Int32.toInt ((hC13.1 69 18 rfl).1.trans c8_0); omega), fun h => absurd h (by decide)⟩)⟩⟩
      · have r45 : (gi8 69 23).toInt ≠ 6 := fun e => h17 (Int32.toInt_inj.mp (e.trans (by decide : (6:Int) = (6 : Int32).toInt)))
        have u46 : (gi8 69 23).toInt ≤ 5 := t_neu h17 u12 rfl rfl
        refine ev_loc f_X12_aOne (nx := 37) rfl rfl rfl rfl ?_
        refine ev_alu f_X12_aOne (nx := 38) rfl rfl rfl rfl ?_
        refine ev_gvI f_X12_aOne (nx := 41) (w := (gi8 69 23)) rfl (hI.wf.s rfl) rfl rfl ((hC13.1 69 23 rfl).1.trans rfl) rfl ?_
        refine ev_ic f_X12_aOne (nx := 42) (v := 1) rfl (by decide) rfl ?_
        refine ev_addC f_X12_aOne (nx := 43) (c := 1) (l := 1) (u := 6) rfl (by decide) l12 u46 rfl rfl (by decide) (by decide) rfl (fun z47 e47 l47 u47 => ?_)
        refine ev_putIT f_X12_aOne (nx := 46) rfl (hI.wf.s rfl) rfl rfl rfl (hI.putB (hI.wf.s rfl) rfl rfl l47 (by decide) u47 (by decide)) (hX.upI rfl) (fun g48 e48 hI hX => ?_)
        refine ev_loc f_X12_aOne (nx := 47) rfl rfl rfl rfl ?_
        refine ev_loc f_X12_aOne (nx := 48) rfl rfl rfl rfl ?_
        refine ev_bp f_X12_aOne (nx := 50) (v := 40) rfl (by decide) rfl ?_
        refine ev_inV2 f_X12_aOne (nx := 53) (lo2 := [(0, .ref 69), (1, .int 40)]) rfl rfl rfl rfl f_X12_isSign (hI.wf.s rfl) rfl rfl rfl rfl rfl ?_
        refine ev_loc f_X12_isSign (nx := 1) rfl rfl rfl rfl ?_
        refine ev_gvI f_X12_isSign (nx := 4) (w := (gi8 69 12)) rfl (hI.wf.s rfl) rfl rfl ((by rw [e48]; exact x_up2_off (Or.inr (by decide)) : g48 69 12 = gi13 69 12).trans ((hC13.1 69 12 rfl).1.trans rfl)) rfl ?_
        refine ev_ic f_X12_isSign (nx := 5) (v := 4) rfl (by decide) rfl ?_
        refine ev_if f_X12_isSign (t1 := 8) (t2 := 20) rfl rfl rfl (fun h49 => ?_) (fun h49 => ?_)
        · have l50 : 4 ≤ (gi8 69 12).toInt := t_eql h49 (by decide : (4:Int) ≤ (4:Int32).toInt)
          refine ev_loc f_X12_isSign (nx := 9) rfl rfl rfl rfl ?_
          refine ev_getI f_X12_isSign (nx := 12) rfl (hI.wf.s rfl) rfl rfl rfl ?_
          refine ev_loc f_X12_isSign (nx := 13) rfl rfl rfl rfl ?_
          refine ev_if f_X12_isSign (t1 := 16) (t2 := 20) rfl rfl rfl (fun h51 => ?_) (fun h51 => ?_)
          · have u52 : (g48 69 15).toInt ≤ 40 := t_equ h51 (by decide : (40:Int32).toInt ≤ (40:Int))
            have l53 : 40 ≤ (g48 69 15).toInt := t_eql h51 (by decide : (40:Int) ≤ (40:Int32).toInt)
            refine ev_ic f_X12_isSign (nx := 17) (v := 1) rfl (by decide) rfl ?_
            refine ev_jmp f_X12_isSign (nx := 21) rfl rfl rfl ?_
            refine ev_retK1 f_X12_isSign rfl rfl rfl ?_
            refine ev_f f_X12_aOne (t1 := 61) (t2 := 56) rfl rfl rfl (by decide) ?_
            refine ev_bp f_X12_aOne (nx := 58) (v := 40) rfl (by decide) rfl ?_
            refine ev_jmp f_X12_aOne (nx := 63) rfl rfl rfl ?_
            refine ev_inV2 f_X12_aOne (nx := 66) (lo2 := [(0, .ref 69), (1, .int 40)]) rfl rfl rfl rfl f_X12_does (hI.wf.s rfl) rfl rfl rfl rfl rfl ?_
            have kn54 := t_K_num j8_0
            refine ev_loc f_X12_does (nx := 1) rfl rfl rfl rfl ?_
            refine ev_getR f_X12_does (nx := 4) rfl (hI.wf.s rfl) rfl rfl (hI.wf.r rfl) rfl rfl ?_
            refine ev_loc f_X12_does (nx := 5) rfl rfl rfl rfl ?_
            refine ev_gvI f_X12_does (nx := 8) (w := (gi8 69 22)) rfl (hI.wf.s rfl) rfl rfl ((by rw [e48]; exact x_up2_off (Or.inr (by decide)) : g48 69 22 = gi13 69 22).trans ((hC13.1 69 22 rfl).1.trans rfl)) rfl ?_
            refine ev_loc f_X12_does (nx := 9) rfl rfl rfl rfl ?_
            have u56 : (gi8 69 22).toInt ≤ (59:Int) := (by omega)
            refine ev_iastT f_X12_does (nx := 10) rfl (hI.wf.s rfl) l11 (by decide) u56 (by decide) rfl (hI.astG (hI.wf.s rfl) (fun lo hi e => absurd e (t_nob (by decide +kernel) _)) (fun k hk e => by have := hk.2.1; omega)) (hX.upI (t_inA_ok rfl)) (fun g55 e55 hI hX => ?_)
            refine ev_loc f_X12_does (nx := 11) rfl rfl rfl rfl ?_
            refine ev_alu f_X12_does (nx := 12) rfl rfl rfl rfl ?_
            refine ev_gvI f_X12_does (nx := 15) (w := (gi8 69 22)) rfl (hI.wf.s rfl) rfl rfl ((by rw [e55]; exact x_up2_off (Or.inl (by decide)) : g55 69 22 = g48 69 22).trans ((by rw [e48]; exact x_up2_off (Or.inr (by decide)) : g48 69 22 = gi13 69 22).trans ((hC13.1 69 22 rfl).1.trans rfl))) rfl ?_
            refine ev_ic f_X12_does (nx := 16) (v := 1) rfl (by decide) rfl ?_
            refine ev_addC f_X12_does (nx := 17) (c := 1) (l := 1) (u := 60) rfl (by decide) l11 u56 rfl rfl (by decide) (by decide) rfl (fun z57 e57 l57 u57 => ?_)
            refine ev_putIT f_X12_does (nx := 20) rfl (hI.wf.s rfl) rfl rfl rfl (hI.putB (hI.wf.s rfl) rfl rfl l57 (by decide) u57 (by decide)) (hX.upI rfl) (fun g58 e58 hI hX => ?_)
            refine ev_retK0 f_X12_does rfl rfl rfl ?_
            refine ev_loc f_X12_aOne (nx := 67) rfl rfl rfl rfl ?_
            refine ev_qN f_X12_aOne (nx := 70) (r := []) rfl rfl rfl rfl rfl rfl rfl (c_m_ahead2 hI ) rfl hX rfl (fun gi59 gl59 gr59 hI hX hC59 q59 => ?_)
            have ff60 : (g58 69 14).toInt = (gi8 69 14).toInt := congrArg Int32.toInt ((by rw [e58]; exact x_up2_off (Or.inr (by decide)) : g58 69 14 = g55 69 14).trans ((by rw [e55]; exact x_up2_off (Or.inl (by decide)) : g55 69 14 = g48 69 14).trans ((by rw [e48]; exact x_up2_off (Or.inr (by decide)) : g48 69 14 = gi13 69 14).trans ((hC13.1 69 14 rfl).1.trans rfl))))
            have q59 : (g58 69 14).toInt ≤ (gi59 69 14).toInt ∧ ((gi59 69 12).toInt ≠ 0 → (g58 69 14).toInt < (gi59 69 14).toInt) ∧ ((gi59 69 12).toInt = 3 → 0 ≤ (gi59 69 15).toInt) := q59
            obtain ⟨l61, u61⟩ := hI.b (hI.wf.s (k := 69) rfl) (t_bdK rfl : t_bd 11 12 = some (0, 4))
            obtain ⟨l62, u62⟩ := hI.b (hI.wf.s (k := 69) rfl) (t_bdK rfl : t_bd 11 14 = some (0, 900))
            refine ev_jmp f_X12_aOne (nx := 0) rfl rfl rfl ?_
            refine ev_sub (lo := [(0, .ref 69)]) rfl (t_sc rfl t_sn) ?_
            exact ih8 _ (by omega) gi59 gl59 gr59  hI hX  ((hC59.1 69 18 rfl).1.trans ((by rw [e58]; exact x_up2_off (Or.inr (by decide)) : g58 69 18 = g55 69 18).trans ((by rw [e55]; exact x_up2_off (Or.inl (by decide)) : g55 69 18 = g48 69 18).trans ((by rw [e48]; exact x_up2_off (Or.inr (by decide)) : g48 69 18 = gi13 69 18).trans ((hC13.1 69 18 rfl).1.trans c8_0))))) ((hC59.1 69 24 rfl).1.trans ((by rw [e58]; exact x_up2_off (Or.inr (by decide)) : g58 69 24 = g55 69 24).trans ((by rw [e55]; exact x_up2_off (Or.inl (by decide)) : g55 69 24 = g48 69 24).trans ((by rw [e48]; exact x_up2_off (Or.inr (by decide)) : g48 69 24 = gi13 69 24).trans ((hC13.1 69 24 rfl).1.trans c8_1))))) ((hC59.1 69 25 rfl).1.trans ((by rw [e58]; exact x_up2_off (Or.inr (by decide)) : g58 69 25 = g55 69 25).trans ((by rw [e55]; exact x_up2_off (Or.inl (by decide)) : g55 69 25 = g48 69 25).trans ((by rw [e48]; exact x_up2_off (Or.inr (by decide)) : g48 69 25 = gi13 69 25).trans ((hC13.1 69 25 rfl).1.trans c8_2))))) (by have ho := (t_onec (p := (gi8 69 22).toInt.toNat) ((by rw [e48]; exact x_up2_ne (by decide) : g48 77 = gi13 77).trans ((funext (fun j => (hC13.1 77 j rfl).1) : gi13 77 = gi8 77))) e55 ((funext (fun j => (hC59.1 77 j rfl).1) : gi59 77 = g58 77).trans ((by rw [e58]; exact x_up2_ne (by decide) : g58 77 = g55 77))) (by have hc := t_clamp (i := (gi8 69 22)) (by omega); omega)); exact t_K_does j8_0 (by omega) (by decide) (show (gi59 69 22).toInt = (gi8 69 22).toInt + 1 from (by have ff63 : (gi59 69 22).toInt = z57.toInt := congrArg Int32.toInt ((hC59.1 69 22 rfl).1.trans (by rw [e58]; exact x_up2_at _ _ _ _ : g58 69 22 = z57)); omega)) (show (gi59 69 23).toInt = (gi8 69 23).toInt + 1 from (by have ff64 : (gi59 69 23).toInt = z47.toInt := congrArg Int32.toInt ((hC59.1 69 23 rfl).1.trans ((by rw [e58]; exact x_up2_off (Or.inr (by decide)) : g58 69 23 = g55 69 23).trans ((by rw [e55]; exact x_up2_off (Or.inl (by decide)) : g55 69 23 = g48 69 23).trans (by rw [e48]; exact x_up2_at _ _ _ _ : g48 69 23 = z47)))); omega)) (show (gi59 69 24).toInt = (gi8 69 24).toInt from (by have ff65 : (gi59 69 24).toInt = (gi 69 24).toInt := congrArg Int32.toInt ((hC59.1 69 24 rfl).1.trans ((by rw [e58]; exact x_up2_off (Or.inr (by decide)) : g58 69 24 = g55 69 24).trans ((by rw [e55]; exact x_up2_off (Or.inl (by decide)) : g55 69 24 = g48 69 24).trans ((by rw [e48]; exact x_up2_off (Or.inr (by decide)) : g48 69 24 = gi13 69 24).trans ((hC13.1 69 24 rfl).1.trans c8_1))))); omega)) (show (gi59 69 25).toInt = (gi8 69 25).toInt from (by have ff66 : (gi59 69 25).toInt = (gi 69 25).toInt := congrArg Int32.toInt ((hC59.1 69 25 rfl).1.trans ((by rw [e58]; exact x_up2_off (Or.inr (by decide)) : g58 69 25 = g55 69 25).trans ((by rw [e55]; exact x_up2_off (Or.inl (by decide)) : g55 69 25 = g48 69 25).trans ((by rw [e48]; exact x_up2_off (Or.inr (by decide)) : g48 69 25 = gi13 69 25).trans ((hC13.1 69 25 rfl).1.trans c8_2))))); omega)) ((funext (fun j => (hC59.1 70 j rfl).1) : gi59 70 = g58 70).trans ((by rw [e58]; exact x_up2_ne (by decide) : g58 70 = g55 70).trans ((by rw [e55]; exact x_up2_ne (by decide) : g55 70 = g48 70).trans ((by rw [e48]; exact x_up2_ne (by decide) : g48 70 = gi13 70).trans ((funext (fun j => (hC13.1 70 j rfl).1) : gi13 70 = gi8 70)))))) ho.1 ho.2) (by omega) rfl
          · have r67 : (g48 69 15).toInt ≠ 40 := fun e => h51 (Int32.toInt_inj.mp (e.trans (by decide : (40:Int) = (40 : Int32).toInt)))
            refine ev_ic f_X12_isSign (nx := 21) (v := 0) rfl (by decide) rfl ?_
            refine ev_retK1 f_X12_isSign rfl rfl rfl ?_
            refine ev_t f_X12_aOne (t1 := 61) (t2 := 56) rfl rfl rfl (by decide) ?_
            refine ev_bp f_X12_aOne (nx := 63) (v := 20) rfl (by decide) rfl ?_
            refine ev_inV2 f_X12_aOne (nx := 66) (lo2 := [(0, .ref 69), (1, .int 20)]) rfl rfl rfl rfl f_X12_does (hI.wf.s rfl) rfl rfl rfl rfl rfl ?_
            have kn68 := t_K_num j8_0
            refine ev_loc f_X12_does (nx := 1) rfl rfl rfl rfl ?_
            refine ev_getR f_X12_does (nx := 4) rfl (hI.wf.s rfl) rfl rfl (hI.wf.r rfl) rfl rfl ?_
            refine ev_loc f_X12_does (nx := 5) rfl rfl rfl rfl ?_
            refine ev_gvI f_X12_does (nx := 8) (w := (gi8 69 22)) rfl (hI.wf.s rfl) rfl rfl ((by rw [e48]; exact x_up2_off (Or.inr (by decide)) : g48 69 22 = gi13 69 22).trans ((hC13.1 69 22 rfl).1.trans rfl)) rfl ?_
            refine ev_loc f_X12_does (nx := 9) rfl rfl rfl rfl ?_
            have u70 : (gi8 69 22).toInt ≤ (59:Int) := (by omega)
            refine ev_iastT f_X12_does (nx := 10) rfl (hI.wf.s rfl) l11 (by decide) u70 (by decide) rfl (hI.astG (hI.wf.s rfl) (fun lo hi e => absurd e (t_nob (by decide +kernel) _)) (fun k hk e => by have := hk.2.1; omega)) (hX.upI (t_inA_ok rfl)) (fun g69 e69 hI hX => ?_)
            refine ev_loc f_X12_does (nx := 11) rfl rfl rfl rfl ?_
            refine ev_alu f_X12_does (nx := 12) rfl rfl rfl rfl ?_
            refine ev_gvI f_X12_does (nx := 15) (w := (gi8 69 22)) rfl (hI.wf.s rfl) rfl rfl ((by rw [e69]; exact x_up2_off (Or.inl (by decide)) : g69 69 22 = g48 69 22).trans ((by rw [e48]; exact x_up2_off (Or.inr (by decide)) : g48 69 22 = gi13 69 22).trans ((hC13.1 69 22 rfl).1.trans rfl))) rfl ?_
            refine ev_ic f_X12_does (nx := 16) (v := 1) rfl (by decide) rfl ?_
            refine ev_addC f_X12_does (nx := 17) (c := 1) (l := 1) (u := 60) rfl (by decide) l11 u70 rfl rfl (by decide) (by decide) rfl (fun z71 e71 l71 u71 => ?_)
            refine ev_putIT f_X12_does (nx := 20) rfl (hI.wf.s rfl) rfl rfl rfl (hI.putB (hI.wf.s rfl) rfl rfl l71 (by decide) u71 (by decide)) (hX.upI rfl) (fun g72 e72 hI hX => ?_)
            refine ev_retK0 f_X12_does rfl rfl rfl ?_
            refine ev_loc f_X12_aOne (nx := 67) rfl rfl rfl rfl ?_
            refine ev_qN f_X12_aOne (nx := 70) (r := []) rfl rfl rfl rfl rfl rfl rfl (c_m_ahead2 hI ) rfl hX rfl (fun gi73 gl73 gr73 hI hX hC73 q73 => ?_)
            have ff74 : (g72 69 14).toInt = (gi8 69 14).toInt := congrArg Int32.toInt ((by rw [e72]; exact x_up2_off (Or.inr (by decide)) : g72 69 14 = g69 69 14).trans ((by rw [e69]; exact x_up2_off (Or.inl (by decide)) : g69 69 14 = g48 69 14).trans ((by rw [e48]; exact x_up2_off (Or.inr (by decide)) : g48 69 14 = gi13 69 14).trans ((hC13.1 69 14 rfl).1.trans rfl))))
            have q73 : (g72 69 14).toInt ≤ (gi73 69 14).toInt ∧ ((gi73 69 12).toInt ≠ 0 → (g72 69 14).toInt < (gi73 69 14).toInt) ∧ ((gi73 69 12).toInt = 3 → 0 ≤ (gi73 69 15).toInt) := q73
            obtain ⟨l75, u75⟩ := hI.b (hI.wf.s (k := 69) rfl) (t_bdK rfl : t_bd 11 12 = some (0, 4))
            obtain ⟨l76, u76⟩ := hI.b (hI.wf.s (k := 69) rfl) (t_bdK rfl : t_bd 11 14 = some (0, 900))
            refine ev_jmp f_X12_aOne (nx := 0) rfl rfl rfl ?_
            refine ev_sub (lo := [(0, .ref 69)]) rfl (t_sc rfl t_sn) ?_
            exact ih8 _ (by omega) gi73 gl73 gr73  hI hX  ((hC73.1 69 18 rfl).1.trans ((by rw [e72]; exact x_up2_off (Or.inr (by decide)) : g72 69 18 = g69 69 18).trans ((by rw [e69]; exact x_up2_off (Or.inl (by decide)) : g69 69 18 = g48 69 18).trans ((by rw [e48]; exact x_up2_off (Or.inr (by decide)) : g48 69 18 = gi13 69 18).trans ((hC13.1 69 18 rfl).1.trans c8_0))))) ((hC73.1 69 24 rfl).1.trans ((by rw [e72]; exact x_up2_off (Or.inr (by decide)) : g72 69 24 = g69 69 24).trans ((by rw [e69]; exact x_up2_off (Or.inl (by decide)) : g69 69 24 = g48 69 24).trans ((by rw [e48]; exact x_up2_off (Or.inr (by decide)) : g48 69 24 = gi13 69 24).trans ((hC13.1 69 24 rfl).1.trans c8_1))))) ((hC73.1 69 25 rfl).1.trans ((by rw [e72]; exact x_up2_off (Or.inr (by decide)) : g72 69 25 = g69 69 25).trans ((by rw [e69]; exact x_up2_off (Or.inl (by decide)) : g69 69 25 = g48 69 25).trans ((by rw [e48]; exact x_up2_off (Or.inr (by decide)) : g48 69 25 = gi13 69 25).trans ((hC13.1 69 25 rfl).1.trans c8_2))))) (by have ho := (t_onec (p := (gi8 69 22).toInt.toNat) ((by rw [e48]; exact x_up2_ne (by decide) : g48 77 = gi13 77).trans ((funext (fun j => (hC13.1 77 j rfl).1) : gi13 77 = gi8 77))) e69 ((funext (fun j => (hC73.1 77 j rfl).1) : gi73 77 = g72 77).trans ((by rw [e72]; exact x_up2_ne (by decide) : g72 77 = g69 77))) (by have hc := t_clamp (i := (gi8 69 22)) (by omega); omega)); exact t_K_does j8_0 (by omega) (by decide) (show (gi73 69 22).toInt = (gi8 69 22).toInt + 1 from (by have ff77 : (gi73 69 22).toInt = z71.toInt := congrArg Int32.toInt ((hC73.1 69 22 rfl).1.trans (by rw [e72]; exact x_up2_at _ _ _ _ : g72 69 22 = z71)); omega)) (show (gi73 69 23).toInt = (gi8 69 23).toInt + 1 from (by have ff78 : (gi73 69 23).toInt = z47.toInt := congrArg Int32.toInt ((hC73.1 69 23 rfl).1.trans ((by rw [e72]; exact x_up2_off (Or.inr (by decide)) : g72 69 23 = g69 69 23).trans ((by rw [e69]; exact x_up2_off (Or.inl (by decide)) : g69 69 23 = g48 69 23).trans (by rw [e48]; exact x_up2_at _ _ _ _ : g48 69 23 = z47)))); omega)) (show (gi73 69 24).toInt = (gi8 69 24).toInt from (by have ff79 : (gi73 69 24).toInt = (gi 69 24).toInt := congrArg Int32.toInt ((hC73.1 69 24 rfl).1.trans ((by rw [e72]; exact x_up2_off (Or.inr (by decide)) : g72 69 24 = g69 69 24).trans ((by rw [e69]; exact x_up2_off (Or.inl (by decide)) : g69 69 24 = g48 69 24).trans ((by rw [e48]; exact x_up2_off (Or.inr (by decide)) : g48 69 24 = gi13 69 24).trans ((hC13.1 69 24 rfl).1.trans c8_1))))); omega)) (show (gi73 69 25).toInt = (gi8 69 25).toInt from (by have ff80 : (gi73 69 25).toInt = (gi 69 25).toInt := congrArg Int32.toInt ((hC73.1 69 25 rfl).1.trans ((by rw [e72]; exact x_up2_off (Or.inr (by decide)) : g72 69 25 = g69 69 25).trans ((by rw [e69]; exact x_up2_off (Or.inl (by decide)) : g69 69 25 = g48 69 25).trans ((by rw [e48]; exact x_up2_off (Or.inr (by decide)) : g48 69 25 = gi13 69 25).trans ((hC13.1 69 25 rfl).1.trans c8_2))))); omega)) ((funext (fun j => (hC73.1 70 j rfl).1) : gi73 70 = g72 70).trans ((by rw [e72]; exact x_up2_ne (by decide) : g72 70 = g69 70).trans ((by rw [e69]; exact x_up2_ne (by decide) : g69 70 = g48 70).trans ((by rw [e48]; exact x_up2_ne (by decide) : g48 70 = gi13 70).trans ((funext (fun j => (hC13.1 70 j rfl).1) : gi13 70 = gi8 70)))))) ho.1 ho.2) (by omega) rfl
        · have r81 : (gi8 69 12).toInt ≠ 4 := fun e => h49 (Int32.toInt_inj.mp (e.trans (by decide : (4:Int) = (4 : Int32).toInt)))
          have u82 : (gi8 69 12).toInt ≤ 3 := t_neu h49 u9 rfl rfl
          refine ev_ic f_X12_isSign (nx := 21) (v := 0) rfl (by decide) rfl ?_
          refine ev_retK1 f_X12_isSign rfl rfl rfl ?_
          refine ev_t f_X12_aOne (t1 := 61) (t2 := 56) rfl rfl rfl (by decide) ?_
          refine ev_bp f_X12_aOne (nx := 63) (v := 20) rfl (by decide) rfl ?_
          refine ev_inV2 f_X12_aOne (nx := 66) (lo2 := [(0, .ref 69), (1, .int 20)]) rfl rfl rfl rfl f_X12_does (hI.wf.s rfl) rfl rfl rfl rfl rfl ?_
          have kn83 := t_K_num j8_0
          refine ev_loc f_X12_does (nx := 1) rfl rfl rfl rfl ?_
          refine ev_getR f_X12_does (nx := 4) rfl (hI.wf.s rfl) rfl rfl (hI.wf.r rfl) rfl rfl ?_
          refine ev_loc f_X12_does (nx := 5) rfl rfl rfl rfl ?_
          refine ev_gvI f_X12_does (nx := 8) (w := (gi8 69 22)) rfl (hI.wf.s rfl) rfl rfl ((by rw [e48]; exact x_up2_off (Or.inr (by decide)) : g48 69 22 = gi13 69 22).trans ((hC13.1 69 22 rfl).1.trans rfl)) rfl ?_
          refine ev_loc f_X12_does (nx := 9) rfl rfl rfl rfl ?_
          have u85 : (gi8 69 22).toInt ≤ (59:Int) := (by omega)
          refine ev_iastT f_X12_does (nx := 10) rfl (hI.wf.s rfl) l11 (by decide) u85 (by decide) rfl (hI.astG (hI.wf.s rfl) (fun lo hi e => absurd e (t_nob (by decide +kernel) _)) (fun k hk e => by have := hk.2.1; omega)) (hX.upI (t_inA_ok rfl)) (fun g84 e84 hI hX => ?_)
          refine ev_loc f_X12_does (nx := 11) rfl rfl rfl rfl ?_
          refine ev_alu f_X12_does (nx := 12) rfl rfl rfl rfl ?_
          refine ev_gvI f_X12_does (nx := 15) (w := (gi8 69 22)) rfl (hI.wf.s rfl) rfl rfl ((by rw [e84]; exact x_up2_off (Or.inl (by decide)) : g84 69 22 = g48 69 22).trans ((by rw [e48]; exact x_up2_off (Or.inr (by decide)) : g48 69 22 = gi13 69 22).trans ((hC13.1 69 22 rfl).1.trans rfl))) rfl ?_
          refine ev_ic f_X12_does (nx := 16) (v := 1) rfl (by decide) rfl ?_
          refine ev_addC f_X12_does (nx := 17) (c := 1) (l := 1) (u := 60) rfl (by decide) l11 u85 rfl rfl (by decide) (by decide) rfl (fun z86 e86 l86 u86 => ?_)
          refine ev_putIT f_X12_does (nx := 20) rfl (hI.wf.s rfl) rfl rfl rfl (hI.putB (hI.wf.s rfl) rfl rfl l86 (by decide) u86 (by decide)) (hX.upI rfl) (fun g87 e87 hI hX => ?_)
          refine ev_retK0 f_X12_does rfl rfl rfl ?_
          refine ev_loc f_X12_aOne (nx := 67) rfl rfl rfl rfl ?_
          refine ev_qN f_X12_aOne (nx := 70) (r := []) rfl rfl rfl rfl rfl rfl rfl (c_m_ahead2 hI ) rfl hX rfl (fun gi88 gl88 gr88 hI hX hC88 q88 => ?_)
          have ff89 : (g87 69 14).toInt = (gi8 69 14).toInt := congrArg Int32.toInt ((by rw [e87]; exact x_up2_off (Or.inr (by decide)) : g87 69 14 = g84 69 14).trans ((by rw [e84]; exact x_up2_off (Or.inl (by decide)) : g84 69 14 = g48 69 14).trans ((by rw [e48]; exact x_up2_off (Or.inr (by decide)) : g48 69 14 = gi13 69 14).trans ((hC13.1 69 14 rfl).1.trans rfl))))
          have q88 : (g87 69 14).toInt ≤ (gi88 69 14).toInt ∧ ((gi88 69 12).toInt ≠ 0 → (g87 69 14).toInt < (gi88 69 14).toInt) ∧ ((gi88 69 12).toInt = 3 → 0 ≤ (gi88 69 15).toInt) := q88
          obtain ⟨l90, u90⟩ := hI.b (hI.wf.s (k := 69) rfl) (t_bdK rfl : t_bd 11 12 = some (0, 4))
          obtain ⟨l91, u91⟩ := hI.b (hI.wf.s (k := 69) rfl) (t_bdK rfl : t_bd 11 14 = some (0, 900))
          refine ev_jmp f_X12_aOne (nx := 0) rfl rfl rfl ?_
          refine ev_sub (lo := [(0, .ref 69)]) rfl (t_sc rfl t_sn) ?_
          exact ih8 _ (by omega) gi88 gl88 gr88  hI hX  ((hC88.1 69 18 rfl).1.trans ((by rw [e87]; exact x_up2_off (Or.inr (by decide)) : g87 69 18 = g84 69 18).trans ((by rw [e84]; exact x_up2_off (Or.inl (by decide)) : g84 69 18 = g48 69 18).trans ((by rw [e48]; exact x_up2_off (Or.inr (by decide)) : g48 69 18 = gi13 69 18).trans ((hC13.1 69 18 rfl).1.trans c8_0))))) ((hC88.1 69 24 rfl).1.trans ((by rw [e87]; exact x_up2_off (Or.inr (by decide)) : g87 69 24 = g84 69 24).trans ((by rw [e84]; exact x_up2_off (Or.inl (by decide)) : g84 69 24 = g48 69 24).trans ((by rw [e48]; exact x_up2_off (Or.inr (by decide)) : g48 69 24 = gi13 69 24).trans ((hC13.1 69 24 rfl).1.trans c8_1))))) ((hC88.1 69 25 rfl).1.trans ((by rw [e87]; exact x_up2_off (Or.inr (by decide)) : g87 69 25 = g84 69 25).trans ((by rw [e84]; exact x_up2_off (Or.inl (by decide)) : g84 69 25 = g48 69 25).trans ((by rw [e48]; exact x_up2_off (Or.inr (by decide)) : g48 69 25 = gi13 69 25).trans ((hC13.1 69 25 rfl).1.trans c8_2))))) (by have ho := (t_onec (p := (gi8 69 22).toInt.toNat) ((by rw [e48]; exact x_up2_ne (by decide) : g48 77 = gi13 77).trans ((funext (fun j => (hC13.1 77 j rfl).1) : gi13 77 = gi8 77))) e84 ((funext (fun j => (hC88.1 77 j rfl).1) : gi88 77 = g87 77).trans ((by rw [e87]; exact x_up2_ne (by decide) : g87 77 = g84 77))) (by have hc := t_clamp (i := (gi8 69 22)) (by omega); omega)); exact t_K_does j8_0 (by omega) (by decide) (show (gi88 69 22).toInt = (gi8 69 22).toInt + 1 from (by have ff92 : (gi88 69 22).toInt = z86.toInt := congrArg Int32.toInt ((hC88.1 69 22 rfl).1.trans (by rw [e87]; exact x_up2_at _ _ _ _ : g87 69 22 = z86)); omega)) (show (gi88 69 23).toInt = (gi8 69 23).toInt + 1 from (by have ff93 : (gi88 69 23).toInt = z47.toInt := congrArg Int32.toInt ((hC88.1 69 23 rfl).1.trans ((by rw [e87]; exact x_up2_off (Or.inr (by decide)) : g87 69 23 = g84 69 23).trans ((by rw [e84]; exact x_up2_off (Or.inl (by decide)) : g84 69 23 = g48 69 23).trans (by rw [e48]; exact x_up2_at _ _ _ _ : g48 69 23 = z47)))); omega)) (show (gi88 69 24).toInt = (gi8 69 24).toInt from (by have ff94 : (gi88 69 24).toInt = (gi 69 24).toInt := congrArg Int32.toInt ((hC88.1 69 24 rfl).1.trans ((by rw [e87]; exact x_up2_off (Or.inr (by decide)) : g87 69 24 = g84 69 24).trans ((by rw [e84]; exact x_up2_off (Or.inl (by decide)) : g84 69 24 = g48 69 24).trans ((by rw [e48]; exact x_up2_off (Or.inr (by decide)) : g48 69 24 = gi13 69 24).trans ((hC13.1 69 24 rfl).1.trans c8_1))))); omega)) (show (gi88 69 25).toInt = (gi8 69 25).toInt from (by have ff95 : (gi88 69 25).toInt = (gi 69 25).toInt := congrArg Int32.toInt ((hC88.1 69 25 rfl).1.trans ((by rw [e87]; exact x_up2_off (Or.inr (by decide)) : g87 69 25 = g84 69 25).trans ((by rw [e84]; exact x_up2_off (Or.inl (by decide)) : g84 69 25 = g48 69 25).trans ((by rw [e48]; exact x_up2_off (Or.inr (by decide)) : g48 69 25 = gi13 69 25).trans ((hC13.1 69 25 rfl).1.trans c8_2))))); omega)) ((funext (fun j => (hC88.1 70 j rfl).1) : gi88 70 = g87 70).trans ((by rw [e87]; exact x_up2_ne (by decide) : g87 70 = g84 70).trans ((by rw [e84]; exact x_up2_ne (by decide) : g84 70 = g48 70).trans ((by rw [e48]; exact x_up2_ne (by decide) : g48 70 = gi13 70).trans ((funext (fun j => (hC13.1 70 j rfl).1) : gi13 70 = gi8 70)))))) ho.1 ho.2) (by omega) rfl
    · have r96 : w13.toInt ≠ 20 := fun e => h14 (Int32.toInt_inj.mp (e.trans (by decide : (20:Int) = (20 : Int32).toInt)))
      refine ev_loc f_X12_aOne (nx := 12) rfl rfl rfl rfl ?_
      refine ev_bp f_X12_aOne (nx := 14) (v := 40) rfl (by decide) rfl ?_
      refine ev_inV2 f_X12_aOne (nx := 17) (lo2 := [(0, .ref 69), (1, .int 40)]) rfl rfl rfl rfl f_X12_isSign (hI.wf.s rfl) rfl rfl rfl rfl rfl ?_
      refine ev_loc f_X12_isSign (nx := 1) rfl rfl rfl rfl ?_
      refine ev_gvI f_X12_isSign (nx := 4) (w := (gi8 69 12)) rfl (hI.wf.s rfl) rfl rfl ((hC13.1 69 12 rfl).1.trans rfl) rfl ?_
      refine ev_ic f_X12_isSign (nx := 5) (v := 4) rfl (by decide) rfl ?_
      refine ev_if f_X12_isSign (t1 := 8) (t2 := 20) rfl rfl rfl (fun h97 => ?_) (fun h97 => ?_)
      · have l98 : 4 ≤ (gi8 69 12).toInt := t_eql h97 (by decide : (4:Int) ≤ (4:Int32).toInt)
        refine ev_loc f_X12_isSign (nx := 9) rfl rfl rfl rfl ?_
        refine ev_getI f_X12_isSign (nx := 12) rfl (hI.wf.s rfl) rfl rfl rfl ?_
        refine ev_loc f_X12_isSign (nx := 13) rfl rfl rfl rfl ?_
        refine ev_if f_X12_isSign (t1 := 16) (t2 := 20) rfl rfl rfl (fun h99 => ?_) (fun h99 => ?_)
        · have u100 : (gi13 69 15).toInt ≤ 40 := t_equ h99 (by decide : (40:Int32).toInt ≤ (40:Int))
          have l101 : 40 ≤ (gi13 69 15).toInt := t_eql h99 (by decide : (40:Int) ≤ (40:Int32).toInt)
          refine ev_ic f_X12_isSign (nx := 17) (v := 1) rfl (by decide) rfl ?_
          refine ev_jmp f_X12_isSign (nx := 21) rfl rfl rfl ?_
          refine ev_retK1 f_X12_isSign rfl rfl rfl ?_
          refine ev_f f_X12_aOne (t1 := 73) (t2 := 20) rfl rfl rfl (by decide) ?_
          refine ev_loc f_X12_aOne (nx := 21) rfl rfl rfl rfl ?_
          refine ev_gvI f_X12_aOne (nx := 24) (w := (gi8 69 23)) rfl (hI.wf.s rfl) rfl rfl ((hC13.1 69 23 rfl).1.trans rfl) rfl ?_
          refine ev_bp f_X12_aOne (nx := 26) (v := 6) rfl (by decide) rfl ?_
          refine ev_if f_X12_aOne (t1 := 29) (t2 := 36) rfl rfl rfl (fun h102 => ?_) (fun h102 => ?_)
          · have l103 : 6 ≤ (gi8 69 23).toInt := t_eql h102 (by decide : (6:Int) ≤ (6:Int32).toInt)
            refine ev_loc f_X12_aOne (nx := 30) rfl rfl rfl rfl ?_
            refine ev_bp f_X12_aOne (nx := 32) (v := 7) rfl (by decide) rfl ?_
            refine ev_inV2 f_X12_aOne (nx := 35) (lo2 := [(0, .ref 69), (1, .int 7)]) rfl rfl rfl rfl f_X12_fails (hI.wf.s rfl) rfl rfl rfl rfl rfl ?_
            refine ev_loc f_X12_fails (nx := 1) rfl rfl rfl rfl ?_
            refine ev_gvI f_X12_fails (nx := 4) (w := (gi 69 18)) rfl (hI.wf.s rfl) rfl rfl ((hC13.1 69 18 rfl).1.trans c8_0) rfl ?_
            refine ev_if f_X12_fails (t1 := 7) (t2 := 32) rfl rfl rfl (fun h104 => ?_) (fun h104 => ?_)
            · have u105 : (gi 69 18).toInt ≤ 0 := t_equ h104 (by decide : (0:Int32).toInt ≤ (0:Int))
              have l106 : 0 ≤ (gi 69 18).toInt := t_eql h104 (by decide : (0:Int) ≤ (0:Int32).toInt)
              refine ev_loc f_X12_fails (nx := 8) rfl rfl rfl rfl ?_
              refine ev_loc f_X12_fails (nx := 9) rfl rfl rfl rfl ?_
              refine ev_gvI f_X12_fails (nx := 12) (w := (gi8 69 12)) rfl (hI.wf.s rfl) rfl rfl ((hC13.1 69 12 rfl).1.trans rfl) rfl ?_
              refine ev_ic f_X12_fails (nx := 13) (v := 1) rfl (by decide) rfl ?_
              refine ev_f f_X12_fails (t1 := 16) (t2 := 20) rfl rfl rfl (t_neT' (by decide : (1:Int32).toInt ≤ (1:Int)) l98 (by decide)) ?_
              refine ev_loc f_X12_fails (nx := 21) rfl rfl rfl rfl ?_
              refine ev_putIT f_X12_fails (nx := 24) rfl (hI.wf.s rfl) rfl rfl rfl (hI.put0 (hI.wf.s rfl) rfl rfl) (hX.upI rfl) (fun g107 e107 hI hX => ?_)
              refine ev_loc f_X12_fails (nx := 25) rfl rfl rfl rfl ?_
              refine ev_loc f_X12_fails (nx := 26) rfl rfl rfl rfl ?_
              refine ev_getI f_X12_fails (nx := 29) rfl (hI.wf.s rfl) rfl rfl rfl ?_
              obtain ⟨l108, u108⟩ := hI.b (hI.wf.s (k := 69) rfl) (t_bdK rfl : t_bd 11 13 = some (0, 900))
              refine ev_putIT f_X12_fails (nx := 32) rfl (hI.wf.s rfl) rfl rfl rfl (hI.put0 (hI.wf.s rfl) rfl rfl) (hX.upI rfl) (fun g109 e109 hI hX => ?_)
              refine ev_ic f_X12_fails (nx := 33) (v := 0) rfl (by decide) rfl ?_
              refine ev_retK1 f_X12_fails rfl rfl rfl ?_
              exact ev_ret f_X12_aOne rfl rfl rfl ⟨_, _, _, rfl, hI, hX, ⟨_, rfl, (by decide : (0:Int) ≤ (0:Int32).toInt), (Int.le_trans (by decide : (0:Int32).toInt ≤ (0:Int)) (by decide : (0:Int) ≤ 1)), (show (gi 69 14).toInt ≤ (g109 69 14).toInt ∧ (0 = 1 → (g109 69 12).toInt ≠ 0 → (gi 69 14).toInt < (g109 69 14).toInt) ∧ (0 = 0 → (g109 69 18).toInt ≠ 0) ∧ (0 = 1 → t_K b g109 2) from ⟨(by have ff110 : (g109 69 14).toInt = (gi8 69 14).toInt := congrArg Int32.toInt ((by rw [e109]; exact x_up2_off (Or.inr (by decide)) : g109 69 14 = g107 69 14).trans ((by rw [e107]; exact x_up2_off (Or.inr (by decide)) : g107 69 14 = gi13 69 14).trans ((hC13.1 69 14 rfl).1.trans rfl))); omega), (by have ff111 : (g109 69 12).toInt = (gi8 69 12).toInt := congrArg Int32.toInt ((by rw [e109]; exact x_up2_off (Or.inr (by decide)) : g109 69 12 = g107 69 12).trans ((by rw [e107]; exact x_up2_off (Or.inr (by decide)) : g107 69 12 = gi13 69 12).trans ((hC13.1 69 12 rfl).1.trans rfl))); have ff112 : (g109 69 14).toInt = (gi8 69 14).toInt := congrArg Int32.toInt ((by rw [e109]; exact x_up2_off (Or.inr (by decide)) : g109 69 14 = g107 69 14).trans ((by rw [e107]; exact x_up2_off (Or.inr (by decide)) : g107 69 14 = gi13 69 14).trans ((hC13.1 69 14 rfl).1.trans rfl))); omega), (by have ff113 : (g109 69 18).toInt = 7 := (congrArg Int32.toInt ((by rw [e109]; exact x_up2_off (Or.inr (by decide)) : g109 69 18 = g107 69 18).trans (by rw [e107]; exact x_up2_at _ _ _ _ : g107 69 18 = 7))).trans (by decide); omega), fun h => absurd h (by decide)⟩)⟩⟩
            · have r114 : (gi 69 18).toInt ≠ 0 := fun e => h104 (Int32.toInt_inj.mp (e.trans (by decide : (0:Int) = (0 : Int32).toInt)))
              refine ev_ic f_X12_fails (nx := 33) (v := 0) rfl (by decide) rfl ?_
              refine ev_retK1 f_X12_fails rfl rfl rfl ?_
              exact ev_ret f_X12_aOne rfl rfl rfl ⟨_, _, _, rfl, hI, hX, ⟨_, rfl, (by decide : (0:Int) ≤ (0:Int32).toInt), (Int.le_trans (by decide : (0:Int32).toInt ≤ (0:Int)) (by decide : (0:Int) ≤ 1)), (show (gi 69 14).toInt ≤ (gi13 69 14).toInt ∧ (0 = 1 → (gi13 69 12).toInt ≠ 0 → (gi 69 14).toInt < (gi13 69 14).toInt) ∧ (0 = 0 → (gi13 69 18).toInt ≠ 0) ∧ (0 = 1 → t_K b gi13 2) from ⟨(by have ff115 : (gi13 69 14).toInt = (gi8 69 14).toInt := congrArg Int32.toInt ((hC13.1 69 14 rfl).1.trans rfl); omega), (by have ff116 : (gi13 69 12).toInt = (gi8 69 12).toInt := congrArg Int32.toInt ((hC13.1 69 12 rfl).1.trans rfl); have ff117 : (gi13 69 14).toInt = (gi8 69 14).toInt := congrArg Int32.toInt ((hC13.1 69 14 rfl).1.trans rfl); omega), (by have ff118 : (gi13 69 18).toInt = (gi 69 18).toInt := congrArg Int32.toInt ((hC13.1 69 18 rfl).1.trans c8_0); omega), fun h => absurd h (by decide)⟩)⟩⟩
          · have r119 : (gi8 69 23).toInt ≠ 6 := fun e => h102 (Int32.toInt_inj.mp (e.trans (by decide : (6:Int) = (6 : Int32).toInt)))
            have u120 : (gi8 69 23).toInt ≤ 5 := t_neu h102 u12 rfl rfl
            refine ev_loc f_X12_aOne (nx := 37) rfl rfl rfl rfl ?_
            refine ev_alu f_X12_aOne (nx := 38) rfl rfl rfl rfl ?_
            refine ev_gvI f_X12_aOne (nx := 41) (w := (gi8 69 23)) rfl (hI.wf.s rfl) rfl rfl ((hC13.1 69 23 rfl).1.trans rfl) rfl ?_
            refine ev_ic f_X12_aOne (nx := 42) (v := 1) rfl (by decide) rfl ?_
            refine ev_addC f_X12_aOne (nx := 43) (c := 1) (l := 1) (u := 6) rfl (by decide) l12 u120 rfl rfl (by decide) (by decide) rfl (fun z121 e121 l121 u121 => ?_)
            refine ev_putIT f_X12_aOne (nx := 46) rfl (hI.wf.s rfl) rfl rfl rfl (hI.putB (hI.wf.s rfl) rfl rfl l121 (by decide) u121 (by decide)) (hX.upI rfl) (fun g122 e122 hI hX => ?_)
            refine ev_loc f_X12_aOne (nx := 47) rfl rfl rfl rfl ?_
            refine ev_loc f_X12_aOne (nx := 48) rfl rfl rfl rfl ?_
            refine ev_bp f_X12_aOne (nx := 50) (v := 40) rfl (by decide) rfl ?_
            refine ev_inV2 f_X12_aOne (nx := 53) (lo2 := [(0, .ref 69), (1, .int 40)]) rfl rfl rfl rfl f_X12_isSign (hI.wf.s rfl) rfl rfl rfl rfl rfl ?_
            refine ev_loc f_X12_isSign (nx := 1) rfl rfl rfl rfl ?_
            refine ev_gvI f_X12_isSign (nx := 4) (w := (gi8 69 12)) rfl (hI.wf.s rfl) rfl rfl ((by rw [e122]; exact x_up2_off (Or.inr (by decide)) : g122 69 12 = gi13 69 12).trans ((hC13.1 69 12 rfl).1.trans rfl)) rfl ?_
            refine ev_ic f_X12_isSign (nx := 5) (v := 4) rfl (by decide) rfl ?_
            refine ev_t f_X12_isSign (t1 := 8) (t2 := 20) rfl rfl rfl (t_eqT u9 l98 (by decide : (4:Int32).toInt ≤ (4:Int)) (by decide : (4:Int) ≤ (4:Int32).toInt)) ?_
            refine ev_loc f_X12_isSign (nx := 9) rfl rfl rfl rfl ?_
            refine ev_gvI f_X12_isSign (nx := 12) (w := (gi13 69 15)) rfl (hI.wf.s rfl) rfl rfl ((by rw [e122]; exact x_up2_off (Or.inr (by decide)) : g122 69 15 = gi13 69 15).trans rfl) rfl ?_
            refine ev_loc f_X12_isSign (nx := 13) rfl rfl rfl rfl ?_
            refine ev_t f_X12_isSign (t1 := 16) (t2 := 20) rfl rfl rfl (t_eqT u100 l101 (by decide : (40:Int32).toInt ≤ (40:Int)) (by decide : (40:Int) ≤ (40:Int32).toInt)) ?_
            refine ev_ic f_X12_isSign (nx := 17) (v := 1) rfl (by decide) rfl ?_
            refine ev_jmp f_X12_isSign (nx := 21) rfl rfl rfl ?_
            refine ev_retK1 f_X12_isSign rfl rfl rfl ?_
            refine ev_f f_X12_aOne (t1 := 61) (t2 := 56) rfl rfl rfl (by decide) ?_
            refine ev_bp f_X12_aOne (nx := 58) (v := 40) rfl (by decide) rfl ?_
            refine ev_jmp f_X12_aOne (nx := 63) rfl rfl rfl ?_
            refine ev_inV2 f_X12_aOne (nx := 66) (lo2 := [(0, .ref 69), (1, .int 40)]) rfl rfl rfl rfl f_X12_does (hI.wf.s rfl) rfl rfl rfl rfl rfl ?_
            have kn123 := t_K_num j8_0
            refine ev_loc f_X12_does (nx := 1) rfl rfl rfl rfl ?_
            refine ev_getR f_X12_does (nx := 4) rfl (hI.wf.s rfl) rfl rfl (hI.wf.r rfl) rfl rfl ?_
            refine ev_loc f_X12_does (nx := 5) rfl rfl rfl rfl ?_
            refine ev_gvI f_X12_does (nx := 8) (w := (gi8 69 22)) rfl (hI.wf.s rfl) rfl rfl ((by rw [e122]; exact x_up2_off (Or.inr (by decide)) : g122 69 22 = gi13 69 22).trans ((hC13.1 69 22 rfl).1.trans rfl)) rfl ?_
            refine ev_loc f_X12_does (nx := 9) rfl rfl rfl rfl ?_
            have u125 : (gi8 69 22).toInt ≤ (59:Int) := (by omega)
            refine ev_iastT f_X12_does (nx := 10) rfl (hI.wf.s rfl) l11 (by decide) u125 (by decide) rfl (hI.astG (hI.wf.s rfl) (fun lo hi e => absurd e (t_nob (by decide +kernel) _)) (fun k hk e => by have := hk.2.1; omega)) (hX.upI (t_inA_ok rfl)) (fun g124 e124 hI hX => ?_)
            refine ev_loc f_X12_does (nx := 11) rfl rfl rfl rfl ?_
            refine ev_alu f_X12_does (nx := 12) rfl rfl rfl rfl ?_
            refine ev_gvI f_X12_does (nx := 15) (w := (gi8 69 22)) rfl (hI.wf.s rfl) rfl rfl ((by rw [e124]; exact x_up2_off (Or.inl (by decide)) : g124 69 22 = g122 69 22).trans ((by rw [e122]; exact x_up2_off (Or.inr (by decide)) : g122 69 22 = gi13 69 22).trans ((hC13.1 69 22 rfl).1.trans rfl))) rfl ?_
            refine ev_ic f_X12_does (nx := 16) (v := 1) rfl (by decide) rfl ?_
            refine ev_addC f_X12_does (nx := 17) (c := 1) (l := 1) (u := 60) rfl (by decide) l11 u125 rfl rfl (by decide) (by decide) rfl (fun z126 e126 l126 u126 => ?_)
            refine ev_putIT f_X12_does (nx := 20) rfl (hI.wf.s rfl) rfl rfl rfl (hI.putB (hI.wf.s rfl) rfl rfl l126 (by decide) u126 (by decide)) (hX.upI rfl) (fun g127 e127 hI hX => ?_)
            refine ev_retK0 f_X12_does rfl rfl rfl ?_
            refine ev_loc f_X12_aOne (nx := 67) rfl rfl rfl rfl ?_
            refine ev_qN f_X12_aOne (nx := 70) (r := []) rfl rfl rfl rfl rfl rfl rfl (c_m_ahead2 hI ) rfl hX rfl (fun gi128 gl128 gr128 hI hX hC128 q128 => ?_)
            have ff129 : (g127 69 14).toInt = (gi8 69 14).toInt := congrArg Int32.toInt ((by rw [e127]; exact x_up2_off (Or.inr (by decide)) : g127 69 14 = g124 69 14).trans ((by rw [e124]; exact x_up2_off (Or.inl (by decide)) : g124 69 14 = g122 69 14).trans ((by rw [e122]; exact x_up2_off (Or.inr (by decide)) : g122 69 14 = gi13 69 14).trans ((hC13.1 69 14 rfl).1.trans rfl))))
            have q128 : (g127 69 14).toInt ≤ (gi128 69 14).toInt ∧ ((gi128 69 12).toInt ≠ 0 → (g127 69 14).toInt < (gi128 69 14).toInt) ∧ ((gi128 69 12).toInt = 3 → 0 ≤ (gi128 69 15).toInt) := q128
            obtain ⟨l130, u130⟩ := hI.b (hI.wf.s (k := 69) rfl) (t_bdK rfl : t_bd 11 12 = some (0, 4))
            obtain ⟨l131, u131⟩ := hI.b (hI.wf.s (k := 69) rfl) (t_bdK rfl : t_bd 11 14 = some (0, 900))
            refine ev_jmp f_X12_aOne (nx := 0) rfl rfl rfl ?_
            refine ev_sub (lo := [(0, .ref 69)]) rfl (t_sc rfl t_sn) ?_
            exact ih8 _ (by omega) gi128 gl128 gr128  hI hX  ((hC128.1 69 18 rfl).1.trans ((by rw [e127]; exact x_up2_off (Or.inr (by decide)) : g127 69 18 = g124 69 18).trans ((by rw [e124]; exact x_up2_off (Or.inl (by decide)) : g124 69 18 = g122 69 18).trans ((by rw [e122]; exact x_up2_off (Or.inr (by decide)) : g122 69 18 = gi13 69 18).trans ((hC13.1 69 18 rfl).1.trans c8_0))))) ((hC128.1 69 24 rfl).1.trans ((by rw [e127]; exact x_up2_off (Or.inr (by decide)) : g127 69 24 = g124 69 24).trans ((by rw [e124]; exact x_up2_off (Or.inl (by decide)) : g124 69 24 = g122 69 24).trans ((by rw [e122]; exact x_up2_off (Or.inr (by decide)) : g122 69 24 = gi13 69 24).trans ((hC13.1 69 24 rfl).1.trans c8_1))))) ((hC128.1 69 25 rfl).1.trans ((by rw [e127]; exact x_up2_off (Or.inr (by decide)) : g127 69 25 = g124 69 25).trans ((by rw [e124]; exact x_up2_off (Or.inl (by decide)) : g124 69 25 = g122 69 25).trans ((by rw [e122]; exact x_up2_off (Or.inr (by decide)) : g122 69 25 = gi13 69 25).trans ((hC13.1 69 25 rfl).1.trans c8_2))))) (by have ho := (t_onec (p := (gi8 69 22).toInt.toNat) ((by rw [e122]; exact x_up2_ne (by decide) : g122 77 = gi13 77).trans ((funext (fun j => (hC13.1 77 j rfl).1) : gi13 77 = gi8 77))) e124 ((funext (fun j => (hC128.1 77 j rfl).1) : gi128 77 = g127 77).trans ((by rw [e127]; exact x_up2_ne (by decide) : g127 77 = g124 77))) (by have hc := t_clamp (i := (gi8 69 22)) (by omega); omega)); exact t_K_does j8_0 (by omega) (by decide) (show (gi128 69 22).toInt = (gi8 69 22).toInt + 1 from (by have ff132 : (gi128 69 22).toInt = z126.toInt := congrArg Int32.toInt ((hC128.1 69 22 rfl).1.trans (by rw [e127]; exact x_up2_at _ _ _ _ : g127 69 22 = z126)); omega)) (show (gi128 69 23).toInt = (gi8 69 23).toInt + 1 from (by have ff133 : (gi128 69 23).toInt = z121.toInt := congrArg Int32.toInt ((hC128.1 69 23 rfl).1.trans ((by rw [e127]; exact x_up2_off (Or.inr (by decide)) : g127 69 23 = g124 69 23).trans ((by rw [e124]; exact x_up2_off (Or.inl (by decide)) : g124 69 23 = g122 69 23).trans (by rw [e122]; exact x_up2_at _ _ _ _ : g122 69 23 = z121)))); omega)) (show (gi128 69 24).toInt = (gi8 69 24).toInt from (by have ff134 : (gi128 69 24).toInt = (gi 69 24).toInt := congrArg Int32.toInt ((hC128.1 69 24 rfl).1.trans ((by rw [e127]; exact x_up2_off (Or.inr (by decide)) : g127 69 24 = g124 69 24).trans ((by rw [e124]; exact x_up2_off (Or.inl (by decide)) : g124 69 24 = g122 69 24).trans ((by rw [e122]; exact x_up2_off (Or.inr (by decide)) : g122 69 24 = gi13 69 24).trans ((hC13.1 69 24 rfl).1.trans c8_1))))); omega)) (show (gi128 69 25).toInt = (gi8 69 25).toInt from (by have ff135 : (gi128 69 25).toInt = (gi 69 25).toInt := congrArg Int32.toInt ((hC128.1 69 25 rfl).1.trans ((by rw [e127]; exact x_up2_off (Or.inr (by decide)) : g127 69 25 = g124 69 25).trans ((by rw [e124]; exact x_up2_off (Or.inl (by decide)) : g124 69 25 = g122 69 25).trans ((by rw [e122]; exact x_up2_off (Or.inr (by decide)) : g122 69 25 = gi13 69 25).trans ((hC13.1 69 25 rfl).1.trans c8_2))))); omega)) ((funext (fun j => (hC128.1 70 j rfl).1) : gi128 70 = g127 70).trans ((by rw [e127]; exact x_up2_ne (by decide) : g127 70 = g124 70).trans ((by rw [e124]; exact x_up2_ne (by decide) : g124 70 = g122 70).trans ((by rw [e122]; exact x_up2_ne (by decide) : g122 70 = gi13 70).trans ((funext (fun j => (hC13.1 70 j rfl).1) : gi13 70 = gi8 70)))))) ho.1 ho.2) (by omega) rfl
        · have r136 : (gi13 69 15).toInt ≠ 40 := fun e => h99 (Int32.toInt_inj.mp (e.trans (by decide : (40:Int) = (40 : Int32).toInt)))
          refine ev_ic f_X12_isSign (nx := 21) (v := 0) rfl (by decide) rfl ?_
          refine ev_retK1 f_X12_isSign rfl rfl rfl ?_
          refine ev_t f_X12_aOne (t1 := 73) (t2 := 20) rfl rfl rfl (by decide) ?_
          refine ev_loc f_X12_aOne (nx := 74) rfl rfl rfl rfl ?_
          refine ev_heap f_X12_aOne (nx := 76) rfl rfl rfl rfl ?_
          refine ev_qI f_X12_aOne (nx := 79) (r := []) rfl rfl rfl rfl rfl rfl rfl (c_m_inWords hI ) rfl hX rfl (fun w137 gi137 gl137 gr137 l137 u137 hI hX hC137 q137 => ?_)
          have ff138 : (gi13 69 12).toInt = (gi8 69 12).toInt := congrArg Int32.toInt ((hC13.1 69 12 rfl).1.trans rfl)
          have q137 : 0 ≤ w137.toInt → (gi13 69 12).toInt = 2 := q137
          refine ev_loc f_X12_aOne (nx := 80) (lo' := [(1, .int w137), (0, .ref 69)]) rfl rfl rfl rfl ?_
          refine ev_loc f_X12_aOne (nx := 81) rfl rfl rfl rfl ?_
          refine ev_bp f_X12_aOne (nx := 83) (v := 15) rfl (by decide) rfl ?_
          refine ev_if f_X12_aOne (t1 := 110) (t2 := 86) rfl rfl rfl (fun h139 => ?_) (fun h139 => ?_)
          · have u140 : w137.toInt ≤ 15 := t_equ h139 (by decide : (15:Int32).toInt ≤ (15:Int))
            have l141 : 15 ≤ w137.toInt := t_eql h139 (by decide : (15:Int) ≤ (15:Int32).toInt)
            refine ev_loc f_X12_aOne (nx := 111) rfl rfl rfl rfl ?_
            refine ev_loc f_X12_aOne (nx := 112) rfl rfl rfl rfl ?_
            refine ev_qI f_X12_aOne (nx := 115) (r := []) rfl rfl rfl rfl rfl rfl rfl (c_m_aCase hI (w137) l141 (Int.le_trans u140 (by decide : (15:Int) ≤ 26)) (b := b) (t_K_ext j8_0 (show (gi137 69 22).toInt = (gi8 69 22).toInt from (by have ff143 : (gi137 69 22).toInt = (gi8 69 22).toInt := congrArg Int32.toInt ((hC137.1 69 22 rfl).1.trans ((hC13.1 69 22 rfl).1.trans rfl)); omega)) (show (gi137 69 23).toInt = (gi8 69 23).toInt from (by have ff144 : (gi137 69 23).toInt = (gi8 69 23).toInt := congrArg Int32.toInt ((hC137.1 69 23 rfl).1.trans ((hC13.1 69 23 rfl).1.trans rfl)); omega)) (show (gi137 69 24).toInt = (gi8 69 24).toInt from (by have ff145 : (gi137 69 24).toInt = (gi 69 24).toInt := congrArg Int32.toInt ((hC137.1 69 24 rfl).1.trans ((hC13.1 69 24 rfl).1.trans c8_1)); omega)) (show (gi137 69 25).toInt = (gi8 69 25).toInt from (by have ff146 : (gi137 69 25).toInt = (gi 69 25).toInt := congrArg Int32.toInt ((hC137.1 69 25 rfl).1.trans ((hC13.1 69 25 rfl).1.trans c8_2)); omega)) ((funext (fun j => (hC137.1 77 j rfl).1) : gi137 77 = gi13 77).trans ((funext (fun j => (hC13.1 77 j rfl).1) : gi13 77 = gi8 77))) ((funext (fun j => (hC137.1 70 j rfl).1) : gi137 70 = gi13 70).trans ((funext (fun j => (hC13.1 70 j rfl).1) : gi13 70 = gi8 70)))) (by omega)) rfl hX rfl (fun w142 gi142 gl142 gr142 l142 u142 hI hX hC142 q142 => ?_)
            have ff147 : (gi137 69 14).toInt = (gi8 69 14).toInt := congrArg Int32.toInt ((hC137.1 69 14 rfl).1.trans ((hC13.1 69 14 rfl).1.trans rfl))
            have q142 : (gi137 69 14).toInt ≤ (gi142 69 14).toInt ∧ (w142.toInt = 1 → (gi142 69 12).toInt ≠ 0 → (gi137 69 14).toInt < (gi142 69 14).toInt) ∧ (w142.toInt = 0 → (gi142 69 18).toInt ≠ 0) ∧ (w142.toInt = 1 → t_K (b) gi142 1) := q142
            obtain ⟨l148, u148⟩ := hI.b (hI.wf.s (k := 69) rfl) (t_bdK rfl : t_bd 11 12 = some (0, 4))
            obtain ⟨l149, u149⟩ := hI.b (hI.wf.s (k := 69) rfl) (t_bdK rfl : t_bd 11 14 = some (0, 900))
            obtain ⟨l151, u151⟩ := hI.b (hI.wf.s (k := 69) rfl) (t_bdK rfl : t_bd 11 24 = some (0, 24))
            obtain ⟨l152, u152⟩ := hI.b (hI.wf.s (k := 69) rfl) (t_bdK rfl : t_bd 11 25 = some (0, 210))
            refine ev_if f_X12_aOne (t1 := 118) (t2 := 120) rfl rfl rfl (fun h153 => ?_) (fun h153 => ?_)
            · have u154 : w142.toInt ≤ 0 := t_equ h153 (by decide : (0:Int32).toInt ≤ (0:Int))
              refine ev_ic f_X12_aOne (nx := 119) (v := 0) rfl (by decide) rfl ?_
              exact ev_ret f_X12_aOne rfl rfl rfl ⟨_, _, _, rfl, hI, hX, ⟨_, rfl, (by decide : (0:Int) ≤ (0:Int32).toInt), (Int.le_trans (by decide : (0:Int32).toInt ≤ (0:Int)) (by decide : (0:Int) ≤ 1)), (show (gi 69 14).toInt ≤ (gi142 69 14).toInt ∧ (0 = 1 → (gi142 69 12).toInt ≠ 0 → (gi 69 14).toInt < (gi142 69 14).toInt) ∧ (0 = 0 → (gi142 69 18).toInt ≠ 0) ∧ (0 = 1 → t_K b gi142 2) from ⟨(by omega), (by omega), (by omega), fun h => absurd h (by decide)⟩)⟩⟩
            · have r155 : w142.toInt ≠ 0 := fun e => h153 (Int32.toInt_inj.mp (e.trans (by decide : (0:Int) = (0 : Int32).toInt)))
              have l156 : 1 ≤ w142.toInt := t_nel h153 l142 rfl rfl
              refine ev_loc f_X12_aOne (nx := 121) rfl rfl rfl rfl ?_
              refine ev_qN f_X12_aOne (nx := 124) (r := []) rfl rfl rfl rfl rfl rfl rfl (c_m_turnsRound hI  (b := b) (q142.2.2.2 (by omega))) rfl hX rfl (fun gi157 gl157 gr157 hI hX hC157 q157 => ?_)
              have q157 : t_K (b) gi157 2 := q157
              obtain ⟨l158, u158⟩ := hI.b (hI.wf.s (k := 69) rfl) (t_bdK rfl : t_bd 11 22 = some (0, 60))
              obtain ⟨l159, u159⟩ := hI.b (hI.wf.s (k := 69) rfl) (t_bdK rfl : t_bd 11 23 = some (0, 6))
              obtain ⟨l160, u160⟩ := hI.b (hI.wf.s (k := 69) rfl) (t_bdK rfl : t_bd 11 25 = some (0, 210))
              have L161 : ∀ (m161 : Nat) (gi161 : Nat → Nat → Int32) (gl161 : Nat → Nat → Int64) (gr161 : Nat → Nat → Value) (y161_1 : Int32), t_I sh gi161 gr161 → t_X wl_m_aOne sh gi gl gr gi161 gl161 gr161 → 15 ≤ y161_1.toInt → y161_1.toInt ≤ 26 → t_K b gi161 2 → (gi 69 14).toInt ≤ (gi161 69 14).toInt → ((gi161 69 12).toInt ≠ 0 → (gi 69 14).toInt < (gi161 69 14).toInt) → (2 * (900 - (gi161 69 14).toInt) + min (gi161 69 12).toInt 1).toNat = m161 → x_Ev X (d + 6) n_X12_aOne 124 [(1, .int y161_1), (0, .ref 69)] [] (sh, gi161, gl161, gr161) (t_PI wl_m_aOne sh gi gl gr 0 1 (Q_m_aOne gi gl gr b)) := by
                intro m161
                induction m161 using Nat.strongRecOn with
                | _ m161 ih161 =>
                intro gi161 gl161 gr161 y161_1 hI hX l161_1 u161_1 j161_0 j161_1 j161_2 hm161
                obtain ⟨l162, u162⟩ := hI.b (hI.wf.s (k := 69) rfl) (t_bdK rfl : t_bd 11 12 = some (0, 4))
                obtain ⟨l163, u163⟩ := hI.b (hI.wf.s (k := 69) rfl) (t_bdK rfl : t_bd 11 14 = some (0, 900))
                obtain ⟨l165, u165⟩ := hI.b (hI.wf.s (k := 69) rfl) (t_bdK rfl : t_bd 11 22 = some (0, 60))
                obtain ⟨l166, u166⟩ := hI.b (hI.wf.s (k := 69) rfl) (t_bdK rfl : t_bd 11 23 = some (0, 6))
                obtain ⟨l167, u167⟩ := hI.b (hI.wf.s (k := 69) rfl) (t_bdK rfl : t_bd 11 24 = some (0, 24))
                obtain ⟨l168, u168⟩ := hI.b (hI.wf.s (k := 69) rfl) (t_bdK rfl : t_bd 11 25 = some (0, 210))
                refine ev_loc f_X12_aOne (nx := 125) rfl rfl rfl rfl ?_
                refine ev_bp f_X12_aOne (nx := 127) (v := 41) rfl (by decide) rfl ?_
                refine ev_inV2 f_X12_aOne (nx := 130) (lo2 := [(0, .ref 69), (1, .int 41)]) rfl rfl rfl rfl f_X12_isSign (hI.wf.s rfl) rfl rfl rfl rfl rfl ?_
                refine ev_loc f_X12_isSign (nx := 1) rfl rfl rfl rfl ?_
                refine ev_gvI f_X12_isSign (nx := 4) (w := (gi161 69 12)) rfl (hI.wf.s rfl) rfl rfl rfl rfl ?_
                refine ev_ic f_X12_isSign (nx := 5) (v := 4) rfl (by decide) rfl ?_
                refine ev_if f_X12_isSign (t1 := 8) (t2 := 20) rfl rfl rfl (fun h169 => ?_) (fun h169 => ?_)
                · have l170 : 4 ≤ (gi161 69 12).toInt := t_eql h169 (by decide : (4:Int) ≤ (4:Int32).toInt)
                  refine ev_loc f_X12_isSign (nx := 9) rfl rfl rfl rfl ?_
                  refine ev_getI f_X12_isSign (nx := 12) rfl (hI.wf.s rfl) rfl rfl rfl ?_
                  refine ev_loc f_X12_isSign (nx := 13) rfl rfl rfl rfl ?_
                  refine ev_if f_X12_isSign (t1 := 16) (t2 := 20) rfl rfl rfl (fun h171 => ?_) (fun h171 => ?_)
                  · have u172 : (gi161 69 15).toInt ≤ 41 := t_equ h171 (by decide : (41:Int32).toInt ≤ (41:Int))
                    have l173 : 41 ≤ (gi161 69 15).toInt := t_eql h171 (by decide : (41:Int) ≤ (41:Int32).toInt)
                    refine ev_ic f_X12_isSign (nx := 17) (v := 1) rfl (by decide) rfl ?_
                    refine ev_jmp f_X12_isSign (nx := 21) rfl rfl rfl ?_
                    refine ev_retK1 f_X12_isSign rfl rfl rfl ?_
                    refine ev_f f_X12_aOne (t1 := 187) (t2 := 133) rfl rfl rfl (by decide) ?_
                    refine ev_loc f_X12_aOne (nx := 134) rfl rfl rfl rfl ?_
                    refine ev_qI f_X12_aOne (nx := 137) (r := []) rfl rfl rfl rfl rfl rfl rfl (c_m_isWithin hI ) rfl hX rfl (fun w174 gi174 gl174 gr174 l174 u174 hI hX hC174 q174 => ?_)
                    have q174 : (w174.toInt = 1 → t_ex gi174) ∧ (w174.toInt = 0 → t_n40 gi174) := q174
                    refine ev_if f_X12_aOne (t1 := 187) (t2 := 140) rfl rfl rfl (fun h175 => ?_) (fun h175 => ?_)
                    · have u176 : w174.toInt ≤ 0 := t_equ h175 (by decide : (0:Int32).toInt ≤ (0:Int))
                      refine ev_ic f_X12_aOne (nx := 188) (v := 1) rfl (by decide) rfl ?_
                      exact ev_ret f_X12_aOne rfl rfl rfl ⟨_, _, _, rfl, hI, hX, ⟨_, rfl, (Int.le_trans (by decide : (0:Int) ≤ 1) (by decide : (1:Int) ≤ (1:Int32).toInt)), (by decide : (1:Int32).toInt ≤ (1:Int)), (show (gi 69 14).toInt ≤ (gi174 69 14).toInt ∧ (1 = 1 → (gi174 69 12).toInt ≠ 0 → (gi 69 14).toInt < (gi174 69 14).toInt) ∧ (1 = 0 → (gi174 69 18).toInt ≠ 0) ∧ (1 = 1 → t_K b gi174 2) from ⟨(by have ff181 : (gi174 69 14).toInt = (gi161 69 14).toInt := congrArg Int32.toInt ((hC174.1 69 14 rfl).1.trans rfl); omega), (by have ff182 : (gi174 69 12).toInt = (gi161 69 12).toInt := congrArg Int32.toInt ((hC174.1 69 12 rfl).1.trans rfl); have ff183 : (gi174 69 14).toInt = (gi161 69 14).toInt := congrArg Int32.toInt ((hC174.1 69 14 rfl).1.trans rfl); omega), (by have ff184 : (gi174 69 18).toInt = (gi161 69 18).toInt := congrArg Int32.toInt ((hC174.1 69 18 rfl).1.trans rfl); omega), fun _ => (t_K_ext j161_0 (show (gi174 69 22).toInt = (gi161 69 22).toInt from (by have ff177 : (gi174 69 22).toInt = (gi161 69 22).toInt := congrArg Int32.toInt ((hC174.1 69 22 rfl).1.trans rfl); omega)) (show (gi174 69 23).toInt = (gi161 69 23).toInt from (by have ff178 : (gi174 69 23).toInt = (gi161 69 23).toInt := congrArg Int32.toInt ((hC174.1 69 23 rfl).1.trans rfl); omega)) (show (gi174 69 24).toInt = (gi161 69 24).toInt from (by have ff179 : (gi174 69 24).toInt = (gi161 69 24).toInt := congrArg Int32.toInt ((hC174.1 69 24 rfl).1.trans rfl); omega)) (show (gi174 69 25).toInt = (gi161 69 25).toInt from (by have ff180 : (gi174 69 25).toInt = (gi161 69 25).toInt := congrArg Int32.toInt ((hC174.1 69 25 rfl).1.trans rfl); omega)) ((funext (fun j => (hC174.1 77 j rfl).1) : gi174 77 = gi161 77)) ((funext (fun j => (hC174.1 70 j rfl).1) : gi174 70 = gi161 70)))⟩)⟩⟩
                    · have r185 : w174.toInt ≠ 0 := fun e => h175 (Int32.toInt_inj.mp (e.trans (by decide : (0:Int) = (0 : Int32).toInt)))
                      have l186 : 1 ≤ w174.toInt := t_nel h175 l174 rfl rfl
                      have L187 : ∀ (m187 : Nat) (gi187 : Nat → Nat → Int32) (gl187 : Nat → Nat → Int64) (gr187 : Nat → Nat → Value), t_I sh gi187 gr187 → t_X wl_m_aOne sh gi gl gr gi187 gl187 gr187 → gi187 69 12 = (gi161 69 12) → gi187 69 14 = (gi161 69 14) → gi187 69 15 = (gi161 69 15) → gi187 69 18 = (gi161 69 18) → gi187 69 23 = (gi161 69 23) → gi187 69 24 = (gi161 69 24) → t_K b gi187 2 → t_ex gi187 → (gi 69 14).toInt ≤ (gi187 69 14).toInt → ((gi187 69 12).toInt ≠ 0 → (gi 69 14).toInt < (gi187 69 14).toInt) → (gi187 69 22).toInt.toNat = m187 → x_Ev X (d + 6) n_X12_aOne 140 [(1, .int y161_1), (0, .ref 69)] [] (sh, gi187, gl187, gr187) (t_PI wl_m_aOne sh gi gl gr 0 1 (Q_m_aOne gi gl gr b)) := by
                        intro m187
                        induction m187 using Nat.strongRecOn with
                        | _ m187 ih187 =>
                        intro gi187 gl187 gr187 hI hX c187_0 c187_1 c187_2 c187_3 c187_4 c187_5 j187_0 j187_1 j187_2 j187_3 hm187
                        have cf187_0 : (gi187 69 12).toInt = (gi161 69 12).toInt := congrArg Int32.toInt c187_0
                        have cf187_1 : (gi187 69 14).toInt = (gi161 69 14).toInt := congrArg Int32.toInt c187_1
                        have cf187_3 : (gi187 69 18).toInt = (gi161 69 18).toInt := congrArg Int32.toInt c187_3
                        have cf187_4 : (gi187 69 23).toInt = (gi161 69 23).toInt := congrArg Int32.toInt c187_4
                        have cf187_5 : (gi187 69 24).toInt = (gi161 69 24).toInt := congrArg Int32.toInt c187_5
                        obtain ⟨l188, u188⟩ := hI.b (hI.wf.s (k := 69) rfl) (t_bdK rfl : t_bd 11 22 = some (0, 60))
                        obtain ⟨l189, u189⟩ := hI.b (hI.wf.s (k := 69) rfl) (t_bdK rfl : t_bd 11 25 = some (0, 210))
                        have l190 : (1:Int) ≤ (gi187 69 22).toInt := by obtain ⟨j, hj, _⟩ := j187_1; omega
                        refine ev_loc f_X12_aOne (nx := 141) rfl rfl rfl rfl ?_
                        refine ev_bp f_X12_aOne (nx := 143) (v := 40) rfl (by decide) rfl ?_
                        refine ev_inV2 f_X12_aOne (nx := 146) (lo2 := [(0, .ref 69), (1, .int 40)]) rfl rfl rfl rfl f_X12_isDoing (hI.wf.s rfl) rfl rfl rfl rfl rfl ?_
                        refine ev_loc f_X12_isDoing (nx := 1) rfl rfl rfl rfl ?_
                        refine ev_gvI f_X12_isDoing (nx := 4) (w := (gi187 69 22)) rfl (hI.wf.s rfl) rfl rfl rfl rfl ?_
                        refine ev_f f_X12_isDoing (t1 := 26) (t2 := 7) rfl rfl rfl (t_leF (by decide : (0:Int32).toInt ≤ (0:Int)) l190 (by decide)) ?_
                        refine ev_loc f_X12_isDoing (nx := 8) rfl rfl rfl rfl ?_
                        refine ev_getR f_X12_isDoing (nx := 11) rfl (hI.wf.s rfl) rfl rfl (hI.wf.r rfl) rfl rfl ?_
                        refine ev_loc f_X12_isDoing (nx := 12) rfl rfl rfl rfl ?_
                        refine ev_gvI f_X12_isDoing (nx := 15) (w := (gi187 69 22)) rfl (hI.wf.s rfl) rfl rfl rfl rfl ?_
                        refine ev_ic f_X12_isDoing (nx := 16) (v := 1) rfl (by decide) rfl ?_
                        refine ev_subC f_X12_isDoing (nx := 17) (c := 1) (l := 0) (u := 59) rfl (by decide) l190 u188 rfl rfl (by decide) (by decide) rfl (fun z191 e191 l191 u191 => ?_)
                        refine ev_ialdT f_X12_isDoing (nx := 18) rfl (hI.wf.s rfl) l191 (by decide) u191 (by decide) rfl (fun w192 e192 => ?_)
                        refine ev_loc f_X12_isDoing (nx := 19) rfl rfl rfl rfl ?_
                        refine ev_if f_X12_isDoing (t1 := 22) (t2 := 26) rfl rfl rfl (fun h193 => ?_) (fun h193 => ?_)
                        · have u194 : w192.toInt ≤ 40 := t_equ h193 (by decide : (40:Int32).toInt ≤ (40:Int))
                          have l195 : 40 ≤ w192.toInt := t_eql h193 (by decide : (40:Int) ≤ (40:Int32).toInt)
                          refine ev_ic f_X12_isDoing (nx := 23) (v := 1) rfl (by decide) rfl ?_
                          refine ev_jmp f_X12_isDoing (nx := 27) rfl rfl rfl ?_
                          refine ev_retK1 f_X12_isDoing rfl rfl rfl ?_
                          refine ev_f f_X12_aOne (t1 := 149) (t2 := 156) rfl rfl rfl (by decide) ?_
                          refine ev_loc f_X12_aOne (nx := 157) rfl rfl rfl rfl ?_
                          refine ev_alu f_X12_aOne (nx := 158) rfl rfl rfl rfl ?_
                          refine ev_gvI f_X12_aOne (nx := 161) (w := (gi187 69 22)) rfl (hI.wf.s rfl) rfl rfl rfl rfl ?_
                          refine ev_ic f_X12_aOne (nx := 162) (v := 1) rfl (by decide) rfl ?_
                          refine ev_subC f_X12_aOne (nx := 163) (c := 1) (l := 0) (u := 59) rfl (by decide) l190 u188 rfl rfl (by decide) (by decide) rfl (fun z196 e196 l196 u196 => ?_)
                          refine ev_putIT f_X12_aOne (nx := 166) rfl (hI.wf.s rfl) rfl rfl rfl (hI.putB (hI.wf.s rfl) rfl rfl l196 (by decide) u196 (by decide)) (hX.upI rfl) (fun g197 e197 hI hX => ?_)
                          refine ev_loc f_X12_aOne (nx := 167) rfl rfl rfl rfl ?_
                          refine ev_alu f_X12_aOne (nx := 168) rfl rfl rfl rfl ?_
                          refine ev_gvI f_X12_aOne (nx := 171) (w := (gi161 69 23)) rfl (hI.wf.s rfl) rfl rfl ((by rw [e197]; exact x_up2_off (Or.inr (by decide)) : g197 69 23 = gi187 69 23).trans c187_4) rfl ?_
                          refine ev_ic f_X12_aOne (nx := 172) (v := 1) rfl (by decide) rfl ?_
                          refine ev_subC f_X12_aOne (nx := 173) (c := 1) (l := (-1)) (u := 5) rfl (by decide) l166 u166 rfl rfl (by decide) (by decide) rfl (fun z198 e198 l198 u198 => ?_)
                          have l200 : (0:Int) ≤ z198.toInt := (by have hw := t_K_w j187_0 (by omega) (by rw [← (by rw [e192]; have hc := t_clamp (i := z191) (by omega); have hx : z191.toNatClampNeg = (gi187 69 22).toInt.toNat - 1 := (by omega); rw [hx] : w192 = gi187 77 ((gi187 69 22).toInt.toNat - 1))]; omega); omega)
                          refine ev_putIT f_X12_aOne (nx := 176) rfl (hI.wf.s rfl) rfl rfl rfl (hI.putB (hI.wf.s rfl) rfl rfl l200 (by decide) u198 (by decide)) (hX.upI rfl) (fun g199 e199 hI hX => ?_)
                          refine ev_loc f_X12_aOne (nx := 177) rfl rfl rfl rfl ?_
                          refine ev_qN f_X12_aOne (nx := 180) (r := []) rfl rfl rfl rfl rfl rfl rfl (c_m_ahead2 hI ) rfl hX rfl (fun gi201 gl201 gr201 hI hX hC201 q201 => ?_)
                          have ff202 : (g199 69 14).toInt = (gi161 69 14).toInt := congrArg Int32.toInt ((by rw [e199]; exact x_up2_off (Or.inr (by decide)) : g199 69 14 = g197 69 14).trans ((by rw [e197]; exact x_up2_off (Or.inr (by decide)) : g197 69 14 = gi187 69 14).trans c187_1))
                          have q201 : (g199 69 14).toInt ≤ (gi201 69 14).toInt ∧ ((gi201 69 12).toInt ≠ 0 → (g199 69 14).toInt < (gi201 69 14).toInt) ∧ ((gi201 69 12).toInt = 3 → 0 ≤ (gi201 69 15).toInt) := q201
                          obtain ⟨l203, u203⟩ := hI.b (hI.wf.s (k := 69) rfl) (t_bdK rfl : t_bd 11 12 = some (0, 4))
                          obtain ⟨l204, u204⟩ := hI.b (hI.wf.s (k := 69) rfl) (t_bdK rfl : t_bd 11 14 = some (0, 900))
                          refine ev_loc f_X12_aOne (nx := 181) rfl rfl rfl rfl ?_
                          refine ev_qN f_X12_aOne (nx := 184) (r := []) rfl rfl rfl rfl rfl rfl rfl (c_m_turnsRound hI  (b := b) (t_K_par j187_0 (by omega) (by rw [← (by rw [e192]; have hc := t_clamp (i := z191) (by omega); have hx : z191.toNatClampNeg = (gi187 69 22).toInt.toNat - 1 := (by omega); rw [hx] : w192 = gi187 77 ((gi187 69 22).toInt.toNat - 1))]; omega) (show (gi201 69 22).toInt = (gi187 69 22).toInt - 1 from (by have ff206 : (gi201 69 22).toInt = z196.toInt := congrArg Int32.toInt ((hC201.1 69 22 rfl).1.trans ((by rw [e199]; exact x_up2_off (Or.inr (by decide)) : g199 69 22 = g197 69 22).trans (by rw [e197]; exact x_up2_at _ _ _ _ : g197 69 22 = z196))); omega)) (show (gi201 69 23).toInt = (gi187 69 23).toInt - 1 from (by have ff207 : (gi201 69 23).toInt = z198.toInt := congrArg Int32.toInt ((hC201.1 69 23 rfl).1.trans (by rw [e199]; exact x_up2_at _ _ _ _ : g199 69 23 = z198)); omega)) (show (gi201 69 24).toInt = (gi187 69 24).toInt from (by have ff208 : (gi201 69 24).toInt = (gi161 69 24).toInt := congrArg Int32.toInt ((hC201.1 69 24 rfl).1.trans ((by rw [e199]; exact x_up2_off (Or.inr (by decide)) : g199 69 24 = g197 69 24).trans ((by rw [e197]; exact x_up2_off (Or.inr (by decide)) : g197 69 24 = gi187 69 24).trans c187_5))); omega)) (show (gi201 69 25).toInt = (gi187 69 25).toInt from (by have ff209 : (gi201 69 25).toInt = (gi187 69 25).toInt := congrArg Int32.toInt ((hC201.1 69 25 rfl).1.trans ((by rw [e199]; exact x_up2_off (Or.inr (by decide)) : g199 69 25 = g197 69 25).trans ((by rw [e197]; exact x_up2_off (Or.inr (by decide)) : g197 69 25 = gi187 69 25).trans rfl))); omega)) ((funext (fun j => (hC201.1 77 j rfl).1) : gi201 77 = g199 77).trans ((by rw [e199]; exact x_up2_ne (by decide) : g199 77 = g197 77).trans ((by rw [e197]; exact x_up2_ne (by decide) : g197 77 = gi187 77)))) ((funext (fun j => (hC201.1 70 j rfl).1) : gi201 70 = g199 70).trans ((by rw [e199]; exact x_up2_ne (by decide) : g199 70 = g197 70).trans ((by rw [e197]; exact x_up2_ne (by decide) : g197 70 = gi187 70)))))) rfl hX rfl (fun gi205 gl205 gr205 hI hX hC205 q205 => ?_)
                          have q205 : t_K (b) gi205 2 := q205
                          obtain ⟨l210, u210⟩ := hI.b (hI.wf.s (k := 69) rfl) (t_bdK rfl : t_bd 11 22 = some (0, 60))
                          obtain ⟨l211, u211⟩ := hI.b (hI.wf.s (k := 69) rfl) (t_bdK rfl : t_bd 11 23 = some (0, 6))
                          obtain ⟨l212, u212⟩ := hI.b (hI.wf.s (k := 69) rfl) (t_bdK rfl : t_bd 11 25 = some (0, 210))
                          refine ev_jmp f_X12_aOne (nx := 124) rfl rfl rfl ?_
                          refine ev_sub (lo := [(1, .int y161_1), (0, .ref 69)]) rfl (t_sc rfl (t_sc rfl t_sn)) ?_
                          exact ih161 _ (by have ff216 : (gi205 69 14).toInt = (gi201 69 14).toInt := congrArg Int32.toInt ((hC205.1 69 14 rfl).1.trans rfl); have ff217 : (gi205 69 12).toInt = (gi201 69 12).toInt := congrArg Int32.toInt ((hC205.1 69 12 rfl).1.trans rfl); omega) gi205 gl205 gr205 (y161_1) hI hX  l161_1 u161_1 q205 (by have ff213 : (gi205 69 14).toInt = (gi201 69 14).toInt := congrArg Int32.toInt ((hC205.1 69 14 rfl).1.trans rfl); omega) (by have ff214 : (gi205 69 12).toInt = (gi201 69 12).toInt := congrArg Int32.toInt ((hC205.1 69 12 rfl).1.trans rfl); have ff215 : (gi205 69 14).toInt = (gi201 69 14).toInt := congrArg Int32.toInt ((hC205.1 69 14 rfl).1.trans rfl); omega) rfl
                        · have r218 : w192.toInt ≠ 40 := fun e => h193 (Int32.toInt_inj.mp (e.trans (by decide : (40:Int) = (40 : Int32).toInt)))
                          refine ev_ic f_X12_isDoing (nx := 27) (v := 0) rfl (by decide) rfl ?_
                          refine ev_retK1 f_X12_isDoing rfl rfl rfl ?_
                          refine ev_t f_X12_aOne (t1 := 149) (t2 := 156) rfl rfl rfl (by decide) ?_
                          refine ev_loc f_X12_aOne (nx := 150) rfl rfl rfl rfl ?_
                          refine ev_inV1 f_X12_aOne (nx := 153) (lo2 := [(0, .ref 69)]) rfl rfl rfl rfl f_X12_joins (hI.wf.s rfl) rfl rfl rfl rfl rfl ?_
                          have kn219 := t_K_num j187_0
                          refine ev_loc f_X12_joins (nx := 1) rfl rfl rfl rfl ?_
                          refine ev_alu f_X12_joins (nx := 2) rfl rfl rfl rfl ?_
                          refine ev_gvI f_X12_joins (nx := 5) (w := (gi187 69 22)) rfl (hI.wf.s rfl) rfl rfl rfl rfl ?_
                          refine ev_ic f_X12_joins (nx := 6) (v := 1) rfl (by decide) rfl ?_
                          refine ev_subC f_X12_joins (nx := 7) (c := 1) (l := 0) (u := 59) rfl (by decide) l190 u188 rfl rfl (by decide) (by decide) rfl (fun z220 e220 l220 u220 => ?_)
                          refine ev_putIT f_X12_joins (nx := 10) rfl (hI.wf.s rfl) rfl rfl rfl (hI.putB (hI.wf.s rfl) rfl rfl l220 (by decide) u220 (by decide)) (hX.upI rfl) (fun g221 e221 hI hX => ?_)
                          refine ev_loc f_X12_joins (nx := 11) rfl rfl rfl rfl ?_
                          refine ev_loc f_X12_joins (nx := 12) rfl rfl rfl rfl ?_
                          refine ev_getR f_X12_joins (nx := 15) rfl (hI.wf.s rfl) rfl rfl (hI.wf.r rfl) rfl rfl ?_
                          refine ev_loc f_X12_joins (nx := 16) rfl rfl rfl rfl ?_
                          refine ev_gvI f_X12_joins (nx := 19) (w := z220) rfl (hI.wf.s rfl) rfl rfl (by rw [e221]; exact x_up2_at _ _ _ _ : g221 69 22 = z220) rfl ?_
                          refine ev_ialdT f_X12_joins (nx := 20) rfl (hI.wf.s rfl) l220 (by decide) u220 (by decide) rfl (fun w222 e222 => ?_)
                          refine ev_inV2 f_X12_joins (nx := 23) (lo2 := [(0, .ref 69), (1, .int w222)]) rfl rfl rfl rfl f_X12_asksAlso (hI.wf.s rfl) rfl rfl rfl rfl rfl ?_
                          have kn223 := t_K_num j187_0
                          refine ev_loc f_X12_asksAlso (nx := 1) rfl rfl rfl rfl ?_
                          refine ev_getR f_X12_asksAlso (nx := 4) rfl (hI.wf.s rfl) rfl rfl (hI.wf.r rfl) rfl rfl ?_
                          refine ev_sp f_X12_asksAlso (nx := 7) (v := 1540) rfl (by decide) rfl ?_
                          refine ev_loc f_X12_asksAlso (nx := 8) rfl rfl rfl rfl ?_
                          refine ev_gvI f_X12_asksAlso (nx := 11) (w := (gi187 69 25)) rfl (hI.wf.s rfl) rfl rfl ((by rw [e221]; exact x_up2_off (Or.inr (by decide)) : g221 69 25 = gi187 69 25).trans rfl) rfl ?_
                          refine ev_addK f_X12_asksAlso (nx := 12) (c := 1540) (l := 1540) (u := 1750) rfl (by decide) l189 u189 rfl rfl (by decide) (by decide) rfl (fun z224 e224 l224 u224 => ?_)
                          refine ev_loc f_X12_asksAlso (nx := 13) rfl rfl rfl rfl ?_
                          refine ev_iastT f_X12_asksAlso (nx := 14) rfl (hI.wf.s rfl) l224 (by decide) u224 (by decide) rfl (hI.astL (hI.wf.s rfl) (by decide +kernel : t_abw 70 1540 1750 (-2147483648) 2147483647 = true) (t_cl1 l224 (by decide)) (t_cl2 l224 u224 (by decide) (by decide)) (t_lo w222) (t_hi w222) rfl) (hX.upI (t_inR (p := 1540) (m := 1750) rfl l224 (by decide) u224 (by decide) (by decide))) (fun g225 e225 hI hX => ?_)
                          refine ev_loc f_X12_asksAlso (nx := 15) rfl rfl rfl rfl ?_
                          refine ev_alu f_X12_asksAlso (nx := 16) rfl rfl rfl rfl ?_
                          refine ev_gvI f_X12_asksAlso (nx := 19) (w := (gi187 69 25)) rfl (hI.wf.s rfl) rfl rfl ((by rw [e225]; exact x_up2_off (Or.inl (by decide)) : g225 69 25 = g221 69 25).trans ((by rw [e221]; exact x_up2_off (Or.inr (by decide)) : g221 69 25 = gi187 69 25).trans rfl)) rfl ?_
                          refine ev_ic f_X12_asksAlso (nx := 20) (v := 1) rfl (by decide) rfl ?_
                          refine ev_addC f_X12_asksAlso (nx := 21) (c := 1) (l := 1) (u := 211) rfl (by decide) l189 u189 rfl rfl (by decide) (by decide) rfl (fun z226 e226 l226 u226 => ?_)
                          have u228 : z226.toInt ≤ (210:Int) := (by omega)
                          refine ev_putIT f_X12_asksAlso (nx := 24) rfl (hI.wf.s rfl) rfl rfl rfl (hI.putB (hI.wf.s rfl) rfl rfl l226 (by decide) u228 (by decide)) (hX.upI rfl) (fun g227 e227 hI hX => ?_)
                          refine ev_retK0 f_X12_asksAlso rfl rfl rfl ?_
                          refine ev_retK0 f_X12_joins rfl rfl rfl ?_
                          refine ev_jmp f_X12_aOne (nx := 140) rfl rfl rfl ?_
                          refine ev_sub (lo := [(1, .int y161_1), (0, .ref 69)]) rfl (t_sc rfl (t_sc rfl t_sn)) ?_
                          exact ih187 _ (by have ff237 : (g227 69 22).toInt = z220.toInt := congrArg Int32.toInt ((by rw [e227]; exact x_up2_off (Or.inr (by decide)) : g227 69 22 = g225 69 22).trans ((by rw [e225]; exact x_up2_off (Or.inl (by decide)) : g225 69 22 = g221 69 22).trans (by rw [e221]; exact x_up2_at _ _ _ _ : g221 69 22 = z220))); omega) g227 gl187 gr187  hI hX  ((by rw [e227]; exact x_up2_off (Or.inr (by decide)) : g227 69 12 = g225 69 12).trans ((by rw [e225]; exact x_up2_off (Or.inl (by decide)) : g225 69 12 = g221 69 12).trans ((by rw [e221]; exact x_up2_off (Or.inr (by decide)) : g221 69 12 = gi187 69 12).trans c187_0))) ((by rw [e227]; exact x_up2_off (Or.inr (by decide)) : g227 69 14 = g225 69 14).trans ((by rw [e225]; exact x_up2_off (Or.inl (by decide)) : g225 69 14 = g221 69 14).trans ((by rw [e221]; exact x_up2_off (Or.inr (by decide)) : g221 69 14 = gi187 69 14).trans c187_1))) ((by rw [e227]; exact x_up2_off (Or.inr (by decide)) : g227 69 15 = g225 69 15).trans ((by rw [e225]; exact x_up2_off (Or.inl (by decide)) : g225 69 15 = g221 69 15).trans ((by rw [e221]; exact x_up2_off (Or.inr (by decide)) : g221 69 15 = gi187 69 15).trans c187_2))) ((by rw [e227]; exact x_up2_off (Or.inr (by decide)) : g227 69 18 = g225 69 18).trans ((by rw [e225]; exact x_up2_off (Or.inl (by decide)) : g225 69 18 = g221 69 18).trans ((by rw [e221]; exact x_up2_off (Or.inr (by decide)) : g221 69 18 = gi187 69 18).trans c187_3))) ((by rw [e227]; exact x_up2_off (Or.inr (by decide)) : g227 69 23 = g225 69 23).trans ((by rw [e225]; exact x_up2_off (Or.inl (by decide)) : g225 69 23 = g221 69 23).trans ((by rw [e221]; exact x_up2_off (Or.inr (by decide)) : g221 69 23 = gi187 69 23).trans c187_4))) ((by rw [e227]; exact x_up2_off (Or.inr (by decide)) : g227 69 24 = g225 69 24).trans ((by rw [e225]; exact x_up2_off (Or.inl (by decide)) : g225 69 24 = g221 69 24).trans ((by rw [e221]; exact x_up2_off (Or.inr (by decide)) : g221 69 24 = gi187 69 24).trans c187_5))) (by have ht := (by rw [e222]; have hc := t_clamp (i := z220) (by omega); have hx : z220.toNatClampNeg = (gi187 69 22).toInt.toNat - 1 := (by omega); rw [hx]; exact congrFun (((by rw [e221]; exact x_up2_ne (by decide) : g221 77 = gi187 77))) _ : w222 = gi187 77 ((gi187 69 22).toInt.toNat - 1)); have ho := (t_one (p := 1540 + (gi187 69 25).toInt.toNat) ((by rw [e221]; exact x_up2_ne (by decide) : g221 70 = gi187 70)) e225 ((by rw [e227]; exact x_up2_ne (by decide) : g227 70 = g225 70)) (by have hc := t_clamp (i := z224) (by omega); omega)); exact t_K_bin j187_0 (by omega) (t_K_top j187_0 (by omega) (by rw [← (by rw [e192]; have hc := t_clamp (i := z191) (by omega); have hx : z191.toNatClampNeg = (gi187 69 22).toInt.toNat - 1 := (by omega); rw [hx] : w192 = gi187 77 ((gi187 69 22).toInt.toNat - 1))]; omega)) (show (g227 69 22).toInt = (gi187 69 22).toInt - 1 from (by have ff229 : (g227 69 22).toInt = z220.toInt := congrArg Int32.toInt ((by rw [e227]; exact x_up2_off (Or.inr (by decide)) : g227 69 22 = g225 69 22).trans ((by rw [e225]; exact x_up2_off (Or.inl (by decide)) : g225 69 22 = g221 69 22).trans (by rw [e221]; exact x_up2_at _ _ _ _ : g221 69 22 = z220))); omega)) (show (g227 69 23).toInt = (gi187 69 23).toInt from (by have ff230 : (g227 69 23).toInt = (gi161 69 23).toInt := congrArg Int32.toInt ((by rw [e227]; exact x_up2_off (Or.inr (by decide)) : g227 69 23 = g225 69 23).trans ((by rw [e225]; exact x_up2_off (Or.inl (by decide)) : g225 69 23 = g221 69 23).trans ((by rw [e221]; exact x_up2_off (Or.inr (by decide)) : g221 69 23 = gi187 69 23).trans c187_4))); omega)) (show (g227 69 24).toInt = (gi187 69 24).toInt from (by have ff231 : (g227 69 24).toInt = (gi161 69 24).toInt := congrArg Int32.toInt ((by rw [e227]; exact x_up2_off (Or.inr (by decide)) : g227 69 24 = g225 69 24).trans ((by rw [e225]; exact x_up2_off (Or.inl (by decide)) : g225 69 24 = g221 69 24).trans ((by rw [e221]; exact x_up2_off (Or.inr (by decide)) : g221 69 24 = gi187 69 24).trans c187_5))); omega)) (show (g227 69 25).toInt = (gi187 69 25).toInt + 1 from (by have ff232 : (g227 69 25).toInt = z226.toInt := congrArg Int32.toInt (by rw [e227]; exact x_up2_at _ _ _ _ : g227 69 25 = z226); omega)) ((by rw [e227]; exact x_up2_ne (by decide) : g227 77 = g225 77).trans ((by rw [e225]; exact x_up2_ne (by decide) : g225 77 = g221 77).trans ((by rw [e221]; exact x_up2_ne (by decide) : g221 77 = gi187 77)))) ho.1 (ho.2.trans ht)) (by obtain ⟨j, hj, hv⟩ := j187_1; have ht := (by rw [e192]; have hc := t_clamp (i := z191) (by omega); have hx : z191.toNatClampNeg = (gi187 69 22).toInt.toNat - 1 := (by omega); rw [hx] : w192 = gi187 77 ((gi187 69 22).toInt.toNat - 1)); have ff233 : (g227 69 22).toInt = z220.toInt := congrArg Int32.toInt ((by rw [e227]; exact x_up2_off (Or.inr (by decide)) : g227 69 22 = g225 69 22).trans ((by rw [e225]; exact x_up2_off (Or.inl (by decide)) : g225 69 22 = g221 69 22).trans (by rw [e221]; exact x_up2_at _ _ _ _ : g221 69 22 = z220))); refine ⟨j, ?_, (congrArg Int32.toInt (congrFun ((by rw [e227]; exact x_up2_ne (by decide) : g227 77 = g225 77).trans ((by rw [e225]; exact x_up2_ne (by decide) : g225 77 = g221 77).trans ((by rw [e221]; exact x_up2_ne (by decide) : g221 77 = gi187 77)))) j)).trans hv⟩; have hne : j ≠ (gi187 69 22).toInt.toNat - 1 := (fun e => by rw [e, ← ht] at hv; omega); omega) (by have ff234 : (g227 69 14).toInt = (gi161 69 14).toInt := congrArg Int32.toInt ((by rw [e227]; exact x_up2_off (Or.inr (by decide)) : g227 69 14 = g225 69 14).trans ((by rw [e225]; exact x_up2_off (Or.inl (by decide)) : g225 69 14 = g221 69 14).trans ((by rw [e221]; exact x_up2_off (Or.inr (by decide)) : g221 69 14 = gi187 69 14).trans c187_1))); omega) (by have ff235 : (g227 69 12).toInt = (gi161 69 12).toInt := congrArg Int32.toInt ((by rw [e227]; exact x_up2_off (Or.inr (by decide)) : g227 69 12 = g225 69 12).trans ((by rw [e225]; exact x_up2_off (Or.inl (by decide)) : g225 69 12 = g221 69 12).trans ((by rw [e221]; exact x_up2_off (Or.inr (by decide)) : g221 69 12 = gi187 69 12).trans c187_0))); have ff236 : (g227 69 14).toInt = (gi161 69 14).toInt := congrArg Int32.toInt ((by rw [e227]; exact x_up2_off (Or.inr (by decide)) : g227 69 14 = g225 69 14).trans ((by rw [e225]; exact x_up2_off (Or.inl (by decide)) : g225 69 14 = g221 69 14).trans ((by rw [e221]; exact x_up2_off (Or.inr (by decide)) : g221 69 14 = gi187 69 14).trans c187_1))); omega) rfl
                      refine ev_sub (lo := [(1, .int y161_1), (0, .ref 69)]) rfl (t_sc rfl (t_sc rfl t_sn)) ?_
                      exact L187 _ gi174 gl174 gr174  hI hX  ((hC174.1 69 12 rfl).1.trans rfl) ((hC174.1 69 14 rfl).1.trans rfl) ((hC174.1 69 15 rfl).1.trans rfl) ((hC174.1 69 18 rfl).1.trans rfl) ((hC174.1 69 23 rfl).1.trans rfl) ((hC174.1 69 24 rfl).1.trans rfl) (t_K_ext j161_0 (show (gi174 69 22).toInt = (gi161 69 22).toInt from (by have ff238 : (gi174 69 22).toInt = (gi161 69 22).toInt := congrArg Int32.toInt ((hC174.1 69 22 rfl).1.trans rfl); omega)) (show (gi174 69 23).toInt = (gi161 69 23).toInt from (by have ff239 : (gi174 69 23).toInt = (gi161 69 23).toInt := congrArg Int32.toInt ((hC174.1 69 23 rfl).1.trans rfl); omega)) (show (gi174 69 24).toInt = (gi161 69 24).toInt from (by have ff240 : (gi174 69 24).toInt = (gi161 69 24).toInt := congrArg Int32.toInt ((hC174.1 69 24 rfl).1.trans rfl); omega)) (show (gi174 69 25).toInt = (gi161 69 25).toInt from (by have ff241 : (gi174 69 25).toInt = (gi161 69 25).toInt := congrArg Int32.toInt ((hC174.1 69 25 rfl).1.trans rfl); omega)) ((funext (fun j => (hC174.1 77 j rfl).1) : gi174 77 = gi161 77)) ((funext (fun j => (hC174.1 70 j rfl).1) : gi174 70 = gi161 70))) (q174.1 (by omega)) (by have ff242 : (gi174 69 14).toInt = (gi161 69 14).toInt := congrArg Int32.toInt ((hC174.1 69 14 rfl).1.trans rfl); omega) (by have ff243 : (gi174 69 12).toInt = (gi161 69 12).toInt := congrArg Int32.toInt ((hC174.1 69 12 rfl).1.trans rfl); have ff244 : (gi174 69 14).toInt = (gi161 69 14).toInt := congrArg Int32.toInt ((hC174.1 69 14 rfl).1.trans rfl); omega) rfl
                  · have r245 : (gi161 69 15).toInt ≠ 41 := fun e => h171 (Int32.toInt_inj.mp (e.trans (by decide : (41:Int) = (41 : Int32).toInt)))
                    refine ev_ic f_X12_isSign (nx := 21) (v := 0) rfl (by decide) rfl ?_
                    refine ev_retK1 f_X12_isSign rfl rfl rfl ?_
                    refine ev_t f_X12_aOne (t1 := 187) (t2 := 133) rfl rfl rfl (by decide) ?_
                    refine ev_ic f_X12_aOne (nx := 188) (v := 1) rfl (by decide) rfl ?_
                    exact ev_ret f_X12_aOne rfl rfl rfl ⟨_, _, _, rfl, hI, hX, ⟨_, rfl, (Int.le_trans (by decide : (0:Int) ≤ 1) (by decide : (1:Int) ≤ (1:Int32).toInt)), (by decide : (1:Int32).toInt ≤ (1:Int)), (show (gi 69 14).toInt ≤ (gi161 69 14).toInt ∧ (1 = 1 → (gi161 69 12).toInt ≠ 0 → (gi 69 14).toInt < (gi161 69 14).toInt) ∧ (1 = 0 → (gi161 69 18).toInt ≠ 0) ∧ (1 = 1 → t_K b gi161 2) from ⟨(by omega), (by omega), (by omega), fun _ => j161_0⟩)⟩⟩
                · have r246 : (gi161 69 12).toInt ≠ 4 := fun e => h169 (Int32.toInt_inj.mp (e.trans (by decide : (4:Int) = (4 : Int32).toInt)))
                  have u247 : (gi161 69 12).toInt ≤ 3 := t_neu h169 u162 rfl rfl
                  refine ev_ic f_X12_isSign (nx := 21) (v := 0) rfl (by decide) rfl ?_
                  refine ev_retK1 f_X12_isSign rfl rfl rfl ?_
                  refine ev_t f_X12_aOne (t1 := 187) (t2 := 133) rfl rfl rfl (by decide) ?_
                  refine ev_ic f_X12_aOne (nx := 188) (v := 1) rfl (by decide) rfl ?_
                  exact ev_ret f_X12_aOne rfl rfl rfl ⟨_, _, _, rfl, hI, hX, ⟨_, rfl, (Int.le_trans (by decide : (0:Int) ≤ 1) (by decide : (1:Int) ≤ (1:Int32).toInt)), (by decide : (1:Int32).toInt ≤ (1:Int)), (show (gi 69 14).toInt ≤ (gi161 69 14).toInt ∧ (1 = 1 → (gi161 69 12).toInt ≠ 0 → (gi 69 14).toInt < (gi161 69 14).toInt) ∧ (1 = 0 → (gi161 69 18).toInt ≠ 0) ∧ (1 = 1 → t_K b gi161 2) from ⟨(by omega), (by omega), (by omega), fun _ => j161_0⟩)⟩⟩
              refine ev_sub (lo := [(1, .int w137), (0, .ref 69)]) rfl (t_sc rfl (t_sc rfl t_sn)) ?_
              exact L161 _ gi157 gl157 gr157 (w137) hI hX  l141 (Int.le_trans u140 (by decide : (15:Int) ≤ 26)) q157 (by have ff248 : (gi157 69 14).toInt = (gi142 69 14).toInt := congrArg Int32.toInt ((hC157.1 69 14 rfl).1.trans rfl); omega) (by have ff249 : (gi157 69 12).toInt = (gi142 69 12).toInt := congrArg Int32.toInt ((hC157.1 69 12 rfl).1.trans rfl); have ff250 : (gi157 69 14).toInt = (gi142 69 14).toInt := congrArg Int32.toInt ((hC157.1 69 14 rfl).1.trans rfl); omega) rfl
          · have r251 : w137.toInt ≠ 15 := fun e => h139 (Int32.toInt_inj.mp (e.trans (by decide : (15:Int) = (15 : Int32).toInt)))
            refine ev_loc f_X12_aOne (nx := 87) rfl rfl rfl rfl ?_
            refine ev_bp f_X12_aOne (nx := 89) (v := 16) rfl (by decide) rfl ?_
            refine ev_if f_X12_aOne (t1 := 110) (t2 := 92) rfl rfl rfl (fun h252 => ?_) (fun h252 => ?_)
            · have u253 : w137.toInt ≤ 16 := t_equ h252 (by decide : (16:Int32).toInt ≤ (16:Int))
              have l254 : 16 ≤ w137.toInt := t_eql h252 (by decide : (16:Int) ≤ (16:Int32).toInt)
              refine ev_loc f_X12_aOne (nx := 111) rfl rfl rfl rfl ?_
              refine ev_loc f_X12_aOne (nx := 112) rfl rfl rfl rfl ?_
              refine ev_qI f_X12_aOne (nx := 115) (r := []) rfl rfl rfl rfl rfl rfl rfl (c_m_aCase hI (w137) (Int.le_trans (by decide : (15:Int) ≤ 16) l254) (Int.le_trans u253 (by decide : (16:Int) ≤ 26)) (b := b) (t_K_ext j8_0 (show (gi137 69 22).toInt = (gi8 69 22).toInt from (by have ff256 : (gi137 69 22).toInt = (gi8 69 22).toInt := congrArg Int32.toInt ((hC137.1 69 22 rfl).1.trans ((hC13.1 69 22 rfl).1.trans rfl)); omega)) (show (gi137 69 23).toInt = (gi8 69 23).toInt from (by have ff257 : (gi137 69 23).toInt = (gi8 69 23).toInt := congrArg Int32.toInt ((hC137.1 69 23 rfl).1.trans ((hC13.1 69 23 rfl).1.trans rfl)); omega)) (show (gi137 69 24).toInt = (gi8 69 24).toInt from (by have ff258 : (gi137 69 24).toInt = (gi 69 24).toInt := congrArg Int32.toInt ((hC137.1 69 24 rfl).1.trans ((hC13.1 69 24 rfl).1.trans c8_1)); omega)) (show (gi137 69 25).toInt = (gi8 69 25).toInt from (by have ff259 : (gi137 69 25).toInt = (gi 69 25).toInt := congrArg Int32.toInt ((hC137.1 69 25 rfl).1.trans ((hC13.1 69 25 rfl).1.trans c8_2)); omega)) ((funext (fun j => (hC137.1 77 j rfl).1) : gi137 77 = gi13 77).trans ((funext (fun j => (hC13.1 77 j rfl).1) : gi13 77 = gi8 77))) ((funext (fun j => (hC137.1 70 j rfl).1) : gi137 70 = gi13 70).trans ((funext (fun j => (hC13.1 70 j rfl).1) : gi13 70 = gi8 70)))) (by omega)) rfl hX rfl (fun w255 gi255 gl255 gr255 l255 u255 hI hX hC255 q255 => ?_)
              have ff260 : (gi137 69 14).toInt = (gi8 69 14).toInt := congrArg Int32.toInt ((hC137.1 69 14 rfl).1.trans ((hC13.1 69 14 rfl).1.trans rfl))
              have q255 : (gi137 69 14).toInt ≤ (gi255 69 14).toInt ∧ (w255.toInt = 1 → (gi255 69 12).toInt ≠ 0 → (gi137 69 14).toInt < (gi255 69 14).toInt) ∧ (w255.toInt = 0 → (gi255 69 18).toInt ≠ 0) ∧ (w255.toInt = 1 → t_K (b) gi255 1) := q255
              obtain ⟨l261, u261⟩ := hI.b (hI.wf.s (k := 69) rfl) (t_bdK rfl : t_bd 11 12 = some (0, 4))
              obtain ⟨l262, u262⟩ := hI.b (hI.wf.s (k := 69) rfl) (t_bdK rfl : t_bd 11 14 = some (0, 900))
              obtain ⟨l264, u264⟩ := hI.b (hI.wf.s (k := 69) rfl) (t_bdK rfl : t_bd 11 24 = some (0, 24))
              obtain ⟨l265, u265⟩ := hI.b (hI.wf.s (k := 69) rfl) (t_bdK rfl : t_bd 11 25 = some (0, 210))
              refine ev_if f_X12_aOne (t1 := 118) (t2 := 120) rfl rfl rfl (fun h266 => ?_) (fun h266 => ?_)
              · have u267 : w255.toInt ≤ 0 := t_equ h266 (by decide : (0:Int32).toInt ≤ (0:Int))
                refine ev_ic f_X12_aOne (nx := 119) (v := 0) rfl (by decide) rfl ?_
                exact ev_ret f_X12_aOne rfl rfl rfl ⟨_, _, _, rfl, hI, hX, ⟨_, rfl, (by decide : (0:Int) ≤ (0:Int32).toInt), (Int.le_trans (by decide : (0:Int32).toInt ≤ (0:Int)) (by decide : (0:Int) ≤ 1)), (show (gi 69 14).toInt ≤ (gi255 69 14).toInt ∧ (0 = 1 → (gi255 69 12).toInt ≠ 0 → (gi 69 14).toInt < (gi255 69 14).toInt) ∧ (0 = 0 → (gi255 69 18).toInt ≠ 0) ∧ (0 = 1 → t_K b gi255 2) from ⟨(by omega), (by omega), (by omega), fun h => absurd h (by decide)⟩)⟩⟩
              · have r268 : w255.toInt ≠ 0 := fun e => h266 (Int32.toInt_inj.mp (e.trans (by decide : (0:Int) = (0 : Int32).toInt)))
                have l269 : 1 ≤ w255.toInt := t_nel h266 l255 rfl rfl
                refine ev_loc f_X12_aOne (nx := 121) rfl rfl rfl rfl ?_
                refine ev_qN f_X12_aOne (nx := 124) (r := []) rfl rfl rfl rfl rfl rfl rfl (c_m_turnsRound hI  (b := b) (q255.2.2.2 (by omega))) rfl hX rfl (fun gi270 gl270 gr270 hI hX hC270 q270 => ?_)
                have q270 : t_K (b) gi270 2 := q270
                obtain ⟨l271, u271⟩ := hI.b (hI.wf.s (k := 69) rfl) (t_bdK rfl : t_bd 11 22 = some (0, 60))
                obtain ⟨l272, u272⟩ := hI.b (hI.wf.s (k := 69) rfl) (t_bdK rfl : t_bd 11 23 = some (0, 6))
                obtain ⟨l273, u273⟩ := hI.b (hI.wf.s (k := 69) rfl) (t_bdK rfl : t_bd 11 25 = some (0, 210))
                have L274 : ∀ (m274 : Nat) (gi274 : Nat → Nat → Int32) (gl274 : Nat → Nat → Int64) (gr274 : Nat → Nat → Value) (y274_1 : Int32), t_I sh gi274 gr274 → t_X wl_m_aOne sh gi gl gr gi274 gl274 gr274 → 15 ≤ y274_1.toInt → y274_1.toInt ≤ 26 → t_K b gi274 2 → (gi 69 14).toInt ≤ (gi274 69 14).toInt → ((gi274 69 12).toInt ≠ 0 → (gi 69 14).toInt < (gi274 69 14).toInt) → (2 * (900 - (gi274 69 14).toInt) + min (gi274 69 12).toInt 1).toNat = m274 → x_Ev X (d + 6) n_X12_aOne 124 [(1, .int y274_1), (0, .ref 69)] [] (sh, gi274, gl274, gr274) (t_PI wl_m_aOne sh gi gl gr 0 1 (Q_m_aOne gi gl gr b)) := by
                  intro m274
                  induction m274 using Nat.strongRecOn with
                  | _ m274 ih274 =>
                  intro gi274 gl274 gr274 y274_1 hI hX l274_1 u274_1 j274_0 j274_1 j274_2 hm274
                  obtain ⟨l275, u275⟩ := hI.b (hI.wf.s (k := 69) rfl) (t_bdK rfl : t_bd 11 12 = some (0, 4))
                  obtain ⟨l276, u276⟩ := hI.b (hI.wf.s (k := 69) rfl) (t_bdK rfl : t_bd 11 14 = some (0, 900))
                  obtain ⟨l278, u278⟩ := hI.b (hI.wf.s (k := 69) rfl) (t_bdK rfl : t_bd 11 22 = some (0, 60))
                  obtain ⟨l279, u279⟩ := hI.b (hI.wf.s (k := 69) rfl) (t_bdK rfl : t_bd 11 23 = some (0, 6))
                  obtain ⟨l280, u280⟩ := hI.b (hI.wf.s (k := 69) rfl) (t_bdK rfl : t_bd 11 24 = some (0, 24))
                  obtain ⟨l281, u281⟩ := hI.b (hI.wf.s (k := 69) rfl) (t_bdK rfl : t_bd 11 25 = some (0, 210))
                  refine ev_loc f_X12_aOne (nx := 125) rfl rfl rfl rfl ?_
                  refine ev_bp f_X12_aOne (nx := 127) (v := 41) rfl (by decide) rfl ?_
                  refine ev_inV2 f_X12_aOne (nx := 130) (lo2 := [(0, .ref 69), (1, .int 41)]) rfl rfl rfl rfl f_X12_isSign (hI.wf.s rfl) rfl rfl rfl rfl rfl ?_
                  refine ev_loc f_X12_isSign (nx := 1) rfl rfl rfl rfl ?_
                  refine ev_gvI f_X12_isSign (nx := 4) (w := (gi274 69 12)) rfl (hI.wf.s rfl) rfl rfl rfl rfl ?_
                  refine ev_ic f_X12_isSign (nx := 5) (v := 4) rfl (by decide) rfl ?_
                  refine ev_if f_X12_isSign (t1 := 8) (t2 := 20) rfl rfl rfl (fun h282 => ?_) (fun h282 => ?_)
                  · have l283 : 4 ≤ (gi274 69 12).toInt := t_eql h282 (by decide : (4:Int) ≤ (4:Int32).toInt)
                    refine ev_loc f_X12_isSign (nx := 9) rfl rfl rfl rfl ?_
                    refine ev_getI f_X12_isSign (nx := 12) rfl (hI.wf.s rfl) rfl rfl rfl ?_
                    refine ev_loc f_X12_isSign (nx := 13) rfl rfl rfl rfl ?_
                    refine ev_if f_X12_isSign (t1 := 16) (t2 := 20) rfl rfl rfl (fun h284 => ?_) (fun h284 => ?_)
                    · have u285 : (gi274 69 15).toInt ≤ 41 := t_equ h284 (by decide : (41:Int32).toInt ≤ (41:Int))
                      have l286 : 41 ≤ (gi274 69 15).toInt := t_eql h284 (by decide : (41:Int) ≤ (41:Int32).toInt)
                      refine ev_ic f_X12_isSign (nx := 17) (v := 1) rfl (by decide) rfl ?_
                      refine ev_jmp f_X12_isSign (nx := 21) rfl rfl rfl ?_
                      refine ev_retK1 f_X12_isSign rfl rfl rfl ?_
                      refine ev_f f_X12_aOne (t1 := 187) (t2 := 133) rfl rfl rfl (by decide) ?_
                      refine ev_loc f_X12_aOne (nx := 134) rfl rfl rfl rfl ?_
                      refine ev_qI f_X12_aOne (nx := 137) (r := []) rfl rfl rfl rfl rfl rfl rfl (c_m_isWithin hI ) rfl hX rfl (fun w287 gi287 gl287 gr287 l287 u287 hI hX hC287 q287 => ?_)
                      have q287 : (w287.toInt = 1 → t_ex gi287) ∧ (w287.toInt = 0 → t_n40 gi287) := q287
                      refine ev_if f_X12_aOne (t1 := 187) (t2 := 140) rfl rfl rfl (fun h288 => ?_) (fun h288 => ?_)
                      · have u289 : w287.toInt ≤ 0 := t_equ h288 (by decide : (0:Int32).toInt ≤ (0:Int))
                        refine ev_ic f_X12_aOne (nx := 188) (v := 1) rfl (by decide) rfl ?_
                        exact ev_ret f_X12_aOne rfl rfl rfl ⟨_, _, _, rfl, hI, hX, ⟨_, rfl, (Int.le_trans (by decide : (0:Int) ≤ 1) (by decide : (1:Int) ≤ (1:Int32).toInt)), (by decide : (1:Int32).toInt ≤ (1:Int)), (show (gi 69 14).toInt ≤ (gi287 69 14).toInt ∧ (1 = 1 → (gi287 69 12).toInt ≠ 0 → (gi 69 14).toInt < (gi287 69 14).toInt) ∧ (1 = 0 → (gi287 69 18).toInt ≠ 0) ∧ (1 = 1 → t_K b gi287 2) from ⟨(by have ff294 : (gi287 69 14).toInt = (gi274 69 14).toInt := congrArg Int32.toInt ((hC287.1 69 14 rfl).1.trans rfl); omega), (by have ff295 : (gi287 69 12).toInt = (gi274 69 12).toInt := congrArg Int32.toInt ((hC287.1 69 12 rfl).1.trans rfl); have ff296 : (gi287 69 14).toInt = (gi274 69 14).toInt := congrArg Int32.toInt ((hC287.1 69 14 rfl).1.trans rfl); omega), (by have ff297 : (gi287 69 18).toInt = (gi274 69 18).toInt := congrArg Int32.toInt ((hC287.1 69 18 rfl).1.trans rfl); omega), fun _ => (t_K_ext j274_0 (show (gi287 69 22).toInt = (gi274 69 22).toInt from (by have ff290 : (gi287 69 22).toInt = (gi274 69 22).toInt := congrArg Int32.toInt ((hC287.1 69 22 rfl).1.trans rfl); omega)) (show (gi287 69 23).toInt = (gi274 69 23).toInt from (by have ff291 : (gi287 69 23).toInt = (gi274 69 23).toInt := congrArg Int32.toInt ((hC287.1 69 23 rfl).1.trans rfl); omega)) (show (gi287 69 24).toInt = (gi274 69 24).toInt from (by have ff292 : (gi287 69 24).toInt = (gi274 69 24).toInt := congrArg Int32.toInt ((hC287.1 69 24 rfl).1.trans rfl); omega)) (show (gi287 69 25).toInt = (gi274 69 25).toInt from (by have ff293 : (gi287 69 25).toInt = (gi274 69 25).toInt := congrArg Int32.toInt ((hC287.1 69 25 rfl).1.trans rfl); omega)) ((funext (fun j => (hC287.1 77 j rfl).1) : gi287 77 = gi274 77)) ((funext (fun j => (hC287.1 70 j rfl).1) : gi287 70 = gi274 70)))⟩)⟩⟩
                      · have r298 : w287.toInt ≠ 0 := fun e => h288 (Int32.toInt_inj.mp (e.trans (by decide : (0:Int) = (0 : Int32).toInt)))
                        have l299 : 1 ≤ w287.toInt := t_nel h288 l287 rfl rfl
                        have L300 : ∀ (m300 : Nat) (gi300 : Nat → Nat → Int32) (gl300 : Nat → Nat → Int64) (gr300 : Nat → Nat → Value), t_I sh gi300 gr300 → t_X wl_m_aOne sh gi gl gr gi300 gl300 gr300 → gi300 69 12 = (gi274 69 12) → gi300 69 14 = (gi274 69 14) → gi300 69 15 = (gi274 69 15) → gi300 69 18 = (gi274 69 18) → gi300 69 23 = (gi274 69 23) → gi300 69 24 = (gi274 69 24) → t_K b gi300 2 → t_ex gi300 → (gi 69 14).toInt ≤ (gi300 69 14).toInt → ((gi300 69 12).toInt ≠ 0 → (gi 69 14).toInt < (gi300 69 14).toInt) → (gi300 69 22).toInt.toNat = m300 → x_Ev X (d + 6) n_X12_aOne 140 [(1, .int y274_1), (0, .ref 69)] [] (sh, gi300, gl300, gr300) (t_PI wl_m_aOne sh gi gl gr 0 1 (Q_m_aOne gi gl gr b)) := by
                          intro m300
                          induction m300 using Nat.strongRecOn with
                          | _ m300 ih300 =>
                          intro gi300 gl300 gr300 hI hX c300_0 c300_1 c300_2 c300_3 c300_4 c300_5 j300_0 j300_1 j300_2 j300_3 hm300
                          have cf300_0 : (gi300 69 12).toInt = (gi274 69 12).toInt := congrArg Int32.toInt c300_0
                          have cf300_1 : (gi300 69 14).toInt = (gi274 69 14).toInt := congrArg Int32.toInt c300_1
                          have cf300_3 : (gi300 69 18).toInt = (gi274 69 18).toInt := congrArg Int32.toInt c300_3
                          have cf300_4 : (gi300 69 23).toInt = (gi274 69 23).toInt := congrArg Int32.toInt c300_4
                          have cf300_5 : (gi300 69 24).toInt = (gi274 69 24).toInt := congrArg Int32.toInt c300_5
                          obtain ⟨l301, u301⟩ := hI.b (hI.wf.s (k := 69) rfl) (t_bdK rfl : t_bd 11 22 = some (0, 60))
                          obtain ⟨l302, u302⟩ := hI.b (hI.wf.s (k := 69) rfl) (t_bdK rfl : t_bd 11 25 = some (0, 210))
                          have l303 : (1:Int) ≤ (gi300 69 22).toInt := by obtain ⟨j, hj, _⟩ := j300_1; omega
                          refine ev_loc f_X12_aOne (nx := 141) rfl rfl rfl rfl ?_
                          refine ev_bp f_X12_aOne (nx := 143) (v := 40) rfl (by decide) rfl ?_
                          refine ev_inV2 f_X12_aOne (nx := 146) (lo2 := [(0, .ref 69), (1, .int 40)]) rfl rfl rfl rfl f_X12_isDoing (hI.wf.s rfl) rfl rfl rfl rfl rfl ?_
                          refine ev_loc f_X12_isDoing (nx := 1) rfl rfl rfl rfl ?_
                          refine ev_gvI f_X12_isDoing (nx := 4) (w := (gi300 69 22)) rfl (hI.wf.s rfl) rfl rfl rfl rfl ?_
                          refine ev_f f_X12_isDoing (t1 := 26) (t2 := 7) rfl rfl rfl (t_leF (by decide : (0:Int32).toInt ≤ (0:Int)) l303 (by decide)) ?_
                          refine ev_loc f_X12_isDoing (nx := 8) rfl rfl rfl rfl ?_
                          refine ev_getR f_X12_isDoing (nx := 11) rfl (hI.wf.s rfl) rfl rfl (hI.wf.r rfl) rfl rfl ?_
                          refine ev_loc f_X12_isDoing (nx := 12) rfl rfl rfl rfl ?_
                          refine ev_gvI f_X12_isDoing (nx := 15) (w := (gi300 69 22)) rfl (hI.wf.s rfl) rfl rfl rfl rfl ?_
                          refine ev_ic f_X12_isDoing (nx := 16) (v := 1) rfl (by decide) rfl ?_
                          refine ev_subC f_X12_isDoing (nx := 17) (c := 1) (l := 0) (u := 59) rfl (by decide) l303 u301 rfl rfl (by decide) (by decide) rfl (fun z304 e304 l304 u304 => ?_)
                          refine ev_ialdT f_X12_isDoing (nx := 18) rfl (hI.wf.s rfl) l304 (by decide) u304 (by decide) rfl (fun w305 e305 => ?_)
                          refine ev_loc f_X12_isDoing (nx := 19) rfl rfl rfl rfl ?_
                          refine ev_if f_X12_isDoing (t1 := 22) (t2 := 26) rfl rfl rfl (fun h306 => ?_) (fun h306 => ?_)
                          · have u307 : w305.toInt ≤ 40 := t_equ h306 (by decide : (40:Int32).toInt ≤ (40:Int))
                            have l308 : 40 ≤ w305.toInt := t_eql h306 (by decide : (40:Int) ≤ (40:Int32).toInt)
                            refine ev_ic f_X12_isDoing (nx := 23) (v := 1) rfl (by decide) rfl ?_
                            refine ev_jmp f_X12_isDoing (nx := 27) rfl rfl rfl ?_
                            refine ev_retK1 f_X12_isDoing rfl rfl rfl ?_
                            refine ev_f f_X12_aOne (t1 := 149) (t2 := 156) rfl rfl rfl (by decide) ?_
                            refine ev_loc f_X12_aOne (nx := 157) rfl rfl rfl rfl ?_
                            refine ev_alu f_X12_aOne (nx := 158) rfl rfl rfl rfl ?_
                            refine ev_gvI f_X12_aOne (nx := 161) (w := (gi300 69 22)) rfl (hI.wf.s rfl) rfl rfl rfl rfl ?_
                            refine ev_ic f_X12_aOne (nx := 162) (v := 1) rfl (by decide) rfl ?_
                            refine ev_subC f_X12_aOne (nx := 163) (c := 1) (l := 0) (u := 59) rfl (by decide) l303 u301 rfl rfl (by decide) (by decide) rfl (fun z309 e309 l309 u309 => ?_)
                            refine ev_putIT f_X12_aOne (nx := 166) rfl (hI.wf.s rfl) rfl rfl rfl (hI.putB (hI.wf.s rfl) rfl rfl l309 (by decide) u309 (by decide)) (hX.upI rfl) (fun g310 e310 hI hX => ?_)
                            refine ev_loc f_X12_aOne (nx := 167) rfl rfl rfl rfl ?_
                            refine ev_alu f_X12_aOne (nx := 168) rfl rfl rfl rfl ?_
                            refine ev_gvI f_X12_aOne (nx := 171) (w := (gi274 69 23)) rfl (hI.wf.s rfl) rfl rfl ((by rw [e310]; exact x_up2_off (Or.inr (by decide)) : g310 69 23 = gi300 69 23).trans c300_4) rfl ?_
                            refine ev_ic f_X12_aOne (nx := 172) (v := 1) rfl (by decide) rfl ?_
                            refine ev_subC f_X12_aOne (nx := 173) (c := 1) (l := (-1)) (u := 5) rfl (by decide) l279 u279 rfl rfl (by decide) (by decide) rfl (fun z311 e311 l311 u311 => ?_)
                            have l313 : (0:Int) ≤ z311.toInt := (by have hw := t_K_w j300_0 (by omega) (by rw [← (by rw [e305]; have hc := t_clamp (i := z304) (by omega); have hx : z304.toNatClampNeg = (gi300 69 22).toInt.toNat - 1 := (by omega); rw [hx] : w305 = gi300 77 ((gi300 69 22).toInt.toNat - 1))]; omega); omega)
                            refine ev_putIT f_X12_aOne (nx := 176) rfl (hI.wf.s rfl) rfl rfl rfl (hI.putB (hI.wf.s rfl) rfl rfl l313 (by decide) u311 (by decide)) (hX.upI rfl) (fun g312 e312 hI hX => ?_)
                            refine ev_loc f_X12_aOne (nx := 177) rfl rfl rfl rfl ?_
                            refine ev_qN f_X12_aOne (nx := 180) (r := []) rfl rfl rfl rfl rfl rfl rfl (c_m_ahead2 hI ) rfl hX rfl (fun gi314 gl314 gr314 hI hX hC314 q314 => ?_)
                            have ff315 : (g312 69 14).toInt = (gi274 69 14).toInt := congrArg Int32.toInt ((by rw [e312]; exact x_up2_off (Or.inr (by decide)) : g312 69 14 = g310 69 14).trans ((by rw [e310]; exact x_up2_off (Or.inr (by decide)) : g310 69 14 = gi300 69 14).trans c300_1))
                            have q314 : (g312 69 14).toInt ≤ (gi314 69 14).toInt ∧ ((gi314 69 12).toInt ≠ 0 → (g312 69 14).toInt < (gi314 69 14).toInt) ∧ ((gi314 69 12).toInt = 3 → 0 ≤ (gi314 69 15).toInt) := q314
                            obtain ⟨l316, u316⟩ := hI.b (hI.wf.s (k := 69) rfl) (t_bdK rfl : t_bd 11 12 = some (0, 4))
                            obtain ⟨l317, u317⟩ := hI.b (hI.wf.s (k := 69) rfl) (t_bdK rfl : t_bd 11 14 = some (0, 900))
                            refine ev_loc f_X12_aOne (nx := 181) rfl rfl rfl rfl ?_
                            refine ev_qN f_X12_aOne (nx := 184) (r := []) rfl rfl rfl rfl rfl rfl rfl (c_m_turnsRound hI  (b := b) (t_K_par j300_0 (by omega) (by rw [← (by rw [e305]; have hc := t_clamp (i := z304) (by omega); have hx : z304.toNatClampNeg = (gi300 69 22).toInt.toNat - 1 := (by omega); rw [hx] : w305 = gi300 77 ((gi300 69 22).toInt.toNat - 1))]; omega) (show (gi314 69 22).toInt = (gi300 69 22).toInt - 1 from (by have ff319 : (gi314 69 22).toInt = z309.toInt := congrArg Int32.toInt ((hC314.1 69 22 rfl).1.trans ((by rw [e312]; exact x_up2_off (Or.inr (by decide)) : g312 69 22 = g310 69 22).trans (by rw [e310]; exact x_up2_at _ _ _ _ : g310 69 22 = z309))); omega)) (show (gi314 69 23).toInt = (gi300 69 23).toInt - 1 from (by have ff320 : (gi314 69 23).toInt = z311.toInt := congrArg Int32.toInt ((hC314.1 69 23 rfl).1.trans (by rw [e312]; exact x_up2_at _ _ _ _ : g312 69 23 = z311)); omega)) (show (gi314 69 24).toInt = (gi300 69 24).toInt from (by have ff321 : (gi314 69 24).toInt = (gi274 69 24).toInt := congrArg Int32.toInt ((hC314.1 69 24 rfl).1.trans ((by rw [e312]; exact x_up2_off (Or.inr (by decide)) : g312 69 24 = g310 69 24).trans ((by rw [e310]; exact x_up2_off (Or.inr (by decide)) : g310 69 24 = gi300 69 24).trans c300_5))); omega)) (show (gi314 69 25).toInt = (gi300 69 25).toInt from (by have ff322 : (gi314 69 25).toInt = (gi300 69 25).toInt := congrArg Int32.toInt ((hC314.1 69 25 rfl).1.trans ((by rw [e312]; exact x_up2_off (Or.inr (by decide)) : g312 69 25 = g310 69 25).trans ((by rw [e310]; exact x_up2_off (Or.inr (by decide)) : g310 69 25 = gi300 69 25).trans rfl))); omega)) ((funext (fun j => (hC314.1 77 j rfl).1) : gi314 77 = g312 77).trans ((by rw [e312]; exact x_up2_ne (by decide) : g312 77 = g310 77).trans ((by rw [e310]; exact x_up2_ne (by decide) : g310 77 = gi300 77)))) ((funext (fun j => (hC314.1 70 j rfl).1) : gi314 70 = g312 70).trans ((by rw [e312]; exact x_up2_ne (by decide) : g312 70 = g310 70).trans ((by rw [e310]; exact x_up2_ne (by decide) : g310 70 = gi300 70)))))) rfl hX rfl (fun gi318 gl318 gr318 hI hX hC318 q318 => ?_)
                            have q318 : t_K (b) gi318 2 := q318
                            obtain ⟨l323, u323⟩ := hI.b (hI.wf.s (k := 69) rfl) (t_bdK rfl : t_bd 11 22 = some (0, 60))
                            obtain ⟨l324, u324⟩ := hI.b (hI.wf.s (k := 69) rfl) (t_bdK rfl : t_bd 11 23 = some (0, 6))
                            obtain ⟨l325, u325⟩ := hI.b (hI.wf.s (k := 69) rfl) (t_bdK rfl : t_bd 11 25 = some (0, 210))
                            refine ev_jmp f_X12_aOne (nx := 124) rfl rfl rfl ?_
                            refine ev_sub (lo := [(1, .int y274_1), (0, .ref 69)]) rfl (t_sc rfl (t_sc rfl t_sn)) ?_
                            exact ih274 _ (by have ff329 : (gi318 69 14).toInt = (gi314 69 14).toInt := congrArg Int32.toInt ((hC318.1 69 14 rfl).1.trans rfl); have ff330 : (gi318 69 12).toInt = (gi314 69 12).toInt := congrArg Int32.toInt ((hC318.1 69 12 rfl).1.trans rfl); omega) gi318 gl318 gr318 (y274_1) hI hX  l274_1 u274_1 q318 (by have ff326 : (gi318 69 14).toInt = (gi314 69 14).toInt := congrArg Int32.toInt ((hC318.1 69 14 rfl).1.trans rfl); omega) (by have ff327 : (gi318 69 12).toInt = (gi314 69 12).toInt := congrArg Int32.toInt ((hC318.1 69 12 rfl).1.trans rfl); have ff328 : (gi318 69 14).toInt = (gi314 69 14).toInt := congrArg Int32.toInt ((hC318.1 69 14 rfl).1.trans rfl); omega) rfl
                          · have r331 : w305.toInt ≠ 40 := fun e => h306 (Int32.toInt_inj.mp (e.trans (by decide : (40:Int) = (40 : Int32).toInt)))
                            refine ev_ic f_X12_isDoing (nx := 27) (v := 0) rfl (by decide) rfl ?_
                            refine ev_retK1 f_X12_isDoing rfl rfl rfl ?_
                            refine ev_t f_X12_aOne (t1 := 149) (t2 := 156) rfl rfl rfl (by decide) ?_
                            refine ev_loc f_X12_aOne (nx := 150) rfl rfl rfl rfl ?_
                            refine ev_inV1 f_X12_aOne (nx := 153) (lo2 := [(0, .ref 69)]) rfl rfl rfl rfl f_X12_joins (hI.wf.s rfl) rfl rfl rfl rfl rfl ?_
                            have kn332 := t_K_num j300_0
                            refine ev_loc f_X12_joins (nx := 1) rfl rfl rfl rfl ?_
                            refine ev_alu f_X12_joins (nx := 2) rfl rfl rfl rfl ?_
                            refine ev_gvI f_X12_joins (nx := 5) (w := (gi300 69 22)) rfl (hI.wf.s rfl) rfl rfl rfl rfl ?_
                            refine ev_ic f_X12_joins (nx := 6) (v := 1) rfl (by decide) rfl ?_
                            refine ev_subC f_X12_joins (nx := 7) (c := 1) (l := 0) (u := 59) rfl (by decide) l303 u301 rfl rfl (by decide) (by decide) rfl (fun z333 e333 l333 u333 => ?_)
                            refine ev_putIT f_X12_joins (nx := 10) rfl (hI.wf.s rfl) rfl rfl rfl (hI.putB (hI.wf.s rfl) rfl rfl l333 (by decide) u333 (by decide)) (hX.upI rfl) (fun g334 e334 hI hX => ?_)
                            refine ev_loc f_X12_joins (nx := 11) rfl rfl rfl rfl ?_
                            refine ev_loc f_X12_joins (nx := 12) rfl rfl rfl rfl ?_
                            refine ev_getR f_X12_joins (nx := 15) rfl (hI.wf.s rfl) rfl rfl (hI.wf.r rfl) rfl rfl ?_
                            refine ev_loc f_X12_joins (nx := 16) rfl rfl rfl rfl ?_
                            refine ev_gvI f_X12_joins (nx := 19) (w := z333) rfl (hI.wf.s rfl) rfl rfl (by rw [e334]; exact x_up2_at _ _ _ _ : g334 69 22 = z333) rfl ?_
                            refine ev_ialdT f_X12_joins (nx := 20) rfl (hI.wf.s rfl) l333 (by decide) u333 (by decide) rfl (fun w335 e335 => ?_)
                            refine ev_inV2 f_X12_joins (nx := 23) (lo2 := [(0, .ref 69), (1, .int w335)]) rfl rfl rfl rfl f_X12_asksAlso (hI.wf.s rfl) rfl rfl rfl rfl rfl ?_
                            have kn336 := t_K_num j300_0
                            refine ev_loc f_X12_asksAlso (nx := 1) rfl rfl rfl rfl ?_
                            refine ev_getR f_X12_asksAlso (nx := 4) rfl (hI.wf.s rfl) rfl rfl (hI.wf.r rfl) rfl rfl ?_
                            refine ev_sp f_X12_asksAlso (nx := 7) (v := 1540) rfl (by decide) rfl ?_
                            refine ev_loc f_X12_asksAlso (nx := 8) rfl rfl rfl rfl ?_
                            refine ev_gvI f_X12_asksAlso (nx := 11) (w := (gi300 69 25)) rfl (hI.wf.s rfl) rfl rfl ((by rw [e334]; exact x_up2_off (Or.inr (by decide)) : g334 69 25 = gi300 69 25).trans rfl) rfl ?_
                            refine ev_addK f_X12_asksAlso (nx := 12) (c := 1540) (l := 1540) (u := 1750) rfl (by decide) l302 u302 rfl rfl (by decide) (by decide) rfl (fun z337 e337 l337 u337 => ?_)
                            refine ev_loc f_X12_asksAlso (nx := 13) rfl rfl rfl rfl ?_
                            refine ev_iastT f_X12_asksAlso (nx := 14) rfl (hI.wf.s rfl) l337 (by decide) u337 (by decide) rfl (hI.astL (hI.wf.s rfl) (by decide +kernel : t_abw 70 1540 1750 (-2147483648) 2147483647 = true) (t_cl1 l337 (by decide)) (t_cl2 l337 u337 (by decide) (by decide)) (t_lo w335) (t_hi w335) rfl) (hX.upI (t_inR (p := 1540) (m := 1750) rfl l337 (by decide) u337 (by decide) (by decide))) (fun g338 e338 hI hX => ?_)
                            refine ev_loc f_X12_asksAlso (nx := 15) rfl rfl rfl rfl ?_
                            refine ev_alu f_X12_asksAlso (nx := 16) rfl rfl rfl rfl ?_
                            refine ev_gvI f_X12_asksAlso (nx := 19) (w := (gi300 69 25)) rfl (hI.wf.s rfl) rfl rfl ((by rw [e338]; exact x_up2_off (Or.inl (by decide)) : g338 69 25 = g334 69 25).trans ((by rw [e334]; exact x_up2_off (Or.inr (by decide)) : g334 69 25 = gi300 69 25).trans rfl)) rfl ?_
                            refine ev_ic f_X12_asksAlso (nx := 20) (v := 1) rfl (by decide) rfl ?_
                            refine ev_addC f_X12_asksAlso (nx := 21) (c := 1) (l := 1) (u := 211) rfl (by decide) l302 u302 rfl rfl (by decide) (by decide) rfl (fun z339 e339 l339 u339 => ?_)
                            have u341 : z339.toInt ≤ (210:Int) := (by omega)
                            refine ev_putIT f_X12_asksAlso (nx := 24) rfl (hI.wf.s rfl) rfl rfl rfl (hI.putB (hI.wf.s rfl) rfl rfl l339 (by decide) u341 (by decide)) (hX.upI rfl) (fun g340 e340 hI hX => ?_)
                            refine ev_retK0 f_X12_asksAlso rfl rfl rfl ?_
                            refine ev_retK0 f_X12_joins rfl rfl rfl ?_
                            refine ev_jmp f_X12_aOne (nx := 140) rfl rfl rfl ?_
                            refine ev_sub (lo := [(1, .int y274_1), (0, .ref 69)]) rfl (t_sc rfl (t_sc rfl t_sn)) ?_
                            exact ih300 _ (by have ff350 : (g340 69 22).toInt = z333.toInt := congrArg Int32.toInt ((by rw [e340]; exact x_up2_off (Or.inr (by decide)) : g340 69 22 = g338 69 22).trans ((by rw [e338]; exact x_up2_off (Or.inl (by decide)) : g338 69 22 = g334 69 22).trans (by rw [e334]; exact x_up2_at _ _ _ _ : g334 69 22 = z333))); omega) g340 gl300 gr300  hI hX  ((by rw [e340]; exact x_up2_off (Or.inr (by decide)) : g340 69 12 = g338 69 12).trans ((by rw [e338]; exact x_up2_off (Or.inl (by decide)) : g338 69 12 = g334 69 12).trans ((by rw [e334]; exact x_up2_off (Or.inr (by decide)) : g334 69 12 = gi300 69 12).trans c300_0))) ((by rw [e340]; exact x_up2_off (Or.inr (by decide)) : g340 69 14 = g338 69 14).trans ((by rw [e338]; exact x_up2_off (Or.inl (by decide)) : g338 69 14 = g334 69 14).trans ((by rw [e334]; exact x_up2_off (Or.inr (by decide)) : g334 69 14 = gi300 69 14).trans c300_1))) ((by rw [e340]; exact x_up2_off (Or.inr (by decide)) : g340 69 15 = g338 69 15).trans ((by rw [e338]; exact x_up2_off (Or.inl (by decide)) : g338 69 15 = g334 69 15).trans ((by rw [e334]; exact x_up2_off (Or.inr (by decide)) : g334 69 15 = gi300 69 15).trans c300_2))) ((by rw [e340]; exact x_up2_off (Or.inr (by decide)) : g340 69 18 = g338 69 18).trans ((by rw [e338]; exact x_up2_off (Or.inl (by decide)) : g338 69 18 = g334 69 18).trans ((by rw [e334]; exact x_up2_off (Or.inr (by decide)) : g334 69 18 = gi300 69 18).trans c300_3))) ((by rw [e340]; exact x_up2_off (Or.inr (by decide)) : g340 69 23 = g338 69 23).trans ((by rw [e338]; exact x_up2_off (Or.inl (by decide)) : g338 69 23 = g334 69 23).trans ((by rw [e334]; exact x_up2_off (Or.inr (by decide)) : g334 69 23 = gi300 69 23).trans c300_4))) ((by rw [e340]; exact x_up2_off (Or.inr (by decide)) : g340 69 24 = g338 69 24).trans ((by rw [e338]; exact x_up2_off (Or.inl (by decide)) : g338 69 24 = g334 69 24).trans ((by rw [e334]; exact x_up2_off (Or.inr (by decide)) : g334 69 24 = gi300 69 24).trans c300_5))) (by have ht := (by rw [e335]; have hc := t_clamp (i := z333) (by omega); have hx : z333.toNatClampNeg = (gi300 69 22).toInt.toNat - 1 := (by omega); rw [hx]; exact congrFun (((by rw [e334]; exact x_up2_ne (by decide) : g334 77 = gi300 77))) _ : w335 = gi300 77 ((gi300 69 22).toInt.toNat - 1)); have ho := (t_one (p := 1540 + (gi300 69 25).toInt.toNat) ((by rw [e334]; exact x_up2_ne (by decide) : g334 70 = gi300 70)) e338 ((by rw [e340]; exact x_up2_ne (by decide) : g340 70 = g338 70)) (by have hc := t_clamp (i := z337) (by omega); omega)); exact t_K_bin j300_0 (by omega) (t_K_top j300_0 (by omega) (by rw [← (by rw [e305]; have hc := t_clamp (i := z304) (by omega); have hx : z304.toNatClampNeg = (gi300 69 22).toInt.toNat - 1 := (by omega); rw [hx] : w305 = gi300 77 ((gi300 69 22).toInt.toNat - 1))]; omega)) (show (g340 69 22).toInt = (gi300 69 22).toInt - 1 from (by have ff342 : (g340 69 22).toInt = z333.toInt := congrArg Int32.toInt ((by rw [e340]; exact x_up2_off (Or.inr (by decide)) : g340 69 22 = g338 69 22).trans ((by rw [e338]; exact x_up2_off (Or.inl (by decide)) : g338 69 22 = g334 69 22).trans (by rw [e334]; exact x_up2_at _ _ _ _ : g334 69 22 = z333))); omega)) (show (g340 69 23).toInt = (gi300 69 23).toInt from (by have ff343 : (g340 69 23).toInt = (gi274 69 23).toInt := congrArg Int32.toInt ((by rw [e340]; exact x_up2_off (Or.inr (by decide)) : g340 69 23 = g338 69 23).trans ((by rw [e338]; exact x_up2_off (Or.inl (by decide)) : g338 69 23 = g334 69 23).trans ((by rw [e334]; exact x_up2_off (Or.inr (by decide)) : g334 69 23 = gi300 69 23).trans c300_4))); omega)) (show (g340 69 24).toInt = (gi300 69 24).toInt from (by have ff344 : (g340 69 24).toInt = (gi274 69 24).toInt := congrArg Int32.toInt ((by rw [e340]; exact x_up2_off (Or.inr (by decide)) : g340 69 24 = g338 69 24).trans ((by rw [e338]; exact x_up2_off (Or.inl (by decide)) : g338 69 24 = g334 69 24).trans ((by rw [e334]; exact x_up2_off (Or.inr (by decide)) : g334 69 24 = gi300 69 24).trans c300_5))); omega)) (show (g340 69 25).toInt = (gi300 69 25).toInt + 1 from (by have ff345 : (g340 69 25).toInt = z339.toInt := congrArg Int32.toInt (by rw [e340]; exact x_up2_at _ _ _ _ : g340 69 25 = z339); omega)) ((by rw [e340]; exact x_up2_ne (by decide) : g340 77 = g338 77).trans ((by rw [e338]; exact x_up2_ne (by decide) : g338 77 = g334 77).trans ((by rw [e334]; exact x_up2_ne (by decide) : g334 77 = gi300 77)))) ho.1 (ho.2.trans ht)) (by obtain ⟨j, hj, hv⟩ := j300_1; have ht := (by rw [e305]; have hc := t_clamp (i := z304) (by omega); have hx : z304.toNatClampNeg = (gi300 69 22).toInt.toNat - 1 := (by omega); rw [hx] : w305 = gi300 77 ((gi300 69 22).toInt.toNat - 1)); have ff346 : (g340 69 22).toInt = z333.toInt := congrArg Int32.toInt ((by rw [e340]; exact x_up2_off (Or.inr (by decide)) : g340 69 22 = g338 69 22).trans ((by rw [e338]; exact x_up2_off (Or.inl (by decide)) : g338 69 22 = g334 69 22).trans (by rw [e334]; exact x_up2_at _ _ _ _ : g334 69 22 = z333))); refine ⟨j, ?_, (congrArg Int32.toInt (congrFun ((by rw [e340]; exact x_up2_ne (by decide) : g340 77 = g338 77).trans ((by rw [e338]; exact x_up2_ne (by decide) : g338 77 = g334 77).trans ((by rw [e334]; exact x_up2_ne (by decide) : g334 77 = gi300 77)))) j)).trans hv⟩; have hne : j ≠ (gi300 69 22).toInt.toNat - 1 := (fun e => by rw [e, ← ht] at hv; omega); omega) (by have ff347 : (g340 69 14).toInt = (gi274 69 14).toInt := congrArg Int32.toInt ((by rw [e340]; exact x_up2_off (Or.inr (by decide)) : g340 69 14 = g338 69 14).trans ((by rw [e338]; exact x_up2_off (Or.inl (by decide)) : g338 69 14 = g334 69 14).trans ((by rw [e334]; exact x_up2_off (Or.inr (by decide)) : g334 69 14 = gi300 69 14).trans c300_1))); omega) (by have ff348 : (g340 69 12).toInt = (gi274 69 12).toInt := congrArg Int32.toInt ((by rw [e340]; exact x_up2_off (Or.inr (by decide)) : g340 69 12 = g338 69 12).trans ((by rw [e338]; exact x_up2_off (Or.inl (by decide)) : g338 69 12 = g334 69 12).trans ((by rw [e334]; exact x_up2_off (Or.inr (by decide)) : g334 69 12 = gi300 69 12).trans c300_0))); have ff349 : (g340 69 14).toInt = (gi274 69 14).toInt := congrArg Int32.toInt ((by rw [e340]; exact x_up2_off (Or.inr (by decide)) : g340 69 14 = g338 69 14).trans ((by rw [e338]; exact x_up2_off (Or.inl (by decide)) : g338 69 14 = g334 69 14).trans ((by rw [e334]; exact x_up2_off (Or.inr (by decide)) : g334 69 14 = gi300 69 14).trans c300_1))); omega) rfl
                        refine ev_sub (lo := [(1, .int y274_1), (0, .ref 69)]) rfl (t_sc rfl (t_sc rfl t_sn)) ?_
                        exact L300 _ gi287 gl287 gr287  hI hX  ((hC287.1 69 12 rfl).1.trans rfl) ((hC287.1 69 14 rfl).1.trans rfl) ((hC287.1 69 15 rfl).1.trans rfl) ((hC287.1 69 18 rfl).1.trans rfl) ((hC287.1 69 23 rfl).1.trans rfl) ((hC287.1 69 24 rfl).1.trans rfl) (t_K_ext j274_0 (show (gi287 69 22).toInt = (gi274 69 22).toInt from (by have ff351 : (gi287 69 22).toInt = (gi274 69 22).toInt := congrArg Int32.toInt ((hC287.1 69 22 rfl).1.trans rfl); omega)) (show (gi287 69 23).toInt = (gi274 69 23).toInt from (by have ff352 : (gi287 69 23).toInt = (gi274 69 23).toInt := congrArg Int32.toInt ((hC287.1 69 23 rfl).1.trans rfl); omega)) (show (gi287 69 24).toInt = (gi274 69 24).toInt from (by have ff353 : (gi287 69 24).toInt = (gi274 69 24).toInt := congrArg Int32.toInt ((hC287.1 69 24 rfl).1.trans rfl); omega)) (show (gi287 69 25).toInt = (gi274 69 25).toInt from (by have ff354 : (gi287 69 25).toInt = (gi274 69 25).toInt := congrArg Int32.toInt ((hC287.1 69 25 rfl).1.trans rfl); omega)) ((funext (fun j => (hC287.1 77 j rfl).1) : gi287 77 = gi274 77)) ((funext (fun j => (hC287.1 70 j rfl).1) : gi287 70 = gi274 70))) (q287.1 (by omega)) (by have ff355 : (gi287 69 14).toInt = (gi274 69 14).toInt := congrArg Int32.toInt ((hC287.1 69 14 rfl).1.trans rfl); omega) (by have ff356 : (gi287 69 12).toInt = (gi274 69 12).toInt := congrArg Int32.toInt ((hC287.1 69 12 rfl).1.trans rfl); have ff357 : (gi287 69 14).toInt = (gi274 69 14).toInt := congrArg Int32.toInt ((hC287.1 69 14 rfl).1.trans rfl); omega) rfl
                    · have r358 : (gi274 69 15).toInt ≠ 41 := fun e => h284 (Int32.toInt_inj.mp (e.trans (by decide : (41:Int) = (41 : Int32).toInt)))
                      refine ev_ic f_X12_isSign (nx := 21) (v := 0) rfl (by decide) rfl ?_
                      refine ev_retK1 f_X12_isSign rfl rfl rfl ?_
                      refine ev_t f_X12_aOne (t1 := 187) (t2 := 133) rfl rfl rfl (by decide) ?_
                      refine ev_ic f_X12_aOne (nx := 188) (v := 1) rfl (by decide) rfl ?_
                      exact ev_ret f_X12_aOne rfl rfl rfl ⟨_, _, _, rfl, hI, hX, ⟨_, rfl, (Int.le_trans (by decide : (0:Int) ≤ 1) (by decide : (1:Int) ≤ (1:Int32).toInt)), (by decide : (1:Int32).toInt ≤ (1:Int)), (show (gi 69 14).toInt ≤ (gi274 69 14).toInt ∧ (1 = 1 → (gi274 69 12).toInt ≠ 0 → (gi 69 14).toInt < (gi274 69 14).toInt) ∧ (1 = 0 → (gi274 69 18).toInt ≠ 0) ∧ (1 = 1 → t_K b gi274 2) from ⟨(by omega), (by omega), (by omega), fun _ => j274_0⟩)⟩⟩
                  · have r359 : (gi274 69 12).toInt ≠ 4 := fun e => h282 (Int32.toInt_inj.mp (e.trans (by decide : (4:Int) = (4 : Int32).toInt)))
                    have u360 : (gi274 69 12).toInt ≤ 3 := t_neu h282 u275 rfl rfl
                    refine ev_ic f_X12_isSign (nx := 21) (v := 0) rfl (by decide) rfl ?_
                    refine ev_retK1 f_X12_isSign rfl rfl rfl ?_
                    refine ev_t f_X12_aOne (t1 := 187) (t2 := 133) rfl rfl rfl (by decide) ?_
                    refine ev_ic f_X12_aOne (nx := 188) (v := 1) rfl (by decide) rfl ?_
                    exact ev_ret f_X12_aOne rfl rfl rfl ⟨_, _, _, rfl, hI, hX, ⟨_, rfl, (Int.le_trans (by decide : (0:Int) ≤ 1) (by decide : (1:Int) ≤ (1:Int32).toInt)), (by decide : (1:Int32).toInt ≤ (1:Int)), (show (gi 69 14).toInt ≤ (gi274 69 14).toInt ∧ (1 = 1 → (gi274 69 12).toInt ≠ 0 → (gi 69 14).toInt < (gi274 69 14).toInt) ∧ (1 = 0 → (gi274 69 18).toInt ≠ 0) ∧ (1 = 1 → t_K b gi274 2) from ⟨(by omega), (by omega), (by omega), fun _ => j274_0⟩)⟩⟩
                refine ev_sub (lo := [(1, .int w137), (0, .ref 69)]) rfl (t_sc rfl (t_sc rfl t_sn)) ?_
                exact L274 _ gi270 gl270 gr270 (w137) hI hX  (Int.le_trans (by decide : (15:Int) ≤ 16) l254) (Int.le_trans u253 (by decide : (16:Int) ≤ 26)) q270 (by have ff361 : (gi270 69 14).toInt = (gi255 69 14).toInt := congrArg Int32.toInt ((hC270.1 69 14 rfl).1.trans rfl); omega) (by have ff362 : (gi270 69 12).toInt = (gi255 69 12).toInt := congrArg Int32.toInt ((hC270.1 69 12 rfl).1.trans rfl); have ff363 : (gi270 69 14).toInt = (gi255 69 14).toInt := congrArg Int32.toInt ((hC270.1 69 14 rfl).1.trans rfl); omega) rfl
            · have r364 : w137.toInt ≠ 16 := fun e => h252 (Int32.toInt_inj.mp (e.trans (by decide : (16:Int) = (16 : Int32).toInt)))
              refine ev_loc f_X12_aOne (nx := 93) rfl rfl rfl rfl ?_
              refine ev_bp f_X12_aOne (nx := 95) (v := 22) rfl (by decide) rfl ?_
              refine ev_if f_X12_aOne (t1 := 104) (t2 := 98) rfl rfl rfl (fun h365 => ?_) (fun h365 => ?_)
              · have u366 : w137.toInt ≤ 21 := t_ltu h365 (by decide : (22:Int32).toInt ≤ (22:Int)) rfl
                refine ev_loc f_X12_aOne (nx := 105) rfl rfl rfl rfl ?_
                refine ev_ic f_X12_aOne (nx := 106) (v := 2) rfl (by decide) rfl ?_
                refine ev_inV2 f_X12_aOne (nx := 109) (lo2 := [(0, .ref 69), (1, .int 2)]) rfl rfl rfl rfl f_X12_fails (hI.wf.s rfl) rfl rfl rfl rfl rfl ?_
                refine ev_loc f_X12_fails (nx := 1) rfl rfl rfl rfl ?_
                refine ev_gvI f_X12_fails (nx := 4) (w := (gi 69 18)) rfl (hI.wf.s rfl) rfl rfl ((hC137.1 69 18 rfl).1.trans ((hC13.1 69 18 rfl).1.trans c8_0)) rfl ?_
                refine ev_if f_X12_fails (t1 := 7) (t2 := 32) rfl rfl rfl (fun h367 => ?_) (fun h367 => ?_)
                · have u368 : (gi 69 18).toInt ≤ 0 := t_equ h367 (by decide : (0:Int32).toInt ≤ (0:Int))
                  have l369 : 0 ≤ (gi 69 18).toInt := t_eql h367 (by decide : (0:Int) ≤ (0:Int32).toInt)
                  refine ev_loc f_X12_fails (nx := 8) rfl rfl rfl rfl ?_
                  refine ev_loc f_X12_fails (nx := 9) rfl rfl rfl rfl ?_
                  refine ev_gvI f_X12_fails (nx := 12) (w := (gi8 69 12)) rfl (hI.wf.s rfl) rfl rfl ((hC137.1 69 12 rfl).1.trans ((hC13.1 69 12 rfl).1.trans rfl)) rfl ?_
                  refine ev_ic f_X12_fails (nx := 13) (v := 1) rfl (by decide) rfl ?_
                  refine ev_f f_X12_fails (t1 := 16) (t2 := 20) rfl rfl rfl (t_neT' (by decide : (1:Int32).toInt ≤ (1:Int)) l98 (by decide)) ?_
                  refine ev_loc f_X12_fails (nx := 21) rfl rfl rfl rfl ?_
                  refine ev_putIT f_X12_fails (nx := 24) rfl (hI.wf.s rfl) rfl rfl rfl (hI.put0 (hI.wf.s rfl) rfl rfl) (hX.upI rfl) (fun g370 e370 hI hX => ?_)
                  refine ev_loc f_X12_fails (nx := 25) rfl rfl rfl rfl ?_
                  refine ev_loc f_X12_fails (nx := 26) rfl rfl rfl rfl ?_
                  refine ev_getI f_X12_fails (nx := 29) rfl (hI.wf.s rfl) rfl rfl rfl ?_
                  obtain ⟨l371, u371⟩ := hI.b (hI.wf.s (k := 69) rfl) (t_bdK rfl : t_bd 11 13 = some (0, 900))
                  refine ev_putIT f_X12_fails (nx := 32) rfl (hI.wf.s rfl) rfl rfl rfl (hI.put0 (hI.wf.s rfl) rfl rfl) (hX.upI rfl) (fun g372 e372 hI hX => ?_)
                  refine ev_ic f_X12_fails (nx := 33) (v := 0) rfl (by decide) rfl ?_
                  refine ev_retK1 f_X12_fails rfl rfl rfl ?_
                  exact ev_ret f_X12_aOne rfl rfl rfl ⟨_, _, _, rfl, hI, hX, ⟨_, rfl, (by decide : (0:Int) ≤ (0:Int32).toInt), (Int.le_trans (by decide : (0:Int32).toInt ≤ (0:Int)) (by decide : (0:Int) ≤ 1)), (show (gi 69 14).toInt ≤ (g372 69 14).toInt ∧ (0 = 1 → (g372 69 12).toInt ≠ 0 → (gi 69 14).toInt < (g372 69 14).toInt) ∧ (0 = 0 → (g372 69 18).toInt ≠ 0) ∧ (0 = 1 → t_K b g372 2) from ⟨(by have ff373 : (g372 69 14).toInt = (gi8 69 14).toInt := congrArg Int32.toInt ((by rw [e372]; exact x_up2_off (Or.inr (by decide)) : g372 69 14 = g370 69 14).trans ((by rw [e370]; exact x_up2_off (Or.inr (by decide)) : g370 69 14 = gi137 69 14).trans ((hC137.1 69 14 rfl).1.trans ((hC13.1 69 14 rfl).1.trans rfl)))); omega), (by have ff374 : (g372 69 12).toInt = (gi8 69 12).toInt := congrArg Int32.toInt ((by rw [e372]; exact x_up2_off (Or.inr (by decide)) : g372 69 12 = g370 69 12).trans ((by rw [e370]; exact x_up2_off (Or.inr (by decide)) : g370 69 12 = gi137 69 12).trans ((hC137.1 69 12 rfl).1.trans ((hC13.1 69 12 rfl).1.trans rfl)))); have ff375 : (g372 69 14).toInt = (gi8 69 14).toInt := congrArg Int32.toInt ((by rw [e372]; exact x_up2_off (Or.inr (by decide)) : g372 69 14 = g370 69 14).trans ((by rw [e370]; exact x_up2_off (Or.inr (by decide)) : g370 69 14 = gi137 69 14).trans ((hC137.1 69 14 rfl).1.trans ((hC13.1 69 14 rfl).1.trans rfl)))); omega), (by have ff376 : (g372 69 18).toInt = 2 := (congrArg Int32.toInt ((by rw [e372]; exact x_up2_off (Or.inr (by decide)) : g372 69 18 = g370 69 18).trans (by rw [e370]; exact x_up2_at _ _ _ _ : g370 69 18 = 2))).trans (by decide); omega), fun h => absurd h (by decide)⟩)⟩⟩
                · have r377 : (gi 69 18).toInt ≠ 0 := fun e => h367 (Int32.toInt_inj.mp (e.trans (by decide : (0:Int) = (0 : Int32).toInt)))
                  refine ev_ic f_X12_fails (nx := 33) (v := 0) rfl (by decide) rfl ?_
                  refine ev_retK1 f_X12_fails rfl rfl rfl ?_
                  exact ev_ret f_X12_aOne rfl rfl rfl ⟨_, _, _, rfl, hI, hX, ⟨_, rfl, (by decide : (0:Int) ≤ (0:Int32).toInt), (Int.le_trans (by decide : (0:Int32).toInt ≤ (0:Int)) (by decide : (0:Int) ≤ 1)), (show (gi 69 14).toInt ≤ (gi137 69 14).toInt ∧ (0 = 1 → (gi137 69 12).toInt ≠ 0 → (gi 69 14).toInt < (gi137 69 14).toInt) ∧ (0 = 0 → (gi137 69 18).toInt ≠ 0) ∧ (0 = 1 → t_K b gi137 2) from ⟨(by have ff378 : (gi137 69 14).toInt = (gi8 69 14).toInt := congrArg Int32.toInt ((hC137.1 69 14 rfl).1.trans ((hC13.1 69 14 rfl).1.trans rfl)); omega), (by have ff379 : (gi137 69 12).toInt = (gi8 69 12).toInt := congrArg Int32.toInt ((hC137.1 69 12 rfl).1.trans ((hC13.1 69 12 rfl).1.trans rfl)); have ff380 : (gi137 69 14).toInt = (gi8 69 14).toInt := congrArg Int32.toInt ((hC137.1 69 14 rfl).1.trans ((hC13.1 69 14 rfl).1.trans rfl)); omega), (by have ff381 : (gi137 69 18).toInt = (gi 69 18).toInt := congrArg Int32.toInt ((hC137.1 69 18 rfl).1.trans ((hC13.1 69 18 rfl).1.trans c8_0)); omega), fun h => absurd h (by decide)⟩)⟩⟩
              · have l382 : 22 ≤ w137.toInt := t_lel (t_nlt h365) (by decide : (22:Int) ≤ (22:Int32).toInt)
                refine ev_loc f_X12_aOne (nx := 99) rfl rfl rfl rfl ?_
                refine ev_bp f_X12_aOne (nx := 101) (v := 26) rfl (by decide) rfl ?_
                refine ev_if f_X12_aOne (t1 := 110) (t2 := 104) rfl rfl rfl (fun h383 => ?_) (fun h383 => ?_)
                · have u384 : w137.toInt ≤ 26 := t_leu h383 (by decide : (26:Int32).toInt ≤ (26:Int))
                  refine ev_loc f_X12_aOne (nx := 111) rfl rfl rfl rfl ?_
                  refine ev_loc f_X12_aOne (nx := 112) rfl rfl rfl rfl ?_
                  refine ev_qI f_X12_aOne (nx := 115) (r := []) rfl rfl rfl rfl rfl rfl rfl (c_m_aCase hI (w137) (Int.le_trans (by decide : (15:Int) ≤ 22) l382) u384 (b := b) (t_K_ext j8_0 (show (gi137 69 22).toInt = (gi8 69 22).toInt from (by have ff386 : (gi137 69 22).toInt = (gi8 69 22).toInt := congrArg Int32.toInt ((hC137.1 69 22 rfl).1.trans ((hC13.1 69 22 rfl).1.trans rfl)); omega)) (show (gi137 69 23).toInt = (gi8 69 23).toInt from (by have ff387 : (gi137 69 23).toInt = (gi8 69 23).toInt := congrArg Int32.toInt ((hC137.1 69 23 rfl).1.trans ((hC13.1 69 23 rfl).1.trans rfl)); omega)) (show (gi137 69 24).toInt = (gi8 69 24).toInt from (by have ff388 : (gi137 69 24).toInt = (gi 69 24).toInt := congrArg Int32.toInt ((hC137.1 69 24 rfl).1.trans ((hC13.1 69 24 rfl).1.trans c8_1)); omega)) (show (gi137 69 25).toInt = (gi8 69 25).toInt from (by have ff389 : (gi137 69 25).toInt = (gi 69 25).toInt := congrArg Int32.toInt ((hC137.1 69 25 rfl).1.trans ((hC13.1 69 25 rfl).1.trans c8_2)); omega)) ((funext (fun j => (hC137.1 77 j rfl).1) : gi137 77 = gi13 77).trans ((funext (fun j => (hC13.1 77 j rfl).1) : gi13 77 = gi8 77))) ((funext (fun j => (hC137.1 70 j rfl).1) : gi137 70 = gi13 70).trans ((funext (fun j => (hC13.1 70 j rfl).1) : gi13 70 = gi8 70)))) (by omega)) rfl hX rfl (fun w385 gi385 gl385 gr385 l385 u385 hI hX hC385 q385 => ?_)
                  have ff390 : (gi137 69 14).toInt = (gi8 69 14).toInt := congrArg Int32.toInt ((hC137.1 69 14 rfl).1.trans ((hC13.1 69 14 rfl).1.trans rfl))
                  have q385 : (gi137 69 14).toInt ≤ (gi385 69 14).toInt ∧ (w385.toInt = 1 → (gi385 69 12).toInt ≠ 0 → (gi137 69 14).toInt < (gi385 69 14).toInt) ∧ (w385.toInt = 0 → (gi385 69 18).toInt ≠ 0) ∧ (w385.toInt = 1 → t_K (b) gi385 1) := q385
                  obtain ⟨l391, u391⟩ := hI.b (hI.wf.s (k := 69) rfl) (t_bdK rfl : t_bd 11 12 = some (0, 4))
                  obtain ⟨l392, u392⟩ := hI.b (hI.wf.s (k := 69) rfl) (t_bdK rfl : t_bd 11 14 = some (0, 900))
                  obtain ⟨l394, u394⟩ := hI.b (hI.wf.s (k := 69) rfl) (t_bdK rfl : t_bd 11 24 = some (0, 24))
                  obtain ⟨l395, u395⟩ := hI.b (hI.wf.s (k := 69) rfl) (t_bdK rfl : t_bd 11 25 = some (0, 210))
                  refine ev_if f_X12_aOne (t1 := 118) (t2 := 120) rfl rfl rfl (fun h396 => ?_) (fun h396 => ?_)
                  · have u397 : w385.toInt ≤ 0 := t_equ h396 (by decide : (0:Int32).toInt ≤ (0:Int))
                    refine ev_ic f_X12_aOne (nx := 119) (v := 0) rfl (by decide) rfl ?_
                    exact ev_ret f_X12_aOne rfl rfl rfl ⟨_, _, _, rfl, hI, hX, ⟨_, rfl, (by decide : (0:Int) ≤ (0:Int32).toInt), (Int.le_trans (by decide : (0:Int32).toInt ≤ (0:Int)) (by decide : (0:Int) ≤ 1)), (show (gi 69 14).toInt ≤ (gi385 69 14).toInt ∧ (0 = 1 → (gi385 69 12).toInt ≠ 0 → (gi 69 14).toInt < (gi385 69 14).toInt) ∧ (0 = 0 → (gi385 69 18).toInt ≠ 0) ∧ (0 = 1 → t_K b gi385 2) from ⟨(by omega), (by omega), (by omega), fun h => absurd h (by decide)⟩)⟩⟩
                  · have r398 : w385.toInt ≠ 0 := fun e => h396 (Int32.toInt_inj.mp (e.trans (by decide : (0:Int) = (0 : Int32).toInt)))
                    have l399 : 1 ≤ w385.toInt := t_nel h396 l385 rfl rfl
                    refine ev_loc f_X12_aOne (nx := 121) rfl rfl rfl rfl ?_
                    refine ev_qN f_X12_aOne (nx := 124) (r := []) rfl rfl rfl rfl rfl rfl rfl (c_m_turnsRound hI  (b := b) (q385.2.2.2 (by omega))) rfl hX rfl (fun gi400 gl400 gr400 hI hX hC400 q400 => ?_)
                    have q400 : t_K (b) gi400 2 := q400
                    obtain ⟨l401, u401⟩ := hI.b (hI.wf.s (k := 69) rfl) (t_bdK rfl : t_bd 11 22 = some (0, 60))
                    obtain ⟨l402, u402⟩ := hI.b (hI.wf.s (k := 69) rfl) (t_bdK rfl : t_bd 11 23 = some (0, 6))
                    obtain ⟨l403, u403⟩ := hI.b (hI.wf.s (k := 69) rfl) (t_bdK rfl : t_bd 11 25 = some (0, 210))
                    have L404 : ∀ (m404 : Nat) (gi404 : Nat → Nat → Int32) (gl404 : Nat → Nat → Int64) (gr404 : Nat → Nat → Value) (y404_1 : Int32), t_I sh gi404 gr404 → t_X wl_m_aOne sh gi gl gr gi404 gl404 gr404 → 15 ≤ y404_1.toInt → y404_1.toInt ≤ 26 → t_K b gi404 2 → (gi 69 14).toInt ≤ (gi404 69 14).toInt → ((gi404 69 12).toInt ≠ 0 → (gi 69 14).toInt < (gi404 69 14).toInt) → (2 * (900 - (gi404 69 14).toInt) + min (gi404 69 12).toInt 1).toNat = m404 → x_Ev X (d + 6) n_X12_aOne 124 [(1, .int y404_1), (0, .ref 69)] [] (sh, gi404, gl404, gr404) (t_PI wl_m_aOne sh gi gl gr 0 1 (Q_m_aOne gi gl gr b)) := by
                      intro m404
                      induction m404 using Nat.strongRecOn with
                      | _ m404 ih404 =>
                      intro gi404 gl404 gr404 y404_1 hI hX l404_1 u404_1 j404_0 j404_1 j404_2 hm404
                      obtain ⟨l405, u405⟩ := hI.b (hI.wf.s (k := 69) rfl) (t_bdK rfl : t_bd 11 12 = some (0, 4))
                      obtain ⟨l406, u406⟩ := hI.b (hI.wf.s (k := 69) rfl) (t_bdK rfl : t_bd 11 14 = some (0, 900))
                      obtain ⟨l408, u408⟩ := hI.b (hI.wf.s (k := 69) rfl) (t_bdK rfl : t_bd 11 22 = some (0, 60))
                      obtain ⟨l409, u409⟩ := hI.b (hI.wf.s (k := 69) rfl) (t_bdK rfl : t_bd 11 23 = some (0, 6))
                      obtain ⟨l410, u410⟩ := hI.b (hI.wf.s (k := 69) rfl) (t_bdK rfl : t_bd 11 24 = some (0, 24))
                      obtain ⟨l411, u411⟩ := hI.b (hI.wf.s (k := 69) rfl) (t_bdK rfl : t_bd 11 25 = some (0, 210))
                      refine ev_loc f_X12_aOne (nx := 125) rfl rfl rfl rfl ?_
                      refine ev_bp f_X12_aOne (nx := 127) (v := 41) rfl (by decide) rfl ?_
                      refine ev_inV2 f_X12_aOne (nx := 130) (lo2 := [(0, .ref 69), (1, .int 41)]) rfl rfl rfl rfl f_X12_isSign (hI.wf.s rfl) rfl rfl rfl rfl rfl ?_
                      refine ev_loc f_X12_isSign (nx := 1) rfl rfl rfl rfl ?_
                      refine ev_gvI f_X12_isSign (nx := 4) (w := (gi404 69 12)) rfl (hI.wf.s rfl) rfl rfl rfl rfl ?_
                      refine ev_ic f_X12_isSign (nx := 5) (v := 4) rfl (by decide) rfl ?_
                      refine ev_if f_X12_isSign (t1 := 8) (t2 := 20) rfl rfl rfl (fun h412 => ?_) (fun h412 => ?_)
                      · have l413 : 4 ≤ (gi404 69 12).toInt := t_eql h412 (by decide : (4:Int) ≤ (4:Int32).toInt)
                        refine ev_loc f_X12_isSign (nx := 9) rfl rfl rfl rfl ?_
                        refine ev_getI f_X12_isSign (nx := 12) rfl (hI.wf.s rfl) rfl rfl rfl ?_
                        refine ev_loc f_X12_isSign (nx := 13) rfl rfl rfl rfl ?_
                        refine ev_if f_X12_isSign (t1 := 16) (t2 := 20) rfl rfl rfl (fun h414 => ?_) (fun h414 => ?_)
                        · have u415 : (gi404 69 15).toInt ≤ 41 := t_equ h414 (by decide : (41:Int32).toInt ≤ (41:Int))
                          have l416 : 41 ≤ (gi404 69 15).toInt := t_eql h414 (by decide : (41:Int) ≤ (41:Int32).toInt)
                          refine ev_ic f_X12_isSign (nx := 17) (v := 1) rfl (by decide) rfl ?_
                          refine ev_jmp f_X12_isSign (nx := 21) rfl rfl rfl ?_
                          refine ev_retK1 f_X12_isSign rfl rfl rfl ?_
                          refine ev_f f_X12_aOne (t1 := 187) (t2 := 133) rfl rfl rfl (by decide) ?_
                          refine ev_loc f_X12_aOne (nx := 134) rfl rfl rfl rfl ?_
                          refine ev_qI f_X12_aOne (nx := 137) (r := []) rfl rfl rfl rfl rfl rfl rfl (c_m_isWithin hI ) rfl hX rfl (fun w417 gi417 gl417 gr417 l417 u417 hI hX hC417 q417 => ?_)
                          have q417 : (w417.toInt = 1 → t_ex gi417) ∧ (w417.toInt = 0 → t_n40 gi417) := q417
                          refine ev_if f_X12_aOne (t1 := 187) (t2 := 140) rfl rfl rfl (fun h418 => ?_) (fun h418 => ?_)
                          · have u419 : w417.toInt ≤ 0 := t_equ h418 (by decide : (0:Int32).toInt ≤ (0:Int))
                            refine ev_ic f_X12_aOne (nx := 188) (v := 1) rfl (by decide) rfl ?_
                            exact ev_ret f_X12_aOne rfl rfl rfl ⟨_, _, _, rfl, hI, hX, ⟨_, rfl, (Int.le_trans (by decide : (0:Int) ≤ 1) (by decide : (1:Int) ≤ (1:Int32).toInt)), (by decide : (1:Int32).toInt ≤ (1:Int)), (show (gi 69 14).toInt ≤ (gi417 69 14).toInt ∧ (1 = 1 → (gi417 69 12).toInt ≠ 0 → (gi 69 14).toInt < (gi417 69 14).toInt) ∧ (1 = 0 → (gi417 69 18).toInt ≠ 0) ∧ (1 = 1 → t_K b gi417 2) from ⟨(by have ff424 : (gi417 69 14).toInt = (gi404 69 14).toInt := congrArg Int32.toInt ((hC417.1 69 14 rfl).1.trans rfl); omega), (by have ff425 : (gi417 69 12).toInt = (gi404 69 12).toInt := congrArg Int32.toInt ((hC417.1 69 12 rfl).1.trans rfl); have ff426 : (gi417 69 14).toInt = (gi404 69 14).toInt := congrArg Int32.toInt ((hC417.1 69 14 rfl).1.trans rfl); omega), (by have ff427 : (gi417 69 18).toInt = (gi404 69 18).toInt := congrArg Int32.toInt ((hC417.1 69 18 rfl).1.trans rfl); omega), fun _ => (t_K_ext j404_0 (show (gi417 69 22).toInt = (gi404 69 22).toInt from (by have ff420 : (gi417 69 22).toInt = (gi404 69 22).toInt := congrArg Int32.toInt ((hC417.1 69 22 rfl).1.trans rfl); omega)) (show (gi417 69 23).toInt = (gi404 69 23).toInt from (by have ff421 : (gi417 69 23).toInt = (gi404 69 23).toInt := congrArg Int32.toInt ((hC417.1 69 23 rfl).1.trans rfl); omega)) (show (gi417 69 24).toInt = (gi404 69 24).toInt from (by have ff422 : (gi417 69 24).toInt = (gi404 69 24).toInt := congrArg Int32.toInt ((hC417.1 69 24 rfl).1.trans rfl); omega)) (show (gi417 69 25).toInt = (gi404 69 25).toInt from (by have ff423 : (gi417 69 25).toInt = (gi404 69 25).toInt := congrArg Int32.toInt ((hC417.1 69 25 rfl).1.trans rfl); omega)) ((funext (fun j => (hC417.1 77 j rfl).1) : gi417 77 = gi404 77)) ((funext (fun j => (hC417.1 70 j rfl).1) : gi417 70 = gi404 70)))⟩)⟩⟩
                          · have r428 : w417.toInt ≠ 0 := fun e => h418 (Int32.toInt_inj.mp (e.trans (by decide : (0:Int) = (0 : Int32).toInt)))
                            have l429 : 1 ≤ w417.toInt := t_nel h418 l417 rfl rfl
                            have L430 : ∀ (m430 : Nat) (gi430 : Nat → Nat → Int32) (gl430 : Nat → Nat → Int64) (gr430 : Nat → Nat → Value), t_I sh gi430 gr430 → t_X wl_m_aOne sh gi gl gr gi430 gl430 gr430 → gi430 69 12 = (gi404 69 12) → gi430 69 14 = (gi404 69 14) → gi430 69 15 = (gi404 69 15) → gi430 69 18 = (gi404 69 18) → gi430 69 23 = (gi404 69 23) → gi430 69 24 = (gi404 69 24) → t_K b gi430 2 → t_ex gi430 → (gi 69 14).toInt ≤ (gi430 69 14).toInt → ((gi430 69 12).toInt ≠ 0 → (gi 69 14).toInt < (gi430 69 14).toInt) → (gi430 69 22).toInt.toNat = m430 → x_Ev X (d + 6) n_X12_aOne 140 [(1, .int y404_1), (0, .ref 69)] [] (sh, gi430, gl430, gr430) (t_PI wl_m_aOne sh gi gl gr 0 1 (Q_m_aOne gi gl gr b)) := by
                              intro m430
                              induction m430 using Nat.strongRecOn with
                              | _ m430 ih430 =>
                              intro gi430 gl430 gr430 hI hX c430_0 c430_1 c430_2 c430_3 c430_4 c430_5 j430_0 j430_1 j430_2 j430_3 hm430
                              have cf430_0 : (gi430 69 12).toInt = (gi404 69 12).toInt := congrArg Int32.toInt c430_0
                              have cf430_1 : (gi430 69 14).toInt = (gi404 69 14).toInt := congrArg Int32.toInt c430_1
                              have cf430_3 : (gi430 69 18).toInt = (gi404 69 18).toInt := congrArg Int32.toInt c430_3
                              have cf430_4 : (gi430 69 23).toInt = (gi404 69 23).toInt := congrArg Int32.toInt c430_4
                              have cf430_5 : (gi430 69 24).toInt = (gi404 69 24).toInt := congrArg Int32.toInt c430_5
                              obtain ⟨l431, u431⟩ := hI.b (hI.wf.s (k := 69) rfl) (t_bdK rfl : t_bd 11 22 = some (0, 60))
                              obtain ⟨l432, u432⟩ := hI.b (hI.wf.s (k := 69) rfl) (t_bdK rfl : t_bd 11 25 = some (0, 210))
                              have l433 : (1:Int) ≤ (gi430 69 22).toInt := by obtain ⟨j, hj, _⟩ := j430_1; omega
                              refine ev_loc f_X12_aOne (nx := 141) rfl rfl rfl rfl ?_
                              refine ev_bp f_X12_aOne (nx := 143) (v := 40) rfl (by decide) rfl ?_
                              refine ev_inV2 f_X12_aOne (nx := 146) (lo2 := [(0, .ref 69), (1, .int 40)]) rfl rfl rfl rfl f_X12_isDoing (hI.wf.s rfl) rfl rfl rfl rfl rfl ?_
                              refine ev_loc f_X12_isDoing (nx := 1) rfl rfl rfl rfl ?_
                              refine ev_gvI f_X12_isDoing (nx := 4) (w := (gi430 69 22)) rfl (hI.wf.s rfl) rfl rfl rfl rfl ?_
                              refine ev_f f_X12_isDoing (t1 := 26) (t2 := 7) rfl rfl rfl (t_leF (by decide : (0:Int32).toInt ≤ (0:Int)) l433 (by decide)) ?_
                              refine ev_loc f_X12_isDoing (nx := 8) rfl rfl rfl rfl ?_
                              refine ev_getR f_X12_isDoing (nx := 11) rfl (hI.wf.s rfl) rfl rfl (hI.wf.r rfl) rfl rfl ?_
                              refine ev_loc f_X12_isDoing (nx := 12) rfl rfl rfl rfl ?_
                              refine ev_gvI f_X12_isDoing (nx := 15) (w := (gi430 69 22)) rfl (hI.wf.s rfl) rfl rfl rfl rfl ?_
                              refine ev_ic f_X12_isDoing (nx := 16) (v := 1) rfl (by decide) rfl ?_
                              refine ev_subC f_X12_isDoing (nx := 17) (c := 1) (l := 0) (u := 59) rfl (by decide) l433 u431 rfl rfl (by decide) (by decide) rfl (fun z434 e434 l434 u434 => ?_)
                              refine ev_ialdT f_X12_isDoing (nx := 18) rfl (hI.wf.s rfl) l434 (by decide) u434 (by decide) rfl (fun w435 e435 => ?_)
                              refine ev_loc f_X12_isDoing (nx := 19) rfl rfl rfl rfl ?_
                              refine ev_if f_X12_isDoing (t1 := 22) (t2 := 26) rfl rfl rfl (fun h436 => ?_) (fun h436 => ?_)
                              · have u437 : w435.toInt ≤ 40 := t_equ h436 (by decide : (40:Int32).toInt ≤ (40:Int))
                                have l438 : 40 ≤ w435.toInt := t_eql h436 (by decide : (40:Int) ≤ (40:Int32).toInt)
                                refine ev_ic f_X12_isDoing (nx := 23) (v := 1) rfl (by decide) rfl ?_
                                refine ev_jmp f_X12_isDoing (nx := 27) rfl rfl rfl ?_
                                refine ev_retK1 f_X12_isDoing rfl rfl rfl ?_
                                refine ev_f f_X12_aOne (t1 := 149) (t2 := 156) rfl rfl rfl (by decide) ?_
                                refine ev_loc f_X12_aOne (nx := 157) rfl rfl rfl rfl ?_
                                refine ev_alu f_X12_aOne (nx := 158) rfl rfl rfl rfl ?_
                                refine ev_gvI f_X12_aOne (nx := 161) (w := (gi430 69 22)) rfl (hI.wf.s rfl) rfl rfl rfl rfl ?_
                                refine ev_ic f_X12_aOne (nx := 162) (v := 1) rfl (by decide) rfl ?_
                                refine ev_subC f_X12_aOne (nx := 163) (c := 1) (l := 0) (u := 59) rfl (by decide) l433 u431 rfl rfl (by decide) (by decide) rfl (fun z439 e439 l439 u439 => ?_)
                                refine ev_putIT f_X12_aOne (nx := 166) rfl (hI.wf.s rfl) rfl rfl rfl (hI.putB (hI.wf.s rfl) rfl rfl l439 (by decide) u439 (by decide)) (hX.upI rfl) (fun g440 e440 hI hX => ?_)
                                refine ev_loc f_X12_aOne (nx := 167) rfl rfl rfl rfl ?_
                                refine ev_alu f_X12_aOne (nx := 168) rfl rfl rfl rfl ?_
                                refine ev_gvI f_X12_aOne (nx := 171) (w := (gi404 69 23)) rfl (hI.wf.s rfl) rfl rfl ((by rw [e440]; exact x_up2_off (Or.inr (by decide)) : g440 69 23 = gi430 69 23).trans c430_4) rfl ?_
                                refine ev_ic f_X12_aOne (nx := 172) (v := 1) rfl (by decide) rfl ?_
                                refine ev_subC f_X12_aOne (nx := 173) (c := 1) (l := (-1)) (u := 5) rfl (by decide) l409 u409 rfl rfl (by decide) (by decide) rfl (fun z441 e441 l441 u441 => ?_)
                                have l443 : (0:Int) ≤ z441.toInt := (by have hw := t_K_w j430_0 (by omega) (by rw [← (by rw [e435]; have hc := t_clamp (i := z434) (by omega); have hx : z434.toNatClampNeg = (gi430 69 22).toInt.toNat - 1 := (by omega); rw [hx] : w435 = gi430 77 ((gi430 69 22).toInt.toNat - 1))]; omega); omega)
                                refine ev_putIT f_X12_aOne (nx := 176) rfl (hI.wf.s rfl) rfl rfl rfl (hI.putB (hI.wf.s rfl) rfl rfl l443 (by decide) u441 (by decide)) (hX.upI rfl) (fun g442 e442 hI hX => ?_)
                                refine ev_loc f_X12_aOne (nx := 177) rfl rfl rfl rfl ?_
                                refine ev_qN f_X12_aOne (nx := 180) (r := []) rfl rfl rfl rfl rfl rfl rfl (c_m_ahead2 hI ) rfl hX rfl (fun gi444 gl444 gr444 hI hX hC444 q444 => ?_)
                                have ff445 : (g442 69 14).toInt = (gi404 69 14).toInt := congrArg Int32.toInt ((by rw [e442]; exact x_up2_off (Or.inr (by decide)) : g442 69 14 = g440 69 14).trans ((by rw [e440]; exact x_up2_off (Or.inr (by decide)) : g440 69 14 = gi430 69 14).trans c430_1))
                                have q444 : (g442 69 14).toInt ≤ (gi444 69 14).toInt ∧ ((gi444 69 12).toInt ≠ 0 → (g442 69 14).toInt < (gi444 69 14).toInt) ∧ ((gi444 69 12).toInt = 3 → 0 ≤ (gi444 69 15).toInt) := q444
                                obtain ⟨l446, u446⟩ := hI.b (hI.wf.s (k := 69) rfl) (t_bdK rfl : t_bd 11 12 = some (0, 4))
                                obtain ⟨l447, u447⟩ := hI.b (hI.wf.s (k := 69) rfl) (t_bdK rfl : t_bd 11 14 = some (0, 900))
                                refine ev_loc f_X12_aOne (nx := 181) rfl rfl rfl rfl ?_
                                refine ev_qN f_X12_aOne (nx := 184) (r := []) rfl rfl rfl rfl rfl rfl rfl (c_m_turnsRound hI  (b := b) (t_K_par j430_0 (by omega) (by rw [← (by rw [e435]; have hc := t_clamp (i := z434) (by omega); have hx : z434.toNatClampNeg = (gi430 69 22).toInt.toNat - 1 := (by omega); rw [hx] : w435 = gi430 77 ((gi430 69 22).toInt.toNat - 1))]; omega) (show (gi444 69 22).toInt = (gi430 69 22).toInt - 1 from (by have ff449 : (gi444 69 22).toInt = z439.toInt := congrArg Int32.toInt ((hC444.1 69 22 rfl).1.trans ((by rw [e442]; exact x_up2_off (Or.inr (by decide)) : g442 69 22 = g440 69 22).trans (by rw [e440]; exact x_up2_at _ _ _ _ : g440 69 22 = z439))); omega)) (show (gi444 69 23).toInt = (gi430 69 23).toInt - 1 from (by have ff450 : (gi444 69 23).toInt = z441.toInt := congrArg Int32.toInt ((hC444.1 69 23 rfl).1.trans (by rw [e442]; exact x_up2_at _ _ _ _ : g442 69 23 = z441)); omega)) (show (gi444 69 24).toInt = (gi430 69 24).toInt from (by have ff451 : (gi444 69 24).toInt = (gi404 69 24).toInt := congrArg Int32.toInt ((hC444.1 69 24 rfl).1.trans ((by rw [e442]; exact x_up2_off (Or.inr (by decide)) : g442 69 24 = g440 69 24).trans ((by rw [e440]; exact x_up2_off (Or.inr (by decide)) : g440 69 24 = gi430 69 24).trans c430_5))); omega)) (show (gi444 69 25).toInt = (gi430 69 25).toInt from (by have ff452 : (gi444 69 25).toInt = (gi430 69 25).toInt := congrArg Int32.toInt ((hC444.1 69 25 rfl).1.trans ((by rw [e442]; exact x_up2_off (Or.inr (by decide)) : g442 69 25 = g440 69 25).trans ((by rw [e440]; exact x_up2_off (Or.inr (by decide)) : g440 69 25 = gi430 69 25).trans rfl))); omega)) ((funext (fun j => (hC444.1 77 j rfl).1) : gi444 77 = g442 77).trans ((by rw [e442]; exact x_up2_ne (by decide) : g442 77 = g440 77).trans ((by rw [e440]; exact x_up2_ne (by decide) : g440 77 = gi430 77)))) ((funext (fun j => (hC444.1 70 j rfl).1) : gi444 70 = g442 70).trans ((by rw [e442]; exact x_up2_ne (by decide) : g442 70 = g440 70).trans ((by rw [e440]; exact x_up2_ne (by decide) : g440 70 = gi430 70)))))) rfl hX rfl (fun gi448 gl448 gr448 hI hX hC448 q448 => ?_)
                                have q448 : t_K (b) gi448 2 := q448
                                obtain ⟨l453, u453⟩ := hI.b (hI.wf.s (k := 69) rfl) (t_bdK rfl : t_bd 11 22 = some (0, 60))
                                obtain ⟨l454, u454⟩ := hI.b (hI.wf.s (k := 69) rfl) (t_bdK rfl : t_bd 11 23 = some (0, 6))
                                obtain ⟨l455, u455⟩ := hI.b (hI.wf.s (k := 69) rfl) (t_bdK rfl : t_bd 11 25 = some (0, 210))
                                refine ev_jmp f_X12_aOne (nx := 124) rfl rfl rfl ?_
                                refine ev_sub (lo := [(1, .int y404_1), (0, .ref 69)]) rfl (t_sc rfl (t_sc rfl t_sn)) ?_
                                exact ih404 _ (by have ff459 : (gi448 69 14).toInt = (gi444 69 14).toInt := congrArg Int32.toInt ((hC448.1 69 14 rfl).1.trans rfl); have ff460 : (gi448 69 12).toInt = (gi444 69 12).toInt := congrArg Int32.toInt ((hC448.1 69 12 rfl).1.trans rfl); omega) gi448 gl448 gr448 (y404_1) hI hX  l404_1 u404_1 q448 (by have ff456 : (gi448 69 14).toInt = (gi444 69 14).toInt := congrArg Int32.toInt ((hC448.1 69 14 rfl).1.trans rfl); omega) (by have ff457 : (gi448 69 12).toInt = (gi444 69 12).toInt := congrArg Int32.toInt ((hC448.1 69 12 rfl).1.trans rfl); have ff458 : (gi448 69 14).toInt = (gi444 69 14).toInt := congrArg Int32.toInt ((hC448.1 69 14 rfl).1.trans rfl); omega) rfl
                              · have r461 : w435.toInt ≠ 40 := fun e => h436 (Int32.toInt_inj.mp (e.trans (by decide : (40:Int) = (40 : Int32).toInt)))
                                refine ev_ic f_X12_isDoing (nx := 27) (v := 0) rfl (by decide) rfl ?_
                                refine ev_retK1 f_X12_isDoing rfl rfl rfl ?_
                                refine ev_t f_X12_aOne (t1 := 149) (t2 := 156) rfl rfl rfl (by decide) ?_
                                refine ev_loc f_X12_aOne (nx := 150) rfl rfl rfl rfl ?_
                                refine ev_inV1 f_X12_aOne (nx := 153) (lo2 := [(0, .ref 69)]) rfl rfl rfl rfl f_X12_joins (hI.wf.s rfl) rfl rfl rfl rfl rfl ?_
                                have kn462 := t_K_num j430_0
                                refine ev_loc f_X12_joins (nx := 1) rfl rfl rfl rfl ?_
                                refine ev_alu f_X12_joins (nx := 2) rfl rfl rfl rfl ?_
                                refine ev_gvI f_X12_joins (nx := 5) (w := (gi430 69 22)) rfl (hI.wf.s rfl) rfl rfl rfl rfl ?_
                                refine ev_ic f_X12_joins (nx := 6) (v := 1) rfl (by decide) rfl ?_
                                refine ev_subC f_X12_joins (nx := 7) (c := 1) (l := 0) (u := 59) rfl (by decide) l433 u431 rfl rfl (by decide) (by decide) rfl (fun z463 e463 l463 u463 => ?_)
                                refine ev_putIT f_X12_joins (nx := 10) rfl (hI.wf.s rfl) rfl rfl rfl (hI.putB (hI.wf.s rfl) rfl rfl l463 (by decide) u463 (by decide)) (hX.upI rfl) (fun g464 e464 hI hX => ?_)
                                refine ev_loc f_X12_joins (nx := 11) rfl rfl rfl rfl ?_
                                refine ev_loc f_X12_joins (nx := 12) rfl rfl rfl rfl ?_
                                refine ev_getR f_X12_joins (nx := 15) rfl (hI.wf.s rfl) rfl rfl (hI.wf.r rfl) rfl rfl ?_
                                refine ev_loc f_X12_joins (nx := 16) rfl rfl rfl rfl ?_
                                refine ev_gvI f_X12_joins (nx := 19) (w := z463) rfl (hI.wf.s rfl) rfl rfl (by rw [e464]; exact x_up2_at _ _ _ _ : g464 69 22 = z463) rfl ?_
                                refine ev_ialdT f_X12_joins (nx := 20) rfl (hI.wf.s rfl) l463 (by decide) u463 (by decide) rfl (fun w465 e465 => ?_)
                                refine ev_inV2 f_X12_joins (nx := 23) (lo2 := [(0, .ref 69), (1, .int w465)]) rfl rfl rfl rfl f_X12_asksAlso (hI.wf.s rfl) rfl rfl rfl rfl rfl ?_
                                have kn466 := t_K_num j430_0
                                refine ev_loc f_X12_asksAlso (nx := 1) rfl rfl rfl rfl ?_
                                refine ev_getR f_X12_asksAlso (nx := 4) rfl (hI.wf.s rfl) rfl rfl (hI.wf.r rfl) rfl rfl ?_
                                refine ev_sp f_X12_asksAlso (nx := 7) (v := 1540) rfl (by decide) rfl ?_
                                refine ev_loc f_X12_asksAlso (nx := 8) rfl rfl rfl rfl ?_
                                refine ev_gvI f_X12_asksAlso (nx := 11) (w := (gi430 69 25)) rfl (hI.wf.s rfl) rfl rfl ((by rw [e464]; exact x_up2_off (Or.inr (by decide)) : g464 69 25 = gi430 69 25).trans rfl) rfl ?_
                                refine ev_addK f_X12_asksAlso (nx := 12) (c := 1540) (l := 1540) (u := 1750) rfl (by decide) l432 u432 rfl rfl (by decide) (by decide) rfl (fun z467 e467 l467 u467 => ?_)
                                refine ev_loc f_X12_asksAlso (nx := 13) rfl rfl rfl rfl ?_
                                refine ev_iastT f_X12_asksAlso (nx := 14) rfl (hI.wf.s rfl) l467 (by decide) u467 (by decide) rfl (hI.astL (hI.wf.s rfl) (by decide +kernel : t_abw 70 1540 1750 (-2147483648) 2147483647 = true) (t_cl1 l467 (by decide)) (t_cl2 l467 u467 (by decide) (by decide)) (t_lo w465) (t_hi w465) rfl) (hX.upI (t_inR (p := 1540) (m := 1750) rfl l467 (by decide) u467 (by decide) (by decide))) (fun g468 e468 hI hX => ?_)
                                refine ev_loc f_X12_asksAlso (nx := 15) rfl rfl rfl rfl ?_
                                refine ev_alu f_X12_asksAlso (nx := 16) rfl rfl rfl rfl ?_
                                refine ev_gvI f_X12_asksAlso (nx := 19) (w := (gi430 69 25)) rfl (hI.wf.s rfl) rfl rfl ((by rw [e468]; exact x_up2_off (Or.inl (by decide)) : g468 69 25 = g464 69 25).trans ((by rw [e464]; exact x_up2_off (Or.inr (by decide)) : g464 69 25 = gi430 69 25).trans rfl)) rfl ?_
                                refine ev_ic f_X12_asksAlso (nx := 20) (v := 1) rfl (by decide) rfl ?_
                                refine ev_addC f_X12_asksAlso (nx := 21) (c := 1) (l := 1) (u := 211) rfl (by decide) l432 u432 rfl rfl (by decide) (by decide) rfl (fun z469 e469 l469 u469 => ?_)
                                have u471 : z469.toInt ≤ (210:Int) := (by omega)
                                refine ev_putIT f_X12_asksAlso (nx := 24) rfl (hI.wf.s rfl) rfl rfl rfl (hI.putB (hI.wf.s rfl) rfl rfl l469 (by decide) u471 (by decide)) (hX.upI rfl) (fun g470 e470 hI hX => ?_)
                                refine ev_retK0 f_X12_asksAlso rfl rfl rfl ?_
                                refine ev_retK0 f_X12_joins rfl rfl rfl ?_
                                refine ev_jmp f_X12_aOne (nx := 140) rfl rfl rfl ?_
                                refine ev_sub (lo := [(1, .int y404_1), (0, .ref 69)]) rfl (t_sc rfl (t_sc rfl t_sn)) ?_
                                exact ih430 _ (by have ff480 : (g470 69 22).toInt = z463.toInt := congrArg Int32.toInt ((by rw [e470]; exact x_up2_off (Or.inr (by decide)) : g470 69 22 = g468 69 22).trans ((by rw [e468]; exact x_up2_off (Or.inl (by decide)) : g468 69 22 = g464 69 22).trans (by rw [e464]; exact x_up2_at _ _ _ _ : g464 69 22 = z463))); omega) g470 gl430 gr430  hI hX  ((by rw [e470]; exact x_up2_off (Or.inr (by decide)) : g470 69 12 = g468 69 12).trans ((by rw [e468]; exact x_up2_off (Or.inl (by decide)) : g468 69 12 = g464 69 12).trans ((by rw [e464]; exact x_up2_off (Or.inr (by decide)) : g464 69 12 = gi430 69 12).trans c430_0))) ((by rw [e470]; exact x_up2_off (Or.inr (by decide)) : g470 69 14 = g468 69 14).trans ((by rw [e468]; exact x_up2_off (Or.inl (by decide)) : g468 69 14 = g464 69 14).trans ((by rw [e464]; exact x_up2_off (Or.inr (by decide)) : g464 69 14 = gi430 69 14).trans c430_1))) ((by rw [e470]; exact x_up2_off (Or.inr (by decide)) : g470 69 15 = g468 69 15).trans ((by rw [e468]; exact x_up2_off (Or.inl (by decide)) : g468 69 15 = g464 69 15).trans ((by rw [e464]; exact x_up2_off (Or.inr (by decide)) : g464 69 15 = gi430 69 15).trans c430_2))) ((by rw [e470]; exact x_up2_off (Or.inr (by decide)) : g470 69 18 = g468 69 18).trans ((by rw [e468]; exact x_up2_off (Or.inl (by decide)) : g468 69 18 = g464 69 18).trans ((by rw [e464]; exact x_up2_off (Or.inr (by decide)) : g464 69 18 = gi430 69 18).trans c430_3))) ((by rw [e470]; exact x_up2_off (Or.inr (by decide)) : g470 69 23 = g468 69 23).trans ((by rw [e468]; exact x_up2_off (Or.inl (by decide)) : g468 69 23 = g464 69 23).trans ((by rw [e464]; exact x_up2_off (Or.inr (by decide)) : g464 69 23 = gi430 69 23).trans c430_4))) ((by rw [e470]; exact x_up2_off (Or.inr (by decide)) : g470 69 24 = g468 69 24).trans ((by rw [e468]; exact x_up2_off (Or.inl (by decide)) : g468 69 24 = g464 69 24).trans ((by rw [e464]; exact x_up2_off (Or.inr (by decide)) : g464 69 24 = gi430 69 24).trans c430_5))) (by have ht := (by rw [e465]; have hc := t_clamp (i := z463) (by omega); have hx : z463.toNatClampNeg = (gi430 69 22).toInt.toNat - 1 := (by omega); rw [hx]; exact congrFun (((by rw [e464]; exact x_up2_ne (by decide) : g464 77 = gi430 77))) _ : w465 = gi430 77 ((gi430 69 22).toInt.toNat - 1)); have ho := (t_one (p := 1540 + (gi430 69 25).toInt.toNat) ((by rw [e464]; exact x_up2_ne (by decide) : g464 70 = gi430 70)) e468 ((by rw [e470]; exact x_up2_ne (by decide) : g470 70 = g468 70)) (by have hc := t_clamp (i := z467) (by omega); omega)); exact t_K_bin j430_0 (by omega) (t_K_top j430_0 (by omega) (by rw [← (by rw [e435]; have hc := t_clamp (i := z434) (by omega); have hx : z434.toNatClampNeg = (gi430 69 22).toInt.toNat - 1 := (by omega); rw [hx] : w435 = gi430 77 ((gi430 69 22).toInt.toNat - 1))]; omega)) (show (g470 69 22).toInt = (gi430 69 22).toInt - 1 from (by have ff472 : (g470 69 22).toInt = z463.toInt := congrArg Int32.toInt ((by rw [e470]; exact x_up2_off (Or.inr (by decide)) : g470 69 22 = g468 69 22).trans ((by rw [e468]; exact x_up2_off (Or.inl (by decide)) : g468 69 22 = g464 69 22).trans (by rw [e464]; exact x_up2_at _ _ _ _ : g464 69 22 = z463))); omega)) (show (g470 69 23).toInt = (gi430 69 23).toInt from (by have ff473 : (g470 69 23).toInt = (gi404 69 23).toInt := congrArg Int32.toInt ((by rw [e470]; exact x_up2_off (Or.inr (by decide)) : g470 69 23 = g468 69 23).trans ((by rw [e468]; exact x_up2_off (Or.inl (by decide)) : g468 69 23 = g464 69 23).trans ((by rw [e464]; exact x_up2_off (Or.inr (by decide)) : g464 69 23 = gi430 69 23).trans c430_4))); omega)) (show (g470 69 24).toInt = (gi430 69 24).toInt from (by have ff474 : (g470 69 24).toInt = (gi404 69 24).toInt := congrArg Int32.toInt ((by rw [e470]; exact x_up2_off (Or.inr (by decide)) : g470 69 24 = g468 69 24).trans ((by rw [e468]; exact x_up2_off (Or.inl (by decide)) : g468 69 24 = g464 69 24).trans ((by rw [e464]; exact x_up2_off (Or.inr (by decide)) : g464 69 24 = gi430 69 24).trans c430_5))); omega)) (show (g470 69 25).toInt = (gi430 69 25).toInt + 1 from (by have ff475 : (g470 69 25).toInt = z469.toInt := congrArg Int32.toInt (by rw [e470]; exact x_up2_at _ _ _ _ : g470 69 25 = z469); omega)) ((by rw [e470]; exact x_up2_ne (by decide) : g470 77 = g468 77).trans ((by rw [e468]; exact x_up2_ne (by decide) : g468 77 = g464 77).trans ((by rw [e464]; exact x_up2_ne (by decide) : g464 77 = gi430 77)))) ho.1 (ho.2.trans ht)) (by obtain ⟨j, hj, hv⟩ := j430_1; have ht := (by rw [e435]; have hc := t_clamp (i := z434) (by omega); have hx : z434.toNatClampNeg = (gi430 69 22).toInt.toNat - 1 := (by omega); rw [hx] : w435 = gi430 77 ((gi430 69 22).toInt.toNat - 1)); have ff476 : (g470 69 22).toInt = z463.toInt := congrArg Int32.toInt ((by rw [e470]; exact x_up2_off (Or.inr (by decide)) : g470 69 22 = g468 69 22).trans ((by rw [e468]; exact x_up2_off (Or.inl (by decide)) : g468 69 22 = g464 69 22).trans (by rw [e464]; exact x_up2_at _ _ _ _ : g464 69 22 = z463))); refine ⟨j, ?_, (congrArg Int32.toInt (congrFun ((by rw [e470]; exact x_up2_ne (by decide) : g470 77 = g468 77).trans ((by rw [e468]; exact x_up2_ne (by decide) : g468 77 = g464 77).trans ((by rw [e464]; exact x_up2_ne (by decide) : g464 77 = gi430 77)))) j)).trans hv⟩; have hne : j ≠ (gi430 69 22).toInt.toNat - 1 := (fun e => by rw [e, ← ht] at hv; omega); omega) (by have ff477 : (g470 69 14).toInt = (gi404 69 14).toInt := congrArg Int32.toInt ((by rw [e470]; exact x_up2_off (Or.inr (by decide)) : g470 69 14 = g468 69 14).trans ((by rw [e468]; exact x_up2_off (Or.inl (by decide)) : g468 69 14 = g464 69 14).trans ((by rw [e464]; exact x_up2_off (Or.inr (by decide)) : g464 69 14 = gi430 69 14).trans c430_1))); omega) (by have ff478 : (g470 69 12).toInt = (gi404 69 12).toInt := congrArg Int32.toInt ((by rw [e470]; exact x_up2_off (Or.inr (by decide)) : g470 69 12 = g468 69 12).trans ((by rw [e468]; exact x_up2_off (Or.inl (by decide)) : g468 69 12 = g464 69 12).trans ((by rw [e464]; exact x_up2_off (Or.inr (by decide)) : g464 69 12 = gi430 69 12).trans c430_0))); have ff479 : (g470 69 14).toInt = (gi404 69 14).toInt := congrArg Int32.toInt ((by rw [e470]; exact x_up2_off (Or.inr (by decide)) : g470 69 14 = g468 69 14).trans ((by rw [e468]; exact x_up2_off (Or.inl (by decide)) : g468 69 14 = g464 69 14).trans ((by rw [e464]; exact x_up2_off (Or.inr (by decide)) : g464 69 14 = gi430 69 14).trans c430_1))); omega) rfl
                            refine ev_sub (lo := [(1, .int y404_1), (0, .ref 69)]) rfl (t_sc rfl (t_sc rfl t_sn)) ?_
                            exact L430 _ gi417 gl417 gr417  hI hX  ((hC417.1 69 12 rfl).1.trans rfl) ((hC417.1 69 14 rfl).1.trans rfl) ((hC417.1 69 15 rfl).1.trans rfl) ((hC417.1 69 18 rfl).1.trans rfl) ((hC417.1 69 23 rfl).1.trans rfl) ((hC417.1 69 24 rfl).1.trans rfl) (t_K_ext j404_0 (show (gi417 69 22).toInt = (gi404 69 22).toInt from (by have ff481 : (gi417 69 22).toInt = (gi404 69 22).toInt := congrArg Int32.toInt ((hC417.1 69 22 rfl).1.trans rfl); omega)) (show (gi417 69 23).toInt = (gi404 69 23).toInt from (by have ff482 : (gi417 69 23).toInt = (gi404 69 23).toInt := congrArg Int32.toInt ((hC417.1 69 23 rfl).1.trans rfl); omega)) (show (gi417 69 24).toInt = (gi404 69 24).toInt from (by have ff483 : (gi417 69 24).toInt = (gi404 69 24).toInt := congrArg Int32.toInt ((hC417.1 69 24 rfl).1.trans rfl); omega)) (show (gi417 69 25).toInt = (gi404 69 25).toInt from (by have ff484 : (gi417 69 25).toInt = (gi404 69 25).toInt := congrArg Int32.toInt ((hC417.1 69 25 rfl).1.trans rfl); omega)) ((funext (fun j => (hC417.1 77 j rfl).1) : gi417 77 = gi404 77)) ((funext (fun j => (hC417.1 70 j rfl).1) : gi417 70 = gi404 70))) (q417.1 (by omega)) (by have ff485 : (gi417 69 14).toInt = (gi404 69 14).toInt := congrArg Int32.toInt ((hC417.1 69 14 rfl).1.trans rfl); omega) (by have ff486 : (gi417 69 12).toInt = (gi404 69 12).toInt := congrArg Int32.toInt ((hC417.1 69 12 rfl).1.trans rfl); have ff487 : (gi417 69 14).toInt = (gi404 69 14).toInt := congrArg Int32.toInt ((hC417.1 69 14 rfl).1.trans rfl); omega) rfl
                        · have r488 : (gi404 69 15).toInt ≠ 41 := fun e => h414 (Int32.toInt_inj.mp (e.trans (by decide : (41:Int) = (41 : Int32).toInt)))
                          refine ev_ic f_X12_isSign (nx := 21) (v := 0) rfl (by decide) rfl ?_
                          refine ev_retK1 f_X12_isSign rfl rfl rfl ?_
                          refine ev_t f_X12_aOne (t1 := 187) (t2 := 133) rfl rfl rfl (by decide) ?_
                          refine ev_ic f_X12_aOne (nx := 188) (v := 1) rfl (by decide) rfl ?_
                          exact ev_ret f_X12_aOne rfl rfl rfl ⟨_, _, _, rfl, hI, hX, ⟨_, rfl, (Int.le_trans (by decide : (0:Int) ≤ 1) (by decide : (1:Int) ≤ (1:Int32).toInt)), (by decide : (1:Int32).toInt ≤ (1:Int)), (show (gi 69 14).toInt ≤ (gi404 69 14).toInt ∧ (1 = 1 → (gi404 69 12).toInt ≠ 0 → (gi 69 14).toInt < (gi404 69 14).toInt) ∧ (1 = 0 → (gi404 69 18).toInt ≠ 0) ∧ (1 = 1 → t_K b gi404 2) from ⟨(by omega), (by omega), (by omega), fun _ => j404_0⟩)⟩⟩
                      · have r489 : (gi404 69 12).toInt ≠ 4 := fun e => h412 (Int32.toInt_inj.mp (e.trans (by decide : (4:Int) = (4 : Int32).toInt)))
                        have u490 : (gi404 69 12).toInt ≤ 3 := t_neu h412 u405 rfl rfl
                        refine ev_ic f_X12_isSign (nx := 21) (v := 0) rfl (by decide) rfl ?_
                        refine ev_retK1 f_X12_isSign rfl rfl rfl ?_
                        refine ev_t f_X12_aOne (t1 := 187) (t2 := 133) rfl rfl rfl (by decide) ?_
                        refine ev_ic f_X12_aOne (nx := 188) (v := 1) rfl (by decide) rfl ?_
                        exact ev_ret f_X12_aOne rfl rfl rfl ⟨_, _, _, rfl, hI, hX, ⟨_, rfl, (Int.le_trans (by decide : (0:Int) ≤ 1) (by decide : (1:Int) ≤ (1:Int32).toInt)), (by decide : (1:Int32).toInt ≤ (1:Int)), (show (gi 69 14).toInt ≤ (gi404 69 14).toInt ∧ (1 = 1 → (gi404 69 12).toInt ≠ 0 → (gi 69 14).toInt < (gi404 69 14).toInt) ∧ (1 = 0 → (gi404 69 18).toInt ≠ 0) ∧ (1 = 1 → t_K b gi404 2) from ⟨(by omega), (by omega), (by omega), fun _ => j404_0⟩)⟩⟩
                    refine ev_sub (lo := [(1, .int w137), (0, .ref 69)]) rfl (t_sc rfl (t_sc rfl t_sn)) ?_
                    exact L404 _ gi400 gl400 gr400 (w137) hI hX  (Int.le_trans (by decide : (15:Int) ≤ 22) l382) u384 q400 (by have ff491 : (gi400 69 14).toInt = (gi385 69 14).toInt := congrArg Int32.toInt ((hC400.1 69 14 rfl).1.trans rfl); omega) (by have ff492 : (gi400 69 12).toInt = (gi385 69 12).toInt := congrArg Int32.toInt ((hC400.1 69 12 rfl).1.trans rfl); have ff493 : (gi400 69 14).toInt = (gi385 69 14).toInt := congrArg Int32.toInt ((hC400.1 69 14 rfl).1.trans rfl); omega) rfl
                · have l494 : 27 ≤ w137.toInt := t_ltl (t_nle h383) (by decide : (26:Int) ≤ (26:Int32).toInt) rfl
                  refine ev_loc f_X12_aOne (nx := 105) rfl rfl rfl rfl ?_
                  refine ev_ic f_X12_aOne (nx := 106) (v := 2) rfl (by decide) rfl ?_
                  refine ev_inV2 f_X12_aOne (nx := 109) (lo2 := [(0, .ref 69), (1, .int 2)]) rfl rfl rfl rfl f_X12_fails (hI.wf.s rfl) rfl rfl rfl rfl rfl ?_
                  refine ev_loc f_X12_fails (nx := 1) rfl rfl rfl rfl ?_
                  refine ev_gvI f_X12_fails (nx := 4) (w := (gi 69 18)) rfl (hI.wf.s rfl) rfl rfl ((hC137.1 69 18 rfl).1.trans ((hC13.1 69 18 rfl).1.trans c8_0)) rfl ?_
                  refine ev_if f_X12_fails (t1 := 7) (t2 := 32) rfl rfl rfl (fun h495 => ?_) (fun h495 => ?_)
                  · have u496 : (gi 69 18).toInt ≤ 0 := t_equ h495 (by decide : (0:Int32).toInt ≤ (0:Int))
                    have l497 : 0 ≤ (gi 69 18).toInt := t_eql h495 (by decide : (0:Int) ≤ (0:Int32).toInt)
                    refine ev_loc f_X12_fails (nx := 8) rfl rfl rfl rfl ?_
                    refine ev_loc f_X12_fails (nx := 9) rfl rfl rfl rfl ?_
                    refine ev_gvI f_X12_fails (nx := 12) (w := (gi8 69 12)) rfl (hI.wf.s rfl) rfl rfl ((hC137.1 69 12 rfl).1.trans ((hC13.1 69 12 rfl).1.trans rfl)) rfl ?_
                    refine ev_ic f_X12_fails (nx := 13) (v := 1) rfl (by decide) rfl ?_
                    refine ev_f f_X12_fails (t1 := 16) (t2 := 20) rfl rfl rfl (t_neT' (by decide : (1:Int32).toInt ≤ (1:Int)) l98 (by decide)) ?_
                    refine ev_loc f_X12_fails (nx := 21) rfl rfl rfl rfl ?_
                    refine ev_putIT f_X12_fails (nx := 24) rfl (hI.wf.s rfl) rfl rfl rfl (hI.put0 (hI.wf.s rfl) rfl rfl) (hX.upI rfl) (fun g498 e498 hI hX => ?_)
                    refine ev_loc f_X12_fails (nx := 25) rfl rfl rfl rfl ?_
                    refine ev_loc f_X12_fails (nx := 26) rfl rfl rfl rfl ?_
                    refine ev_getI f_X12_fails (nx := 29) rfl (hI.wf.s rfl) rfl rfl rfl ?_
                    obtain ⟨l499, u499⟩ := hI.b (hI.wf.s (k := 69) rfl) (t_bdK rfl : t_bd 11 13 = some (0, 900))
                    refine ev_putIT f_X12_fails (nx := 32) rfl (hI.wf.s rfl) rfl rfl rfl (hI.put0 (hI.wf.s rfl) rfl rfl) (hX.upI rfl) (fun g500 e500 hI hX => ?_)
                    refine ev_ic f_X12_fails (nx := 33) (v := 0) rfl (by decide) rfl ?_
                    refine ev_retK1 f_X12_fails rfl rfl rfl ?_
                    exact ev_ret f_X12_aOne rfl rfl rfl ⟨_, _, _, rfl, hI, hX, ⟨_, rfl, (by decide : (0:Int) ≤ (0:Int32).toInt), (Int.le_trans (by decide : (0:Int32).toInt ≤ (0:Int)) (by decide : (0:Int) ≤ 1)), (show (gi 69 14).toInt ≤ (g500 69 14).toInt ∧ (0 = 1 → (g500 69 12).toInt ≠ 0 → (gi 69 14).toInt < (g500 69 14).toInt) ∧ (0 = 0 → (g500 69 18).toInt ≠ 0) ∧ (0 = 1 → t_K b g500 2) from ⟨(by have ff501 : (g500 69 14).toInt = (gi8 69 14).toInt := congrArg Int32.toInt ((by rw [e500]; exact x_up2_off (Or.inr (by decide)) : g500 69 14 = g498 69 14).trans ((by rw [e498]; exact x_up2_off (Or.inr (by decide)) : g498 69 14 = gi137 69 14).trans ((hC137.1 69 14 rfl).1.trans ((hC13.1 69 14 rfl).1.trans rfl)))); omega), (by have ff502 : (g500 69 12).toInt = (gi8 69 12).toInt := congrArg Int32.toInt ((by rw [e500]; exact x_up2_off (Or.inr (by decide)) : g500 69 12 = g498 69 12).trans ((by rw [e498]; exact x_up2_off (Or.inr (by decide)) : g498 69 12 = gi137 69 12).trans ((hC137.1 69 12 rfl).1.trans ((hC13.1 69 12 rfl).1.trans rfl)))); have ff503 : (g500 69 14).toInt = (gi8 69 14).toInt := congrArg Int32.toInt ((by rw [e500]; exact x_up2_off (Or.inr (by decide)) : g500 69 14 = g498 69 14).trans ((by rw [e498]; exact x_up2_off (Or.inr (by decide)) : g498 69 14 = gi137 69 14).trans ((hC137.1 69 14 rfl).1.trans ((hC13.1 69 14 rfl).1.trans rfl)))); omega), (by have ff504 : (g500 69 18).toInt = 2 := (congrArg Int32.toInt ((by rw [e500]; exact x_up2_off (Or.inr (by decide)) : g500 69 18 = g498 69 18).trans (by rw [e498]; exact x_up2_at _ _ _ _ : g498 69 18 = 2))).trans (by decide); omega), fun h => absurd h (by decide)⟩)⟩⟩
                  · have r505 : (gi 69 18).toInt ≠ 0 := fun e => h495 (Int32.toInt_inj.mp (e.trans (by decide : (0:Int) = (0 : Int32).toInt)))
                    refine ev_ic f_X12_fails (nx := 33) (v := 0) rfl (by decide) rfl ?_
                    refine ev_retK1 f_X12_fails rfl rfl rfl ?_
                    exact ev_ret f_X12_aOne rfl rfl rfl ⟨_, _, _, rfl, hI, hX, ⟨_, rfl, (by decide : (0:Int) ≤ (0:Int32).toInt), (Int.le_trans (by decide : (0:Int32).toInt ≤ (0:Int)) (by decide : (0:Int) ≤ 1)), (show (gi 69 14).toInt ≤ (gi137 69 14).toInt ∧ (0 = 1 → (gi137 69 12).toInt ≠ 0 → (gi 69 14).toInt < (gi137 69 14).toInt) ∧ (0 = 0 → (gi137 69 18).toInt ≠ 0) ∧ (0 = 1 → t_K b gi137 2) from ⟨(by have ff506 : (gi137 69 14).toInt = (gi8 69 14).toInt := congrArg Int32.toInt ((hC137.1 69 14 rfl).1.trans ((hC13.1 69 14 rfl).1.trans rfl)); omega), (by have ff507 : (gi137 69 12).toInt = (gi8 69 12).toInt := congrArg Int32.toInt ((hC137.1 69 12 rfl).1.trans ((hC13.1 69 12 rfl).1.trans rfl)); have ff508 : (gi137 69 14).toInt = (gi8 69 14).toInt := congrArg Int32.toInt ((hC137.1 69 14 rfl).1.trans ((hC13.1 69 14 rfl).1.trans rfl)); omega), (by have ff509 : (gi137 69 18).toInt = (gi 69 18).toInt := congrArg Int32.toInt ((hC137.1 69 18 rfl).1.trans ((hC13.1 69 18 rfl).1.trans c8_0)); omega), fun h => absurd h (by decide)⟩)⟩⟩
      · have r510 : (gi8 69 12).toInt ≠ 4 := fun e => h97 (Int32.toInt_inj.mp (e.trans (by decide : (4:Int) = (4 : Int32).toInt)))
        have u511 : (gi8 69 12).toInt ≤ 3 := t_neu h97 u9 rfl rfl
        refine ev_ic f_X12_isSign (nx := 21) (v := 0) rfl (by decide) rfl ?_
        refine ev_retK1 f_X12_isSign rfl rfl rfl ?_
        refine ev_t f_X12_aOne (t1 := 73) (t2 := 20) rfl rfl rfl (by decide) ?_
        refine ev_loc f_X12_aOne (nx := 74) rfl rfl rfl rfl ?_
        refine ev_heap f_X12_aOne (nx := 76) rfl rfl rfl rfl ?_
        refine ev_qI f_X12_aOne (nx := 79) (r := []) rfl rfl rfl rfl rfl rfl rfl (c_m_inWords hI ) rfl hX rfl (fun w512 gi512 gl512 gr512 l512 u512 hI hX hC512 q512 => ?_)
        have ff513 : (gi13 69 12).toInt = (gi8 69 12).toInt := congrArg Int32.toInt ((hC13.1 69 12 rfl).1.trans rfl)
        have q512 : 0 ≤ w512.toInt → (gi13 69 12).toInt = 2 := q512
        refine ev_loc f_X12_aOne (nx := 80) (lo' := [(1, .int w512), (0, .ref 69)]) rfl rfl rfl rfl ?_
        refine ev_loc f_X12_aOne (nx := 81) rfl rfl rfl rfl ?_
        refine ev_bp f_X12_aOne (nx := 83) (v := 15) rfl (by decide) rfl ?_
        refine ev_if f_X12_aOne (t1 := 110) (t2 := 86) rfl rfl rfl (fun h514 => ?_) (fun h514 => ?_)
        · have u515 : w512.toInt ≤ 15 := t_equ h514 (by decide : (15:Int32).toInt ≤ (15:Int))
          have l516 : 15 ≤ w512.toInt := t_eql h514 (by decide : (15:Int) ≤ (15:Int32).toInt)
          refine ev_loc f_X12_aOne (nx := 111) rfl rfl rfl rfl ?_
          refine ev_loc f_X12_aOne (nx := 112) rfl rfl rfl rfl ?_
          refine ev_qI f_X12_aOne (nx := 115) (r := []) rfl rfl rfl rfl rfl rfl rfl (c_m_aCase hI (w512) l516 (Int.le_trans u515 (by decide : (15:Int) ≤ 26)) (b := b) (t_K_ext j8_0 (show (gi512 69 22).toInt = (gi8 69 22).toInt from (by have ff518 : (gi512 69 22).toInt = (gi8 69 22).toInt := congrArg Int32.toInt ((hC512.1 69 22 rfl).1.trans ((hC13.1 69 22 rfl).1.trans rfl)); omega)) (show (gi512 69 23).toInt = (gi8 69 23).toInt from (by have ff519 : (gi512 69 23).toInt = (gi8 69 23).toInt := congrArg Int32.toInt ((hC512.1 69 23 rfl).1.trans ((hC13.1 69 23 rfl).1.trans rfl)); omega)) (show (gi512 69 24).toInt = (gi8 69 24).toInt from (by have ff520 : (gi512 69 24).toInt = (gi 69 24).toInt := congrArg Int32.toInt ((hC512.1 69 24 rfl).1.trans ((hC13.1 69 24 rfl).1.trans c8_1)); omega)) (show (gi512 69 25).toInt = (gi8 69 25).toInt from (by have ff521 : (gi512 69 25).toInt = (gi 69 25).toInt := congrArg Int32.toInt ((hC512.1 69 25 rfl).1.trans ((hC13.1 69 25 rfl).1.trans c8_2)); omega)) ((funext (fun j => (hC512.1 77 j rfl).1) : gi512 77 = gi13 77).trans ((funext (fun j => (hC13.1 77 j rfl).1) : gi13 77 = gi8 77))) ((funext (fun j => (hC512.1 70 j rfl).1) : gi512 70 = gi13 70).trans ((funext (fun j => (hC13.1 70 j rfl).1) : gi13 70 = gi8 70)))) (by omega)) rfl hX rfl (fun w517 gi517 gl517 gr517 l517 u517 hI hX hC517 q517 => ?_)
          have ff522 : (gi512 69 14).toInt = (gi8 69 14).toInt := congrArg Int32.toInt ((hC512.1 69 14 rfl).1.trans ((hC13.1 69 14 rfl).1.trans rfl))
          have q517 : (gi512 69 14).toInt ≤ (gi517 69 14).toInt ∧ (w517.toInt = 1 → (gi517 69 12).toInt ≠ 0 → (gi512 69 14).toInt < (gi517 69 14).toInt) ∧ (w517.toInt = 0 → (gi517 69 18).toInt ≠ 0) ∧ (w517.toInt = 1 → t_K (b) gi517 1) := q517
          obtain ⟨l523, u523⟩ := hI.b (hI.wf.s (k := 69) rfl) (t_bdK rfl : t_bd 11 12 = some (0, 4))
          obtain ⟨l524, u524⟩ := hI.b (hI.wf.s (k := 69) rfl) (t_bdK rfl : t_bd 11 14 = some (0, 900))
          obtain ⟨l526, u526⟩ := hI.b (hI.wf.s (k := 69) rfl) (t_bdK rfl : t_bd 11 24 = some (0, 24))
          obtain ⟨l527, u527⟩ := hI.b (hI.wf.s (k := 69) rfl) (t_bdK rfl : t_bd 11 25 = some (0, 210))
          refine ev_if f_X12_aOne (t1 := 118) (t2 := 120) rfl rfl rfl (fun h528 => ?_) (fun h528 => ?_)
          · have u529 : w517.toInt ≤ 0 := t_equ h528 (by decide : (0:Int32).toInt ≤ (0:Int))
            refine ev_ic f_X12_aOne (nx := 119) (v := 0) rfl (by decide) rfl ?_
            exact ev_ret f_X12_aOne rfl rfl rfl ⟨_, _, _, rfl, hI, hX, ⟨_, rfl, (by decide : (0:Int) ≤ (0:Int32).toInt), (Int.le_trans (by decide : (0:Int32).toInt ≤ (0:Int)) (by decide : (0:Int) ≤ 1)), (show (gi 69 14).toInt ≤ (gi517 69 14).toInt ∧ (0 = 1 → (gi517 69 12).toInt ≠ 0 → (gi 69 14).toInt < (gi517 69 14).toInt) ∧ (0 = 0 → (gi517 69 18).toInt ≠ 0) ∧ (0 = 1 → t_K b gi517 2) from ⟨(by omega), (by omega), (by omega), fun h => absurd h (by decide)⟩)⟩⟩
          · have r530 : w517.toInt ≠ 0 := fun e => h528 (Int32.toInt_inj.mp (e.trans (by decide : (0:Int) = (0 : Int32).toInt)))
            have l531 : 1 ≤ w517.toInt := t_nel h528 l517 rfl rfl
            refine ev_loc f_X12_aOne (nx := 121) rfl rfl rfl rfl ?_
            refine ev_qN f_X12_aOne (nx := 124) (r := []) rfl rfl rfl rfl rfl rfl rfl (c_m_turnsRound hI  (b := b) (q517.2.2.2 (by omega))) rfl hX rfl (fun gi532 gl532 gr532 hI hX hC532 q532 => ?_)
            have q532 : t_K (b) gi532 2 := q532
            obtain ⟨l533, u533⟩ := hI.b (hI.wf.s (k := 69) rfl) (t_bdK rfl : t_bd 11 22 = some (0, 60))
            obtain ⟨l534, u534⟩ := hI.b (hI.wf.s (k := 69) rfl) (t_bdK rfl : t_bd 11 23 = some (0, 6))
            obtain ⟨l535, u535⟩ := hI.b (hI.wf.s (k := 69) rfl) (t_bdK rfl : t_bd 11 25 = some (0, 210))
            have L536 : ∀ (m536 : Nat) (gi536 : Nat → Nat → Int32) (gl536 : Nat → Nat → Int64) (gr536 : Nat → Nat → Value) (y536_1 : Int32), t_I sh gi536 gr536 → t_X wl_m_aOne sh gi gl gr gi536 gl536 gr536 → 15 ≤ y536_1.toInt → y536_1.toInt ≤ 26 → t_K b gi536 2 → (gi 69 14).toInt ≤ (gi536 69 14).toInt → ((gi536 69 12).toInt ≠ 0 → (gi 69 14).toInt < (gi536 69 14).toInt) → (2 * (900 - (gi536 69 14).toInt) + min (gi536 69 12).toInt 1).toNat = m536 → x_Ev X (d + 6) n_X12_aOne 124 [(1, .int y536_1), (0, .ref 69)] [] (sh, gi536, gl536, gr536) (t_PI wl_m_aOne sh gi gl gr 0 1 (Q_m_aOne gi gl gr b)) := by
              intro m536
              induction m536 using Nat.strongRecOn with
              | _ m536 ih536 =>
              intro gi536 gl536 gr536 y536_1 hI hX l536_1 u536_1 j536_0 j536_1 j536_2 hm536
              obtain ⟨l537, u537⟩ := hI.b (hI.wf.s (k := 69) rfl) (t_bdK rfl : t_bd 11 12 = some (0, 4))
              obtain ⟨l538, u538⟩ := hI.b (hI.wf.s (k := 69) rfl) (t_bdK rfl : t_bd 11 14 = some (0, 900))
              obtain ⟨l540, u540⟩ := hI.b (hI.wf.s (k := 69) rfl) (t_bdK rfl : t_bd 11 22 = some (0, 60))
              obtain ⟨l541, u541⟩ := hI.b (hI.wf.s (k := 69) rfl) (t_bdK rfl : t_bd 11 23 = some (0, 6))
              obtain ⟨l542, u542⟩ := hI.b (hI.wf.s (k := 69) rfl) (t_bdK rfl : t_bd 11 24 = some (0, 24))
              obtain ⟨l543, u543⟩ := hI.b (hI.wf.s (k := 69) rfl) (t_bdK rfl : t_bd 11 25 = some (0, 210))
              refine ev_loc f_X12_aOne (nx := 125) rfl rfl rfl rfl ?_
              refine ev_bp f_X12_aOne (nx := 127) (v := 41) rfl (by decide) rfl ?_
              refine ev_inV2 f_X12_aOne (nx := 130) (lo2 := [(0, .ref 69), (1, .int 41)]) rfl rfl rfl rfl f_X12_isSign (hI.wf.s rfl) rfl rfl rfl rfl rfl ?_
              refine ev_loc f_X12_isSign (nx := 1) rfl rfl rfl rfl ?_
              refine ev_gvI f_X12_isSign (nx := 4) (w := (gi536 69 12)) rfl (hI.wf.s rfl) rfl rfl rfl rfl ?_
              refine ev_ic f_X12_isSign (nx := 5) (v := 4) rfl (by decide) rfl ?_
              refine ev_if f_X12_isSign (t1 := 8) (t2 := 20) rfl rfl rfl (fun h544 => ?_) (fun h544 => ?_)
              · have l545 : 4 ≤ (gi536 69 12).toInt := t_eql h544 (by decide : (4:Int) ≤ (4:Int32).toInt)
                refine ev_loc f_X12_isSign (nx := 9) rfl rfl rfl rfl ?_
                refine ev_getI f_X12_isSign (nx := 12) rfl (hI.wf.s rfl) rfl rfl rfl ?_
                refine ev_loc f_X12_isSign (nx := 13) rfl rfl rfl rfl ?_
                refine ev_if f_X12_isSign (t1 := 16) (t2 := 20) rfl rfl rfl (fun h546 => ?_) (fun h546 => ?_)
                · have u547 : (gi536 69 15).toInt ≤ 41 := t_equ h546 (by decide : (41:Int32).toInt ≤ (41:Int))
                  have l548 : 41 ≤ (gi536 69 15).toInt := t_eql h546 (by decide : (41:Int) ≤ (41:Int32).toInt)
                  refine ev_ic f_X12_isSign (nx := 17) (v := 1) rfl (by decide) rfl ?_
                  refine ev_jmp f_X12_isSign (nx := 21) rfl rfl rfl ?_
                  refine ev_retK1 f_X12_isSign rfl rfl rfl ?_
                  refine ev_f f_X12_aOne (t1 := 187) (t2 := 133) rfl rfl rfl (by decide) ?_
                  refine ev_loc f_X12_aOne (nx := 134) rfl rfl rfl rfl ?_
                  refine ev_qI f_X12_aOne (nx := 137) (r := []) rfl rfl rfl rfl rfl rfl rfl (c_m_isWithin hI ) rfl hX rfl (fun w549 gi549 gl549 gr549 l549 u549 hI hX hC549 q549 => ?_)
                  have q549 : (w549.toInt = 1 → t_ex gi549) ∧ (w549.toInt = 0 → t_n40 gi549) := q549
                  refine ev_if f_X12_aOne (t1 := 187) (t2 := 140) rfl rfl rfl (fun h550 => ?_) (fun h550 => ?_)
                  · have u551 : w549.toInt ≤ 0 := t_equ h550 (by decide : (0:Int32).toInt ≤ (0:Int))
                    refine ev_ic f_X12_aOne (nx := 188) (v := 1) rfl (by decide) rfl ?_
                    exact ev_ret f_X12_aOne rfl rfl rfl ⟨_, _, _, rfl, hI, hX, ⟨_, rfl, (Int.le_trans (by decide : (0:Int) ≤ 1) (by decide : (1:Int) ≤ (1:Int32).toInt)), (by decide : (1:Int32).toInt ≤ (1:Int)), (show (gi 69 14).toInt ≤ (gi549 69 14).toInt ∧ (1 = 1 → (gi549 69 12).toInt ≠ 0 → (gi 69 14).toInt < (gi549 69 14).toInt) ∧ (1 = 0 → (gi549 69 18).toInt ≠ 0) ∧ (1 = 1 → t_K b gi549 2) from ⟨(by have ff556 : (gi549 69 14).toInt = (gi536 69 14).toInt := congrArg Int32.toInt ((hC549.1 69 14 rfl).1.trans rfl); omega), (by have ff557 : (gi549 69 12).toInt = (gi536 69 12).toInt := congrArg Int32.toInt ((hC549.1 69 12 rfl).1.trans rfl); have ff558 : (gi549 69 14).toInt = (gi536 69 14).toInt := congrArg Int32.toInt ((hC549.1 69 14 rfl).1.trans rfl); omega), (by have ff559 : (gi549 69 18).toInt = (gi536 69 18).toInt := congrArg Int32.toInt ((hC549.1 69 18 rfl).1.trans rfl); omega), fun _ => (t_K_ext j536_0 (show (gi549 69 22).toInt = (gi536 69 22).toInt from (by have ff552 : (gi549 69 22).toInt = (gi536 69 22).toInt := congrArg Int32.toInt ((hC549.1 69 22 rfl).1.trans rfl); omega)) (show (gi549 69 23).toInt = (gi536 69 23).toInt from (by have ff553 : (gi549 69 23).toInt = (gi536 69 23).toInt := congrArg Int32.toInt ((hC549.1 69 23 rfl).1.trans rfl); omega)) (show (gi549 69 24).toInt = (gi536 69 24).toInt from (by have ff554 : (gi549 69 24).toInt = (gi536 69 24).toInt := congrArg Int32.toInt ((hC549.1 69 24 rfl).1.trans rfl); omega)) (show (gi549 69 25).toInt = (gi536 69 25).toInt from (by have ff555 : (gi549 69 25).toInt = (gi536 69 25).toInt := congrArg Int32.toInt ((hC549.1 69 25 rfl).1.trans rfl); omega)) ((funext (fun j => (hC549.1 77 j rfl).1) : gi549 77 = gi536 77)) ((funext (fun j => (hC549.1 70 j rfl).1) : gi549 70 = gi536 70)))⟩)⟩⟩
                  · have r560 : w549.toInt ≠ 0 := fun e => h550 (Int32.toInt_inj.mp (e.trans (by decide : (0:Int) = (0 : Int32).toInt)))
                    have l561 : 1 ≤ w549.toInt := t_nel h550 l549 rfl rfl
                    have L562 : ∀ (m562 : Nat) (gi562 : Nat → Nat → Int32) (gl562 : Nat → Nat → Int64) (gr562 : Nat → Nat → Value), t_I sh gi562 gr562 → t_X wl_m_aOne sh gi gl gr gi562 gl562 gr562 → gi562 69 12 = (gi536 69 12) → gi562 69 14 = (gi536 69 14) → gi562 69 15 = (gi536 69 15) → gi562 69 18 = (gi536 69 18) → gi562 69 23 = (gi536 69 23) → gi562 69 24 = (gi536 69 24) → t_K b gi562 2 → t_ex gi562 → (gi 69 14).toInt ≤ (gi562 69 14).toInt → ((gi562 69 12).toInt ≠ 0 → (gi 69 14).toInt < (gi562 69 14).toInt) → (gi562 69 22).toInt.toNat = m562 → x_Ev X (d + 6) n_X12_aOne 140 [(1, .int y536_1), (0, .ref 69)] [] (sh, gi562, gl562, gr562) (t_PI wl_m_aOne sh gi gl gr 0 1 (Q_m_aOne gi gl gr b)) := by
                      intro m562
                      induction m562 using Nat.strongRecOn with
                      | _ m562 ih562 =>
                      intro gi562 gl562 gr562 hI hX c562_0 c562_1 c562_2 c562_3 c562_4 c562_5 j562_0 j562_1 j562_2 j562_3 hm562
                      have cf562_0 : (gi562 69 12).toInt = (gi536 69 12).toInt := congrArg Int32.toInt c562_0
                      have cf562_1 : (gi562 69 14).toInt = (gi536 69 14).toInt := congrArg Int32.toInt c562_1
                      have cf562_3 : (gi562 69 18).toInt = (gi536 69 18).toInt := congrArg Int32.toInt c562_3
                      have cf562_4 : (gi562 69 23).toInt = (gi536 69 23).toInt := congrArg Int32.toInt c562_4
                      have cf562_5 : (gi562 69 24).toInt = (gi536 69 24).toInt := congrArg Int32.toInt c562_5
                      obtain ⟨l563, u563⟩ := hI.b (hI.wf.s (k := 69) rfl) (t_bdK rfl : t_bd 11 22 = some (0, 60))
                      obtain ⟨l564, u564⟩ := hI.b (hI.wf.s (k := 69) rfl) (t_bdK rfl : t_bd 11 25 = some (0, 210))
                      have l565 : (1:Int) ≤ (gi562 69 22).toInt := by obtain ⟨j, hj, _⟩ := j562_1; omega
                      refine ev_loc f_X12_aOne (nx := 141) rfl rfl rfl rfl ?_
                      refine ev_bp f_X12_aOne (nx := 143) (v := 40) rfl (by decide) rfl ?_
                      refine ev_inV2 f_X12_aOne (nx := 146) (lo2 := [(0, .ref 69), (1, .int 40)]) rfl rfl rfl rfl f_X12_isDoing (hI.wf.s rfl) rfl rfl rfl rfl rfl ?_
                      refine ev_loc f_X12_isDoing (nx := 1) rfl rfl rfl rfl ?_
                      refine ev_gvI f_X12_isDoing (nx := 4) (w := (gi562 69 22)) rfl (hI.wf.s rfl) rfl rfl rfl rfl ?_
                      refine ev_f f_X12_isDoing (t1 := 26) (t2 := 7) rfl rfl rfl (t_leF (by decide : (0:Int32).toInt ≤ (0:Int)) l565 (by decide)) ?_
                      refine ev_loc f_X12_isDoing (nx := 8) rfl rfl rfl rfl ?_
                      refine ev_getR f_X12_isDoing (nx := 11) rfl (hI.wf.s rfl) rfl rfl (hI.wf.r rfl) rfl rfl ?_
                      refine ev_loc f_X12_isDoing (nx := 12) rfl rfl rfl rfl ?_
                      refine ev_gvI f_X12_isDoing (nx := 15) (w := (gi562 69 22)) rfl (hI.wf.s rfl) rfl rfl rfl rfl ?_
                      refine ev_ic f_X12_isDoing (nx := 16) (v := 1) rfl (by decide) rfl ?_
                      refine ev_subC f_X12_isDoing (nx := 17) (c := 1) (l := 0) (u := 59) rfl (by decide) l565 u563 rfl rfl (by decide) (by decide) rfl (fun z566 e566 l566 u566 => ?_)
                      refine ev_ialdT f_X12_isDoing (nx := 18) rfl (hI.wf.s rfl) l566 (by decide) u566 (by decide) rfl (fun w567 e567 => ?_)
                      refine ev_loc f_X12_isDoing (nx := 19) rfl rfl rfl rfl ?_
                      refine ev_if f_X12_isDoing (t1 := 22) (t2 := 26) rfl rfl rfl (fun h568 => ?_) (fun h568 => ?_)
                      · have u569 : w567.toInt ≤ 40 := t_equ h568 (by decide : (40:Int32).toInt ≤ (40:Int))
                        have l570 : 40 ≤ w567.toInt := t_eql h568 (by decide : (40:Int) ≤ (40:Int32).toInt)
                        refine ev_ic f_X12_isDoing (nx := 23) (v := 1) rfl (by decide) rfl ?_
                        refine ev_jmp f_X12_isDoing (nx := 27) rfl rfl rfl ?_
                        refine ev_retK1 f_X12_isDoing rfl rfl rfl ?_
                        refine ev_f f_X12_aOne (t1 := 149) (t2 := 156) rfl rfl rfl (by decide) ?_
                        refine ev_loc f_X12_aOne (nx := 157) rfl rfl rfl rfl ?_
                        refine ev_alu f_X12_aOne (nx := 158) rfl rfl rfl rfl ?_
                        refine ev_gvI f_X12_aOne (nx := 161) (w := (gi562 69 22)) rfl (hI.wf.s rfl) rfl rfl rfl rfl ?_
                        refine ev_ic f_X12_aOne (nx := 162) (v := 1) rfl (by decide) rfl ?_
                        refine ev_subC f_X12_aOne (nx := 163) (c := 1) (l := 0) (u := 59) rfl (by decide) l565 u563 rfl rfl (by decide) (by decide) rfl (fun z571 e571 l571 u571 => ?_)
                        refine ev_putIT f_X12_aOne (nx := 166) rfl (hI.wf.s rfl) rfl rfl rfl (hI.putB (hI.wf.s rfl) rfl rfl l571 (by decide) u571 (by decide)) (hX.upI rfl) (fun g572 e572 hI hX => ?_)
                        refine ev_loc f_X12_aOne (nx := 167) rfl rfl rfl rfl ?_
                        refine ev_alu f_X12_aOne (nx := 168) rfl rfl rfl rfl ?_
                        refine ev_gvI f_X12_aOne (nx := 171) (w := (gi536 69 23)) rfl (hI.wf.s rfl) rfl rfl ((by rw [e572]; exact x_up2_off (Or.inr (by decide)) : g572 69 23 = gi562 69 23).trans c562_4) rfl ?_
                        refine ev_ic f_X12_aOne (nx := 172) (v := 1) rfl (by decide) rfl ?_
                        refine ev_subC f_X12_aOne (nx := 173) (c := 1) (l := (-1)) (u := 5) rfl (by decide) l541 u541 rfl rfl (by decide) (by decide) rfl (fun z573 e573 l573 u573 => ?_)
                        have l575 : (0:Int) ≤ z573.toInt := (by have hw := t_K_w j562_0 (by omega) (by rw [← (by rw [e567]; have hc := t_clamp (i := z566) (by omega); have hx : z566.toNatClampNeg = (gi562 69 22).toInt.toNat - 1 := (by omega); rw [hx] : w567 = gi562 77 ((gi562 69 22).toInt.toNat - 1))]; omega); omega)
                        refine ev_putIT f_X12_aOne (nx := 176) rfl (hI.wf.s rfl) rfl rfl rfl (hI.putB (hI.wf.s rfl) rfl rfl l575 (by decide) u573 (by decide)) (hX.upI rfl) (fun g574 e574 hI hX => ?_)
                        refine ev_loc f_X12_aOne (nx := 177) rfl rfl rfl rfl ?_
                        refine ev_qN f_X12_aOne (nx := 180) (r := []) rfl rfl rfl rfl rfl rfl rfl (c_m_ahead2 hI ) rfl hX rfl (fun gi576 gl576 gr576 hI hX hC576 q576 => ?_)
                        have ff577 : (g574 69 14).toInt = (gi536 69 14).toInt := congrArg Int32.toInt ((by rw [e574]; exact x_up2_off (Or.inr (by decide)) : g574 69 14 = g572 69 14).trans ((by rw [e572]; exact x_up2_off (Or.inr (by decide)) : g572 69 14 = gi562 69 14).trans c562_1))
                        have q576 : (g574 69 14).toInt ≤ (gi576 69 14).toInt ∧ ((gi576 69 12).toInt ≠ 0 → (g574 69 14).toInt < (gi576 69 14).toInt) ∧ ((gi576 69 12).toInt = 3 → 0 ≤ (gi576 69 15).toInt) := q576
                        obtain ⟨l578, u578⟩ := hI.b (hI.wf.s (k := 69) rfl) (t_bdK rfl : t_bd 11 12 = some (0, 4))
                        obtain ⟨l579, u579⟩ := hI.b (hI.wf.s (k := 69) rfl) (t_bdK rfl : t_bd 11 14 = some (0, 900))
                        refine ev_loc f_X12_aOne (nx := 181) rfl rfl rfl rfl ?_
                        refine ev_qN f_X12_aOne (nx := 184) (r := []) rfl rfl rfl rfl rfl rfl rfl (c_m_turnsRound hI  (b := b) (t_K_par j562_0 (by omega) (by rw [← (by rw [e567]; have hc := t_clamp (i := z566) (by omega); have hx : z566.toNatClampNeg = (gi562 69 22).toInt.toNat - 1 := (by omega); rw [hx] : w567 = gi562 77 ((gi562 69 22).toInt.toNat - 1))]; omega) (show (gi576 69 22).toInt = (gi562 69 22).toInt - 1 from (by have ff581 : (gi576 69 22).toInt = z571.toInt := congrArg Int32.toInt ((hC576.1 69 22 rfl).1.trans ((by rw [e574]; exact x_up2_off (Or.inr (by decide)) : g574 69 22 = g572 69 22).trans (by rw [e572]; exact x_up2_at _ _ _ _ : g572 69 22 = z571))); omega)) (show (gi576 69 23).toInt = (gi562 69 23).toInt - 1 from (by have ff582 : (gi576 69 23).toInt = z573.toInt := congrArg Int32.toInt ((hC576.1 69 23 rfl).1.trans (by rw [e574]; exact x_up2_at _ _ _ _ : g574 69 23 = z573)); omega)) (show (gi576 69 24).toInt = (gi562 69 24).toInt from (by have ff583 : (gi576 69 24).toInt = (gi536 69 24).toInt := congrArg Int32.toInt ((hC576.1 69 24 rfl).1.trans ((by rw [e574]; exact x_up2_off (Or.inr (by decide)) : g574 69 24 = g572 69 24).trans ((by rw [e572]; exact x_up2_off (Or.inr (by decide)) : g572 69 24 = gi562 69 24).trans c562_5))); omega)) (show (gi576 69 25).toInt = (gi562 69 25).toInt from (by have ff584 : (gi576 69 25).toInt = (gi562 69 25).toInt := congrArg Int32.toInt ((hC576.1 69 25 rfl).1.trans ((by rw [e574]; exact x_up2_off (Or.inr (by decide)) : g574 69 25 = g572 69 25).trans ((by rw [e572]; exact x_up2_off (Or.inr (by decide)) : g572 69 25 = gi562 69 25).trans rfl))); omega)) ((funext (fun j => (hC576.1 77 j rfl).1) : gi576 77 = g574 77).trans ((by rw [e574]; exact x_up2_ne (by decide) : g574 77 = g572 77).trans ((by rw [e572]; exact x_up2_ne (by decide) : g572 77 = gi562 77)))) ((funext (fun j => (hC576.1 70 j rfl).1) : gi576 70 = g574 70).trans ((by rw [e574]; exact x_up2_ne (by decide) : g574 70 = g572 70).trans ((by rw [e572]; exact x_up2_ne (by decide) : g572 70 = gi562 70)))))) rfl hX rfl (fun gi580 gl580 gr580 hI hX hC580 q580 => ?_)
                        have q580 : t_K (b) gi580 2 := q580
                        obtain ⟨l585, u585⟩ := hI.b (hI.wf.s (k := 69) rfl) (t_bdK rfl : t_bd 11 22 = some (0, 60))
                        obtain ⟨l586, u586⟩ := hI.b (hI.wf.s (k := 69) rfl) (t_bdK rfl : t_bd 11 23 = some (0, 6))
                        obtain ⟨l587, u587⟩ := hI.b (hI.wf.s (k := 69) rfl) (t_bdK rfl : t_bd 11 25 = some (0, 210))
                        refine ev_jmp f_X12_aOne (nx := 124) rfl rfl rfl ?_
                        refine ev_sub (lo := [(1, .int y536_1), (0, .ref 69)]) rfl (t_sc rfl (t_sc rfl t_sn)) ?_
                        exact ih536 _ (by have ff591 : (gi580 69 14).toInt = (gi576 69 14).toInt := congrArg Int32.toInt ((hC580.1 69 14 rfl).1.trans rfl); have ff592 : (gi580 69 12).toInt = (gi576 69 12).toInt := congrArg Int32.toInt ((hC580.1 69 12 rfl).1.trans rfl); omega) gi580 gl580 gr580 (y536_1) hI hX  l536_1 u536_1 q580 (by have ff588 : (gi580 69 14).toInt = (gi576 69 14).toInt := congrArg Int32.toInt ((hC580.1 69 14 rfl).1.trans rfl); omega) (by have ff589 : (gi580 69 12).toInt = (gi576 69 12).toInt := congrArg Int32.toInt ((hC580.1 69 12 rfl).1.trans rfl); have ff590 : (gi580 69 14).toInt = (gi576 69 14).toInt := congrArg Int32.toInt ((hC580.1 69 14 rfl).1.trans rfl); omega) rfl
                      · have r593 : w567.toInt ≠ 40 := fun e => h568 (Int32.toInt_inj.mp (e.trans (by decide : (40:Int) = (40 : Int32).toInt)))
                        refine ev_ic f_X12_isDoing (nx := 27) (v := 0) rfl (by decide) rfl ?_
                        refine ev_retK1 f_X12_isDoing rfl rfl rfl ?_
                        refine ev_t f_X12_aOne (t1 := 149) (t2 := 156) rfl rfl rfl (by decide) ?_
                        refine ev_loc f_X12_aOne (nx := 150) rfl rfl rfl rfl ?_
                        refine ev_inV1 f_X12_aOne (nx := 153) (lo2 := [(0, .ref 69)]) rfl rfl rfl rfl f_X12_joins (hI.wf.s rfl) rfl rfl rfl rfl rfl ?_
                        have kn594 := t_K_num j562_0
                        refine ev_loc f_X12_joins (nx := 1) rfl rfl rfl rfl ?_
                        refine ev_alu f_X12_joins (nx := 2) rfl rfl rfl rfl ?_
                        refine ev_gvI f_X12_joins (nx := 5) (w := (gi562 69 22)) rfl (hI.wf.s rfl) rfl rfl rfl rfl ?_
                        refine ev_ic f_X12_joins (nx := 6) (v := 1) rfl (by decide) rfl ?_
                        refine ev_subC f_X12_joins (nx := 7) (c := 1) (l := 0) (u := 59) rfl (by decide) l565 u563 rfl rfl (by decide) (by decide) rfl (fun z595 e595 l595 u595 => ?_)
                        refine ev_putIT f_X12_joins (nx := 10) rfl (hI.wf.s rfl) rfl rfl rfl (hI.putB (hI.wf.s rfl) rfl rfl l595 (by decide) u595 (by decide)) (hX.upI rfl) (fun g596 e596 hI hX => ?_)
                        refine ev_loc f_X12_joins (nx := 11) rfl rfl rfl rfl ?_
                        refine ev_loc f_X12_joins (nx := 12) rfl rfl rfl rfl ?_
                        refine ev_getR f_X12_joins (nx := 15) rfl (hI.wf.s rfl) rfl rfl (hI.wf.r rfl) rfl rfl ?_
                        refine ev_loc f_X12_joins (nx := 16) rfl rfl rfl rfl ?_
                        refine ev_gvI f_X12_joins (nx := 19) (w := z595) rfl (hI.wf.s rfl) rfl rfl (by rw [e596]; exact x_up2_at _ _ _ _ : g596 69 22 = z595) rfl ?_
                        refine ev_ialdT f_X12_joins (nx := 20) rfl (hI.wf.s rfl) l595 (by decide) u595 (by decide) rfl (fun w597 e597 => ?_)
                        refine ev_inV2 f_X12_joins (nx := 23) (lo2 := [(0, .ref 69), (1, .int w597)]) rfl rfl rfl rfl f_X12_asksAlso (hI.wf.s rfl) rfl rfl rfl rfl rfl ?_
                        have kn598 := t_K_num j562_0
                        refine ev_loc f_X12_asksAlso (nx := 1) rfl rfl rfl rfl ?_
                        refine ev_getR f_X12_asksAlso (nx := 4) rfl (hI.wf.s rfl) rfl rfl (hI.wf.r rfl) rfl rfl ?_
                        refine ev_sp f_X12_asksAlso (nx := 7) (v := 1540) rfl (by decide) rfl ?_
                        refine ev_loc f_X12_asksAlso (nx := 8) rfl rfl rfl rfl ?_
                        refine ev_gvI f_X12_asksAlso (nx := 11) (w := (gi562 69 25)) rfl (hI.wf.s rfl) rfl rfl ((by rw [e596]; exact x_up2_off (Or.inr (by decide)) : g596 69 25 = gi562 69 25).trans rfl) rfl ?_
                        refine ev_addK f_X12_asksAlso (nx := 12) (c := 1540) (l := 1540) (u := 1750) rfl (by decide) l564 u564 rfl rfl (by decide) (by decide) rfl (fun z599 e599 l599 u599 => ?_)
                        refine ev_loc f_X12_asksAlso (nx := 13) rfl rfl rfl rfl ?_
                        refine ev_iastT f_X12_asksAlso (nx := 14) rfl (hI.wf.s rfl) l599 (by decide) u599 (by decide) rfl (hI.astL (hI.wf.s rfl) (by decide +kernel : t_abw 70 1540 1750 (-2147483648) 2147483647 = true) (t_cl1 l599 (by decide)) (t_cl2 l599 u599 (by decide) (by decide)) (t_lo w597) (t_hi w597) rfl) (hX.upI (t_inR (p := 1540) (m := 1750) rfl l599 (by decide) u599 (by decide) (by decide))) (fun g600 e600 hI hX => ?_)
                        refine ev_loc f_X12_asksAlso (nx := 15) rfl rfl rfl rfl ?_
                        refine ev_alu f_X12_asksAlso (nx := 16) rfl rfl rfl rfl ?_
                        refine ev_gvI f_X12_asksAlso (nx := 19) (w := (gi562 69 25)) rfl (hI.wf.s rfl) rfl rfl ((by rw [e600]; exact x_up2_off (Or.inl (by decide)) : g600 69 25 = g596 69 25).trans ((by rw [e596]; exact x_up2_off (Or.inr (by decide)) : g596 69 25 = gi562 69 25).trans rfl)) rfl ?_
                        refine ev_ic f_X12_asksAlso (nx := 20) (v := 1) rfl (by decide) rfl ?_
                        refine ev_addC f_X12_asksAlso (nx := 21) (c := 1) (l := 1) (u := 211) rfl (by decide) l564 u564 rfl rfl (by decide) (by decide) rfl (fun z601 e601 l601 u601 => ?_)
                        have u603 : z601.toInt ≤ (210:Int) := (by omega)
                        refine ev_putIT f_X12_asksAlso (nx := 24) rfl (hI.wf.s rfl) rfl rfl rfl (hI.putB (hI.wf.s rfl) rfl rfl l601 (by decide) u603 (by decide)) (hX.upI rfl) (fun g602 e602 hI hX => ?_)
                        refine ev_retK0 f_X12_asksAlso rfl rfl rfl ?_
                        refine ev_retK0 f_X12_joins rfl rfl rfl ?_
                        refine ev_jmp f_X12_aOne (nx := 140) rfl rfl rfl ?_
                        refine ev_sub (lo := [(1, .int y536_1), (0, .ref 69)]) rfl (t_sc rfl (t_sc rfl t_sn)) ?_
                        exact ih562 _ (by have ff612 : (g602 69 22).toInt = z595.toInt := congrArg Int32.toInt ((by rw [e602]; exact x_up2_off (Or.inr (by decide)) : g602 69 22 = g600 69 22).trans ((by rw [e600]; exact x_up2_off (Or.inl (by decide)) : g600 69 22 = g596 69 22).trans (by rw [e596]; exact x_up2_at _ _ _ _ : g596 69 22 = z595))); omega) g602 gl562 gr562  hI hX  ((by rw [e602]; exact x_up2_off (Or.inr (by decide)) : g602 69 12 = g600 69 12).trans ((by rw [e600]; exact x_up2_off (Or.inl (by decide)) : g600 69 12 = g596 69 12).trans ((by rw [e596]; exact x_up2_off (Or.inr (by decide)) : g596 69 12 = gi562 69 12).trans c562_0))) ((by rw [e602]; exact x_up2_off (Or.inr (by decide)) : g602 69 14 = g600 69 14).trans ((by rw [e600]; exact x_up2_off (Or.inl (by decide)) : g600 69 14 = g596 69 14).trans ((by rw [e596]; exact x_up2_off (Or.inr (by decide)) : g596 69 14 = gi562 69 14).trans c562_1))) ((by rw [e602]; exact x_up2_off (Or.inr (by decide)) : g602 69 15 = g600 69 15).trans ((by rw [e600]; exact x_up2_off (Or.inl (by decide)) : g600 69 15 = g596 69 15).trans ((by rw [e596]; exact x_up2_off (Or.inr (by decide)) : g596 69 15 = gi562 69 15).trans c562_2))) ((by rw [e602]; exact x_up2_off (Or.inr (by decide)) : g602 69 18 = g600 69 18).trans ((by rw [e600]; exact x_up2_off (Or.inl (by decide)) : g600 69 18 = g596 69 18).trans ((by rw [e596]; exact x_up2_off (Or.inr (by decide)) : g596 69 18 = gi562 69 18).trans c562_3))) ((by rw [e602]; exact x_up2_off (Or.inr (by decide)) : g602 69 23 = g600 69 23).trans ((by rw [e600]; exact x_up2_off (Or.inl (by decide)) : g600 69 23 = g596 69 23).trans ((by rw [e596]; exact x_up2_off (Or.inr (by decide)) : g596 69 23 = gi562 69 23).trans c562_4))) ((by rw [e602]; exact x_up2_off (Or.inr (by decide)) : g602 69 24 = g600 69 24).trans ((by rw [e600]; exact x_up2_off (Or.inl (by decide)) : g600 69 24 = g596 69 24).trans ((by rw [e596]; exact x_up2_off (Or.inr (by decide)) : g596 69 24 = gi562 69 24).trans c562_5))) (by have ht := (by rw [e597]; have hc := t_clamp (i := z595) (by omega); have hx : z595.toNatClampNeg = (gi562 69 22).toInt.toNat - 1 := (by omega); rw [hx]; exact congrFun (((by rw [e596]; exact x_up2_ne (by decide) : g596 77 = gi562 77))) _ : w597 = gi562 77 ((gi562 69 22).toInt.toNat - 1)); have ho := (t_one (p := 1540 + (gi562 69 25).toInt.toNat) ((by rw [e596]; exact x_up2_ne (by decide) : g596 70 = gi562 70)) e600 ((by rw [e602]; exact x_up2_ne (by decide) : g602 70 = g600 70)) (by have hc := t_clamp (i := z599) (by omega); omega)); exact t_K_bin j562_0 (by omega) (t_K_top j562_0 (by omega) (by rw [← (by rw [e567]; have hc := t_clamp (i := z566) (by omega); have hx : z566.toNatClampNeg = (gi562 69 22).toInt.toNat - 1 := (by omega); rw [hx] : w567 = gi562 77 ((gi562 69 22).toInt.toNat - 1))]; omega)) (show (g602 69 22).toInt = (gi562 69 22).toInt - 1 from (by have ff604 : (g602 69 22).toInt = z595.toInt := congrArg Int32.toInt ((by rw [e602]; exact x_up2_off (Or.inr (by decide)) : g602 69 22 = g600 69 22).trans ((by rw [e600]; exact x_up2_off (Or.inl (by decide)) : g600 69 22 = g596 69 22).trans (by rw [e596]; exact x_up2_at _ _ _ _ : g596 69 22 = z595))); omega)) (show (g602 69 23).toInt = (gi562 69 23).toInt from (by have ff605 : (g602 69 23).toInt = (gi536 69 23).toInt := congrArg Int32.toInt ((by rw [e602]; exact x_up2_off (Or.inr (by decide)) : g602 69 23 = g600 69 23).trans ((by rw [e600]; exact x_up2_off (Or.inl (by decide)) : g600 69 23 = g596 69 23).trans ((by rw [e596]; exact x_up2_off (Or.inr (by decide)) : g596 69 23 = gi562 69 23).trans c562_4))); omega)) (show (g602 69 24).toInt = (gi562 69 24).toInt from (by have ff606 : (g602 69 24).toInt = (gi536 69 24).toInt := congrArg Int32.toInt ((by rw [e602]; exact x_up2_off (Or.inr (by decide)) : g602 69 24 = g600 69 24).trans ((by rw [e600]; exact x_up2_off (Or.inl (by decide)) : g600 69 24 = g596 69 24).trans ((by rw [e596]; exact x_up2_off (Or.inr (by decide)) : g596 69 24 = gi562 69 24).trans c562_5))); omega)) (show (g602 69 25).toInt = (gi562 69 25).toInt + 1 from (by have ff607 : (g602 69 25).toInt = z601.toInt := congrArg Int32.toInt (by rw [e602]; exact x_up2_at _ _ _ _ : g602 69 25 = z601); omega)) ((by rw [e602]; exact x_up2_ne (by decide) : g602 77 = g600 77).trans ((by rw [e600]; exact x_up2_ne (by decide) : g600 77 = g596 77).trans ((by rw [e596]; exact x_up2_ne (by decide) : g596 77 = gi562 77)))) ho.1 (ho.2.trans ht)) (by obtain ⟨j, hj, hv⟩ := j562_1; have ht := (by rw [e567]; have hc := t_clamp (i := z566) (by omega); have hx : z566.toNatClampNeg = (gi562 69 22).toInt.toNat - 1 := (by omega); rw [hx] : w567 = gi562 77 ((gi562 69 22).toInt.toNat - 1)); have ff608 : (g602 69 22).toInt = z595.toInt := congrArg Int32.toInt ((by rw [e602]; exact x_up2_off (Or.inr (by decide)) : g602 69 22 = g600 69 22).trans ((by rw [e600]; exact x_up2_off (Or.inl (by decide)) : g600 69 22 = g596 69 22).trans (by rw [e596]; exact x_up2_at _ _ _ _ : g596 69 22 = z595))); refine ⟨j, ?_, (congrArg Int32.toInt (congrFun ((by rw [e602]; exact x_up2_ne (by decide) : g602 77 = g600 77).trans ((by rw [e600]; exact x_up2_ne (by decide) : g600 77 = g596 77).trans ((by rw [e596]; exact x_up2_ne (by decide) : g596 77 = gi562 77)))) j)).trans hv⟩; have hne : j ≠ (gi562 69 22).toInt.toNat - 1 := (fun e => by rw [e, ← ht] at hv; omega); omega) (by have ff609 : (g602 69 14).toInt = (gi536 69 14).toInt := congrArg Int32.toInt ((by rw [e602]; exact x_up2_off (Or.inr (by decide)) : g602 69 14 = g600 69 14).trans ((by rw [e600]; exact x_up2_off (Or.inl (by decide)) : g600 69 14 = g596 69 14).trans ((by rw [e596]; exact x_up2_off (Or.inr (by decide)) : g596 69 14 = gi562 69 14).trans c562_1))); omega) (by have ff610 : (g602 69 12).toInt = (gi536 69 12).toInt := congrArg Int32.toInt ((by rw [e602]; exact x_up2_off (Or.inr (by decide)) : g602 69 12 = g600 69 12).trans ((by rw [e600]; exact x_up2_off (Or.inl (by decide)) : g600 69 12 = g596 69 12).trans ((by rw [e596]; exact x_up2_off (Or.inr (by decide)) : g596 69 12 = gi562 69 12).trans c562_0))); have ff611 : (g602 69 14).toInt = (gi536 69 14).toInt := congrArg Int32.toInt ((by rw [e602]; exact x_up2_off (Or.inr (by decide)) : g602 69 14 = g600 69 14).trans ((by rw [e600]; exact x_up2_off (Or.inl (by decide)) : g600 69 14 = g596 69 14).trans ((by rw [e596]; exact x_up2_off (Or.inr (by decide)) : g596 69 14 = gi562 69 14).trans c562_1))); omega) rfl
                    refine ev_sub (lo := [(1, .int y536_1), (0, .ref 69)]) rfl (t_sc rfl (t_sc rfl t_sn)) ?_
                    exact L562 _ gi549 gl549 gr549  hI hX  ((hC549.1 69 12 rfl).1.trans rfl) ((hC549.1 69 14 rfl).1.trans rfl) ((hC549.1 69 15 rfl).1.trans rfl) ((hC549.1 69 18 rfl).1.trans rfl) ((hC549.1 69 23 rfl).1.trans rfl) ((hC549.1 69 24 rfl).1.trans rfl) (t_K_ext j536_0 (show (gi549 69 22).toInt = (gi536 69 22).toInt from (by have ff613 : (gi549 69 22).toInt = (gi536 69 22).toInt := congrArg Int32.toInt ((hC549.1 69 22 rfl).1.trans rfl); omega)) (show (gi549 69 23).toInt = (gi536 69 23).toInt from (by have ff614 : (gi549 69 23).toInt = (gi536 69 23).toInt := congrArg Int32.toInt ((hC549.1 69 23 rfl).1.trans rfl); omega)) (show (gi549 69 24).toInt = (gi536 69 24).toInt from (by have ff615 : (gi549 69 24).toInt = (gi536 69 24).toInt := congrArg Int32.toInt ((hC549.1 69 24 rfl).1.trans rfl); omega)) (show (gi549 69 25).toInt = (gi536 69 25).toInt from (by have ff616 : (gi549 69 25).toInt = (gi536 69 25).toInt := congrArg Int32.toInt ((hC549.1 69 25 rfl).1.trans rfl); omega)) ((funext (fun j => (hC549.1 77 j rfl).1) : gi549 77 = gi536 77)) ((funext (fun j => (hC549.1 70 j rfl).1) : gi549 70 = gi536 70))) (q549.1 (by omega)) (by have ff617 : (gi549 69 14).toInt = (gi536 69 14).toInt := congrArg Int32.toInt ((hC549.1 69 14 rfl).1.trans rfl); omega) (by have ff618 : (gi549 69 12).toInt = (gi536 69 12).toInt := congrArg Int32.toInt ((hC549.1 69 12 rfl).1.trans rfl); have ff619 : (gi549 69 14).toInt = (gi536 69 14).toInt := congrArg Int32.toInt ((hC549.1 69 14 rfl).1.trans rfl); omega) rfl
                · have r620 : (gi536 69 15).toInt ≠ 41 := fun e => h546 (Int32.toInt_inj.mp (e.trans (by decide : (41:Int) = (41 : Int32).toInt)))
                  refine ev_ic f_X12_isSign (nx := 21) (v := 0) rfl (by decide) rfl ?_
                  refine ev_retK1 f_X12_isSign rfl rfl rfl ?_
                  refine ev_t f_X12_aOne (t1 := 187) (t2 := 133) rfl rfl rfl (by decide) ?_
                  refine ev_ic f_X12_aOne (nx := 188) (v := 1) rfl (by decide) rfl ?_
                  exact ev_ret f_X12_aOne rfl rfl rfl ⟨_, _, _, rfl, hI, hX, ⟨_, rfl, (Int.le_trans (by decide : (0:Int) ≤ 1) (by decide : (1:Int) ≤ (1:Int32).toInt)), (by decide : (1:Int32).toInt ≤ (1:Int)), (show (gi 69 14).toInt ≤ (gi536 69 14).toInt ∧ (1 = 1 → (gi536 69 12).toInt ≠ 0 → (gi 69 14).toInt < (gi536 69 14).toInt) ∧ (1 = 0 → (gi536 69 18).toInt ≠ 0) ∧ (1 = 1 → t_K b gi536 2) from ⟨(by omega), (by omega), (by omega), fun _ => j536_0⟩)⟩⟩
              · have r621 : (gi536 69 12).toInt ≠ 4 := fun e => h544 (Int32.toInt_inj.mp (e.trans (by decide : (4:Int) = (4 : Int32).toInt)))
                have u622 : (gi536 69 12).toInt ≤ 3 := t_neu h544 u537 rfl rfl
                refine ev_ic f_X12_isSign (nx := 21) (v := 0) rfl (by decide) rfl ?_
                refine ev_retK1 f_X12_isSign rfl rfl rfl ?_
                refine ev_t f_X12_aOne (t1 := 187) (t2 := 133) rfl rfl rfl (by decide) ?_
                refine ev_ic f_X12_aOne (nx := 188) (v := 1) rfl (by decide) rfl ?_
                exact ev_ret f_X12_aOne rfl rfl rfl ⟨_, _, _, rfl, hI, hX, ⟨_, rfl, (Int.le_trans (by decide : (0:Int) ≤ 1) (by decide : (1:Int) ≤ (1:Int32).toInt)), (by decide : (1:Int32).toInt ≤ (1:Int)), (show (gi 69 14).toInt ≤ (gi536 69 14).toInt ∧ (1 = 1 → (gi536 69 12).toInt ≠ 0 → (gi 69 14).toInt < (gi536 69 14).toInt) ∧ (1 = 0 → (gi536 69 18).toInt ≠ 0) ∧ (1 = 1 → t_K b gi536 2) from ⟨(by omega), (by omega), (by omega), fun _ => j536_0⟩)⟩⟩
            refine ev_sub (lo := [(1, .int w512), (0, .ref 69)]) rfl (t_sc rfl (t_sc rfl t_sn)) ?_
            exact L536 _ gi532 gl532 gr532 (w512) hI hX  l516 (Int.le_trans u515 (by decide : (15:Int) ≤ 26)) q532 (by have ff623 : (gi532 69 14).toInt = (gi517 69 14).toInt := congrArg Int32.toInt ((hC532.1 69 14 rfl).1.trans rfl); omega) (by have ff624 : (gi532 69 12).toInt = (gi517 69 12).toInt := congrArg Int32.toInt ((hC532.1 69 12 rfl).1.trans rfl); have ff625 : (gi532 69 14).toInt = (gi517 69 14).toInt := congrArg Int32.toInt ((hC532.1 69 14 rfl).1.trans rfl); omega) rfl
        · have r626 : w512.toInt ≠ 15 := fun e => h514 (Int32.toInt_inj.mp (e.trans (by decide : (15:Int) = (15 : Int32).toInt)))
          refine ev_loc f_X12_aOne (nx := 87) rfl rfl rfl rfl ?_
          refine ev_bp f_X12_aOne (nx := 89) (v := 16) rfl (by decide) rfl ?_
          refine ev_if f_X12_aOne (t1 := 110) (t2 := 92) rfl rfl rfl (fun h627 => ?_) (fun h627 => ?_)
          · have u628 : w512.toInt ≤ 16 := t_equ h627 (by decide : (16:Int32).toInt ≤ (16:Int))
            have l629 : 16 ≤ w512.toInt := t_eql h627 (by decide : (16:Int) ≤ (16:Int32).toInt)
            refine ev_loc f_X12_aOne (nx := 111) rfl rfl rfl rfl ?_
            refine ev_loc f_X12_aOne (nx := 112) rfl rfl rfl rfl ?_
            refine ev_qI f_X12_aOne (nx := 115) (r := []) rfl rfl rfl rfl rfl rfl rfl (c_m_aCase hI (w512) (Int.le_trans (by decide : (15:Int) ≤ 16) l629) (Int.le_trans u628 (by decide : (16:Int) ≤ 26)) (b := b) (t_K_ext j8_0 (show (gi512 69 22).toInt = (gi8 69 22).toInt from (by have ff631 : (gi512 69 22).toInt = (gi8 69 22).toInt := congrArg Int32.toInt ((hC512.1 69 22 rfl).1.trans ((hC13.1 69 22 rfl).1.trans rfl)); omega)) (show (gi512 69 23).toInt = (gi8 69 23).toInt from (by have ff632 : (gi512 69 23).toInt = (gi8 69 23).toInt := congrArg Int32.toInt ((hC512.1 69 23 rfl).1.trans ((hC13.1 69 23 rfl).1.trans rfl)); omega)) (show (gi512 69 24).toInt = (gi8 69 24).toInt from (by have ff633 : (gi512 69 24).toInt = (gi 69 24).toInt := congrArg Int32.toInt ((hC512.1 69 24 rfl).1.trans ((hC13.1 69 24 rfl).1.trans c8_1)); omega)) (show (gi512 69 25).toInt = (gi8 69 25).toInt from (by have ff634 : (gi512 69 25).toInt = (gi 69 25).toInt := congrArg Int32.toInt ((hC512.1 69 25 rfl).1.trans ((hC13.1 69 25 rfl).1.trans c8_2)); omega)) ((funext (fun j => (hC512.1 77 j rfl).1) : gi512 77 = gi13 77).trans ((funext (fun j => (hC13.1 77 j rfl).1) : gi13 77 = gi8 77))) ((funext (fun j => (hC512.1 70 j rfl).1) : gi512 70 = gi13 70).trans ((funext (fun j => (hC13.1 70 j rfl).1) : gi13 70 = gi8 70)))) (by omega)) rfl hX rfl (fun w630 gi630 gl630 gr630 l630 u630 hI hX hC630 q630 => ?_)
            have ff635 : (gi512 69 14).toInt = (gi8 69 14).toInt := congrArg Int32.toInt ((hC512.1 69 14 rfl).1.trans ((hC13.1 69 14 rfl).1.trans rfl))
            have q630 : (gi512 69 14).toInt ≤ (gi630 69 14).toInt ∧ (w630.toInt = 1 → (gi630 69 12).toInt ≠ 0 → (gi512 69 14).toInt < (gi630 69 14).toInt) ∧ (w630.toInt = 0 → (gi630 69 18).toInt ≠ 0) ∧ (w630.toInt = 1 → t_K (b) gi630 1) := q630
            obtain ⟨l636, u636⟩ := hI.b (hI.wf.s (k := 69) rfl) (t_bdK rfl : t_bd 11 12 = some (0, 4))
            obtain ⟨l637, u637⟩ := hI.b (hI.wf.s (k := 69) rfl) (t_bdK rfl : t_bd 11 14 = some (0, 900))
            obtain ⟨l639, u639⟩ := hI.b (hI.wf.s (k := 69) rfl) (t_bdK rfl : t_bd 11 24 = some (0, 24))
            obtain ⟨l640, u640⟩ := hI.b (hI.wf.s (k := 69) rfl) (t_bdK rfl : t_bd 11 25 = some (0, 210))
            refine ev_if f_X12_aOne (t1 := 118) (t2 := 120) rfl rfl rfl (fun h641 => ?_) (fun h641 => ?_)
            · have u642 : w630.toInt ≤ 0 := t_equ h641 (by decide : (0:Int32).toInt ≤ (0:Int))
              refine ev_ic f_X12_aOne (nx := 119) (v := 0) rfl (by decide) rfl ?_
              exact ev_ret f_X12_aOne rfl rfl rfl ⟨_, _, _, rfl, hI, hX, ⟨_, rfl, (by decide : (0:Int) ≤ (0:Int32).toInt), (Int.le_trans (by decide : (0:Int32).toInt ≤ (0:Int)) (by decide : (0:Int) ≤ 1)), (show (gi 69 14).toInt ≤ (gi630 69 14).toInt ∧ (0 = 1 → (gi630 69 12).toInt ≠ 0 → (gi 69 14).toInt < (gi630 69 14).toInt) ∧ (0 = 0 → (gi630 69 18).toInt ≠ 0) ∧ (0 = 1 → t_K b gi630 2) from ⟨(by omega), (by omega), (by omega), fun h => absurd h (by decide)⟩)⟩⟩
            · have r643 : w630.toInt ≠ 0 := fun e => h641 (Int32.toInt_inj.mp (e.trans (by decide : (0:Int) = (0 : Int32).toInt)))
              have l644 : 1 ≤ w630.toInt := t_nel h641 l630 rfl rfl
              refine ev_loc f_X12_aOne (nx := 121) rfl rfl rfl rfl ?_
              refine ev_qN f_X12_aOne (nx := 124) (r := []) rfl rfl rfl rfl rfl rfl rfl (c_m_turnsRound hI  (b := b) (q630.2.2.2 (by omega))) rfl hX rfl (fun gi645 gl645 gr645 hI hX hC645 q645 => ?_)
              have q645 : t_K (b) gi645 2 := q645
              obtain ⟨l646, u646⟩ := hI.b (hI.wf.s (k := 69) rfl) (t_bdK rfl : t_bd 11 22 = some (0, 60))
              obtain ⟨l647, u647⟩ := hI.b (hI.wf.s (k := 69) rfl) (t_bdK rfl : t_bd 11 23 = some (0, 6))
              obtain ⟨l648, u648⟩ := hI.b (hI.wf.s (k := 69) rfl) (t_bdK rfl : t_bd 11 25 = some (0, 210))
              have L649 : ∀ (m649 : Nat) (gi649 : Nat → Nat → Int32) (gl649 : Nat → Nat → Int64) (gr649 : Nat → Nat → Value) (y649_1 : Int32), t_I sh gi649 gr649 → t_X wl_m_aOne sh gi gl gr gi649 gl649 gr649 → 15 ≤ y649_1.toInt → y649_1.toInt ≤ 26 → t_K b gi649 2 → (gi 69 14).toInt ≤ (gi649 69 14).toInt → ((gi649 69 12).toInt ≠ 0 → (gi 69 14).toInt < (gi649 69 14).toInt) → (2 * (900 - (gi649 69 14).toInt) + min (gi649 69 12).toInt 1).toNat = m649 → x_Ev X (d + 6) n_X12_aOne 124 [(1, .int y649_1), (0, .ref 69)] [] (sh, gi649, gl649, gr649) (t_PI wl_m_aOne sh gi gl gr 0 1 (Q_m_aOne gi gl gr b)) := by
                intro m649
                induction m649 using Nat.strongRecOn with
                | _ m649 ih649 =>
                intro gi649 gl649 gr649 y649_1 hI hX l649_1 u649_1 j649_0 j649_1 j649_2 hm649
                obtain ⟨l650, u650⟩ := hI.b (hI.wf.s (k := 69) rfl) (t_bdK rfl : t_bd 11 12 = some (0, 4))
                obtain ⟨l651, u651⟩ := hI.b (hI.wf.s (k := 69) rfl) (t_bdK rfl : t_bd 11 14 = some (0, 900))
                obtain ⟨l653, u653⟩ := hI.b (hI.wf.s (k := 69) rfl) (t_bdK rfl : t_bd 11 22 = some (0, 60))
                obtain ⟨l654, u654⟩ := hI.b (hI.wf.s (k := 69) rfl) (t_bdK rfl : t_bd 11 23 = some (0, 6))
                obtain ⟨l655, u655⟩ := hI.b (hI.wf.s (k := 69) rfl) (t_bdK rfl : t_bd 11 24 = some (0, 24))
                obtain ⟨l656, u656⟩ := hI.b (hI.wf.s (k := 69) rfl) (t_bdK rfl : t_bd 11 25 = some (0, 210))
                refine ev_loc f_X12_aOne (nx := 125) rfl rfl rfl rfl ?_
                refine ev_bp f_X12_aOne (nx := 127) (v := 41) rfl (by decide) rfl ?_
                refine ev_inV2 f_X12_aOne (nx := 130) (lo2 := [(0, .ref 69), (1, .int 41)]) rfl rfl rfl rfl f_X12_isSign (hI.wf.s rfl) rfl rfl rfl rfl rfl ?_
                refine ev_loc f_X12_isSign (nx := 1) rfl rfl rfl rfl ?_
                refine ev_gvI f_X12_isSign (nx := 4) (w := (gi649 69 12)) rfl (hI.wf.s rfl) rfl rfl rfl rfl ?_
                refine ev_ic f_X12_isSign (nx := 5) (v := 4) rfl (by decide) rfl ?_
                refine ev_if f_X12_isSign (t1 := 8) (t2 := 20) rfl rfl rfl (fun h657 => ?_) (fun h657 => ?_)
                · have l658 : 4 ≤ (gi649 69 12).toInt := t_eql h657 (by decide : (4:Int) ≤ (4:Int32).toInt)
                  refine ev_loc f_X12_isSign (nx := 9) rfl rfl rfl rfl ?_
                  refine ev_getI f_X12_isSign (nx := 12) rfl (hI.wf.s rfl) rfl rfl rfl ?_
                  refine ev_loc f_X12_isSign (nx := 13) rfl rfl rfl rfl ?_
                  refine ev_if f_X12_isSign (t1 := 16) (t2 := 20) rfl rfl rfl (fun h659 => ?_) (fun h659 => ?_)
                  · have u660 : (gi649 69 15).toInt ≤ 41 := t_equ h659 (by decide : (41:Int32).toInt ≤ (41:Int))
                    have l661 : 41 ≤ (gi649 69 15).toInt := t_eql h659 (by decide : (41:Int) ≤ (41:Int32).toInt)
                    refine ev_ic f_X12_isSign (nx := 17) (v := 1) rfl (by decide) rfl ?_
                    refine ev_jmp f_X12_isSign (nx := 21) rfl rfl rfl ?_
                    refine ev_retK1 f_X12_isSign rfl rfl rfl ?_
                    refine ev_f f_X12_aOne (t1 := 187) (t2 := 133) rfl rfl rfl (by decide) ?_
                    refine ev_loc f_X12_aOne (nx := 134) rfl rfl rfl rfl ?_
                    refine ev_qI f_X12_aOne (nx := 137) (r := []) rfl rfl rfl rfl rfl rfl rfl (c_m_isWithin hI ) rfl hX rfl (fun w662 gi662 gl662 gr662 l662 u662 hI hX hC662 q662 => ?_)
                    have q662 : (w662.toInt = 1 → t_ex gi662) ∧ (w662.toInt = 0 → t_n40 gi662) := q662
                    refine ev_if f_X12_aOne (t1 := 187) (t2 := 140) rfl rfl rfl (fun h663 => ?_) (fun h663 => ?_)
                    · have u664 : w662.toInt ≤ 0 := t_equ h663 (by decide : (0:Int32).toInt ≤ (0:Int))
                      refine ev_ic f_X12_aOne (nx := 188) (v := 1) rfl (by decide) rfl ?_
                      exact ev_ret f_X12_aOne rfl rfl rfl ⟨_, _, _, rfl, hI, hX, ⟨_, rfl, (Int.le_trans (by decide : (0:Int) ≤ 1) (by decide : (1:Int) ≤ (1:Int32).toInt)), (by decide : (1:Int32).toInt ≤ (1:Int)), (show (gi 69 14).toInt ≤ (gi662 69 14).toInt ∧ (1 = 1 → (gi662 69 12).toInt ≠ 0 → (gi 69 14).toInt < (gi662 69 14).toInt) ∧ (1 = 0 → (gi662 69 18).toInt ≠ 0) ∧ (1 = 1 → t_K b gi662 2) from ⟨(by have ff669 : (gi662 69 14).toInt = (gi649 69 14).toInt := congrArg Int32.toInt ((hC662.1 69 14 rfl).1.trans rfl); omega), (by have ff670 : (gi662 69 12).toInt = (gi649 69 12).toInt := congrArg Int32.toInt ((hC662.1 69 12 rfl).1.trans rfl); have ff671 : (gi662 69 14).toInt = (gi649 69 14).toInt := congrArg Int32.toInt ((hC662.1 69 14 rfl).1.trans rfl); omega), (by have ff672 : (gi662 69 18).toInt = (gi649 69 18).toInt := congrArg Int32.toInt ((hC662.1 69 18 rfl).1.trans rfl); omega), fun _ => (t_K_ext j649_0 (show (gi662 69 22).toInt = (gi649 69 22).toInt from (by have ff665 : (gi662 69 22).toInt = (gi649 69 22).toInt := congrArg Int32.toInt ((hC662.1 69 22 rfl).1.trans rfl); omega)) (show (gi662 69 23).toInt = (gi649 69 23).toInt from (by have ff666 : (gi662 69 23).toInt = (gi649 69 23).toInt := congrArg Int32.toInt ((hC662.1 69 23 rfl).1.trans rfl); omega)) (show (gi662 69 24).toInt = (gi649 69 24).toInt from (by have ff667 : (gi662 69 24).toInt = (gi649 69 24).toInt := congrArg Int32.toInt ((hC662.1 69 24 rfl).1.trans rfl); omega)) (show (gi662 69 25).toInt = (gi649 69 25).toInt from (by have ff668 : (gi662 69 25).toInt = (gi649 69 25).toInt := congrArg Int32.toInt ((hC662.1 69 25 rfl).1.trans rfl); omega)) ((funext (fun j => (hC662.1 77 j rfl).1) : gi662 77 = gi649 77)) ((funext (fun j => (hC662.1 70 j rfl).1) : gi662 70 = gi649 70)))⟩)⟩⟩
                    · have r673 : w662.toInt ≠ 0 := fun e => h663 (Int32.toInt_inj.mp (e.trans (by decide : (0:Int) = (0 : Int32).toInt)))
                      have l674 : 1 ≤ w662.toInt := t_nel h663 l662 rfl rfl
                      have L675 : ∀ (m675 : Nat) (gi675 : Nat → Nat → Int32) (gl675 : Nat → Nat → Int64) (gr675 : Nat → Nat → Value), t_I sh gi675 gr675 → t_X wl_m_aOne sh gi gl gr gi675 gl675 gr675 → gi675 69 12 = (gi649 69 12) → gi675 69 14 = (gi649 69 14) → gi675 69 15 = (gi649 69 15) → gi675 69 18 = (gi649 69 18) → gi675 69 23 = (gi649 69 23) → gi675 69 24 = (gi649 69 24) → t_K b gi675 2 → t_ex gi675 → (gi 69 14).toInt ≤ (gi675 69 14).toInt → ((gi675 69 12).toInt ≠ 0 → (gi 69 14).toInt < (gi675 69 14).toInt) → (gi675 69 22).toInt.toNat = m675 → x_Ev X (d + 6) n_X12_aOne 140 [(1, .int y649_1), (0, .ref 69)] [] (sh, gi675, gl675, gr675) (t_PI wl_m_aOne sh gi gl gr 0 1 (Q_m_aOne gi gl gr b)) := by
                        intro m675
                        induction m675 using Nat.strongRecOn with
                        | _ m675 ih675 =>
                        intro gi675 gl675 gr675 hI hX c675_0 c675_1 c675_2 c675_3 c675_4 c675_5 j675_0 j675_1 j675_2 j675_3 hm675
                        have cf675_0 : (gi675 69 12).toInt = (gi649 69 12).toInt := congrArg Int32.toInt c675_0
                        have cf675_1 : (gi675 69 14).toInt = (gi649 69 14).toInt := congrArg Int32.toInt c675_1
                        have cf675_3 : (gi675 69 18).toInt = (gi649 69 18).toInt := congrArg Int32.toInt c675_3
                        have cf675_4 : (gi675 69 23).toInt = (gi649 69 23).toInt := congrArg Int32.toInt c675_4
                        have cf675_5 : (gi675 69 24).toInt = (gi649 69 24).toInt := congrArg Int32.toInt c675_5
                        obtain ⟨l676, u676⟩ := hI.b (hI.wf.s (k := 69) rfl) (t_bdK rfl : t_bd 11 22 = some (0, 60))
                        obtain ⟨l677, u677⟩ := hI.b (hI.wf.s (k := 69) rfl) (t_bdK rfl : t_bd 11 25 = some (0, 210))
                        have l678 : (1:Int) ≤ (gi675 69 22).toInt := by obtain ⟨j, hj, _⟩ := j675_1; omega
                        refine ev_loc f_X12_aOne (nx := 141) rfl rfl rfl rfl ?_
                        refine ev_bp f_X12_aOne (nx := 143) (v := 40) rfl (by decide) rfl ?_
                        refine ev_inV2 f_X12_aOne (nx := 146) (lo2 := [(0, .ref 69), (1, .int 40)]) rfl rfl rfl rfl f_X12_isDoing (hI.wf.s rfl) rfl rfl rfl rfl rfl ?_
                        refine ev_loc f_X12_isDoing (nx := 1) rfl rfl rfl rfl ?_
                        refine ev_gvI f_X12_isDoing (nx := 4) (w := (gi675 69 22)) rfl (hI.wf.s rfl) rfl rfl rfl rfl ?_
                        refine ev_f f_X12_isDoing (t1 := 26) (t2 := 7) rfl rfl rfl (t_leF (by decide : (0:Int32).toInt ≤ (0:Int)) l678 (by decide)) ?_
                        refine ev_loc f_X12_isDoing (nx := 8) rfl rfl rfl rfl ?_
                        refine ev_getR f_X12_isDoing (nx := 11) rfl (hI.wf.s rfl) rfl rfl (hI.wf.r rfl) rfl rfl ?_
                        refine ev_loc f_X12_isDoing (nx := 12) rfl rfl rfl rfl ?_
                        refine ev_gvI f_X12_isDoing (nx := 15) (w := (gi675 69 22)) rfl (hI.wf.s rfl) rfl rfl rfl rfl ?_
                        refine ev_ic f_X12_isDoing (nx := 16) (v := 1) rfl (by decide) rfl ?_
                        refine ev_subC f_X12_isDoing (nx := 17) (c := 1) (l := 0) (u := 59) rfl (by decide) l678 u676 rfl rfl (by decide) (by decide) rfl (fun z679 e679 l679 u679 => ?_)
                        refine ev_ialdT f_X12_isDoing (nx := 18) rfl (hI.wf.s rfl) l679 (by decide) u679 (by decide) rfl (fun w680 e680 => ?_)
                        refine ev_loc f_X12_isDoing (nx := 19) rfl rfl rfl rfl ?_
                        refine ev_if f_X12_isDoing (t1 := 22) (t2 := 26) rfl rfl rfl (fun h681 => ?_) (fun h681 => ?_)
                        · have u682 : w680.toInt ≤ 40 := t_equ h681 (by decide : (40:Int32).toInt ≤ (40:Int))
                          have l683 : 40 ≤ w680.toInt := t_eql h681 (by decide : (40:Int) ≤ (40:Int32).toInt)
                          refine ev_ic f_X12_isDoing (nx := 23) (v := 1) rfl (by decide) rfl ?_
                          refine ev_jmp f_X12_isDoing (nx := 27) rfl rfl rfl ?_
                          refine ev_retK1 f_X12_isDoing rfl rfl rfl ?_
                          refine ev_f f_X12_aOne (t1 := 149) (t2 := 156) rfl rfl rfl (by decide) ?_
                          refine ev_loc f_X12_aOne (nx := 157) rfl rfl rfl rfl ?_
                          refine ev_alu f_X12_aOne (nx := 158) rfl rfl rfl rfl ?_
                          refine ev_gvI f_X12_aOne (nx := 161) (w := (gi675 69 22)) rfl (hI.wf.s rfl) rfl rfl rfl rfl ?_
                          refine ev_ic f_X12_aOne (nx := 162) (v := 1) rfl (by decide) rfl ?_
                          refine ev_subC f_X12_aOne (nx := 163) (c := 1) (l := 0) (u := 59) rfl (by decide) l678 u676 rfl rfl (by decide) (by decide) rfl (fun z684 e684 l684 u684 => ?_)
                          refine ev_putIT f_X12_aOne (nx := 166) rfl (hI.wf.s rfl) rfl rfl rfl (hI.putB (hI.wf.s rfl) rfl rfl l684 (by decide) u684 (by decide)) (hX.upI rfl) (fun g685 e685 hI hX => ?_)
                          refine ev_loc f_X12_aOne (nx := 167) rfl rfl rfl rfl ?_
                          refine ev_alu f_X12_aOne (nx := 168) rfl rfl rfl rfl ?_
                          refine ev_gvI f_X12_aOne (nx := 171) (w := (gi649 69 23)) rfl (hI.wf.s rfl) rfl rfl ((by rw [e685]; exact x_up2_off (Or.inr (by decide)) : g685 69 23 = gi675 69 23).trans c675_4) rfl ?_
                          refine ev_ic f_X12_aOne (nx := 172) (v := 1) rfl (by decide) rfl ?_
                          refine ev_subC f_X12_aOne (nx := 173) (c := 1) (l := (-1)) (u := 5) rfl (by decide) l654 u654 rfl rfl (by decide) (by decide) rfl (fun z686 e686 l686 u686 => ?_)
                          have l688 : (0:Int) ≤ z686.toInt := (by have hw := t_K_w j675_0 (by omega) (by rw [← (by rw [e680]; have hc := t_clamp (i := z679) (by omega); have hx : z679.toNatClampNeg = (gi675 69 22).toInt.toNat - 1 := (by omega); rw [hx] : w680 = gi675 77 ((gi675 69 22).toInt.toNat - 1))]; omega); omega)
                          refine ev_putIT f_X12_aOne (nx := 176) rfl (hI.wf.s rfl) rfl rfl rfl (hI.putB (hI.wf.s rfl) rfl rfl l688 (by decide) u686 (by decide)) (hX.upI rfl) (fun g687 e687 hI hX => ?_)
                          refine ev_loc f_X12_aOne (nx := 177) rfl rfl rfl rfl ?_
                          refine ev_qN f_X12_aOne (nx := 180) (r := []) rfl rfl rfl rfl rfl rfl rfl (c_m_ahead2 hI ) rfl hX rfl (fun gi689 gl689 gr689 hI hX hC689 q689 => ?_)
                          have ff690 : (g687 69 14).toInt = (gi649 69 14).toInt := congrArg Int32.toInt ((by rw [e687]; exact x_up2_off (Or.inr (by decide)) : g687 69 14 = g685 69 14).trans ((by rw [e685]; exact x_up2_off (Or.inr (by decide)) : g685 69 14 = gi675 69 14).trans c675_1))
                          have q689 : (g687 69 14).toInt ≤ (gi689 69 14).toInt ∧ ((gi689 69 12).toInt ≠ 0 → (g687 69 14).toInt < (gi689 69 14).toInt) ∧ ((gi689 69 12).toInt = 3 → 0 ≤ (gi689 69 15).toInt) := q689
                          obtain ⟨l691, u691⟩ := hI.b (hI.wf.s (k := 69) rfl) (t_bdK rfl : t_bd 11 12 = some (0, 4))
                          obtain ⟨l692, u692⟩ := hI.b (hI.wf.s (k := 69) rfl) (t_bdK rfl : t_bd 11 14 = some (0, 900))
                          refine ev_loc f_X12_aOne (nx := 181) rfl rfl rfl rfl ?_
                          refine ev_qN f_X12_aOne (nx := 184) (r := []) rfl rfl rfl rfl rfl rfl rfl (c_m_turnsRound hI  (b := b) (t_K_par j675_0 (by omega) (by rw [← (by rw [e680]; have hc := t_clamp (i := z679) (by omega); have hx : z679.toNatClampNeg = (gi675 69 22).toInt.toNat - 1 := (by omega); rw [hx] : w680 = gi675 77 ((gi675 69 22).toInt.toNat - 1))]; omega) (show (gi689 69 22).toInt = (gi675 69 22).toInt - 1 from (by have ff694 : (gi689 69 22).toInt = z684.toInt := congrArg Int32.toInt ((hC689.1 69 22 rfl).1.trans ((by rw [e687]; exact x_up2_off (Or.inr (by decide)) : g687 69 22 = g685 69 22).trans (by rw [e685]; exact x_up2_at _ _ _ _ : g685 69 22 = z684))); omega)) (show (gi689 69 23).toInt = (gi675 69 23).toInt - 1 from (by have ff695 : (gi689 69 23).toInt = z686.toInt := congrArg Int32.toInt ((hC689.1 69 23 rfl).1.trans (by rw [e687]; exact x_up2_at _ _ _ _ : g687 69 23 = z686)); omega)) (show (gi689 69 24).toInt = (gi675 69 24).toInt from (by have ff696 : (gi689 69 24).toInt = (gi649 69 24).toInt := congrArg Int32.toInt ((hC689.1 69 24 rfl).1.trans ((by rw [e687]; exact x_up2_off (Or.inr (by decide)) : g687 69 24 = g685 69 24).trans ((by rw [e685]; exact x_up2_off (Or.inr (by decide)) : g685 69 24 = gi675 69 24).trans c675_5))); omega)) (show (gi689 69 25).toInt = (gi675 69 25).toInt from (by have ff697 : (gi689 69 25).toInt = (gi675 69 25).toInt := congrArg Int32.toInt ((hC689.1 69 25 rfl).1.trans ((by rw [e687]; exact x_up2_off (Or.inr (by decide)) : g687 69 25 = g685 69 25).trans ((by rw [e685]; exact x_up2_off (Or.inr (by decide)) : g685 69 25 = gi675 69 25).trans rfl))); omega)) ((funext (fun j => (hC689.1 77 j rfl).1) : gi689 77 = g687 77).trans ((by rw [e687]; exact x_up2_ne (by decide) : g687 77 = g685 77).trans ((by rw [e685]; exact x_up2_ne (by decide) : g685 77 = gi675 77)))) ((funext (fun j => (hC689.1 70 j rfl).1) : gi689 70 = g687 70).trans ((by rw [e687]; exact x_up2_ne (by decide) : g687 70 = g685 70).trans ((by rw [e685]; exact x_up2_ne (by decide) : g685 70 = gi675 70)))))) rfl hX rfl (fun gi693 gl693 gr693 hI hX hC693 q693 => ?_)
                          have q693 : t_K (b) gi693 2 := q693
                          obtain ⟨l698, u698⟩ := hI.b (hI.wf.s (k := 69) rfl) (t_bdK rfl : t_bd 11 22 = some (0, 60))
                          obtain ⟨l699, u699⟩ := hI.b (hI.wf.s (k := 69) rfl) (t_bdK rfl : t_bd 11 23 = some (0, 6))
                          obtain ⟨l700, u700⟩ := hI.b (hI.wf.s (k := 69) rfl) (t_bdK rfl : t_bd 11 25 = some (0, 210))
                          refine ev_jmp f_X12_aOne (nx := 124) rfl rfl rfl ?_
                          refine ev_sub (lo := [(1, .int y649_1), (0, .ref 69)]) rfl (t_sc rfl (t_sc rfl t_sn)) ?_
                          exact ih649 _ (by have ff704 : (gi693 69 14).toInt = (gi689 69 14).toInt := congrArg Int32.toInt ((hC693.1 69 14 rfl).1.trans rfl); have ff705 : (gi693 69 12).toInt = (gi689 69 12).toInt := congrArg Int32.toInt ((hC693.1 69 12 rfl).1.trans rfl); omega) gi693 gl693 gr693 (y649_1) hI hX  l649_1 u649_1 q693 (by have ff701 : (gi693 69 14).toInt = (gi689 69 14).toInt := congrArg Int32.toInt ((hC693.1 69 14 rfl).1.trans rfl); omega) (by have ff702 : (gi693 69 12).toInt = (gi689 69 12).toInt := congrArg Int32.toInt ((hC693.1 69 12 rfl).1.trans rfl); have ff703 : (gi693 69 14).toInt = (gi689 69 14).toInt := congrArg Int32.toInt ((hC693.1 69 14 rfl).1.trans rfl); omega) rfl
                        · have r706 : w680.toInt ≠ 40 := fun e => h681 (Int32.toInt_inj.mp (e.trans (by decide : (40:Int) = (40 : Int32).toInt)))
                          refine ev_ic f_X12_isDoing (nx := 27) (v := 0) rfl (by decide) rfl ?_
                          refine ev_retK1 f_X12_isDoing rfl rfl rfl ?_
                          refine ev_t f_X12_aOne (t1 := 149) (t2 := 156) rfl rfl rfl (by decide) ?_
                          refine ev_loc f_X12_aOne (nx := 150) rfl rfl rfl rfl ?_
                          refine ev_inV1 f_X12_aOne (nx := 153) (lo2 := [(0, .ref 69)]) rfl rfl rfl rfl f_X12_joins (hI.wf.s rfl) rfl rfl rfl rfl rfl ?_
                          have kn707 := t_K_num j675_0
                          refine ev_loc f_X12_joins (nx := 1) rfl rfl rfl rfl ?_
                          refine ev_alu f_X12_joins (nx := 2) rfl rfl rfl rfl ?_
                          refine ev_gvI f_X12_joins (nx := 5) (w := (gi675 69 22)) rfl (hI.wf.s rfl) rfl rfl rfl rfl ?_
                          refine ev_ic f_X12_joins (nx := 6) (v := 1) rfl (by decide) rfl ?_
                          refine ev_subC f_X12_joins (nx := 7) (c := 1) (l := 0) (u := 59) rfl (by decide) l678 u676 rfl rfl (by decide) (by decide) rfl (fun z708 e708 l708 u708 => ?_)
                          refine ev_putIT f_X12_joins (nx := 10) rfl (hI.wf.s rfl) rfl rfl rfl (hI.putB (hI.wf.s rfl) rfl rfl l708 (by decide) u708 (by decide)) (hX.upI rfl) (fun g709 e709 hI hX => ?_)
                          refine ev_loc f_X12_joins (nx := 11) rfl rfl rfl rfl ?_
                          refine ev_loc f_X12_joins (nx := 12) rfl rfl rfl rfl ?_
                          refine ev_getR f_X12_joins (nx := 15) rfl (hI.wf.s rfl) rfl rfl (hI.wf.r rfl) rfl rfl ?_
                          refine ev_loc f_X12_joins (nx := 16) rfl rfl rfl rfl ?_
                          refine ev_gvI f_X12_joins (nx := 19) (w := z708) rfl (hI.wf.s rfl) rfl rfl (by rw [e709]; exact x_up2_at _ _ _ _ : g709 69 22 = z708) rfl ?_
                          refine ev_ialdT f_X12_joins (nx := 20) rfl (hI.wf.s rfl) l708 (by decide) u708 (by decide) rfl (fun w710 e710 => ?_)
                          refine ev_inV2 f_X12_joins (nx := 23) (lo2 := [(0, .ref 69), (1, .int w710)]) rfl rfl rfl rfl f_X12_asksAlso (hI.wf.s rfl) rfl rfl rfl rfl rfl ?_
                          have kn711 := t_K_num j675_0
                          refine ev_loc f_X12_asksAlso (nx := 1) rfl rfl rfl rfl ?_
                          refine ev_getR f_X12_asksAlso (nx := 4) rfl (hI.wf.s rfl) rfl rfl (hI.wf.r rfl) rfl rfl ?_
                          refine ev_sp f_X12_asksAlso (nx := 7) (v := 1540) rfl (by decide) rfl ?_
                          refine ev_loc f_X12_asksAlso (nx := 8) rfl rfl rfl rfl ?_
                          refine ev_gvI f_X12_asksAlso (nx := 11) (w := (gi675 69 25)) rfl (hI.wf.s rfl) rfl rfl ((by rw [e709]; exact x_up2_off (Or.inr (by decide)) : g709 69 25 = gi675 69 25).trans rfl) rfl ?_
                          refine ev_addK f_X12_asksAlso (nx := 12) (c := 1540) (l := 1540) (u := 1750) rfl (by decide) l677 u677 rfl rfl (by decide) (by decide) rfl (fun z712 e712 l712 u712 => ?_)
                          refine ev_loc f_X12_asksAlso (nx := 13) rfl rfl rfl rfl ?_
                          refine ev_iastT f_X12_asksAlso (nx := 14) rfl (hI.wf.s rfl) l712 (by decide) u712 (by decide) rfl (hI.astL (hI.wf.s rfl) (by decide +kernel : t_abw 70 1540 1750 (-2147483648) 2147483647 = true) (t_cl1 l712 (by decide)) (t_cl2 l712 u712 (by decide) (by decide)) (t_lo w710) (t_hi w710) rfl) (hX.upI (t_inR (p := 1540) (m := 1750) rfl l712 (by decide) u712 (by decide) (by decide))) (fun g713 e713 hI hX => ?_)
                          refine ev_loc f_X12_asksAlso (nx := 15) rfl rfl rfl rfl ?_
                          refine ev_alu f_X12_asksAlso (nx := 16) rfl rfl rfl rfl ?_
                          refine ev_gvI f_X12_asksAlso (nx := 19) (w := (gi675 69 25)) rfl (hI.wf.s rfl) rfl rfl ((by rw [e713]; exact x_up2_off (Or.inl (by decide)) : g713 69 25 = g709 69 25).trans ((by rw [e709]; exact x_up2_off (Or.inr (by decide)) : g709 69 25 = gi675 69 25).trans rfl)) rfl ?_
                          refine ev_ic f_X12_asksAlso (nx := 20) (v := 1) rfl (by decide) rfl ?_
                          refine ev_addC f_X12_asksAlso (nx := 21) (c := 1) (l := 1) (u := 211) rfl (by decide) l677 u677 rfl rfl (by decide) (by decide) rfl (fun z714 e714 l714 u714 => ?_)
                          have u716 : z714.toInt ≤ (210:Int) := (by omega)
                          refine ev_putIT f_X12_asksAlso (nx := 24) rfl (hI.wf.s rfl) rfl rfl rfl (hI.putB (hI.wf.s rfl) rfl rfl l714 (by decide) u716 (by decide)) (hX.upI rfl) (fun g715 e715 hI hX => ?_)
                          refine ev_retK0 f_X12_asksAlso rfl rfl rfl ?_
                          refine ev_retK0 f_X12_joins rfl rfl rfl ?_
                          refine ev_jmp f_X12_aOne (nx := 140) rfl rfl rfl ?_
                          refine ev_sub (lo := [(1, .int y649_1), (0, .ref 69)]) rfl (t_sc rfl (t_sc rfl t_sn)) ?_
                          exact ih675 _ (by have ff725 : (g715 69 22).toInt = z708.toInt := congrArg Int32.toInt ((by rw [e715]; exact x_up2_off (Or.inr (by decide)) : g715 69 22 = g713 69 22).trans ((by rw [e713]; exact x_up2_off (Or.inl (by decide)) : g713 69 22 = g709 69 22).trans (by rw [e709]; exact x_up2_at _ _ _ _ : g709 69 22 = z708))); omega) g715 gl675 gr675  hI hX  ((by rw [e715]; exact x_up2_off (Or.inr (by decide)) : g715 69 12 = g713 69 12).trans ((by rw [e713]; exact x_up2_off (Or.inl (by decide)) : g713 69 12 = g709 69 12).trans ((by rw [e709]; exact x_up2_off (Or.inr (by decide)) : g709 69 12 = gi675 69 12).trans c675_0))) ((by rw [e715]; exact x_up2_off (Or.inr (by decide)) : g715 69 14 = g713 69 14).trans ((by rw [e713]; exact x_up2_off (Or.inl (by decide)) : g713 69 14 = g709 69 14).trans ((by rw [e709]; exact x_up2_off (Or.inr (by decide)) : g709 69 14 = gi675 69 14).trans c675_1))) ((by rw [e715]; exact x_up2_off (Or.inr (by decide)) : g715 69 15 = g713 69 15).trans ((by rw [e713]; exact x_up2_off (Or.inl (by decide)) : g713 69 15 = g709 69 15).trans ((by rw [e709]; exact x_up2_off (Or.inr (by decide)) : g709 69 15 = gi675 69 15).trans c675_2))) ((by rw [e715]; exact x_up2_off (Or.inr (by decide)) : g715 69 18 = g713 69 18).trans ((by rw [e713]; exact x_up2_off (Or.inl (by decide)) : g713 69 18 = g709 69 18).trans ((by rw [e709]; exact x_up2_off (Or.inr (by decide)) : g709 69 18 = gi675 69 18).trans c675_3))) ((by rw [e715]; exact x_up2_off (Or.inr (by decide)) : g715 69 23 = g713 69 23).trans ((by rw [e713]; exact x_up2_off (Or.inl (by decide)) : g713 69 23 = g709 69 23).trans ((by rw [e709]; exact x_up2_off (Or.inr (by decide)) : g709 69 23 = gi675 69 23).trans c675_4))) ((by rw [e715]; exact x_up2_off (Or.inr (by decide)) : g715 69 24 = g713 69 24).trans ((by rw [e713]; exact x_up2_off (Or.inl (by decide)) : g713 69 24 = g709 69 24).trans ((by rw [e709]; exact x_up2_off (Or.inr (by decide)) : g709 69 24 = gi675 69 24).trans c675_5))) (by have ht := (by rw [e710]; have hc := t_clamp (i := z708) (by omega); have hx : z708.toNatClampNeg = (gi675 69 22).toInt.toNat - 1 := (by omega); rw [hx]; exact congrFun (((by rw [e709]; exact x_up2_ne (by decide) : g709 77 = gi675 77))) _ : w710 = gi675 77 ((gi675 69 22).toInt.toNat - 1)); have ho := (t_one (p := 1540 + (gi675 69 25).toInt.toNat) ((by rw [e709]; exact x_up2_ne (by decide) : g709 70 = gi675 70)) e713 ((by rw [e715]; exact x_up2_ne (by decide) : g715 70 = g713 70)) (by have hc := t_clamp (i := z712) (by omega); omega)); exact t_K_bin j675_0 (by omega) (t_K_top j675_0 (by omega) (by rw [← (by rw [e680]; have hc := t_clamp (i := z679) (by omega); have hx : z679.toNatClampNeg = (gi675 69 22).toInt.toNat - 1 := (by omega); rw [hx] : w680 = gi675 77 ((gi675 69 22).toInt.toNat - 1))]; omega)) (show (g715 69 22).toInt = (gi675 69 22).toInt - 1 from (by have ff717 : (g715 69 22).toInt = z708.toInt := congrArg Int32.toInt ((by rw [e715]; exact x_up2_off (Or.inr (by decide)) : g715 69 22 = g713 69 22).trans ((by rw [e713]; exact x_up2_off (Or.inl (by decide)) : g713 69 22 = g709 69 22).trans (by rw [e709]; exact x_up2_at _ _ _ _ : g709 69 22 = z708))); omega)) (show (g715 69 23).toInt = (gi675 69 23).toInt from (by have ff718 : (g715 69 23).toInt = (gi649 69 23).toInt := congrArg Int32.toInt ((by rw [e715]; exact x_up2_off (Or.inr (by decide)) : g715 69 23 = g713 69 23).trans ((by rw [e713]; exact x_up2_off (Or.inl (by decide)) : g713 69 23 = g709 69 23).trans ((by rw [e709]; exact x_up2_off (Or.inr (by decide)) : g709 69 23 = gi675 69 23).trans c675_4))); omega)) (show (g715 69 24).toInt = (gi675 69 24).toInt from (by have ff719 : (g715 69 24).toInt = (gi649 69 24).toInt := congrArg Int32.toInt ((by rw [e715]; exact x_up2_off (Or.inr (by decide)) : g715 69 24 = g713 69 24).trans ((by rw [e713]; exact x_up2_off (Or.inl (by decide)) : g713 69 24 = g709 69 24).trans ((by rw [e709]; exact x_up2_off (Or.inr (by decide)) : g709 69 24 = gi675 69 24).trans c675_5))); omega)) (show (g715 69 25).toInt = (gi675 69 25).toInt + 1 from (by have ff720 : (g715 69 25).toInt = z714.toInt := congrArg Int32.toInt (by rw [e715]; exact x_up2_at _ _ _ _ : g715 69 25 = z714); omega)) ((by rw [e715]; exact x_up2_ne (by decide) : g715 77 = g713 77).trans ((by rw [e713]; exact x_up2_ne (by decide) : g713 77 = g709 77).trans ((by rw [e709]; exact x_up2_ne (by decide) : g709 77 = gi675 77)))) ho.1 (ho.2.trans ht)) (by obtain ⟨j, hj, hv⟩ := j675_1; have ht := (by rw [e680]; have hc := t_clamp (i := z679) (by omega); have hx : z679.toNatClampNeg = (gi675 69 22).toInt.toNat - 1 := (by omega); rw [hx] : w680 = gi675 77 ((gi675 69 22).toInt.toNat - 1)); have ff721 : (g715 69 22).toInt = z708.toInt := congrArg Int32.toInt ((by rw [e715]; exact x_up2_off (Or.inr (by decide)) : g715 69 22 = g713 69 22).trans ((by rw [e713]; exact x_up2_off (Or.inl (by decide)) : g713 69 22 = g709 69 22).trans (by rw [e709]; exact x_up2_at _ _ _ _ : g709 69 22 = z708))); refine ⟨j, ?_, (congrArg Int32.toInt (congrFun ((by rw [e715]; exact x_up2_ne (by decide) : g715 77 = g713 77).trans ((by rw [e713]; exact x_up2_ne (by decide) : g713 77 = g709 77).trans ((by rw [e709]; exact x_up2_ne (by decide) : g709 77 = gi675 77)))) j)).trans hv⟩; have hne : j ≠ (gi675 69 22).toInt.toNat - 1 := (fun e => by rw [e, ← ht] at hv; omega); omega) (by have ff722 : (g715 69 14).toInt = (gi649 69 14).toInt := congrArg Int32.toInt ((by rw [e715]; exact x_up2_off (Or.inr (by decide)) : g715 69 14 = g713 69 14).trans ((by rw [e713]; exact x_up2_off (Or.inl (by decide)) : g713 69 14 = g709 69 14).trans ((by rw [e709]; exact x_up2_off (Or.inr (by decide)) : g709 69 14 = gi675 69 14).trans c675_1))); omega) (by have ff723 : (g715 69 12).toInt = (gi649 69 12).toInt := congrArg Int32.toInt ((by rw [e715]; exact x_up2_off (Or.inr (by decide)) : g715 69 12 = g713 69 12).trans ((by rw [e713]; exact x_up2_off (Or.inl (by decide)) : g713 69 12 = g709 69 12).trans ((by rw [e709]; exact x_up2_off (Or.inr (by decide)) : g709 69 12 = gi675 69 12).trans c675_0))); have ff724 : (g715 69 14).toInt = (gi649 69 14).toInt := congrArg Int32.toInt ((by rw [e715]; exact x_up2_off (Or.inr (by decide)) : g715 69 14 = g713 69 14).trans ((by rw [e713]; exact x_up2_off (Or.inl (by decide)) : g713 69 14 = g709 69 14).trans ((by rw [e709]; exact x_up2_off (Or.inr (by decide)) : g709 69 14 = gi675 69 14).trans c675_1))); omega) rfl
                      refine ev_sub (lo := [(1, .int y649_1), (0, .ref 69)]) rfl (t_sc rfl (t_sc rfl t_sn)) ?_
                      exact L675 _ gi662 gl662 gr662  hI hX  ((hC662.1 69 12 rfl).1.trans rfl) ((hC662.1 69 14 rfl).1.trans rfl) ((hC662.1 69 15 rfl).1.trans rfl) ((hC662.1 69 18 rfl).1.trans rfl) ((hC662.1 69 23 rfl).1.trans rfl) ((hC662.1 69 24 rfl).1.trans rfl) (t_K_ext j649_0 (show (gi662 69 22).toInt = (gi649 69 22).toInt from (by have ff726 : (gi662 69 22).toInt = (gi649 69 22).toInt := congrArg Int32.toInt ((hC662.1 69 22 rfl).1.trans rfl); omega)) (show (gi662 69 23).toInt = (gi649 69 23).toInt from (by have ff727 : (gi662 69 23).toInt = (gi649 69 23).toInt := congrArg Int32.toInt ((hC662.1 69 23 rfl).1.trans rfl); omega)) (show (gi662 69 24).toInt = (gi649 69 24).toInt from (by have ff728 : (gi662 69 24).toInt = (gi649 69 24).toInt := congrArg Int32.toInt ((hC662.1 69 24 rfl).1.trans rfl); omega)) (show (gi662 69 25).toInt = (gi649 69 25).toInt from (by have ff729 : (gi662 69 25).toInt = (gi649 69 25).toInt := congrArg Int32.toInt ((hC662.1 69 25 rfl).1.trans rfl); omega)) ((funext (fun j => (hC662.1 77 j rfl).1) : gi662 77 = gi649 77)) ((funext (fun j => (hC662.1 70 j rfl).1) : gi662 70 = gi649 70))) (q662.1 (by omega)) (by have ff730 : (gi662 69 14).toInt = (gi649 69 14).toInt := congrArg Int32.toInt ((hC662.1 69 14 rfl).1.trans rfl); omega) (by have ff731 : (gi662 69 12).toInt = (gi649 69 12).toInt := congrArg Int32.toInt ((hC662.1 69 12 rfl).1.trans rfl); have ff732 : (gi662 69 14).toInt = (gi649 69 14).toInt := congrArg Int32.toInt ((hC662.1 69 14 rfl).1.trans rfl); omega) rfl
                  · have r733 : (gi649 69 15).toInt ≠ 41 := fun e => h659 (Int32.toInt_inj.mp (e.trans (by decide : (41:Int) = (41 : Int32).toInt)))
                    refine ev_ic f_X12_isSign (nx := 21) (v := 0) rfl (by decide) rfl ?_
                    refine ev_retK1 f_X12_isSign rfl rfl rfl ?_
                    refine ev_t f_X12_aOne (t1 := 187) (t2 := 133) rfl rfl rfl (by decide) ?_
                    refine ev_ic f_X12_aOne (nx := 188) (v := 1) rfl (by decide) rfl ?_
                    exact ev_ret f_X12_aOne rfl rfl rfl ⟨_, _, _, rfl, hI, hX, ⟨_, rfl, (Int.le_trans (by decide : (0:Int) ≤ 1) (by decide : (1:Int) ≤ (1:Int32).toInt)), (by decide : (1:Int32).toInt ≤ (1:Int)), (show (gi 69 14).toInt ≤ (gi649 69 14).toInt ∧ (1 = 1 → (gi649 69 12).toInt ≠ 0 → (gi 69 14).toInt < (gi649 69 14).toInt) ∧ (1 = 0 → (gi649 69 18).toInt ≠ 0) ∧ (1 = 1 → t_K b gi649 2) from ⟨(by omega), (by omega), (by omega), fun _ => j649_0⟩)⟩⟩
                · have r734 : (gi649 69 12).toInt ≠ 4 := fun e => h657 (Int32.toInt_inj.mp (e.trans (by decide : (4:Int) = (4 : Int32).toInt)))
                  have u735 : (gi649 69 12).toInt ≤ 3 := t_neu h657 u650 rfl rfl
                  refine ev_ic f_X12_isSign (nx := 21) (v := 0) rfl (by decide) rfl ?_
                  refine ev_retK1 f_X12_isSign rfl rfl rfl ?_
                  refine ev_t f_X12_aOne (t1 := 187) (t2 := 133) rfl rfl rfl (by decide) ?_
                  refine ev_ic f_X12_aOne (nx := 188) (v := 1) rfl (by decide) rfl ?_
                  exact ev_ret f_X12_aOne rfl rfl rfl ⟨_, _, _, rfl, hI, hX, ⟨_, rfl, (Int.le_trans (by decide : (0:Int) ≤ 1) (by decide : (1:Int) ≤ (1:Int32).toInt)), (by decide : (1:Int32).toInt ≤ (1:Int)), (show (gi 69 14).toInt ≤ (gi649 69 14).toInt ∧ (1 = 1 → (gi649 69 12).toInt ≠ 0 → (gi 69 14).toInt < (gi649 69 14).toInt) ∧ (1 = 0 → (gi649 69 18).toInt ≠ 0) ∧ (1 = 1 → t_K b gi649 2) from ⟨(by omega), (by omega), (by omega), fun _ => j649_0⟩)⟩⟩
              refine ev_sub (lo := [(1, .int w512), (0, .ref 69)]) rfl (t_sc rfl (t_sc rfl t_sn)) ?_
              exact L649 _ gi645 gl645 gr645 (w512) hI hX  (Int.le_trans (by decide : (15:Int) ≤ 16) l629) (Int.le_trans u628 (by decide : (16:Int) ≤ 26)) q645 (by have ff736 : (gi645 69 14).toInt = (gi630 69 14).toInt := congrArg Int32.toInt ((hC645.1 69 14 rfl).1.trans rfl); omega) (by have ff737 : (gi645 69 12).toInt = (gi630 69 12).toInt := congrArg Int32.toInt ((hC645.1 69 12 rfl).1.trans rfl); have ff738 : (gi645 69 14).toInt = (gi630 69 14).toInt := congrArg Int32.toInt ((hC645.1 69 14 rfl).1.trans rfl); omega) rfl
          · have r739 : w512.toInt ≠ 16 := fun e => h627 (Int32.toInt_inj.mp (e.trans (by decide : (16:Int) = (16 : Int32).toInt)))
            refine ev_loc f_X12_aOne (nx := 93) rfl rfl rfl rfl ?_
            refine ev_bp f_X12_aOne (nx := 95) (v := 22) rfl (by decide) rfl ?_
            refine ev_if f_X12_aOne (t1 := 104) (t2 := 98) rfl rfl rfl (fun h740 => ?_) (fun h740 => ?_)
            · have u741 : w512.toInt ≤ 21 := t_ltu h740 (by decide : (22:Int32).toInt ≤ (22:Int)) rfl
              refine ev_loc f_X12_aOne (nx := 105) rfl rfl rfl rfl ?_
              refine ev_ic f_X12_aOne (nx := 106) (v := 2) rfl (by decide) rfl ?_
              refine ev_inV2 f_X12_aOne (nx := 109) (lo2 := [(0, .ref 69), (1, .int 2)]) rfl rfl rfl rfl f_X12_fails (hI.wf.s rfl) rfl rfl rfl rfl rfl ?_
              refine ev_loc f_X12_fails (nx := 1) rfl rfl rfl rfl ?_
              refine ev_gvI f_X12_fails (nx := 4) (w := (gi 69 18)) rfl (hI.wf.s rfl) rfl rfl ((hC512.1 69 18 rfl).1.trans ((hC13.1 69 18 rfl).1.trans c8_0)) rfl ?_
              refine ev_if f_X12_fails (t1 := 7) (t2 := 32) rfl rfl rfl (fun h742 => ?_) (fun h742 => ?_)
              · have u743 : (gi 69 18).toInt ≤ 0 := t_equ h742 (by decide : (0:Int32).toInt ≤ (0:Int))
                have l744 : 0 ≤ (gi 69 18).toInt := t_eql h742 (by decide : (0:Int) ≤ (0:Int32).toInt)
                refine ev_loc f_X12_fails (nx := 8) rfl rfl rfl rfl ?_
                refine ev_loc f_X12_fails (nx := 9) rfl rfl rfl rfl ?_
                refine ev_gvI f_X12_fails (nx := 12) (w := (gi8 69 12)) rfl (hI.wf.s rfl) rfl rfl ((hC512.1 69 12 rfl).1.trans ((hC13.1 69 12 rfl).1.trans rfl)) rfl ?_
                refine ev_ic f_X12_fails (nx := 13) (v := 1) rfl (by decide) rfl ?_
                refine ev_if f_X12_fails (t1 := 16) (t2 := 20) rfl rfl rfl (fun h745 => ?_) (fun h745 => ?_)
                · have u746 : (gi8 69 12).toInt ≤ 1 := t_equ h745 (by decide : (1:Int32).toInt ≤ (1:Int))
                  have l747 : 1 ≤ (gi8 69 12).toInt := t_eql h745 (by decide : (1:Int) ≤ (1:Int32).toInt)
                  refine ev_ic f_X12_fails (nx := 17) (v := 1) rfl (by decide) rfl ?_
                  refine ev_jmp f_X12_fails (nx := 21) rfl rfl rfl ?_
                  refine ev_putIT f_X12_fails (nx := 24) rfl (hI.wf.s rfl) rfl rfl rfl (hI.put0 (hI.wf.s rfl) rfl rfl) (hX.upI rfl) (fun g748 e748 hI hX => ?_)
                  refine ev_loc f_X12_fails (nx := 25) rfl rfl rfl rfl ?_
                  refine ev_loc f_X12_fails (nx := 26) rfl rfl rfl rfl ?_
                  refine ev_getI f_X12_fails (nx := 29) rfl (hI.wf.s rfl) rfl rfl rfl ?_
                  obtain ⟨l749, u749⟩ := hI.b (hI.wf.s (k := 69) rfl) (t_bdK rfl : t_bd 11 13 = some (0, 900))
                  refine ev_putIT f_X12_fails (nx := 32) rfl (hI.wf.s rfl) rfl rfl rfl (hI.put0 (hI.wf.s rfl) rfl rfl) (hX.upI rfl) (fun g750 e750 hI hX => ?_)
                  refine ev_ic f_X12_fails (nx := 33) (v := 0) rfl (by decide) rfl ?_
                  refine ev_retK1 f_X12_fails rfl rfl rfl ?_
                  exact ev_ret f_X12_aOne rfl rfl rfl ⟨_, _, _, rfl, hI, hX, ⟨_, rfl, (by decide : (0:Int) ≤ (0:Int32).toInt), (Int.le_trans (by decide : (0:Int32).toInt ≤ (0:Int)) (by decide : (0:Int) ≤ 1)), (show (gi 69 14).toInt ≤ (g750 69 14).toInt ∧ (0 = 1 → (g750 69 12).toInt ≠ 0 → (gi 69 14).toInt < (g750 69 14).toInt) ∧ (0 = 0 → (g750 69 18).toInt ≠ 0) ∧ (0 = 1 → t_K b g750 2) from ⟨(by have ff751 : (g750 69 14).toInt = (gi8 69 14).toInt := congrArg Int32.toInt ((by rw [e750]; exact x_up2_off (Or.inr (by decide)) : g750 69 14 = g748 69 14).trans ((by rw [e748]; exact x_up2_off (Or.inr (by decide)) : g748 69 14 = gi512 69 14).trans ((hC512.1 69 14 rfl).1.trans ((hC13.1 69 14 rfl).1.trans rfl)))); omega), (by have ff752 : (g750 69 12).toInt = (gi8 69 12).toInt := congrArg Int32.toInt ((by rw [e750]; exact x_up2_off (Or.inr (by decide)) : g750 69 12 = g748 69 12).trans ((by rw [e748]; exact x_up2_off (Or.inr (by decide)) : g748 69 12 = gi512 69 12).trans ((hC512.1 69 12 rfl).1.trans ((hC13.1 69 12 rfl).1.trans rfl)))); have ff753 : (g750 69 14).toInt = (gi8 69 14).toInt := congrArg Int32.toInt ((by rw [e750]; exact x_up2_off (Or.inr (by decide)) : g750 69 14 = g748 69 14).trans ((by rw [e748]; exact x_up2_off (Or.inr (by decide)) : g748 69 14 = gi512 69 14).trans ((hC512.1 69 14 rfl).1.trans ((hC13.1 69 14 rfl).1.trans rfl)))); omega), (by have ff754 : (g750 69 18).toInt = 1 := (congrArg Int32.toInt ((by rw [e750]; exact x_up2_off (Or.inr (by decide)) : g750 69 18 = g748 69 18).trans (by rw [e748]; exact x_up2_at _ _ _ _ : g748 69 18 = 1))).trans (by decide); omega), fun h => absurd h (by decide)⟩)⟩⟩
                · have r755 : (gi8 69 12).toInt ≠ 1 := fun e => h745 (Int32.toInt_inj.mp (e.trans (by decide : (1:Int) = (1 : Int32).toInt)))
                  refine ev_loc f_X12_fails (nx := 21) rfl rfl rfl rfl ?_
                  refine ev_putIT f_X12_fails (nx := 24) rfl (hI.wf.s rfl) rfl rfl rfl (hI.put0 (hI.wf.s rfl) rfl rfl) (hX.upI rfl) (fun g756 e756 hI hX => ?_)
                  refine ev_loc f_X12_fails (nx := 25) rfl rfl rfl rfl ?_
                  refine ev_loc f_X12_fails (nx := 26) rfl rfl rfl rfl ?_
                  refine ev_getI f_X12_fails (nx := 29) rfl (hI.wf.s rfl) rfl rfl rfl ?_
                  obtain ⟨l757, u757⟩ := hI.b (hI.wf.s (k := 69) rfl) (t_bdK rfl : t_bd 11 13 = some (0, 900))
                  refine ev_putIT f_X12_fails (nx := 32) rfl (hI.wf.s rfl) rfl rfl rfl (hI.put0 (hI.wf.s rfl) rfl rfl) (hX.upI rfl) (fun g758 e758 hI hX => ?_)
                  refine ev_ic f_X12_fails (nx := 33) (v := 0) rfl (by decide) rfl ?_
                  refine ev_retK1 f_X12_fails rfl rfl rfl ?_
                  exact ev_ret f_X12_aOne rfl rfl rfl ⟨_, _, _, rfl, hI, hX, ⟨_, rfl, (by decide : (0:Int) ≤ (0:Int32).toInt), (Int.le_trans (by decide : (0:Int32).toInt ≤ (0:Int)) (by decide : (0:Int) ≤ 1)), (show (gi 69 14).toInt ≤ (g758 69 14).toInt ∧ (0 = 1 → (g758 69 12).toInt ≠ 0 → (gi 69 14).toInt < (g758 69 14).toInt) ∧ (0 = 0 → (g758 69 18).toInt ≠ 0) ∧ (0 = 1 → t_K b g758 2) from ⟨(by have ff759 : (g758 69 14).toInt = (gi8 69 14).toInt := congrArg Int32.toInt ((by rw [e758]; exact x_up2_off (Or.inr (by decide)) : g758 69 14 = g756 69 14).trans ((by rw [e756]; exact x_up2_off (Or.inr (by decide)) : g756 69 14 = gi512 69 14).trans ((hC512.1 69 14 rfl).1.trans ((hC13.1 69 14 rfl).1.trans rfl)))); omega), (by have ff760 : (g758 69 12).toInt = (gi8 69 12).toInt := congrArg Int32.toInt ((by rw [e758]; exact x_up2_off (Or.inr (by decide)) : g758 69 12 = g756 69 12).trans ((by rw [e756]; exact x_up2_off (Or.inr (by decide)) : g756 69 12 = gi512 69 12).trans ((hC512.1 69 12 rfl).1.trans ((hC13.1 69 12 rfl).1.trans rfl)))); have ff761 : (g758 69 14).toInt = (gi8 69 14).toInt := congrArg Int32.toInt ((by rw [e758]; exact x_up2_off (Or.inr (by decide)) : g758 69 14 = g756 69 14).trans ((by rw [e756]; exact x_up2_off (Or.inr (by decide)) : g756 69 14 = gi512 69 14).trans ((hC512.1 69 14 rfl).1.trans ((hC13.1 69 14 rfl).1.trans rfl)))); omega), (by have ff762 : (g758 69 18).toInt = 2 := (congrArg Int32.toInt ((by rw [e758]; exact x_up2_off (Or.inr (by decide)) : g758 69 18 = g756 69 18).trans (by rw [e756]; exact x_up2_at _ _ _ _ : g756 69 18 = 2))).trans (by decide); omega), fun h => absurd h (by decide)⟩)⟩⟩
              · have r763 : (gi 69 18).toInt ≠ 0 := fun e => h742 (Int32.toInt_inj.mp (e.trans (by decide : (0:Int) = (0 : Int32).toInt)))
                refine ev_ic f_X12_fails (nx := 33) (v := 0) rfl (by decide) rfl ?_
                refine ev_retK1 f_X12_fails rfl rfl rfl ?_
                exact ev_ret f_X12_aOne rfl rfl rfl ⟨_, _, _, rfl, hI, hX, ⟨_, rfl, (by decide : (0:Int) ≤ (0:Int32).toInt), (Int.le_trans (by decide : (0:Int32).toInt ≤ (0:Int)) (by decide : (0:Int) ≤ 1)), (show (gi 69 14).toInt ≤ (gi512 69 14).toInt ∧ (0 = 1 → (gi512 69 12).toInt ≠ 0 → (gi 69 14).toInt < (gi512 69 14).toInt) ∧ (0 = 0 → (gi512 69 18).toInt ≠ 0) ∧ (0 = 1 → t_K b gi512 2) from ⟨(by have ff764 : (gi512 69 14).toInt = (gi8 69 14).toInt := congrArg Int32.toInt ((hC512.1 69 14 rfl).1.trans ((hC13.1 69 14 rfl).1.trans rfl)); omega), (by have ff765 : (gi512 69 12).toInt = (gi8 69 12).toInt := congrArg Int32.toInt ((hC512.1 69 12 rfl).1.trans ((hC13.1 69 12 rfl).1.trans rfl)); have ff766 : (gi512 69 14).toInt = (gi8 69 14).toInt := congrArg Int32.toInt ((hC512.1 69 14 rfl).1.trans ((hC13.1 69 14 rfl).1.trans rfl)); omega), (by have ff767 : (gi512 69 18).toInt = (gi 69 18).toInt := congrArg Int32.toInt ((hC512.1 69 18 rfl).1.trans ((hC13.1 69 18 rfl).1.trans c8_0)); omega), fun h => absurd h (by decide)⟩)⟩⟩
            · have l768 : 22 ≤ w512.toInt := t_lel (t_nlt h740) (by decide : (22:Int) ≤ (22:Int32).toInt)
              refine ev_loc f_X12_aOne (nx := 99) rfl rfl rfl rfl ?_
              refine ev_bp f_X12_aOne (nx := 101) (v := 26) rfl (by decide) rfl ?_
              refine ev_if f_X12_aOne (t1 := 110) (t2 := 104) rfl rfl rfl (fun h769 => ?_) (fun h769 => ?_)
              · have u770 : w512.toInt ≤ 26 := t_leu h769 (by decide : (26:Int32).toInt ≤ (26:Int))
                refine ev_loc f_X12_aOne (nx := 111) rfl rfl rfl rfl ?_
                refine ev_loc f_X12_aOne (nx := 112) rfl rfl rfl rfl ?_
                refine ev_qI f_X12_aOne (nx := 115) (r := []) rfl rfl rfl rfl rfl rfl rfl (c_m_aCase hI (w512) (Int.le_trans (by decide : (15:Int) ≤ 22) l768) u770 (b := b) (t_K_ext j8_0 (show (gi512 69 22).toInt = (gi8 69 22).toInt from (by have ff772 : (gi512 69 22).toInt = (gi8 69 22).toInt := congrArg Int32.toInt ((hC512.1 69 22 rfl).1.trans ((hC13.1 69 22 rfl).1.trans rfl)); omega)) (show (gi512 69 23).toInt = (gi8 69 23).toInt from (by have ff773 : (gi512 69 23).toInt = (gi8 69 23).toInt := congrArg Int32.toInt ((hC512.1 69 23 rfl).1.trans ((hC13.1 69 23 rfl).1.trans rfl)); omega)) (show (gi512 69 24).toInt = (gi8 69 24).toInt from (by have ff774 : (gi512 69 24).toInt = (gi 69 24).toInt := congrArg Int32.toInt ((hC512.1 69 24 rfl).1.trans ((hC13.1 69 24 rfl).1.trans c8_1)); omega)) (show (gi512 69 25).toInt = (gi8 69 25).toInt from (by have ff775 : (gi512 69 25).toInt = (gi 69 25).toInt := congrArg Int32.toInt ((hC512.1 69 25 rfl).1.trans ((hC13.1 69 25 rfl).1.trans c8_2)); omega)) ((funext (fun j => (hC512.1 77 j rfl).1) : gi512 77 = gi13 77).trans ((funext (fun j => (hC13.1 77 j rfl).1) : gi13 77 = gi8 77))) ((funext (fun j => (hC512.1 70 j rfl).1) : gi512 70 = gi13 70).trans ((funext (fun j => (hC13.1 70 j rfl).1) : gi13 70 = gi8 70)))) (by omega)) rfl hX rfl (fun w771 gi771 gl771 gr771 l771 u771 hI hX hC771 q771 => ?_)
                have ff776 : (gi512 69 14).toInt = (gi8 69 14).toInt := congrArg Int32.toInt ((hC512.1 69 14 rfl).1.trans ((hC13.1 69 14 rfl).1.trans rfl))
                have q771 : (gi512 69 14).toInt ≤ (gi771 69 14).toInt ∧ (w771.toInt = 1 → (gi771 69 12).toInt ≠ 0 → (gi512 69 14).toInt < (gi771 69 14).toInt) ∧ (w771.toInt = 0 → (gi771 69 18).toInt ≠ 0) ∧ (w771.toInt = 1 → t_K (b) gi771 1) := q771
                obtain ⟨l777, u777⟩ := hI.b (hI.wf.s (k := 69) rfl) (t_bdK rfl : t_bd 11 12 = some (0, 4))
                obtain ⟨l778, u778⟩ := hI.b (hI.wf.s (k := 69) rfl) (t_bdK rfl : t_bd 11 14 = some (0, 900))
                obtain ⟨l780, u780⟩ := hI.b (hI.wf.s (k := 69) rfl) (t_bdK rfl : t_bd 11 24 = some (0, 24))
                obtain ⟨l781, u781⟩ := hI.b (hI.wf.s (k := 69) rfl) (t_bdK rfl : t_bd 11 25 = some (0, 210))
                refine ev_if f_X12_aOne (t1 := 118) (t2 := 120) rfl rfl rfl (fun h782 => ?_) (fun h782 => ?_)
                · have u783 : w771.toInt ≤ 0 := t_equ h782 (by decide : (0:Int32).toInt ≤ (0:Int))
                  refine ev_ic f_X12_aOne (nx := 119) (v := 0) rfl (by decide) rfl ?_
                  exact ev_ret f_X12_aOne rfl rfl rfl ⟨_, _, _, rfl, hI, hX, ⟨_, rfl, (by decide : (0:Int) ≤ (0:Int32).toInt), (Int.le_trans (by decide : (0:Int32).toInt ≤ (0:Int)) (by decide : (0:Int) ≤ 1)), (show (gi 69 14).toInt ≤ (gi771 69 14).toInt ∧ (0 = 1 → (gi771 69 12).toInt ≠ 0 → (gi 69 14).toInt < (gi771 69 14).toInt) ∧ (0 = 0 → (gi771 69 18).toInt ≠ 0) ∧ (0 = 1 → t_K b gi771 2) from ⟨(by omega), (by omega), (by omega), fun h => absurd h (by decide)⟩)⟩⟩
                · have r784 : w771.toInt ≠ 0 := fun e => h782 (Int32.toInt_inj.mp (e.trans (by decide : (0:Int) = (0 : Int32).toInt)))
                  have l785 : 1 ≤ w771.toInt := t_nel h782 l771 rfl rfl
                  refine ev_loc f_X12_aOne (nx := 121) rfl rfl rfl rfl ?_
                  refine ev_qN f_X12_aOne (nx := 124) (r := []) rfl rfl rfl rfl rfl rfl rfl (c_m_turnsRound hI  (b := b) (q771.2.2.2 (by omega))) rfl hX rfl (fun gi786 gl786 gr786 hI hX hC786 q786 => ?_)
                  have q786 : t_K (b) gi786 2 := q786
                  obtain ⟨l787, u787⟩ := hI.b (hI.wf.s (k := 69) rfl) (t_bdK rfl : t_bd 11 22 = some (0, 60))
                  obtain ⟨l788, u788⟩ := hI.b (hI.wf.s (k := 69) rfl) (t_bdK rfl : t_bd 11 23 = some (0, 6))
                  obtain ⟨l789, u789⟩ := hI.b (hI.wf.s (k := 69) rfl) (t_bdK rfl : t_bd 11 25 = some (0, 210))
                  have L790 : ∀ (m790 : Nat) (gi790 : Nat → Nat → Int32) (gl790 : Nat → Nat → Int64) (gr790 : Nat → Nat → Value) (y790_1 : Int32), t_I sh gi790 gr790 → t_X wl_m_aOne sh gi gl gr gi790 gl790 gr790 → 15 ≤ y790_1.toInt → y790_1.toInt ≤ 26 → t_K b gi790 2 → (gi 69 14).toInt ≤ (gi790 69 14).toInt → ((gi790 69 12).toInt ≠ 0 → (gi 69 14).toInt < (gi790 69 14).toInt) → (2 * (900 - (gi790 69 14).toInt) + min (gi790 69 12).toInt 1).toNat = m790 → x_Ev X (d + 6) n_X12_aOne 124 [(1, .int y790_1), (0, .ref 69)] [] (sh, gi790, gl790, gr790) (t_PI wl_m_aOne sh gi gl gr 0 1 (Q_m_aOne gi gl gr b)) := by
                    intro m790
                    induction m790 using Nat.strongRecOn with
                    | _ m790 ih790 =>
                    intro gi790 gl790 gr790 y790_1 hI hX l790_1 u790_1 j790_0 j790_1 j790_2 hm790
                    obtain ⟨l791, u791⟩ := hI.b (hI.wf.s (k := 69) rfl) (t_bdK rfl : t_bd 11 12 = some (0, 4))
                    obtain ⟨l792, u792⟩ := hI.b (hI.wf.s (k := 69) rfl) (t_bdK rfl : t_bd 11 14 = some (0, 900))
                    obtain ⟨l794, u794⟩ := hI.b (hI.wf.s (k := 69) rfl) (t_bdK rfl : t_bd 11 22 = some (0, 60))
                    obtain ⟨l795, u795⟩ := hI.b (hI.wf.s (k := 69) rfl) (t_bdK rfl : t_bd 11 23 = some (0, 6))
                    obtain ⟨l796, u796⟩ := hI.b (hI.wf.s (k := 69) rfl) (t_bdK rfl : t_bd 11 24 = some (0, 24))
                    obtain ⟨l797, u797⟩ := hI.b (hI.wf.s (k := 69) rfl) (t_bdK rfl : t_bd 11 25 = some (0, 210))
                    refine ev_loc f_X12_aOne (nx := 125) rfl rfl rfl rfl ?_
                    refine ev_bp f_X12_aOne (nx := 127) (v := 41) rfl (by decide) rfl ?_
                    refine ev_inV2 f_X12_aOne (nx := 130) (lo2 := [(0, .ref 69), (1, .int 41)]) rfl rfl rfl rfl f_X12_isSign (hI.wf.s rfl) rfl rfl rfl rfl rfl ?_
                    refine ev_loc f_X12_isSign (nx := 1) rfl rfl rfl rfl ?_
                    refine ev_gvI f_X12_isSign (nx := 4) (w := (gi790 69 12)) rfl (hI.wf.s rfl) rfl rfl rfl rfl ?_
                    refine ev_ic f_X12_isSign (nx := 5) (v := 4) rfl (by decide) rfl ?_
                    refine ev_if f_X12_isSign (t1 := 8) (t2 := 20) rfl rfl rfl (fun h798 => ?_) (fun h798 => ?_)
                    · have l799 : 4 ≤ (gi790 69 12).toInt := t_eql h798 (by decide : (4:Int) ≤ (4:Int32).toInt)
                      refine ev_loc f_X12_isSign (nx := 9) rfl rfl rfl rfl ?_
                      refine ev_getI f_X12_isSign (nx := 12) rfl (hI.wf.s rfl) rfl rfl rfl ?_
                      refine ev_loc f_X12_isSign (nx := 13) rfl rfl rfl rfl ?_
                      refine ev_if f_X12_isSign (t1 := 16) (t2 := 20) rfl rfl rfl (fun h800 => ?_) (fun h800 => ?_)
                      · have u801 : (gi790 69 15).toInt ≤ 41 := t_equ h800 (by decide : (41:Int32).toInt ≤ (41:Int))
                        have l802 : 41 ≤ (gi790 69 15).toInt := t_eql h800 (by decide : (41:Int) ≤ (41:Int32).toInt)
                        refine ev_ic f_X12_isSign (nx := 17) (v := 1) rfl (by decide) rfl ?_
                        refine ev_jmp f_X12_isSign (nx := 21) rfl rfl rfl ?_
                        refine ev_retK1 f_X12_isSign rfl rfl rfl ?_
                        refine ev_f f_X12_aOne (t1 := 187) (t2 := 133) rfl rfl rfl (by decide) ?_
                        refine ev_loc f_X12_aOne (nx := 134) rfl rfl rfl rfl ?_
                        refine ev_qI f_X12_aOne (nx := 137) (r := []) rfl rfl rfl rfl rfl rfl rfl (c_m_isWithin hI ) rfl hX rfl (fun w803 gi803 gl803 gr803 l803 u803 hI hX hC803 q803 => ?_)
                        have q803 : (w803.toInt = 1 → t_ex gi803) ∧ (w803.toInt = 0 → t_n40 gi803) := q803
                        refine ev_if f_X12_aOne (t1 := 187) (t2 := 140) rfl rfl rfl (fun h804 => ?_) (fun h804 => ?_)
                        · have u805 : w803.toInt ≤ 0 := t_equ h804 (by decide : (0:Int32).toInt ≤ (0:Int))
                          refine ev_ic f_X12_aOne (nx := 188) (v := 1) rfl (by decide) rfl ?_
                          exact ev_ret f_X12_aOne rfl rfl rfl ⟨_, _, _, rfl, hI, hX, ⟨_, rfl, (Int.le_trans (by decide : (0:Int) ≤ 1) (by decide : (1:Int) ≤ (1:Int32).toInt)), (by decide : (1:Int32).toInt ≤ (1:Int)), (show (gi 69 14).toInt ≤ (gi803 69 14).toInt ∧ (1 = 1 → (gi803 69 12).toInt ≠ 0 → (gi 69 14).toInt < (gi803 69 14).toInt) ∧ (1 = 0 → (gi803 69 18).toInt ≠ 0) ∧ (1 = 1 → t_K b gi803 2) from ⟨(by have ff810 : (gi803 69 14).toInt = (gi790 69 14).toInt := congrArg Int32.toInt ((hC803.1 69 14 rfl).1.trans rfl); omega), (by have ff811 : (gi803 69 12).toInt = (gi790 69 12).toInt := congrArg Int32.toInt ((hC803.1 69 12 rfl).1.trans rfl); have ff812 : (gi803 69 14).toInt = (gi790 69 14).toInt := congrArg Int32.toInt ((hC803.1 69 14 rfl).1.trans rfl); omega), (by have ff813 : (gi803 69 18).toInt = (gi790 69 18).toInt := congrArg Int32.toInt ((hC803.1 69 18 rfl).1.trans rfl); omega), fun _ => (t_K_ext j790_0 (show (gi803 69 22).toInt = (gi790 69 22).toInt from (by have ff806 : (gi803 69 22).toInt = (gi790 69 22).toInt := congrArg Int32.toInt ((hC803.1 69 22 rfl).1.trans rfl); omega)) (show (gi803 69 23).toInt = (gi790 69 23).toInt from (by have ff807 : (gi803 69 23).toInt = (gi790 69 23).toInt := congrArg Int32.toInt ((hC803.1 69 23 rfl).1.trans rfl); omega)) (show (gi803 69 24).toInt = (gi790 69 24).toInt from (by have ff808 : (gi803 69 24).toInt = (gi790 69 24).toInt := congrArg Int32.toInt ((hC803.1 69 24 rfl).1.trans rfl); omega)) (show (gi803 69 25).toInt = (gi790 69 25).toInt from (by have ff809 : (gi803 69 25).toInt = (gi790 69 25).toInt := congrArg Int32.toInt ((hC803.1 69 25 rfl).1.trans rfl); omega)) ((funext (fun j => (hC803.1 77 j rfl).1) : gi803 77 = gi790 77)) ((funext (fun j => (hC803.1 70 j rfl).1) : gi803 70 = gi790 70)))⟩)⟩⟩
                        · have r814 : w803.toInt ≠ 0 := fun e => h804 (Int32.toInt_inj.mp (e.trans (by decide : (0:Int) = (0 : Int32).toInt)))
                          have l815 : 1 ≤ w803.toInt := t_nel h804 l803 rfl rfl
                          have L816 : ∀ (m816 : Nat) (gi816 : Nat → Nat → Int32) (gl816 : Nat → Nat → Int64) (gr816 : Nat → Nat → Value), t_I sh gi816 gr816 → t_X wl_m_aOne sh gi gl gr gi816 gl816 gr816 → gi816 69 12 = (gi790 69 12) → gi816 69 14 = (gi790 69 14) → gi816 69 15 = (gi790 69 15) → gi816 69 18 = (gi790 69 18) → gi816 69 23 = (gi790 69 23) → gi816 69 24 = (gi790 69 24) → t_K b gi816 2 → t_ex gi816 → (gi 69 14).toInt ≤ (gi816 69 14).toInt → ((gi816 69 12).toInt ≠ 0 → (gi 69 14).toInt < (gi816 69 14).toInt) → (gi816 69 22).toInt.toNat = m816 → x_Ev X (d + 6) n_X12_aOne 140 [(1, .int y790_1), (0, .ref 69)] [] (sh, gi816, gl816, gr816) (t_PI wl_m_aOne sh gi gl gr 0 1 (Q_m_aOne gi gl gr b)) := by
                            intro m816
                            induction m816 using Nat.strongRecOn with
                            | _ m816 ih816 =>
                            intro gi816 gl816 gr816 hI hX c816_0 c816_1 c816_2 c816_3 c816_4 c816_5 j816_0 j816_1 j816_2 j816_3 hm816
                            have cf816_0 : (gi816 69 12).toInt = (gi790 69 12).toInt := congrArg Int32.toInt c816_0
                            have cf816_1 : (gi816 69 14).toInt = (gi790 69 14).toInt := congrArg Int32.toInt c816_1
                            have cf816_3 : (gi816 69 18).toInt = (gi790 69 18).toInt := congrArg Int32.toInt c816_3
                            have cf816_4 : (gi816 69 23).toInt = (gi790 69 23).toInt := congrArg Int32.toInt c816_4
                            have cf816_5 : (gi816 69 24).toInt = (gi790 69 24).toInt := congrArg Int32.toInt c816_5
                            obtain ⟨l817, u817⟩ := hI.b (hI.wf.s (k := 69) rfl) (t_bdK rfl : t_bd 11 22 = some (0, 60))
                            obtain ⟨l818, u818⟩ := hI.b (hI.wf.s (k := 69) rfl) (t_bdK rfl : t_bd 11 25 = some (0, 210))
                            have l819 : (1:Int) ≤ (gi816 69 22).toInt := by obtain ⟨j, hj, _⟩ := j816_1; omega
                            refine ev_loc f_X12_aOne (nx := 141) rfl rfl rfl rfl ?_
                            refine ev_bp f_X12_aOne (nx := 143) (v := 40) rfl (by decide) rfl ?_
                            refine ev_inV2 f_X12_aOne (nx := 146) (lo2 := [(0, .ref 69), (1, .int 40)]) rfl rfl rfl rfl f_X12_isDoing (hI.wf.s rfl) rfl rfl rfl rfl rfl ?_
                            refine ev_loc f_X12_isDoing (nx := 1) rfl rfl rfl rfl ?_
                            refine ev_gvI f_X12_isDoing (nx := 4) (w := (gi816 69 22)) rfl (hI.wf.s rfl) rfl rfl rfl rfl ?_
                            refine ev_f f_X12_isDoing (t1 := 26) (t2 := 7) rfl rfl rfl (t_leF (by decide : (0:Int32).toInt ≤ (0:Int)) l819 (by decide)) ?_
                            refine ev_loc f_X12_isDoing (nx := 8) rfl rfl rfl rfl ?_
                            refine ev_getR f_X12_isDoing (nx := 11) rfl (hI.wf.s rfl) rfl rfl (hI.wf.r rfl) rfl rfl ?_
                            refine ev_loc f_X12_isDoing (nx := 12) rfl rfl rfl rfl ?_
                            refine ev_gvI f_X12_isDoing (nx := 15) (w := (gi816 69 22)) rfl (hI.wf.s rfl) rfl rfl rfl rfl ?_
                            refine ev_ic f_X12_isDoing (nx := 16) (v := 1) rfl (by decide) rfl ?_
                            refine ev_subC f_X12_isDoing (nx := 17) (c := 1) (l := 0) (u := 59) rfl (by decide) l819 u817 rfl rfl (by decide) (by decide) rfl (fun z820 e820 l820 u820 => ?_)
                            refine ev_ialdT f_X12_isDoing (nx := 18) rfl (hI.wf.s rfl) l820 (by decide) u820 (by decide) rfl (fun w821 e821 => ?_)
                            refine ev_loc f_X12_isDoing (nx := 19) rfl rfl rfl rfl ?_
                            refine ev_if f_X12_isDoing (t1 := 22) (t2 := 26) rfl rfl rfl (fun h822 => ?_) (fun h822 => ?_)
                            · have u823 : w821.toInt ≤ 40 := t_equ h822 (by decide : (40:Int32).toInt ≤ (40:Int))
                              have l824 : 40 ≤ w821.toInt := t_eql h822 (by decide : (40:Int) ≤ (40:Int32).toInt)
                              refine ev_ic f_X12_isDoing (nx := 23) (v := 1) rfl (by decide) rfl ?_
                              refine ev_jmp f_X12_isDoing (nx := 27) rfl rfl rfl ?_
                              refine ev_retK1 f_X12_isDoing rfl rfl rfl ?_
                              refine ev_f f_X12_aOne (t1 := 149) (t2 := 156) rfl rfl rfl (by decide) ?_
                              refine ev_loc f_X12_aOne (nx := 157) rfl rfl rfl rfl ?_
                              refine ev_alu f_X12_aOne (nx := 158) rfl rfl rfl rfl ?_
                              refine ev_gvI f_X12_aOne (nx := 161) (w := (gi816 69 22)) rfl (hI.wf.s rfl) rfl rfl rfl rfl ?_
                              refine ev_ic f_X12_aOne (nx := 162) (v := 1) rfl (by decide) rfl ?_
                              refine ev_subC f_X12_aOne (nx := 163) (c := 1) (l := 0) (u := 59) rfl (by decide) l819 u817 rfl rfl (by decide) (by decide) rfl (fun z825 e825 l825 u825 => ?_)
                              refine ev_putIT f_X12_aOne (nx := 166) rfl (hI.wf.s rfl) rfl rfl rfl (hI.putB (hI.wf.s rfl) rfl rfl l825 (by decide) u825 (by decide)) (hX.upI rfl) (fun g826 e826 hI hX => ?_)
                              refine ev_loc f_X12_aOne (nx := 167) rfl rfl rfl rfl ?_
                              refine ev_alu f_X12_aOne (nx := 168) rfl rfl rfl rfl ?_
                              refine ev_gvI f_X12_aOne (nx := 171) (w := (gi790 69 23)) rfl (hI.wf.s rfl) rfl rfl ((by rw [e826]; exact x_up2_off (Or.inr (by decide)) : g826 69 23 = gi816 69 23).trans c816_4) rfl ?_
                              refine ev_ic f_X12_aOne (nx := 172) (v := 1) rfl (by decide) rfl ?_
                              refine ev_subC f_X12_aOne (nx := 173) (c := 1) (l := (-1)) (u := 5) rfl (by decide) l795 u795 rfl rfl (by decide) (by decide) rfl (fun z827 e827 l827 u827 => ?_)
                              have l829 : (0:Int) ≤ z827.toInt := (by have hw := t_K_w j816_0 (by omega) (by rw [← (by rw [e821]; have hc := t_clamp (i := z820) (by omega); have hx : z820.toNatClampNeg = (gi816 69 22).toInt.toNat - 1 := (by omega); rw [hx] : w821 = gi816 77 ((gi816 69 22).toInt.toNat - 1))]; omega); omega)
                              refine ev_putIT f_X12_aOne (nx := 176) rfl (hI.wf.s rfl) rfl rfl rfl (hI.putB (hI.wf.s rfl) rfl rfl l829 (by decide) u827 (by decide)) (hX.upI rfl) (fun g828 e828 hI hX => ?_)
                              refine ev_loc f_X12_aOne (nx := 177) rfl rfl rfl rfl ?_
                              refine ev_qN f_X12_aOne (nx := 180) (r := []) rfl rfl rfl rfl rfl rfl rfl (c_m_ahead2 hI ) rfl hX rfl (fun gi830 gl830 gr830 hI hX hC830 q830 => ?_)
                              have ff831 : (g828 69 14).toInt = (gi790 69 14).toInt := congrArg Int32.toInt ((by rw [e828]; exact x_up2_off (Or.inr (by decide)) : g828 69 14 = g826 69 14).trans ((by rw [e826]; exact x_up2_off (Or.inr (by decide)) : g826 69 14 = gi816 69 14).trans c816_1))
                              have q830 : (g828 69 14).toInt ≤ (gi830 69 14).toInt ∧ ((gi830 69 12).toInt ≠ 0 → (g828 69 14).toInt < (gi830 69 14).toInt) ∧ ((gi830 69 12).toInt = 3 → 0 ≤ (gi830 69 15).toInt) := q830
                              obtain ⟨l832, u832⟩ := hI.b (hI.wf.s (k := 69) rfl) (t_bdK rfl : t_bd 11 12 = some (0, 4))
                              obtain ⟨l833, u833⟩ := hI.b (hI.wf.s (k := 69) rfl) (t_bdK rfl : t_bd 11 14 = some (0, 900))
                              refine ev_loc f_X12_aOne (nx := 181) rfl rfl rfl rfl ?_
                              refine ev_qN f_X12_aOne (nx := 184) (r := []) rfl rfl rfl rfl rfl rfl rfl (c_m_turnsRound hI  (b := b) (t_K_par j816_0 (by omega) (by rw [← (by rw [e821]; have hc := t_clamp (i := z820) (by omega); have hx : z820.toNatClampNeg = (gi816 69 22).toInt.toNat - 1 := (by omega); rw [hx] : w821 = gi816 77 ((gi816 69 22).toInt.toNat - 1))]; omega) (show (gi830 69 22).toInt = (gi816 69 22).toInt - 1 from (by have ff835 : (gi830 69 22).toInt = z825.toInt := congrArg Int32.toInt ((hC830.1 69 22 rfl).1.trans ((by rw [e828]; exact x_up2_off (Or.inr (by decide)) : g828 69 22 = g826 69 22).trans (by rw [e826]; exact x_up2_at _ _ _ _ : g826 69 22 = z825))); omega)) (show (gi830 69 23).toInt = (gi816 69 23).toInt - 1 from (by have ff836 : (gi830 69 23).toInt = z827.toInt := congrArg Int32.toInt ((hC830.1 69 23 rfl).1.trans (by rw [e828]; exact x_up2_at _ _ _ _ : g828 69 23 = z827)); omega)) (show (gi830 69 24).toInt = (gi816 69 24).toInt from (by have ff837 : (gi830 69 24).toInt = (gi790 69 24).toInt := congrArg Int32.toInt ((hC830.1 69 24 rfl).1.trans ((by rw [e828]; exact x_up2_off (Or.inr (by decide)) : g828 69 24 = g826 69 24).trans ((by rw [e826]; exact x_up2_off (Or.inr (by decide)) : g826 69 24 = gi816 69 24).trans c816_5))); omega)) (show (gi830 69 25).toInt = (gi816 69 25).toInt from (by have ff838 : (gi830 69 25).toInt = (gi816 69 25).toInt := congrArg Int32.toInt ((hC830.1 69 25 rfl).1.trans ((by rw [e828]; exact x_up2_off (Or.inr (by decide)) : g828 69 25 = g826 69 25).trans ((by rw [e826]; exact x_up2_off (Or.inr (by decide)) : g826 69 25 = gi816 69 25).trans rfl))); omega)) ((funext (fun j => (hC830.1 77 j rfl).1) : gi830 77 = g828 77).trans ((by rw [e828]; exact x_up2_ne (by decide) : g828 77 = g826 77).trans ((by rw [e826]; exact x_up2_ne (by decide) : g826 77 = gi816 77)))) ((funext (fun j => (hC830.1 70 j rfl).1) : gi830 70 = g828 70).trans ((by rw [e828]; exact x_up2_ne (by decide) : g828 70 = g826 70).trans ((by rw [e826]; exact x_up2_ne (by decide) : g826 70 = gi816 70)))))) rfl hX rfl (fun gi834 gl834 gr834 hI hX hC834 q834 => ?_)
                              have q834 : t_K (b) gi834 2 := q834
                              obtain ⟨l839, u839⟩ := hI.b (hI.wf.s (k := 69) rfl) (t_bdK rfl : t_bd 11 22 = some (0, 60))
                              obtain ⟨l840, u840⟩ := hI.b (hI.wf.s (k := 69) rfl) (t_bdK rfl : t_bd 11 23 = some (0, 6))
                              obtain ⟨l841, u841⟩ := hI.b (hI.wf.s (k := 69) rfl) (t_bdK rfl : t_bd 11 25 = some (0, 210))
                              refine ev_jmp f_X12_aOne (nx := 124) rfl rfl rfl ?_
                              refine ev_sub (lo := [(1, .int y790_1), (0, .ref 69)]) rfl (t_sc rfl (t_sc rfl t_sn)) ?_
                              exact ih790 _ (by have ff845 : (gi834 69 14).toInt = (gi830 69 14).toInt := congrArg Int32.toInt ((hC834.1 69 14 rfl).1.trans rfl); have ff846 : (gi834 69 12).toInt = (gi830 69 12).toInt := congrArg Int32.toInt ((hC834.1 69 12 rfl).1.trans rfl); omega) gi834 gl834 gr834 (y790_1) hI hX  l790_1 u790_1 q834 (by have ff842 : (gi834 69 14).toInt = (gi830 69 14).toInt := congrArg Int32.toInt ((hC834.1 69 14 rfl).1.trans rfl); omega) (by have ff843 : (gi834 69 12).toInt = (gi830 69 12).toInt := congrArg Int32.toInt ((hC834.1 69 12 rfl).1.trans rfl); have ff844 : (gi834 69 14).toInt = (gi830 69 14).toInt := congrArg Int32.toInt ((hC834.1 69 14 rfl).1.trans rfl); omega) rfl
                            · have r847 : w821.toInt ≠ 40 := fun e => h822 (Int32.toInt_inj.mp (e.trans (by decide : (40:Int) = (40 : Int32).toInt)))
                              refine ev_ic f_X12_isDoing (nx := 27) (v := 0) rfl (by decide) rfl ?_
                              refine ev_retK1 f_X12_isDoing rfl rfl rfl ?_
                              refine ev_t f_X12_aOne (t1 := 149) (t2 := 156) rfl rfl rfl (by decide) ?_
                              refine ev_loc f_X12_aOne (nx := 150) rfl rfl rfl rfl ?_
                              refine ev_inV1 f_X12_aOne (nx := 153) (lo2 := [(0, .ref 69)]) rfl rfl rfl rfl f_X12_joins (hI.wf.s rfl) rfl rfl rfl rfl rfl ?_
                              have kn848 := t_K_num j816_0
                              refine ev_loc f_X12_joins (nx := 1) rfl rfl rfl rfl ?_
                              refine ev_alu f_X12_joins (nx := 2) rfl rfl rfl rfl ?_
                              refine ev_gvI f_X12_joins (nx := 5) (w := (gi816 69 22)) rfl (hI.wf.s rfl) rfl rfl rfl rfl ?_
                              refine ev_ic f_X12_joins (nx := 6) (v := 1) rfl (by decide) rfl ?_
                              refine ev_subC f_X12_joins (nx := 7) (c := 1) (l := 0) (u := 59) rfl (by decide) l819 u817 rfl rfl (by decide) (by decide) rfl (fun z849 e849 l849 u849 => ?_)
                              refine ev_putIT f_X12_joins (nx := 10) rfl (hI.wf.s rfl) rfl rfl rfl (hI.putB (hI.wf.s rfl) rfl rfl l849 (by decide) u849 (by decide)) (hX.upI rfl) (fun g850 e850 hI hX => ?_)
                              refine ev_loc f_X12_joins (nx := 11) rfl rfl rfl rfl ?_
                              refine ev_loc f_X12_joins (nx := 12) rfl rfl rfl rfl ?_
                              refine ev_getR f_X12_joins (nx := 15) rfl (hI.wf.s rfl) rfl rfl (hI.wf.r rfl) rfl rfl ?_
                              refine ev_loc f_X12_joins (nx := 16) rfl rfl rfl rfl ?_
                              refine ev_gvI f_X12_joins (nx := 19) (w := z849) rfl (hI.wf.s rfl) rfl rfl (by rw [e850]; exact x_up2_at _ _ _ _ : g850 69 22 = z849) rfl ?_
                              refine ev_ialdT f_X12_joins (nx := 20) rfl (hI.wf.s rfl) l849 (by decide) u849 (by decide) rfl (fun w851 e851 => ?_)
                              refine ev_inV2 f_X12_joins (nx := 23) (lo2 := [(0, .ref 69), (1, .int w851)]) rfl rfl rfl rfl f_X12_asksAlso (hI.wf.s rfl) rfl rfl rfl rfl rfl ?_
                              have kn852 := t_K_num j816_0
                              refine ev_loc f_X12_asksAlso (nx := 1) rfl rfl rfl rfl ?_
                              refine ev_getR f_X12_asksAlso (nx := 4) rfl (hI.wf.s rfl) rfl rfl (hI.wf.r rfl) rfl rfl ?_
                              refine ev_sp f_X12_asksAlso (nx := 7) (v := 1540) rfl (by decide) rfl ?_
                              refine ev_loc f_X12_asksAlso (nx := 8) rfl rfl rfl rfl ?_
                              refine ev_gvI f_X12_asksAlso (nx := 11) (w := (gi816 69 25)) rfl (hI.wf.s rfl) rfl rfl ((by rw [e850]; exact x_up2_off (Or.inr (by decide)) : g850 69 25 = gi816 69 25).trans rfl) rfl ?_
                              refine ev_addK f_X12_asksAlso (nx := 12) (c := 1540) (l := 1540) (u := 1750) rfl (by decide) l818 u818 rfl rfl (by decide) (by decide) rfl (fun z853 e853 l853 u853 => ?_)
                              refine ev_loc f_X12_asksAlso (nx := 13) rfl rfl rfl rfl ?_
                              refine ev_iastT f_X12_asksAlso (nx := 14) rfl (hI.wf.s rfl) l853 (by decide) u853 (by decide) rfl (hI.astL (hI.wf.s rfl) (by decide +kernel : t_abw 70 1540 1750 (-2147483648) 2147483647 = true) (t_cl1 l853 (by decide)) (t_cl2 l853 u853 (by decide) (by decide)) (t_lo w851) (t_hi w851) rfl) (hX.upI (t_inR (p := 1540) (m := 1750) rfl l853 (by decide) u853 (by decide) (by decide))) (fun g854 e854 hI hX => ?_)
                              refine ev_loc f_X12_asksAlso (nx := 15) rfl rfl rfl rfl ?_
                              refine ev_alu f_X12_asksAlso (nx := 16) rfl rfl rfl rfl ?_
                              refine ev_gvI f_X12_asksAlso (nx := 19) (w := (gi816 69 25)) rfl (hI.wf.s rfl) rfl rfl ((by rw [e854]; exact x_up2_off (Or.inl (by decide)) : g854 69 25 = g850 69 25).trans ((by rw [e850]; exact x_up2_off (Or.inr (by decide)) : g850 69 25 = gi816 69 25).trans rfl)) rfl ?_
                              refine ev_ic f_X12_asksAlso (nx := 20) (v := 1) rfl (by decide) rfl ?_
                              refine ev_addC f_X12_asksAlso (nx := 21) (c := 1) (l := 1) (u := 211) rfl (by decide) l818 u818 rfl rfl (by decide) (by decide) rfl (fun z855 e855 l855 u855 => ?_)
                              have u857 : z855.toInt ≤ (210:Int) := (by omega)
                              refine ev_putIT f_X12_asksAlso (nx := 24) rfl (hI.wf.s rfl) rfl rfl rfl (hI.putB (hI.wf.s rfl) rfl rfl l855 (by decide) u857 (by decide)) (hX.upI rfl) (fun g856 e856 hI hX => ?_)
                              refine ev_retK0 f_X12_asksAlso rfl rfl rfl ?_
                              refine ev_retK0 f_X12_joins rfl rfl rfl ?_
                              refine ev_jmp f_X12_aOne (nx := 140) rfl rfl rfl ?_
                              refine ev_sub (lo := [(1, .int y790_1), (0, .ref 69)]) rfl (t_sc rfl (t_sc rfl t_sn)) ?_
                              exact ih816 _ (by have ff866 : (g856 69 22).toInt = z849.toInt := congrArg Int32.toInt ((by rw [e856]; exact x_up2_off (Or.inr (by decide)) : g856 69 22 = g854 69 22).trans ((by rw [e854]; exact x_up2_off (Or.inl (by decide)) : g854 69 22 = g850 69 22).trans (by rw [e850]; exact x_up2_at _ _ _ _ : g850 69 22 = z849))); omega) g856 gl816 gr816  hI hX  ((by rw [e856]; exact x_up2_off (Or.inr (by decide)) : g856 69 12 = g854 69 12).trans ((by rw [e854]; exact x_up2_off (Or.inl (by decide)) : g854 69 12 = g850 69 12).trans ((by rw [e850]; exact x_up2_off (Or.inr (by decide)) : g850 69 12 = gi816 69 12).trans c816_0))) ((by rw [e856]; exact x_up2_off (Or.inr (by decide)) : g856 69 14 = g854 69 14).trans ((by rw [e854]; exact x_up2_off (Or.inl (by decide)) : g854 69 14 = g850 69 14).trans ((by rw [e850]; exact x_up2_off (Or.inr (by decide)) : g850 69 14 = gi816 69 14).trans c816_1))) ((by rw [e856]; exact x_up2_off (Or.inr (by decide)) : g856 69 15 = g854 69 15).trans ((by rw [e854]; exact x_up2_off (Or.inl (by decide)) : g854 69 15 = g850 69 15).trans ((by rw [e850]; exact x_up2_off (Or.inr (by decide)) : g850 69 15 = gi816 69 15).trans c816_2))) ((by rw [e856]; exact x_up2_off (Or.inr (by decide)) : g856 69 18 = g854 69 18).trans ((by rw [e854]; exact x_up2_off (Or.inl (by decide)) : g854 69 18 = g850 69 18).trans ((by rw [e850]; exact x_up2_off (Or.inr (by decide)) : g850 69 18 = gi816 69 18).trans c816_3))) ((by rw [e856]; exact x_up2_off (Or.inr (by decide)) : g856 69 23 = g854 69 23).trans ((by rw [e854]; exact x_up2_off (Or.inl (by decide)) : g854 69 23 = g850 69 23).trans ((by rw [e850]; exact x_up2_off (Or.inr (by decide)) : g850 69 23 = gi816 69 23).trans c816_4))) ((by rw [e856]; exact x_up2_off (Or.inr (by decide)) : g856 69 24 = g854 69 24).trans ((by rw [e854]; exact x_up2_off (Or.inl (by decide)) : g854 69 24 = g850 69 24).trans ((by rw [e850]; exact x_up2_off (Or.inr (by decide)) : g850 69 24 = gi816 69 24).trans c816_5))) (by have ht := (by rw [e851]; have hc := t_clamp (i := z849) (by omega); have hx : z849.toNatClampNeg = (gi816 69 22).toInt.toNat - 1 := (by omega); rw [hx]; exact congrFun (((by rw [e850]; exact x_up2_ne (by decide) : g850 77 = gi816 77))) _ : w851 = gi816 77 ((gi816 69 22).toInt.toNat - 1)); have ho := (t_one (p := 1540 + (gi816 69 25).toInt.toNat) ((by rw [e850]; exact x_up2_ne (by decide) : g850 70 = gi816 70)) e854 ((by rw [e856]; exact x_up2_ne (by decide) : g856 70 = g854 70)) (by have hc := t_clamp (i := z853) (by omega); omega)); exact t_K_bin j816_0 (by omega) (t_K_top j816_0 (by omega) (by rw [← (by rw [e821]; have hc := t_clamp (i := z820) (by omega); have hx : z820.toNatClampNeg = (gi816 69 22).toInt.toNat - 1 := (by omega); rw [hx] : w821 = gi816 77 ((gi816 69 22).toInt.toNat - 1))]; omega)) (show (g856 69 22).toInt = (gi816 69 22).toInt - 1 from (by have ff858 : (g856 69 22).toInt = z849.toInt := congrArg Int32.toInt ((by rw [e856]; exact x_up2_off (Or.inr (by decide)) : g856 69 22 = g854 69 22).trans ((by rw [e854]; exact x_up2_off (Or.inl (by decide)) : g854 69 22 = g850 69 22).trans (by rw [e850]; exact x_up2_at _ _ _ _ : g850 69 22 = z849))); omega)) (show (g856 69 23).toInt = (gi816 69 23).toInt from (by have ff859 : (g856 69 23).toInt = (gi790 69 23).toInt := congrArg Int32.toInt ((by rw [e856]; exact x_up2_off (Or.inr (by decide)) : g856 69 23 = g854 69 23).trans ((by rw [e854]; exact x_up2_off (Or.inl (by decide)) : g854 69 23 = g850 69 23).trans ((by rw [e850]; exact x_up2_off (Or.inr (by decide)) : g850 69 23 = gi816 69 23).trans c816_4))); omega)) (show (g856 69 24).toInt = (gi816 69 24).toInt from (by have ff860 : (g856 69 24).toInt = (gi790 69 24).toInt := congrArg Int32.toInt ((by rw [e856]; exact x_up2_off (Or.inr (by decide)) : g856 69 24 = g854 69 24).trans ((by rw [e854]; exact x_up2_off (Or.inl (by decide)) : g854 69 24 = g850 69 24).trans ((by rw [e850]; exact x_up2_off (Or.inr (by decide)) : g850 69 24 = gi816 69 24).trans c816_5))); omega)) (show (g856 69 25).toInt = (gi816 69 25).toInt + 1 from (by have ff861 : (g856 69 25).toInt = z855.toInt := congrArg Int32.toInt (by rw [e856]; exact x_up2_at _ _ _ _ : g856 69 25 = z855); omega)) ((by rw [e856]; exact x_up2_ne (by decide) : g856 77 = g854 77).trans ((by rw [e854]; exact x_up2_ne (by decide) : g854 77 = g850 77).trans ((by rw [e850]; exact x_up2_ne (by decide) : g850 77 = gi816 77)))) ho.1 (ho.2.trans ht)) (by obtain ⟨j, hj, hv⟩ := j816_1; have ht := (by rw [e821]; have hc := t_clamp (i := z820) (by omega); have hx : z820.toNatClampNeg = (gi816 69 22).toInt.toNat - 1 := (by omega); rw [hx] : w821 = gi816 77 ((gi816 69 22).toInt.toNat - 1)); have ff862 : (g856 69 22).toInt = z849.toInt := congrArg Int32.toInt ((by rw [e856]; exact x_up2_off (Or.inr (by decide)) : g856 69 22 = g854 69 22).trans ((by rw [e854]; exact x_up2_off (Or.inl (by decide)) : g854 69 22 = g850 69 22).trans (by rw [e850]; exact x_up2_at _ _ _ _ : g850 69 22 = z849))); refine ⟨j, ?_, (congrArg Int32.toInt (congrFun ((by rw [e856]; exact x_up2_ne (by decide) : g856 77 = g854 77).trans ((by rw [e854]; exact x_up2_ne (by decide) : g854 77 = g850 77).trans ((by rw [e850]; exact x_up2_ne (by decide) : g850 77 = gi816 77)))) j)).trans hv⟩; have hne : j ≠ (gi816 69 22).toInt.toNat - 1 := (fun e => by rw [e, ← ht] at hv; omega); omega) (by have ff863 : (g856 69 14).toInt = (gi790 69 14).toInt := congrArg Int32.toInt ((by rw [e856]; exact x_up2_off (Or.inr (by decide)) : g856 69 14 = g854 69 14).trans ((by rw [e854]; exact x_up2_off (Or.inl (by decide)) : g854 69 14 = g850 69 14).trans ((by rw [e850]; exact x_up2_off (Or.inr (by decide)) : g850 69 14 = gi816 69 14).trans c816_1))); omega) (by have ff864 : (g856 69 12).toInt = (gi790 69 12).toInt := congrArg Int32.toInt ((by rw [e856]; exact x_up2_off (Or.inr (by decide)) : g856 69 12 = g854 69 12).trans ((by rw [e854]; exact x_up2_off (Or.inl (by decide)) : g854 69 12 = g850 69 12).trans ((by rw [e850]; exact x_up2_off (Or.inr (by decide)) : g850 69 12 = gi816 69 12).trans c816_0))); have ff865 : (g856 69 14).toInt = (gi790 69 14).toInt := congrArg Int32.toInt ((by rw [e856]; exact x_up2_off (Or.inr (by decide)) : g856 69 14 = g854 69 14).trans ((by rw [e854]; exact x_up2_off (Or.inl (by decide)) : g854 69 14 = g850 69 14).trans ((by rw [e850]; exact x_up2_off (Or.inr (by decide)) : g850 69 14 = gi816 69 14).trans c816_1))); omega) rfl
                          refine ev_sub (lo := [(1, .int y790_1), (0, .ref 69)]) rfl (t_sc rfl (t_sc rfl t_sn)) ?_
                          exact L816 _ gi803 gl803 gr803  hI hX  ((hC803.1 69 12 rfl).1.trans rfl) ((hC803.1 69 14 rfl).1.trans rfl) ((hC803.1 69 15 rfl).1.trans rfl) ((hC803.1 69 18 rfl).1.trans rfl) ((hC803.1 69 23 rfl).1.trans rfl) ((hC803.1 69 24 rfl).1.trans rfl) (t_K_ext j790_0 (show (gi803 69 22).toInt = (gi790 69 22).toInt from (by have ff867 : (gi803 69 22).toInt = (gi790 69 22).toInt := congrArg Int32.toInt ((hC803.1 69 22 rfl).1.trans rfl); omega)) (show (gi803 69 23).toInt = (gi790 69 23).toInt from (by have ff868 : (gi803 69 23).toInt = (gi790 69 23).toInt := congrArg Int32.toInt ((hC803.1 69 23 rfl).1.trans rfl); omega)) (show (gi803 69 24).toInt = (gi790 69 24).toInt from (by have ff869 : (gi803 69 24).toInt = (gi790 69 24).toInt := congrArg Int32.toInt ((hC803.1 69 24 rfl).1.trans rfl); omega)) (show (gi803 69 25).toInt = (gi790 69 25).toInt from (by have ff870 : (gi803 69 25).toInt = (gi790 69 25).toInt := congrArg Int32.toInt ((hC803.1 69 25 rfl).1.trans rfl); omega)) ((funext (fun j => (hC803.1 77 j rfl).1) : gi803 77 = gi790 77)) ((funext (fun j => (hC803.1 70 j rfl).1) : gi803 70 = gi790 70))) (q803.1 (by omega)) (by have ff871 : (gi803 69 14).toInt = (gi790 69 14).toInt := congrArg Int32.toInt ((hC803.1 69 14 rfl).1.trans rfl); omega) (by have ff872 : (gi803 69 12).toInt = (gi790 69 12).toInt := congrArg Int32.toInt ((hC803.1 69 12 rfl).1.trans rfl); have ff873 : (gi803 69 14).toInt = (gi790 69 14).toInt := congrArg Int32.toInt ((hC803.1 69 14 rfl).1.trans rfl); omega) rfl
                      · have r874 : (gi790 69 15).toInt ≠ 41 := fun e => h800 (Int32.toInt_inj.mp (e.trans (by decide : (41:Int) = (41 : Int32).toInt)))
                        refine ev_ic f_X12_isSign (nx := 21) (v := 0) rfl (by decide) rfl ?_
                        refine ev_retK1 f_X12_isSign rfl rfl rfl ?_
                        refine ev_t f_X12_aOne (t1 := 187) (t2 := 133) rfl rfl rfl (by decide) ?_
                        refine ev_ic f_X12_aOne (nx := 188) (v := 1) rfl (by decide) rfl ?_
                        exact ev_ret f_X12_aOne rfl rfl rfl ⟨_, _, _, rfl, hI, hX, ⟨_, rfl, (Int.le_trans (by decide : (0:Int) ≤ 1) (by decide : (1:Int) ≤ (1:Int32).toInt)), (by decide : (1:Int32).toInt ≤ (1:Int)), (show (gi 69 14).toInt ≤ (gi790 69 14).toInt ∧ (1 = 1 → (gi790 69 12).toInt ≠ 0 → (gi 69 14).toInt < (gi790 69 14).toInt) ∧ (1 = 0 → (gi790 69 18).toInt ≠ 0) ∧ (1 = 1 → t_K b gi790 2) from ⟨(by omega), (by omega), (by omega), fun _ => j790_0⟩)⟩⟩
                    · have r875 : (gi790 69 12).toInt ≠ 4 := fun e => h798 (Int32.toInt_inj.mp (e.trans (by decide : (4:Int) = (4 : Int32).toInt)))
                      have u876 : (gi790 69 12).toInt ≤ 3 := t_neu h798 u791 rfl rfl
                      refine ev_ic f_X12_isSign (nx := 21) (v := 0) rfl (by decide) rfl ?_
                      refine ev_retK1 f_X12_isSign rfl rfl rfl ?_
                      refine ev_t f_X12_aOne (t1 := 187) (t2 := 133) rfl rfl rfl (by decide) ?_
                      refine ev_ic f_X12_aOne (nx := 188) (v := 1) rfl (by decide) rfl ?_
                      exact ev_ret f_X12_aOne rfl rfl rfl ⟨_, _, _, rfl, hI, hX, ⟨_, rfl, (Int.le_trans (by decide : (0:Int) ≤ 1) (by decide : (1:Int) ≤ (1:Int32).toInt)), (by decide : (1:Int32).toInt ≤ (1:Int)), (show (gi 69 14).toInt ≤ (gi790 69 14).toInt ∧ (1 = 1 → (gi790 69 12).toInt ≠ 0 → (gi 69 14).toInt < (gi790 69 14).toInt) ∧ (1 = 0 → (gi790 69 18).toInt ≠ 0) ∧ (1 = 1 → t_K b gi790 2) from ⟨(by omega), (by omega), (by omega), fun _ => j790_0⟩)⟩⟩
                  refine ev_sub (lo := [(1, .int w512), (0, .ref 69)]) rfl (t_sc rfl (t_sc rfl t_sn)) ?_
                  exact L790 _ gi786 gl786 gr786 (w512) hI hX  (Int.le_trans (by decide : (15:Int) ≤ 22) l768) u770 q786 (by have ff877 : (gi786 69 14).toInt = (gi771 69 14).toInt := congrArg Int32.toInt ((hC786.1 69 14 rfl).1.trans rfl); omega) (by have ff878 : (gi786 69 12).toInt = (gi771 69 12).toInt := congrArg Int32.toInt ((hC786.1 69 12 rfl).1.trans rfl); have ff879 : (gi786 69 14).toInt = (gi771 69 14).toInt := congrArg Int32.toInt ((hC786.1 69 14 rfl).1.trans rfl); omega) rfl
              · have l880 : 27 ≤ w512.toInt := t_ltl (t_nle h769) (by decide : (26:Int) ≤ (26:Int32).toInt) rfl
                refine ev_loc f_X12_aOne (nx := 105) rfl rfl rfl rfl ?_
                refine ev_ic f_X12_aOne (nx := 106) (v := 2) rfl (by decide) rfl ?_
                refine ev_inV2 f_X12_aOne (nx := 109) (lo2 := [(0, .ref 69), (1, .int 2)]) rfl rfl rfl rfl f_X12_fails (hI.wf.s rfl) rfl rfl rfl rfl rfl ?_
                refine ev_loc f_X12_fails (nx := 1) rfl rfl rfl rfl ?_
                refine ev_gvI f_X12_fails (nx := 4) (w := (gi 69 18)) rfl (hI.wf.s rfl) rfl rfl ((hC512.1 69 18 rfl).1.trans ((hC13.1 69 18 rfl).1.trans c8_0)) rfl ?_
                refine ev_if f_X12_fails (t1 := 7) (t2 := 32) rfl rfl rfl (fun h881 => ?_) (fun h881 => ?_)
                · have u882 : (gi 69 18).toInt ≤ 0 := t_equ h881 (by decide : (0:Int32).toInt ≤ (0:Int))
                  have l883 : 0 ≤ (gi 69 18).toInt := t_eql h881 (by decide : (0:Int) ≤ (0:Int32).toInt)
                  refine ev_loc f_X12_fails (nx := 8) rfl rfl rfl rfl ?_
                  refine ev_loc f_X12_fails (nx := 9) rfl rfl rfl rfl ?_
                  refine ev_gvI f_X12_fails (nx := 12) (w := (gi8 69 12)) rfl (hI.wf.s rfl) rfl rfl ((hC512.1 69 12 rfl).1.trans ((hC13.1 69 12 rfl).1.trans rfl)) rfl ?_
                  refine ev_ic f_X12_fails (nx := 13) (v := 1) rfl (by decide) rfl ?_
                  refine ev_if f_X12_fails (t1 := 16) (t2 := 20) rfl rfl rfl (fun h884 => ?_) (fun h884 => ?_)
                  · have u885 : (gi8 69 12).toInt ≤ 1 := t_equ h884 (by decide : (1:Int32).toInt ≤ (1:Int))
                    have l886 : 1 ≤ (gi8 69 12).toInt := t_eql h884 (by decide : (1:Int) ≤ (1:Int32).toInt)
                    refine ev_ic f_X12_fails (nx := 17) (v := 1) rfl (by decide) rfl ?_
                    refine ev_jmp f_X12_fails (nx := 21) rfl rfl rfl ?_
                    refine ev_putIT f_X12_fails (nx := 24) rfl (hI.wf.s rfl) rfl rfl rfl (hI.put0 (hI.wf.s rfl) rfl rfl) (hX.upI rfl) (fun g887 e887 hI hX => ?_)
                    refine ev_loc f_X12_fails (nx := 25) rfl rfl rfl rfl ?_
                    refine ev_loc f_X12_fails (nx := 26) rfl rfl rfl rfl ?_
                    refine ev_getI f_X12_fails (nx := 29) rfl (hI.wf.s rfl) rfl rfl rfl ?_
                    obtain ⟨l888, u888⟩ := hI.b (hI.wf.s (k := 69) rfl) (t_bdK rfl : t_bd 11 13 = some (0, 900))
                    refine ev_putIT f_X12_fails (nx := 32) rfl (hI.wf.s rfl) rfl rfl rfl (hI.put0 (hI.wf.s rfl) rfl rfl) (hX.upI rfl) (fun g889 e889 hI hX => ?_)
                    refine ev_ic f_X12_fails (nx := 33) (v := 0) rfl (by decide) rfl ?_
                    refine ev_retK1 f_X12_fails rfl rfl rfl ?_
                    exact ev_ret f_X12_aOne rfl rfl rfl ⟨_, _, _, rfl, hI, hX, ⟨_, rfl, (by decide : (0:Int) ≤ (0:Int32).toInt), (Int.le_trans (by decide : (0:Int32).toInt ≤ (0:Int)) (by decide : (0:Int) ≤ 1)), (show (gi 69 14).toInt ≤ (g889 69 14).toInt ∧ (0 = 1 → (g889 69 12).toInt ≠ 0 → (gi 69 14).toInt < (g889 69 14).toInt) ∧ (0 = 0 → (g889 69 18).toInt ≠ 0) ∧ (0 = 1 → t_K b g889 2) from ⟨(by have ff890 : (g889 69 14).toInt = (gi8 69 14).toInt := congrArg Int32.toInt ((by rw [e889]; exact x_up2_off (Or.inr (by decide)) : g889 69 14 = g887 69 14).trans ((by rw [e887]; exact x_up2_off (Or.inr (by decide)) : g887 69 14 = gi512 69 14).trans ((hC512.1 69 14 rfl).1.trans ((hC13.1 69 14 rfl).1.trans rfl)))); omega), (by have ff891 : (g889 69 12).toInt = (gi8 69 12).toInt := congrArg Int32.toInt ((by rw [e889]; exact x_up2_off (Or.inr (by decide)) : g889 69 12 = g887 69 12).trans ((by rw [e887]; exact x_up2_off (Or.inr (by decide)) : g887 69 12 = gi512 69 12).trans ((hC512.1 69 12 rfl).1.trans ((hC13.1 69 12 rfl).1.trans rfl)))); have ff892 : (g889 69 14).toInt = (gi8 69 14).toInt := congrArg Int32.toInt ((by rw [e889]; exact x_up2_off (Or.inr (by decide)) : g889 69 14 = g887 69 14).trans ((by rw [e887]; exact x_up2_off (Or.inr (by decide)) : g887 69 14 = gi512 69 14).trans ((hC512.1 69 14 rfl).1.trans ((hC13.1 69 14 rfl).1.trans rfl)))); omega), (by have ff893 : (g889 69 18).toInt = 1 := (congrArg Int32.toInt ((by rw [e889]; exact x_up2_off (Or.inr (by decide)) : g889 69 18 = g887 69 18).trans (by rw [e887]; exact x_up2_at _ _ _ _ : g887 69 18 = 1))).trans (by decide); omega), fun h => absurd h (by decide)⟩)⟩⟩
                  · have r894 : (gi8 69 12).toInt ≠ 1 := fun e => h884 (Int32.toInt_inj.mp (e.trans (by decide : (1:Int) = (1 : Int32).toInt)))
                    refine ev_loc f_X12_fails (nx := 21) rfl rfl rfl rfl ?_
                    refine ev_putIT f_X12_fails (nx := 24) rfl (hI.wf.s rfl) rfl rfl rfl (hI.put0 (hI.wf.s rfl) rfl rfl) (hX.upI rfl) (fun g895 e895 hI hX => ?_)
                    refine ev_loc f_X12_fails (nx := 25) rfl rfl rfl rfl ?_
                    refine ev_loc f_X12_fails (nx := 26) rfl rfl rfl rfl ?_
                    refine ev_getI f_X12_fails (nx := 29) rfl (hI.wf.s rfl) rfl rfl rfl ?_
                    obtain ⟨l896, u896⟩ := hI.b (hI.wf.s (k := 69) rfl) (t_bdK rfl : t_bd 11 13 = some (0, 900))
                    refine ev_putIT f_X12_fails (nx := 32) rfl (hI.wf.s rfl) rfl rfl rfl (hI.put0 (hI.wf.s rfl) rfl rfl) (hX.upI rfl) (fun g897 e897 hI hX => ?_)
                    refine ev_ic f_X12_fails (nx := 33) (v := 0) rfl (by decide) rfl ?_
                    refine ev_retK1 f_X12_fails rfl rfl rfl ?_
                    exact ev_ret f_X12_aOne rfl rfl rfl ⟨_, _, _, rfl, hI, hX, ⟨_, rfl, (by decide : (0:Int) ≤ (0:Int32).toInt), (Int.le_trans (by decide : (0:Int32).toInt ≤ (0:Int)) (by decide : (0:Int) ≤ 1)), (show (gi 69 14).toInt ≤ (g897 69 14).toInt ∧ (0 = 1 → (g897 69 12).toInt ≠ 0 → (gi 69 14).toInt < (g897 69 14).toInt) ∧ (0 = 0 → (g897 69 18).toInt ≠ 0) ∧ (0 = 1 → t_K b g897 2) from ⟨(by have ff898 : (g897 69 14).toInt = (gi8 69 14).toInt := congrArg Int32.toInt ((by rw [e897]; exact x_up2_off (Or.inr (by decide)) : g897 69 14 = g895 69 14).trans ((by rw [e895]; exact x_up2_off (Or.inr (by decide)) : g895 69 14 = gi512 69 14).trans ((hC512.1 69 14 rfl).1.trans ((hC13.1 69 14 rfl).1.trans rfl)))); omega), (by have ff899 : (g897 69 12).toInt = (gi8 69 12).toInt := congrArg Int32.toInt ((by rw [e897]; exact x_up2_off (Or.inr (by decide)) : g897 69 12 = g895 69 12).trans ((by rw [e895]; exact x_up2_off (Or.inr (by decide)) : g895 69 12 = gi512 69 12).trans ((hC512.1 69 12 rfl).1.trans ((hC13.1 69 12 rfl).1.trans rfl)))); have ff900 : (g897 69 14).toInt = (gi8 69 14).toInt := congrArg Int32.toInt ((by rw [e897]; exact x_up2_off (Or.inr (by decide)) : g897 69 14 = g895 69 14).trans ((by rw [e895]; exact x_up2_off (Or.inr (by decide)) : g895 69 14 = gi512 69 14).trans ((hC512.1 69 14 rfl).1.trans ((hC13.1 69 14 rfl).1.trans rfl)))); omega), (by have ff901 : (g897 69 18).toInt = 2 := (congrArg Int32.toInt ((by rw [e897]; exact x_up2_off (Or.inr (by decide)) : g897 69 18 = g895 69 18).trans (by rw [e895]; exact x_up2_at _ _ _ _ : g895 69 18 = 2))).trans (by decide); omega), fun h => absurd h (by decide)⟩)⟩⟩
                · have r902 : (gi 69 18).toInt ≠ 0 := fun e => h881 (Int32.toInt_inj.mp (e.trans (by decide : (0:Int) = (0 : Int32).toInt)))
                  refine ev_ic f_X12_fails (nx := 33) (v := 0) rfl (by decide) rfl ?_
                  refine ev_retK1 f_X12_fails rfl rfl rfl ?_
                  exact ev_ret f_X12_aOne rfl rfl rfl ⟨_, _, _, rfl, hI, hX, ⟨_, rfl, (by decide : (0:Int) ≤ (0:Int32).toInt), (Int.le_trans (by decide : (0:Int32).toInt ≤ (0:Int)) (by decide : (0:Int) ≤ 1)), (show (gi 69 14).toInt ≤ (gi512 69 14).toInt ∧ (0 = 1 → (gi512 69 12).toInt ≠ 0 → (gi 69 14).toInt < (gi512 69 14).toInt) ∧ (0 = 0 → (gi512 69 18).toInt ≠ 0) ∧ (0 = 1 → t_K b gi512 2) from ⟨(by have ff903 : (gi512 69 14).toInt = (gi8 69 14).toInt := congrArg Int32.toInt ((hC512.1 69 14 rfl).1.trans ((hC13.1 69 14 rfl).1.trans rfl)); omega), (by have ff904 : (gi512 69 12).toInt = (gi8 69 12).toInt := congrArg Int32.toInt ((hC512.1 69 12 rfl).1.trans ((hC13.1 69 12 rfl).1.trans rfl)); have ff905 : (gi512 69 14).toInt = (gi8 69 14).toInt := congrArg Int32.toInt ((hC512.1 69 14 rfl).1.trans ((hC13.1 69 14 rfl).1.trans rfl)); omega), (by have ff906 : (gi512 69 18).toInt = (gi 69 18).toInt := congrArg Int32.toInt ((hC512.1 69 18 rfl).1.trans ((hC13.1 69 18 rfl).1.trans c8_0)); omega), fun h => absurd h (by decide)⟩)⟩⟩
  refine ev_sub (lo := [(0, .ref 69)]) rfl (t_sc rfl t_sn) ?_
  exact L8 _ gi gl gr  hI hX  rfl rfl rfl e_p0 (by omega) rfl
