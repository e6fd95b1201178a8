/-! ===== printed by riv.py: MARKS ===== -/
noncomputable def wl_d_mark : List (Nat × Nat) := [(0, 0), (0, 12), (19, 9999), (20, 9999)]
noncomputable def Q_d_mark (gi : Nat → Nat → Int32) (gl : Nat → Nat → Int64) (gr : Nat → Nat → Value) : Int32 → (Nat → Nat → Int32) → (Nat → Nat → Int64) → (Nat → Nat → Value) → Prop := fun (v : Int32) (gi2 : Nat → Nat → Int32) (gl2 : Nat → Nat → Int64) (gr2 : Nat → Nat → Value) => ((gi 0 12).toInt ≠ 3 → (∀ j : Nat, gr2 19 j = if (j : Int) = (gi 0 12).toInt then gr 0 6 else gr 19 j) ∧ (∀ j : Nat, gr2 20 j = if (j : Int) = (gi 0 12).toInt then gr 0 7 else gr 20 j)) ∧ ((gi 0 12).toInt = 3 → (∀ j : Nat, gr2 19 j = gr 19 j) ∧ (∀ j : Nat, gr2 20 j = gr 20 j))
theorem c_d_mark {X : x_Ext} {d : Nat} {sh : List (Nat ⊕ (Nat × Nat))} {gi : Nat → Nat → Int32} {gl : Nat → Nat → Int64} {gr : Nat → Nat → Value} (hI : t_I sh gi gr) : x_Me X (d + 2) n_X11_mark [.ref 0] (sh, gi, gl, gr) (t_PI wl_d_mark sh gi gl gr (-1) 3 (Q_d_mark gi gl gr)) := by
  have hX : t_X wl_d_mark sh gi gl gr gi gl gr := t_X.rf
  refine me_i f_X11_mark (hI.wf.s rfl) rfl rfl rfl ?_
  obtain ⟨l1, u1⟩ := hI.b (hI.wf.s (k := 0) rfl) (t_bdK rfl : t_bd 10 12 = some (0, 3))
  refine ev_loc f_X11_mark (nx := 1) rfl rfl rfl rfl ?_
  refine ev_gvI f_X11_mark (nx := 4) (w := (gi 0 12)) rfl (hI.wf.s rfl) rfl rfl rfl rfl ?_
  refine ev_ic f_X11_mark (nx := 5) (v := 3) rfl (by decide) rfl ?_
  refine ev_if f_X11_mark (t1 := 14) (t2 := 8) rfl rfl rfl (fun h2 => ?_) (fun h2 => ?_)
  · have u3 : (gi 0 12).toInt ≤ 2 := t_ltu h2 (by decide : (3:Int32).toInt ≤ (3:Int)) rfl
    refine ev_loc f_X11_mark (nx := 15) rfl rfl rfl rfl ?_
    refine ev_getR f_X11_mark (nx := 18) rfl (hI.wf.s rfl) rfl rfl (hI.wf.r rfl) rfl rfl ?_
    refine ev_loc f_X11_mark (nx := 19) rfl rfl rfl rfl ?_
    refine ev_gvI f_X11_mark (nx := 22) (w := (gi 0 12)) rfl (hI.wf.s rfl) rfl rfl rfl rfl ?_
    refine ev_loc f_X11_mark (nx := 23) rfl rfl rfl rfl ?_
    obtain ⟨a4, e4, p4⟩ := hI.2.2.2.1.1
    refine ev_getR f_X11_mark (nx := 26) rfl (hI.wf.s rfl) rfl rfl e4 rfl rfl ?_
    have hE5 := t_eqf_upA (gr := gr) (j := ((gi 0 12) : Int32).toNatClampNeg) (v := .ref a4) (hI.wf.s (k := 19) rfl)
    have hT5 := t_mk19 hI (m := ((gi 0 12) : Int32).toNatClampNeg) (v := .ref a4) (Or.inr ⟨_, rfl, p4⟩)
    replace p4 := p4.ext hE5
    refine ev_aastT f_X11_mark (nx := 27) rfl (hI.wf.s rfl) rfl p4.1 l1 (by decide) u3 (by decide) rfl hT5 (hX.upR (t_inA_ok rfl) hE5) (fun g5 e5 hI hX => ?_)
    rw [← e5] at p4
    refine ev_loc f_X11_mark (nx := 28) rfl rfl rfl rfl ?_
    refine ev_getR f_X11_mark (nx := 31) rfl (hI.wf.s rfl) rfl rfl (hI.wf.r rfl) rfl rfl ?_
    refine ev_loc f_X11_mark (nx := 32) rfl rfl rfl rfl ?_
    refine ev_gvI f_X11_mark (nx := 35) (w := (gi 0 12)) rfl (hI.wf.s rfl) rfl rfl rfl rfl ?_
    refine ev_loc f_X11_mark (nx := 36) rfl rfl rfl rfl ?_
    rcases hI.2.2.2.1.2.1 with e6 | ⟨a6, e6, p6⟩
    · refine ev_getR f_X11_mark (nx := 39) rfl (hI.wf.s rfl) rfl rfl e6 rfl rfl ?_
      have hE7 := t_eqf_upA (gr := g5) (j := ((gi 0 12) : Int32).toNatClampNeg) (v := .null) (hI.wf.s (k := 20) rfl)
      have hT7 := t_mk20 hI (m := ((gi 0 12) : Int32).toNatClampNeg) (v := .null) (Or.inl rfl)
      replace p4 := p4.ext hE7
      refine ev_aastN f_X11_mark (nx := 40) rfl (hI.wf.s rfl) rfl l1 (by decide) u3 (by decide) rfl hT7 (hX.upR (t_inA_ok rfl) hE7) (fun g7 e7 hI hX => ?_)
      rw [← e7] at p4
      refine ev_loc f_X11_mark (nx := 41) rfl rfl rfl rfl ?_
      refine ev_alu f_X11_mark (nx := 42) rfl rfl rfl rfl ?_
      refine ev_gvI f_X11_mark (nx := 45) (w := (gi 0 12)) rfl (hI.wf.s rfl) rfl rfl rfl rfl ?_
      refine ev_ic f_X11_mark (nx := 46) (v := 1) rfl (by decide) rfl ?_
      refine ev_addC f_X11_mark (nx := 47) (c := 1) (l := 1) (u := 3) rfl (by decide) l1 u3 rfl rfl (by decide) (by decide) rfl (fun z8 e8 l8 u8 => ?_)
      refine ev_putIT f_X11_mark (nx := 50) rfl (hI.wf.s rfl) rfl rfl rfl (hI.putB (hI.wf.s rfl) rfl rfl l8 (by decide) u8 (by decide)) (hX.upI rfl) (fun g9 e9 hI hX => ?_)
      refine ev_loc f_X11_mark (nx := 51) rfl rfl rfl rfl ?_
      refine ev_loc f_X11_mark (nx := 52) rfl rfl rfl rfl ?_
      refine ev_gvI f_X11_mark (nx := 55) (w := z8) rfl (hI.wf.s rfl) rfl rfl (by rw [e9]; exact x_up2_at _ _ _ _ : g9 0 12 = z8) rfl ?_
      refine ev_inV2 f_X11_mark (nx := 58) (lo2 := [(0, .ref 0), (1, .int z8)]) rfl rfl rfl rfl f_X11_answer (hI.wf.s rfl) rfl rfl rfl rfl rfl ?_
      refine ev_loc f_X11_answer (nx := 1) rfl rfl rfl rfl ?_
      refine ev_ic f_X11_answer (nx := 2) (v := 0) rfl (by decide) rfl ?_
      refine ev_putIT f_X11_answer (nx := 5) rfl (hI.wf.s rfl) rfl rfl rfl (hI.put0 (hI.wf.s rfl) rfl rfl) (hX.upI rfl) (fun g10 e10 hI hX => ?_)
      refine ev_loc f_X11_answer (nx := 6) rfl rfl rfl rfl ?_
      refine ev_retK1 f_X11_answer rfl rfl rfl ?_
      exact ev_ret f_X11_mark rfl rfl rfl ⟨_, _, _, rfl, hI, hX, ⟨_, rfl, (Int.le_trans (by decide : ((-1):Int) ≤ 1) l8), u8, (show ((gi 0 12).toInt ≠ 3 → (∀ j : Nat, g7 19 j = if (j : Int) = (gi 0 12).toInt then gr 0 6 else gr 19 j) ∧ (∀ j : Nat, g7 20 j = if (j : Int) = (gi 0 12).toInt then gr 0 7 else gr 20 j)) ∧ ((gi 0 12).toInt = 3 → (∀ j : Nat, g7 19 j = gr 19 j) ∧ (∀ j : Nat, g7 20 j = gr 20 j)) from ⟨fun _ => ⟨(fun j => (by have hc := t_clamp (i := ((gi 0 12) : Int32)) (by omega); rw [e7, x_up2_off (Or.inl (by decide)), e5]; by_cases hj : j = ((gi 0 12) : Int32).toNatClampNeg; (rw [hj, x_up2_at, if_pos (by omega)]; exact ((hX.1 0 6 rfl).2.2.symm.trans ((by rw [e7]; exact x_up2_off (Or.inl (by decide)) : g7 0 6 = g5 0 6).trans ((by rw [e5]; exact x_up2_off (Or.inl (by decide)) : g5 0 6 = gr 0 6).trans e4))).symm); (rw [x_up2_off (Or.inr hj), if_neg (by omega)]))), (fun j => (by have hc := t_clamp (i := ((gi 0 12) : Int32)) (by omega); rw [e7]; by_cases hj : j = ((gi 0 12) : Int32).toNatClampNeg; (rw [hj, x_up2_at, if_pos (by omega)]; exact ((hX.1 0 7 rfl).2.2.symm.trans ((by rw [e7]; exact x_up2_off (Or.inl (by decide)) : g7 0 7 = g5 0 7).trans e6)).symm); (rw [x_up2_off (Or.inr hj), if_neg (by omega), e5, x_up2_off (Or.inl (by decide))])))⟩, fun h => absurd h (by omega)⟩)⟩⟩
    · refine ev_getR f_X11_mark (nx := 39) rfl (hI.wf.s rfl) rfl rfl e6 rfl rfl ?_
      have hE11 := t_eqf_upA (gr := g5) (j := ((gi 0 12) : Int32).toNatClampNeg) (v := .ref a6) (hI.wf.s (k := 20) rfl)
      have hT11 := t_mk20 hI (m := ((gi 0 12) : Int32).toNatClampNeg) (v := .ref a6) (Or.inr ⟨_, rfl, p6⟩)
      replace p4 := p4.ext hE11
      replace p6 := p6.ext hE11
      refine ev_aastT f_X11_mark (nx := 40) rfl (hI.wf.s rfl) rfl p6.1 l1 (by decide) u3 (by decide) rfl hT11 (hX.upR (t_inA_ok rfl) hE11) (fun g11 e11 hI hX => ?_)
      rw [← e11] at p4
      rw [← e11] at p6
      refine ev_loc f_X11_mark (nx := 41) rfl rfl rfl rfl ?_
      refine ev_alu f_X11_mark (nx := 42) rfl rfl rfl rfl ?_
      refine ev_gvI f_X11_mark (nx := 45) (w := (gi 0 12)) rfl (hI.wf.s rfl) rfl rfl rfl rfl ?_
      refine ev_ic f_X11_mark (nx := 46) (v := 1) rfl (by decide) rfl ?_
      refine ev_addC f_X11_mark (nx := 47) (c := 1) (l := 1) (u := 3) rfl (by decide) l1 u3 rfl rfl (by decide) (by decide) rfl (fun z12 e12 l12 u12 => ?_)
      refine ev_putIT f_X11_mark (nx := 50) rfl (hI.wf.s rfl) rfl rfl rfl (hI.putB (hI.wf.s rfl) rfl rfl l12 (by decide) u12 (by decide)) (hX.upI rfl) (fun g13 e13 hI hX => ?_)
      refine ev_loc f_X11_mark (nx := 51) rfl rfl rfl rfl ?_
      refine ev_loc f_X11_mark (nx := 52) rfl rfl rfl rfl ?_
      refine ev_gvI f_X11_mark (nx := 55) (w := z12) rfl (hI.wf.s rfl) rfl rfl (by rw [e13]; exact x_up2_at _ _ _ _ : g13 0 12 = z12) rfl ?_
      refine ev_inV2 f_X11_mark (nx := 58) (lo2 := [(0, .ref 0), (1, .int z12)]) rfl rfl rfl rfl f_X11_answer (hI.wf.s rfl) rfl rfl rfl rfl rfl ?_
      refine ev_loc f_X11_answer (nx := 1) rfl rfl rfl rfl ?_
      refine ev_ic f_X11_answer (nx := 2) (v := 0) rfl (by decide) rfl ?_
      refine ev_putIT f_X11_answer (nx := 5) rfl (hI.wf.s rfl) rfl rfl rfl (hI.put0 (hI.wf.s rfl) rfl rfl) (hX.upI rfl) (fun g14 e14 hI hX => ?_)
      refine ev_loc f_X11_answer (nx := 6) rfl rfl rfl rfl ?_
      refine ev_retK1 f_X11_answer rfl rfl rfl ?_
      exact ev_ret f_X11_mark rfl rfl rfl ⟨_, _, _, rfl, hI, hX, ⟨_, rfl, (Int.le_trans (by decide : ((-1):Int) ≤ 1) l12), u12, (show ((gi 0 12).toInt ≠ 3 → (∀ j : Nat, g11 19 j = if (j : Int) = (gi 0 12).toInt then gr 0 6 else gr 19 j) ∧ (∀ j : Nat, g11 20 j = if (j : Int) = (gi 0 12).toInt then gr 0 7 else gr 20 j)) ∧ ((gi 0 12).toInt = 3 → (∀ j : Nat, g11 19 j = gr 19 j) ∧ (∀ j : Nat, g11 20 j = gr 20 j)) from ⟨fun _ => ⟨(fun j => (by have hc := t_clamp (i := ((gi 0 12) : Int32)) (by omega); rw [e11, x_up2_off (Or.inl (by decide)), e5]; by_cases hj : j = ((gi 0 12) : Int32).toNatClampNeg; (rw [hj, x_up2_at, if_pos (by omega)]; exact ((hX.1 0 6 rfl).2.2.symm.trans ((by rw [e11]; exact x_up2_off (Or.inl (by decide)) : g11 0 6 = g5 0 6).trans ((by rw [e5]; exact x_up2_off (Or.inl (by decide)) : g5 0 6 = gr 0 6).trans e4))).symm); (rw [x_up2_off (Or.inr hj), if_neg (by omega)]))), (fun j => (by have hc := t_clamp (i := ((gi 0 12) : Int32)) (by omega); rw [e11]; by_cases hj : j = ((gi 0 12) : Int32).toNatClampNeg; (rw [hj, x_up2_at, if_pos (by omega)]; exact ((hX.1 0 7 rfl).2.2.symm.trans ((by rw [e11]; exact x_up2_off (Or.inl (by decide)) : g11 0 7 = g5 0 7).trans e6)).symm); (rw [x_up2_off (Or.inr hj), if_neg (by omega), e5, x_up2_off (Or.inl (by decide))])))⟩, fun h => absurd h (by omega)⟩)⟩⟩
  · have l15 : 3 ≤ (gi 0 12).toInt := t_lel (t_nlt h2) (by decide : (3:Int) ≤ (3:Int32).toInt)
    refine ev_loc f_X11_mark (nx := 9) rfl rfl rfl rfl ?_
    refine ev_ic f_X11_mark (nx := 10) (v := 4) rfl (by decide) rfl ?_
    refine ev_inV2 f_X11_mark (nx := 13) (lo2 := [(0, .ref 0), (1, .int 4)]) rfl rfl rfl rfl f_X11_refuse (hI.wf.s rfl) rfl rfl rfl rfl rfl ?_
    refine ev_loc f_X11_refuse (nx := 1) rfl rfl rfl rfl ?_
    refine ev_loc f_X11_refuse (nx := 2) rfl rfl rfl rfl ?_
    refine ev_putIT f_X11_refuse (nx := 5) rfl (hI.wf.s rfl) rfl rfl rfl (hI.put0 (hI.wf.s rfl) rfl rfl) (hX.upI rfl) (fun g16 e16 hI hX => ?_)
    refine ev_ic f_X11_refuse (nx := 6) (v := -1) rfl (by decide) rfl ?_
    refine ev_retK1 f_X11_refuse rfl rfl rfl ?_
    exact ev_ret f_X11_mark rfl rfl rfl ⟨_, _, _, rfl, hI, hX, ⟨_, rfl, (by decide : ((-1):Int) ≤ ((-1):Int32).toInt), (Int.le_trans (by decide : ((-1):Int32).toInt ≤ ((-1):Int)) (by decide : ((-1):Int) ≤ 3)), (show ((gi 0 12).toInt ≠ 3 → (∀ j : Nat, gr 19 j = if (j : Int) = (gi 0 12).toInt then gr 0 6 else gr 19 j) ∧ (∀ j : Nat, gr 20 j = if (j : Int) = (gi 0 12).toInt then gr 0 7 else gr 20 j)) ∧ ((gi 0 12).toInt = 3 → (∀ j : Nat, gr 19 j = gr 19 j) ∧ (∀ j : Nat, gr 20 j = gr 20 j)) from ⟨fun h => absurd h (by omega), fun _ => ⟨fun _ => rfl, fun _ => rfl⟩⟩)⟩⟩
noncomputable def wl_d_back : List (Nat × Nat) := [(0, 0), (0, 6), (0, 7), (0, 12)]
noncomputable def Q_d_back (gi : Nat → Nat → Int32) (gl : Nat → Nat → Int64) (gr : Nat → Nat → Value) : Int32 → (Nat → Nat → Int32) → (Nat → Nat → Int64) → (Nat → Nat → Value) → Prop := fun (v : Int32) (gi2 : Nat → Nat → Int32) (gl2 : Nat → Nat → Int64) (gr2 : Nat → Nat → Value) => ((gi 0 12).toInt = 0 → gr2 0 6 = gr 0 6 ∧ gr2 0 7 = gr 0 7) ∧ ((gi 0 12).toInt ≠ 0 → gr2 0 6 = gr 19 ((gi 0 12).toInt - 1).toNat ∧ gr2 0 7 = gr 20 ((gi 0 12).toInt - 1).toNat)
theorem c_d_back {X : x_Ext} {d : Nat} {sh : List (Nat ⊕ (Nat × Nat))} {gi : Nat → Nat → Int32} {gl : Nat → Nat → Int64} {gr : Nat → Nat → Value} (hI : t_I sh gi gr) (e_p0 : (∀ j : Nat, (j : Int) < (gi 0 12).toInt → gr 19 j ≠ .null)) : x_Me X (d + 2) n_X11_back [.ref 0] (sh, gi, gl, gr) (t_PI wl_d_back sh gi gl gr (-1) 2 (Q_d_back gi gl gr)) := by
  have hX : t_X wl_d_back sh gi gl gr gi gl gr := t_X.rf
  refine me_i f_X11_back (hI.wf.s rfl) rfl rfl rfl ?_
  obtain ⟨l1, u1⟩ := hI.b (hI.wf.s (k := 0) rfl) (t_bdK rfl : t_bd 10 12 = some (0, 3))
  refine ev_loc f_X11_back (nx := 1) rfl rfl rfl rfl ?_
  refine ev_gvI f_X11_back (nx := 4) (w := (gi 0 12)) rfl (hI.wf.s rfl) rfl rfl rfl rfl ?_
  refine ev_ic f_X11_back (nx := 5) (v := 1) rfl (by decide) rfl ?_
  refine ev_if f_X11_back (t1 := 22) (t2 := 8) rfl rfl rfl (fun h2 => ?_) (fun h2 => ?_)
  · have u3 : (gi 0 12).toInt ≤ 0 := t_ltu h2 (by decide : (1:Int32).toInt ≤ (1:Int)) rfl
    refine ev_loc f_X11_back (nx := 23) rfl rfl rfl rfl ?_
    refine ev_bp f_X11_back (nx := 25) (v := 6) rfl (by decide) rfl ?_
    refine ev_inV2 f_X11_back (nx := 28) (lo2 := [(0, .ref 0), (1, .int 6)]) rfl rfl rfl rfl f_X11_refuse (hI.wf.s rfl) rfl rfl rfl rfl rfl ?_
    refine ev_loc f_X11_refuse (nx := 1) rfl rfl rfl rfl ?_
    refine ev_loc f_X11_refuse (nx := 2) rfl rfl rfl rfl ?_
    refine ev_putIT f_X11_refuse (nx := 5) rfl (hI.wf.s rfl) rfl rfl rfl (hI.put0 (hI.wf.s rfl) rfl rfl) (hX.upI rfl) (fun g4 e4 hI hX => ?_)
    refine ev_ic f_X11_refuse (nx := 6) (v := -1) rfl (by decide) rfl ?_
    refine ev_retK1 f_X11_refuse rfl rfl rfl ?_
    exact ev_ret f_X11_back rfl rfl rfl ⟨_, _, _, rfl, hI, hX, ⟨_, rfl, (by decide : ((-1):Int) ≤ ((-1):Int32).toInt), (Int.le_trans (by decide : ((-1):Int32).toInt ≤ ((-1):Int)) (by decide : ((-1):Int) ≤ 2)), (show ((gi 0 12).toInt = 0 → gr 0 6 = gr 0 6 ∧ gr 0 7 = gr 0 7) ∧ ((gi 0 12).toInt ≠ 0 → gr 0 6 = gr 19 ((gi 0 12).toInt - 1).toNat ∧ gr 0 7 = gr 20 ((gi 0 12).toInt - 1).toNat) from ⟨fun _ => ⟨rfl, rfl⟩, fun h => absurd h (by omega)⟩)⟩⟩
  · have l5 : 1 ≤ (gi 0 12).toInt := t_lel (t_nlt h2) (by decide : (1:Int) ≤ (1:Int32).toInt)
    refine ev_loc f_X11_back (nx := 9) rfl rfl rfl rfl ?_
    refine ev_getR f_X11_back (nx := 12) rfl (hI.wf.s rfl) rfl rfl (hI.wf.r rfl) rfl rfl ?_
    refine ev_loc f_X11_back (nx := 13) rfl rfl rfl rfl ?_
    refine ev_gvI f_X11_back (nx := 16) (w := (gi 0 12)) rfl (hI.wf.s rfl) rfl rfl rfl rfl ?_
    refine ev_ic f_X11_back (nx := 17) (v := 1) rfl (by decide) rfl ?_
    refine ev_subC f_X11_back (nx := 18) (c := 1) (l := 0) (u := 2) rfl (by decide) l5 u1 rfl rfl (by decide) (by decide) rfl (fun z6 e6 l6 u6 => ?_)
    rcases hI.2.2.2.1.2.2.1 z6.toNatClampNeg (t_idx (n := 3) l6 (by decide) u6 (by decide)).2 with e7 | ⟨a7, e7, p7⟩
    · refine ev_aald f_X11_back (nx := 19) rfl (hI.wf.s rfl) rfl (t_idx (n := 3) l6 (by decide) u6 (by decide)).1 (t_idx (n := 3) l6 (by decide) u6 (by decide)).2 e7 rfl rfl ?_
      refine ev_jmp f_X11_back (nx := 22) rfl rfl rfl ?_
      refine ev_loc f_X11_back (nx := 23) rfl rfl rfl rfl ?_
      refine ev_bp f_X11_back (nx := 25) (v := 6) rfl (by decide) rfl ?_
      refine ev_inV2 f_X11_back (nx := 28) (lo2 := [(0, .ref 0), (1, .int 6)]) rfl rfl rfl rfl f_X11_refuse (hI.wf.s rfl) rfl rfl rfl rfl rfl ?_
      refine ev_loc f_X11_refuse (nx := 1) rfl rfl rfl rfl ?_
      refine ev_loc f_X11_refuse (nx := 2) rfl rfl rfl rfl ?_
      refine ev_putIT f_X11_refuse (nx := 5) rfl (hI.wf.s rfl) rfl rfl rfl (hI.put0 (hI.wf.s rfl) rfl rfl) (hX.upI rfl) (fun g8 e8 hI hX => ?_)
      refine ev_ic f_X11_refuse (nx := 6) (v := -1) rfl (by decide) rfl ?_
      refine ev_retK1 f_X11_refuse rfl rfl rfl ?_
      exact ev_ret f_X11_back rfl rfl rfl ⟨_, _, _, rfl, hI, hX, ⟨_, rfl, (by decide : ((-1):Int) ≤ ((-1):Int32).toInt), (Int.le_trans (by decide : ((-1):Int32).toInt ≤ ((-1):Int)) (by decide : ((-1):Int) ≤ 2)), (show ((gi 0 12).toInt = 0 → gr 0 6 = gr 0 6 ∧ gr 0 7 = gr 0 7) ∧ ((gi 0 12).toInt ≠ 0 → gr 0 6 = gr 19 ((gi 0 12).toInt - 1).toNat ∧ gr 0 7 = gr 20 ((gi 0 12).toInt - 1).toNat) from (by exfalso; have hc := t_clamp (i := z6) (by omega); exact e_p0 _ (by omega) e7))⟩⟩
    · refine ev_aald f_X11_back (nx := 19) rfl (hI.wf.s rfl) rfl (t_idx (n := 3) l6 (by decide) u6 (by decide)).1 (t_idx (n := 3) l6 (by decide) u6 (by decide)).2 e7 rfl rfl ?_
      refine ev_jmp f_X11_back (nx := 29) rfl rfl rfl ?_
      refine ev_loc f_X11_back (nx := 30) rfl rfl rfl rfl ?_
      refine ev_alu f_X11_back (nx := 31) rfl rfl rfl rfl ?_
      refine ev_gvI f_X11_back (nx := 34) (w := (gi 0 12)) rfl (hI.wf.s rfl) rfl rfl rfl rfl ?_
      refine ev_ic f_X11_back (nx := 35) (v := 1) rfl (by decide) rfl ?_
      refine ev_subC f_X11_back (nx := 36) (c := 1) (l := 0) (u := 2) rfl (by decide) l5 u1 rfl rfl (by decide) (by decide) rfl (fun z9 e9 l9 u9 => ?_)
      refine ev_putIT f_X11_back (nx := 39) rfl (hI.wf.s rfl) rfl rfl rfl (hI.putB (hI.wf.s rfl) rfl rfl l9 (by decide) u9 (by decide)) (hX.upI rfl) (fun g10 e10 hI hX => ?_)
      refine ev_loc f_X11_back (nx := 40) rfl rfl rfl rfl ?_
      refine ev_loc f_X11_back (nx := 41) rfl rfl rfl rfl ?_
      refine ev_getR f_X11_back (nx := 44) rfl (hI.wf.s rfl) rfl rfl (hI.wf.r rfl) rfl rfl ?_
      refine ev_loc f_X11_back (nx := 45) rfl rfl rfl rfl ?_
      refine ev_gvI f_X11_back (nx := 48) (w := z9) rfl (hI.wf.s rfl) rfl rfl (by rw [e10]; exact x_up2_at _ _ _ _ : g10 0 12 = z9) rfl ?_
      refine ev_aald f_X11_back (nx := 49) (v := .ref a7) rfl (hI.wf.s rfl) rfl (t_idx (n := 3) l9 (by decide) u9 (by decide)).1 (t_idx (n := 3) l9 (by decide) u9 (by decide)).2 (by rw [t_ceq (by omega : z9.toInt = z6.toInt)]; exact e7) rfl rfl ?_
      have hE12 := t_eqf_up (gr := gr) (j := 6) (v := .ref a7) (hI.wf.s (k := 0) rfl) rfl
      have hT12 := t_putRiver hI p7
      replace p7 := p7.ext hE12
      refine ev_putRT f_X11_back (nx := 52) rfl (hI.wf.s rfl) rfl rfl rfl rfl hT12 (hX.upR rfl hE12) (fun g12 e12 hI hX => ?_)
      rw [← e12] at p7
      refine ev_loc f_X11_back (nx := 53) rfl rfl rfl rfl ?_
      refine ev_loc f_X11_back (nx := 54) rfl rfl rfl rfl ?_
      refine ev_getR f_X11_back (nx := 57) rfl (hI.wf.s rfl) rfl rfl (hI.wf.r rfl) rfl rfl ?_
      refine ev_loc f_X11_back (nx := 58) rfl rfl rfl rfl ?_
      refine ev_gvI f_X11_back (nx := 61) (w := z9) rfl (hI.wf.s rfl) rfl rfl (by rw [e10]; exact x_up2_at _ _ _ _ : g10 0 12 = z9) rfl ?_
      rcases hI.2.2.2.1.2.2.2.1 z9.toNatClampNeg (t_idx (n := 3) l9 (by decide) u9 (by decide)).2 with e13 | ⟨a13, e13, p13⟩
      · refine ev_aald f_X11_back (nx := 62) rfl (hI.wf.s rfl) rfl (t_idx (n := 3) l9 (by decide) u9 (by decide)).1 (t_idx (n := 3) l9 (by decide) u9 (by decide)).2 e13 rfl rfl ?_
        have hE14 := t_eqf_up (gr := g12) (j := 7) (v := .null) (hI.wf.s (k := 0) rfl) rfl
        have hT14 := t_putRules hI (v := .null) (Or.inl rfl)
        replace p7 := p7.ext hE14
        refine ev_putRT f_X11_back (nx := 65) rfl (hI.wf.s rfl) rfl rfl rfl rfl hT14 (hX.upR rfl hE14) (fun g14 e14 hI hX => ?_)
        rw [← e14] at p7
        refine ev_loc f_X11_back (nx := 66) rfl rfl rfl rfl ?_
        refine ev_loc f_X11_back (nx := 67) rfl rfl rfl rfl ?_
        refine ev_gvI f_X11_back (nx := 70) (w := z9) rfl (hI.wf.s rfl) rfl rfl (by rw [e10]; exact x_up2_at _ _ _ _ : g10 0 12 = z9) rfl ?_
        refine ev_inV2 f_X11_back (nx := 73) (lo2 := [(0, .ref 0), (1, .int z9)]) rfl rfl rfl rfl f_X11_answer (hI.wf.s rfl) rfl rfl rfl rfl rfl ?_
        refine ev_loc f_X11_answer (nx := 1) rfl rfl rfl rfl ?_
        refine ev_ic f_X11_answer (nx := 2) (v := 0) rfl (by decide) rfl ?_
        refine ev_putIT f_X11_answer (nx := 5) rfl (hI.wf.s rfl) rfl rfl rfl (hI.put0 (hI.wf.s rfl) rfl rfl) (hX.upI rfl) (fun g15 e15 hI hX => ?_)
        refine ev_loc f_X11_answer (nx := 6) rfl rfl rfl rfl ?_
        refine ev_retK1 f_X11_answer rfl rfl rfl ?_
        exact ev_ret f_X11_back rfl rfl rfl ⟨_, _, _, rfl, hI, hX, ⟨_, rfl, (Int.le_trans (by decide : ((-1):Int) ≤ 0) l9), u9, (show ((gi 0 12).toInt = 0 → g14 0 6 = gr 0 6 ∧ g14 0 7 = gr 0 7) ∧ ((gi 0 12).toInt ≠ 0 → g14 0 6 = gr 19 ((gi 0 12).toInt - 1).toNat ∧ g14 0 7 = gr 20 ((gi 0 12).toInt - 1).toNat) from ⟨fun h => absurd h (by omega), fun _ => ⟨(by have h := ((by rw [e14]; exact x_up2_off (Or.inr (by decide)) : g14 0 6 = g12 0 6).trans (by rw [e12]; exact x_up2_at _ _ _ _ : g12 0 6 = .ref a7)); have he := e7; have hc := t_clamp (i := z6) (by omega); rw [show ((gi 0 12).toInt - 1).toNat = z6.toNatClampNeg by omega]; exact h.trans he.symm), (by have h := (by rw [e14]; exact x_up2_at _ _ _ _ : g14 0 7 = .null); have he := e13; rw [e12, x_up2_off (Or.inl (by decide))] at he; have hc := t_clamp (i := z9) (by omega); rw [show ((gi 0 12).toInt - 1).toNat = z9.toNatClampNeg by omega]; exact h.trans he.symm)⟩⟩)⟩⟩
      · refine ev_aald f_X11_back (nx := 62) rfl (hI.wf.s rfl) rfl (t_idx (n := 3) l9 (by decide) u9 (by decide)).1 (t_idx (n := 3) l9 (by decide) u9 (by decide)).2 e13 rfl rfl ?_
        have hE16 := t_eqf_up (gr := g12) (j := 7) (v := .ref a13) (hI.wf.s (k := 0) rfl) rfl
        have hT16 := t_putRules hI (v := .ref a13) (Or.inr ⟨_, rfl, p13⟩)
        replace p7 := p7.ext hE16
        replace p13 := p13.ext hE16
        refine ev_putRT f_X11_back (nx := 65) rfl (hI.wf.s rfl) rfl rfl rfl rfl hT16 (hX.upR rfl hE16) (fun g16 e16 hI hX => ?_)
        rw [← e16] at p7
        rw [← e16] at p13
        refine ev_loc f_X11_back (nx := 66) rfl rfl rfl rfl ?_
        refine ev_loc f_X11_back (nx := 67) rfl rfl rfl rfl ?_
        refine ev_gvI f_X11_back (nx := 70) (w := z9) rfl (hI.wf.s rfl) rfl rfl (by rw [e10]; exact x_up2_at _ _ _ _ : g10 0 12 = z9) rfl ?_
        refine ev_inV2 f_X11_back (nx := 73) (lo2 := [(0, .ref 0), (1, .int z9)]) rfl rfl rfl rfl f_X11_answer (hI.wf.s rfl) rfl rfl rfl rfl rfl ?_
        refine ev_loc f_X11_answer (nx := 1) rfl rfl rfl rfl ?_
        refine ev_ic f_X11_answer (nx := 2) (v := 0) rfl (by decide) rfl ?_
        refine ev_putIT f_X11_answer (nx := 5) rfl (hI.wf.s rfl) rfl rfl rfl (hI.put0 (hI.wf.s rfl) rfl rfl) (hX.upI rfl) (fun g17 e17 hI hX => ?_)
        refine ev_loc f_X11_answer (nx := 6) rfl rfl rfl rfl ?_
        refine ev_retK1 f_X11_answer rfl rfl rfl ?_
        exact ev_ret f_X11_back rfl rfl rfl ⟨_, _, _, rfl, hI, hX, ⟨_, rfl, (Int.le_trans (by decide : ((-1):Int) ≤ 0) l9), u9, (show ((gi 0 12).toInt = 0 → g16 0 6 = gr 0 6 ∧ g16 0 7 = gr 0 7) ∧ ((gi 0 12).toInt ≠ 0 → g16 0 6 = gr 19 ((gi 0 12).toInt - 1).toNat ∧ g16 0 7 = gr 20 ((gi 0 12).toInt - 1).toNat) from ⟨fun h => absurd h (by omega), fun _ => ⟨(by have h := ((by rw [e16]; exact x_up2_off (Or.inr (by decide)) : g16 0 6 = g12 0 6).trans (by rw [e12]; exact x_up2_at _ _ _ _ : g12 0 6 = .ref a7)); have he := e7; have hc := t_clamp (i := z6) (by omega); rw [show ((gi 0 12).toInt - 1).toNat = z6.toNatClampNeg by omega]; exact h.trans he.symm), (by have h := (by rw [e16]; exact x_up2_at _ _ _ _ : g16 0 7 = .ref a13); have he := e13; rw [e12, x_up2_off (Or.inl (by decide))] at he; have hc := t_clamp (i := z9) (by omega); rw [show ((gi 0 12).toInt - 1).toNat = z9.toNatClampNeg by omega]; exact h.trans he.symm)⟩⟩)⟩⟩
