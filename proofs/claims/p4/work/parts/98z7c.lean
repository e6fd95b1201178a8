/-! ===== printed by riv.py: the RULES of the other side ===== -/
noncomputable def Q_n_aCaseB (gi : Nat → Nat → Int32) (gl : Nat → Nat → Int64) (gr : Nat → Nat → Value) (b : Nat → Int32) (ar1 : Int32) : Int32 → (Nat → Nat → Int32) → (Nat → Nat → Int64) → (Nat → Nat → Value) → Prop := fun (v : Int32) (gi2 : Nat → Nat → Int32) (gl2 : Nat → Nat → Int64) (gr2 : Nat → Nat → Value) => ((gi 69 14).toInt ≤ (gi2 69 14).toInt ∧ (v.toInt = 1 → (gi2 69 12).toInt ≠ 0 → (gi 69 14).toInt < (gi2 69 14).toInt) ∧ (v.toInt = 0 → (gi2 69 18).toInt ≠ 0) ∧ (v.toInt = 1 → t_K b gi2 1)) ∧ ((∀ (b : Nat → Int32) (n q c : Nat) (T : List Int), t_MC b n q c T gi → s_fct b n q → ¬ s_nst b n q → s_mi (s_W b n q) = ar1.toInt → (v.toInt = 1 ∧ ∃ q2, q < q2 ∧ s_Cnd b n false q c T = s_Cnd b n true q2 (c + 1) (s_pop T) ∧ t_MC b n q2 (c + 1) T gi2) ∨ (v.toInt = 0 ∧ ∃ p x, x ≠ 0 ∧ s_Cnd b n false q c T = s_qb b n p x ∧ t_MF gi2 (s_fk b n p x) (s_F b n p))))
theorem c_n_aCaseB {X : x_Ext} {d : Nat} {sh : List (Nat ⊕ (Nat × Nat))} {gi : Nat → Nat → Int32} {gl : Nat → Nat → Int64} {gr : Nat → Nat → Value} (hI : t_I sh gi gr) (ar1 : Int32) (l_a1 : 15 ≤ ar1.toInt) (u_a1 : ar1.toInt ≤ 26) {b : Nat → Int32} (e_p0 : t_K b gi 0) (e_p1 : (ar1.toInt = 15 ∨ ar1.toInt = 16 ∨ 22 ≤ ar1.toInt)) : x_Me X (d + 3) n_X12_aCase [.ref 69, .int ar1] (sh, gi, gl, gr) (t_PI wl_m_aCase sh gi gl gr 0 1 (Q_n_aCaseB gi gl gr b ar1)) := by
  refine ((x_Me.up (c_m_aCase (X := X) (d := d) (gl := gl) (b := b) hI ar1 l_a1 u_a1 e_p0 e_p1) (by omega)).and (x_Me.up (c_n_aCase (X := X) (d := d) (gl := gl) (b := b) hI ar1 l_a1 u_a1 e_p0 e_p1) (by omega))).mono ?_
  rintro v G' ⟨⟨g1, l1, r1, rfl, k1, k2, x, rfl, k3, k4, k5⟩, g2, l2, r2, e, _, _, x2, e2, _, _, q⟩
  cases e; cases e2
  exact ⟨g1, l1, r1, rfl, k1, k2, x, rfl, k3, k4, k5, q⟩
noncomputable def wl_n_isSignB : List (Nat × Nat) := []
noncomputable def Q_n_isSignB (gi : Nat → Nat → Int32) (gl : Nat → Nat → Int64) (gr : Nat → Nat → Value) (ar1 : Int32) : Int32 → (Nat → Nat → Int32) → (Nat → Nat → Int64) → (Nat → Nat → Value) → Prop := fun (v : Int32) (gi2 : Nat → Nat → Int32) (gl2 : Nat → Nat → Int64) (gr2 : Nat → Nat → Value) => (∀ (b : Nat → Int32) (n q : Nat), t_TM b n q gi → (v.toInt = 1 ↔ s_isS b n q ar1.toInt)) ∧ (v.toInt = 1 → (gi 69 12).toInt = 4)
theorem c_n_isSignB {X : x_Ext} {d : Nat} {sh : List (Nat ⊕ (Nat × Nat))} {gi : Nat → Nat → Int32} {gl : Nat → Nat → Int64} {gr : Nat → Nat → Value} (hI : t_I sh gi gr) (ar1 : Int32) : x_Me X (d + 1) n_X12_isSign [.ref 69, .int ar1] (sh, gi, gl, gr) (t_PI wl_n_isSignB sh gi gl gr 0 1 (Q_n_isSignB gi gl gr ar1)) := by
  have hX : t_X wl_n_isSignB sh gi gl gr gi gl gr := t_X.rf
  refine me_i f_X12_isSign (hI.wf.s rfl) rfl rfl rfl ?_
  obtain ⟨l1, u1⟩ := hI.b (hI.wf.s (k := 69) rfl) (t_bdK rfl : t_bd 11 12 = some (0, 4))
  refine ev_loc f_X12_isSign (nx := 1) rfl rfl rfl rfl ?_
  refine ev_gvI f_X12_isSign (nx := 4) (w := (gi 69 12)) rfl (hI.wf.s rfl) rfl rfl rfl rfl ?_
  refine ev_ic f_X12_isSign (nx := 5) (v := 4) rfl (by decide) rfl ?_
  refine ev_if f_X12_isSign (t1 := 8) (t2 := 20) rfl rfl rfl (fun h2 => ?_) (fun h2 => ?_)
  · have l3 : 4 ≤ (gi 69 12).toInt := t_eql h2 (by decide : (4:Int) ≤ (4:Int32).toInt)
    refine ev_loc f_X12_isSign (nx := 9) rfl rfl rfl rfl ?_
    refine ev_getI f_X12_isSign (nx := 12) rfl (hI.wf.s rfl) rfl rfl rfl ?_
    refine ev_loc f_X12_isSign (nx := 13) rfl rfl rfl rfl ?_
    refine ev_if f_X12_isSign (t1 := 16) (t2 := 20) rfl rfl rfl (fun h4 => ?_) (fun h4 => ?_)
    · have r5 : (gi 69 15).toInt = ar1.toInt := t_eqi h4
      refine ev_ic f_X12_isSign (nx := 17) (v := 1) rfl (by decide) rfl ?_
      refine ev_jmp f_X12_isSign (nx := 21) rfl rfl rfl ?_
      exact ev_ret f_X12_isSign rfl rfl rfl ⟨_, _, _, rfl, hI, hX, ⟨_, rfl, (Int.le_trans (by decide : (0:Int) ≤ 1) (by decide : (1:Int) ≤ (1:Int32).toInt)), (by decide : (1:Int32).toInt ≤ (1:Int)), (show (∀ (b : Nat → Int32) (n q : Nat), t_TM b n q gi → ((1 : Int) = 1 ↔ s_isS b n q ar1.toInt)) ∧ ((1 : Int) = 1 → (gi 69 12).toInt = 4) from ⟨(fun b n q h => ⟨fun _ => (h.isS).mp ⟨by omega, by omega⟩, fun _ => rfl⟩), fun _ => by omega⟩)⟩⟩
    · have r6 : (gi 69 15).toInt ≠ ar1.toInt := t_nei h4
      refine ev_ic f_X12_isSign (nx := 21) (v := 0) rfl (by decide) rfl ?_
      exact ev_ret f_X12_isSign rfl rfl rfl ⟨_, _, _, rfl, hI, hX, ⟨_, rfl, (by decide : (0:Int) ≤ (0:Int32).toInt), (Int.le_trans (by decide : (0:Int32).toInt ≤ (0:Int)) (by decide : (0:Int) ≤ 1)), (show (∀ (b : Nat → Int32) (n q : Nat), t_TM b n q gi → ((0 : Int) = 1 ↔ s_isS b n q ar1.toInt)) ∧ ((0 : Int) = 1 → (gi 69 12).toInt = 4) from ⟨(fun b n q h => ⟨fun hh => absurd hh (by decide), fun hh => absurd ((h.isS).mpr hh) (by rintro ⟨ha, hb⟩; omega)⟩), fun hh => absurd hh (by decide)⟩)⟩⟩
  · have r7 : (gi 69 12).toInt ≠ 4 := fun e => h2 (Int32.toInt_inj.mp (e.trans (by decide : (4:Int) = (4 : Int32).toInt)))
    have u8 : (gi 69 12).toInt ≤ 3 := t_neu h2 u1 rfl rfl
    refine ev_ic f_X12_isSign (nx := 21) (v := 0) rfl (by decide) rfl ?_
    exact ev_ret f_X12_isSign rfl rfl rfl ⟨_, _, _, rfl, hI, hX, ⟨_, rfl, (by decide : (0:Int) ≤ (0:Int32).toInt), (Int.le_trans (by decide : (0:Int32).toInt ≤ (0:Int)) (by decide : (0:Int) ≤ 1)), (show (∀ (b : Nat → Int32) (n q : Nat), t_TM b n q gi → ((0 : Int) = 1 ↔ s_isS b n q ar1.toInt)) ∧ ((0 : Int) = 1 → (gi 69 12).toInt = 4) from ⟨(fun b n q h => ⟨fun hh => absurd hh (by decide), fun hh => absurd ((h.isS).mpr hh) (by rintro ⟨ha, hb⟩; omega)⟩), fun hh => absurd hh (by decide)⟩)⟩⟩
noncomputable def wl_n_aOne : List (Nat × Nat) := [(69, 12), (69, 13), (69, 14), (69, 15), (69, 17), (69, 18), (69, 22), (69, 23), (69, 24), (69, 25), (70, 154011750), (77, 9999)]
noncomputable def Q_n_aOne (gi : Nat → Nat → Int32) (gl : Nat → Nat → Int64) (gr : Nat → Nat → Value) (b : Nat → Int32) : Int32 → (Nat → Nat → Int32) → (Nat → Nat → Int64) → (Nat → Nat → Value) → Prop := fun (v : Int32) (gi2 : Nat → Nat → Int32) (gl2 : Nat → Nat → Int64) (gr2 : Nat → Nat → Value) => (∀ (b : Nat → Int32) (n q c : Nat) (T : List Int), t_MC b n q c T gi → (v.toInt = 1 ∧ ∃ q2 c2 T2, s_Cnd b n false q c T = s_Cnd b n true q2 c2 T2 ∧ q < q2 ∧ s_pop T2 = T2 ∧ ¬ (s_isS b n q2 41 ∧ T2 ≠ []) ∧ t_MC b n q2 c2 T2 gi2) ∨ (v.toInt = 0 ∧ ∃ p x, x ≠ 0 ∧ s_Cnd b n false q c T = s_qb b n p x ∧ t_MF gi2 (s_fk b n p x) (s_F b n p)))
theorem c_n_aOne {X : x_Ext} {d : Nat} {sh : List (Nat ⊕ (Nat × Nat))} {gi : Nat → Nat → Int32} {gl : Nat → Nat → Int64} {gr : Nat → Nat → Value} (hI : t_I sh gi gr) {b : Nat → Int32} (e_p0 : t_K b gi 0) : x_Me X (d + 6) n_X12_aOne [.ref 69] (sh, gi, gl, gr) (t_PI wl_n_aOne sh gi gl gr 0 1 (Q_n_aOne gi gl gr b)) := by
  have hX : t_X wl_n_aOne sh gi gl gr gi gl gr := t_X.rf
  refine me_i f_X12_aOne (hI.wf.s rfl) rfl rfl rfl ?_
  obtain ⟨l1, u1⟩ := hI.b (hI.wf.s (k := 69) rfl) (t_bdK rfl : t_bd 11 12 = some (0, 4))
  obtain ⟨l2, u2⟩ := hI.b (hI.wf.s (k := 69) rfl) (t_bdK rfl : t_bd 11 14 = some (0, 900))
  obtain ⟨l3, u3⟩ := hI.b (hI.wf.s (k := 69) rfl) (t_bdK rfl : t_bd 11 22 = some (0, 60))
  obtain ⟨l4, u4⟩ := hI.b (hI.wf.s (k := 69) rfl) (t_bdK rfl : t_bd 11 23 = some (0, 6))
  obtain ⟨l5, u5⟩ := hI.b (hI.wf.s (k := 69) rfl) (t_bdK rfl : t_bd 11 24 = some (0, 24))
  obtain ⟨l6, u6⟩ := hI.b (hI.wf.s (k := 69) rfl) (t_bdK rfl : t_bd 11 25 = some (0, 210))
  have L7 : ∀ (m7 : Nat) (gi7 : Nat → Nat → Int32) (gl7 : Nat → Nat → Int64) (gr7 : Nat → Nat → Value), t_I sh gi7 gr7 → t_X wl_n_aOne sh gi gl gr gi7 gl7 gr7 → gi7 69 24 = (gi 69 24) → gi7 69 25 = (gi 69 25) → t_K b gi7 0 → (gi 69 14).toInt ≤ (gi7 69 14).toInt → (∀ (b : Nat → Int32) (n q c : Nat) (T : List Int), t_MC b n q c T gi → ∃ q2 T2, s_Cnd b n false q c T = s_Cnd b n false q2 c T2 ∧ q ≤ q2 ∧ t_MC b n q2 c T2 gi7) → (2 * (900 - (gi7 69 14).toInt) + min (gi7 69 12).toInt 1).toNat = m7 → x_Ev X (d + 6) n_X12_aOne 0 [(0, .ref 69)] [] (sh, gi7, gl7, gr7) (t_PI wl_n_aOne sh gi gl gr 0 1 (Q_n_aOne gi gl gr b)) := by
    intro m7
    induction m7 using Nat.strongRecOn with
    | _ m7 ih7 =>
    intro gi7 gl7 gr7 hI hX c7_0 c7_1 j7_0 j7_1 j7_2 hm7
    have cf7_0 : (gi7 69 24).toInt = (gi 69 24).toInt := congrArg Int32.toInt c7_0
    have cf7_1 : (gi7 69 25).toInt = (gi 69 25).toInt := congrArg Int32.toInt c7_1
    obtain ⟨l8, u8⟩ := hI.b (hI.wf.s (k := 69) rfl) (t_bdK rfl : t_bd 11 12 = some (0, 4))
    obtain ⟨l9, u9⟩ := hI.b (hI.wf.s (k := 69) rfl) (t_bdK rfl : t_bd 11 14 = some (0, 900))
    obtain ⟨l10, u10⟩ := hI.b (hI.wf.s (k := 69) rfl) (t_bdK rfl : t_bd 11 22 = some (0, 60))
    obtain ⟨l11, u11⟩ := hI.b (hI.wf.s (k := 69) rfl) (t_bdK rfl : t_bd 11 23 = some (0, 6))
    refine ev_loc f_X12_aOne (nx := 1) rfl rfl rfl rfl ?_
    refine ev_heap f_X12_aOne (nx := 3) rfl rfl rfl rfl ?_
    refine ev_qI0 f_X12_aOne (nx := 6) (r := []) rfl rfl rfl rfl rfl rfl rfl (c_n_inWords hI ) rfl (fun w12 l12 u12 q12 => ?_)
    have q12 : (∀ (b : Nat → Int32) (n q : Nat), t_TM b n q gi7 → w12.toInt = s_mi (s_W b n q)) ∧ (0 ≤ w12.toInt → (gi7 69 12).toInt = 2) := q12
    refine ev_bp f_X12_aOne (nx := 8) (v := 20) rfl (by decide) rfl ?_
    refine ev_if f_X12_aOne (t1 := 20) (t2 := 11) rfl rfl rfl (fun h13 => ?_) (fun h13 => ?_)
    · have u14 : w12.toInt ≤ 20 := t_equ h13 (by decide : (20:Int32).toInt ≤ (20:Int))
      have l15 : 20 ≤ w12.toInt := t_eql h13 (by decide : (20:Int) ≤ (20:Int32).toInt)
      refine ev_loc f_X12_aOne (nx := 21) rfl rfl rfl rfl ?_
      refine ev_gvI f_X12_aOne (nx := 24) (w := (gi7 69 23)) rfl (hI.wf.s rfl) rfl rfl rfl rfl ?_
      refine ev_bp f_X12_aOne (nx := 26) (v := 6) rfl (by decide) rfl ?_
      refine ev_if f_X12_aOne (t1 := 29) (t2 := 36) rfl rfl rfl (fun h16 => ?_) (fun h16 => ?_)
      · have l17 : 6 ≤ (gi7 69 23).toInt := t_eql h16 (by decide : (6:Int) ≤ (6:Int32).toInt)
        refine ev_loc f_X12_aOne (nx := 30) rfl rfl rfl rfl ?_
        refine ev_bp f_X12_aOne (nx := 32) (v := 7) rfl (by decide) rfl ?_
        refine ev_qI f_X12_aOne (nx := 35) (r := []) rfl rfl rfl rfl rfl rfl rfl (c_n_fails hI (7) (Int.le_trans (by decide : (2:Int) ≤ 7) (by decide : (7:Int) ≤ (7:Int32).toInt)) (by decide : (7:Int32).toInt ≤ (7:Int))) rfl hX rfl (fun w18 gi18 gl18 gr18 l18 u18 hI hX hC18 q18 => ?_)
        have q18 : (∀ (b : Nat → Int32) (n q : Nat), t_TM b n q gi7 → (gi7 69 18).toInt = 0 → t_MF gi18 (s_fk b n q 7) (s_F b n q)) ∧ w18.toInt = 0 := q18
        exact ev_retZ f_X12_aOne rfl l18 (Int.le_trans u18 (by decide : (0:Int) ≤ 1)) ⟨_, _, _, rfl, hI, hX, ⟨_, rfl, l18, (Int.le_trans u18 (by decide : (0:Int) ≤ 1)), (show (∀ (b : Nat → Int32) (n q c : Nat) (T : List Int), t_MC b n q c T gi → (w18.toInt = 1 ∧ ∃ q2 c2 T2, s_Cnd b n false q c T = s_Cnd b n true q2 c2 T2 ∧ q < q2 ∧ s_pop T2 = T2 ∧ ¬ (s_isS b n q2 41 ∧ T2 ≠ []) ∧ t_MC b n q2 c2 T2 gi18) ∨ (w18.toInt = 0 ∧ ∃ p x, x ≠ 0 ∧ s_Cnd b n false q c T = s_qb b n p x ∧ t_MF gi18 (s_fk b n p x) (s_F b n p))) from (fun b n q c T h => (by
                                                            obtain ⟨q2, T2, hX, hl, hm⟩ := j7_2 b n q c T h
                                                            have hoo := hm.2.1.2.2
                                                            have hk := q12.1 b n _ hm.1.1
                                                            have hN := s_nst_mi.mpr (Or.inl (hk.symm.trans (by omega)))
                                                            exact Or.inr ⟨q18.2, _, 7, by decide, hX.trans (s_Cnd_n6 hm.qn hN (show T2.length = 6 by omega)), q18.1 b n _ hm.1.1 hm.1.2.1⟩)))⟩⟩
      · have r19 : (gi7 69 23).toInt ≠ 6 := fun e => h16 (Int32.toInt_inj.mp (e.trans (by decide : (6:Int) = (6 : Int32).toInt)))
        have u20 : (gi7 69 23).toInt ≤ 5 := t_neu h16 u11 rfl rfl
        refine ev_loc f_X12_aOne (nx := 37) rfl rfl rfl rfl ?_
        refine ev_alu f_X12_aOne (nx := 38) rfl rfl rfl rfl ?_
        refine ev_gvI f_X12_aOne (nx := 41) (w := (gi7 69 23)) rfl (hI.wf.s rfl) rfl rfl rfl rfl ?_
        refine ev_ic f_X12_aOne (nx := 42) (v := 1) rfl (by decide) rfl ?_
        refine ev_addC f_X12_aOne (nx := 43) (c := 1) (l := 1) (u := 6) rfl (by decide) l11 u20 rfl rfl (by decide) (by decide) rfl (fun z21 e21 l21 u21 => ?_)
        refine ev_putIT f_X12_aOne (nx := 46) rfl (hI.wf.s rfl) rfl rfl rfl (hI.putB (hI.wf.s rfl) rfl rfl l21 (by decide) u21 (by decide)) (hX.upI rfl) (fun g22 e22 hI hX => ?_)
        refine ev_loc f_X12_aOne (nx := 47) rfl rfl rfl rfl ?_
        refine ev_loc f_X12_aOne (nx := 48) rfl rfl rfl rfl ?_
        refine ev_bp f_X12_aOne (nx := 50) (v := 40) rfl (by decide) rfl ?_
        refine ev_qI0 f_X12_aOne (nx := 53) (r := [.ref 69]) rfl rfl rfl rfl rfl rfl rfl (c_n_isSignB hI (40)) rfl (fun w23 l23 u23 q23 => ?_)
        have ff24 : (g22 69 12).toInt = (gi7 69 12).toInt := congrArg Int32.toInt ((by rw [e22]; exact x_up2_off (Or.inr (by decide)) : g22 69 12 = gi7 69 12).trans rfl)
        have q23 : (∀ (b : Nat → Int32) (n q : Nat), t_TM b n q g22 → (w23.toInt = 1 ↔ s_isS b n q 40)) ∧ (w23.toInt = 1 → (g22 69 12).toInt = 4) := q23
        refine ev_if f_X12_aOne (t1 := 61) (t2 := 56) rfl rfl rfl (fun h25 => ?_) (fun h25 => ?_)
        · have u26 : w23.toInt ≤ 0 := t_equ h25 (by decide : (0:Int32).toInt ≤ (0:Int))
          refine ev_bp f_X12_aOne (nx := 63) (v := 20) rfl (by decide) rfl ?_
          refine ev_inV2 f_X12_aOne (nx := 66) (lo2 := [(0, .ref 69), (1, .int 20)]) rfl rfl rfl rfl f_X12_does (hI.wf.s rfl) rfl rfl rfl rfl rfl ?_
          have kn27 := t_K_num j7_0
          refine ev_loc f_X12_does (nx := 1) rfl rfl rfl rfl ?_
          refine ev_getR f_X12_does (nx := 4) rfl (hI.wf.s rfl) rfl rfl (hI.wf.r rfl) rfl rfl ?_
          refine ev_loc f_X12_does (nx := 5) rfl rfl rfl rfl ?_
          refine ev_gvI f_X12_does (nx := 8) (w := (gi7 69 22)) rfl (hI.wf.s rfl) rfl rfl ((by rw [e22]; exact x_up2_off (Or.inr (by decide)) : g22 69 22 = gi7 69 22).trans rfl) rfl ?_
          refine ev_loc f_X12_does (nx := 9) rfl rfl rfl rfl ?_
          have u29 : (gi7 69 22).toInt ≤ (59:Int) := (by omega)
          refine ev_iastT f_X12_does (nx := 10) rfl (hI.wf.s rfl) l10 (by decide) u29 (by decide) rfl (hI.astG (hI.wf.s rfl) (fun lo hi e => absurd e (t_nob (by decide +kernel) _)) (fun k hk e => by have := hk.2.1; omega)) (hX.upI (t_inA_ok rfl)) (fun g28 e28 hI hX => ?_)
          refine ev_loc f_X12_does (nx := 11) rfl rfl rfl rfl ?_
          refine ev_alu f_X12_does (nx := 12) rfl rfl rfl rfl ?_
          refine ev_gvI f_X12_does (nx := 15) (w := (gi7 69 22)) rfl (hI.wf.s rfl) rfl rfl ((by rw [e28]; exact x_up2_off (Or.inl (by decide)) : g28 69 22 = g22 69 22).trans ((by rw [e22]; exact x_up2_off (Or.inr (by decide)) : g22 69 22 = gi7 69 22).trans rfl)) rfl ?_
          refine ev_ic f_X12_does (nx := 16) (v := 1) rfl (by decide) rfl ?_
          refine ev_addC f_X12_does (nx := 17) (c := 1) (l := 1) (u := 60) rfl (by decide) l10 u29 rfl rfl (by decide) (by decide) rfl (fun z30 e30 l30 u30 => ?_)
          refine ev_putIT f_X12_does (nx := 20) rfl (hI.wf.s rfl) rfl rfl rfl (hI.putB (hI.wf.s rfl) rfl rfl l30 (by decide) u30 (by decide)) (hX.upI rfl) (fun g31 e31 hI hX => ?_)
          refine ev_retK0 f_X12_does rfl rfl rfl ?_
          refine ev_loc f_X12_aOne (nx := 67) rfl rfl rfl rfl ?_
          refine ev_qN f_X12_aOne (nx := 70) (r := []) rfl rfl rfl rfl rfl rfl rfl (c_n_aheadB hI ) rfl hX rfl (fun gi32 gl32 gr32 hI hX hC32 q32 => ?_)
          have ff33 : (g31 69 14).toInt = (gi7 69 14).toInt := congrArg Int32.toInt ((by rw [e31]; exact x_up2_off (Or.inr (by decide)) : g31 69 14 = g28 69 14).trans ((by rw [e28]; exact x_up2_off (Or.inl (by decide)) : g28 69 14 = g22 69 14).trans ((by rw [e22]; exact x_up2_off (Or.inr (by decide)) : g22 69 14 = gi7 69 14).trans rfl)))
          have q32 : ((g31 69 14).toInt ≤ (gi32 69 14).toInt ∧ ((gi32 69 12).toInt ≠ 0 → (g31 69 14).toInt < (gi32 69 14).toInt) ∧ ((gi32 69 12).toInt = 3 → 0 ≤ (gi32 69 15).toInt)) ∧ (∀ (b : Nat → Int32) (n q : Nat), t_Sm b n q g31 → t_TM b n q gi32) := q32
          obtain ⟨l34, u34⟩ := hI.b (hI.wf.s (k := 69) rfl) (t_bdK rfl : t_bd 11 12 = some (0, 4))
          obtain ⟨l35, u35⟩ := hI.b (hI.wf.s (k := 69) rfl) (t_bdK rfl : t_bd 11 14 = some (0, 900))
          refine ev_jmp f_X12_aOne (nx := 0) rfl rfl rfl ?_
          refine ev_sub (lo := [(0, .ref 69)]) rfl (t_sc rfl t_sn) ?_
          exact ih7 _ (by omega) gi32 gl32 gr32  hI hX  ((hC32.1 69 24 rfl).1.trans ((by rw [e31]; exact x_up2_off (Or.inr (by decide)) : g31 69 24 = g28 69 24).trans ((by rw [e28]; exact x_up2_off (Or.inl (by decide)) : g28 69 24 = g22 69 24).trans ((by rw [e22]; exact x_up2_off (Or.inr (by decide)) : g22 69 24 = gi7 69 24).trans c7_0)))) ((hC32.1 69 25 rfl).1.trans ((by rw [e31]; exact x_up2_off (Or.inr (by decide)) : g31 69 25 = g28 69 25).trans ((by rw [e28]; exact x_up2_off (Or.inl (by decide)) : g28 69 25 = g22 69 25).trans ((by rw [e22]; exact x_up2_off (Or.inr (by decide)) : g22 69 25 = gi7 69 25).trans c7_1)))) (by have ho := (t_onec (p := (gi7 69 22).toInt.toNat) ((by rw [e22]; exact x_up2_ne (by decide) : g22 77 = gi7 77)) e28 ((funext (fun j => (hC32.1 77 j rfl).1) : gi32 77 = g31 77).trans ((by rw [e31]; exact x_up2_ne (by decide) : g31 77 = g28 77))) (by have hc := t_clamp (i := (gi7 69 22)) (by omega); omega)); exact t_K_does j7_0 (by omega) (by decide) (show (gi32 69 22).toInt = (gi7 69 22).toInt + 1 from (by have ff36 : (gi32 69 22).toInt = z30.toInt := congrArg Int32.toInt ((hC32.1 69 22 rfl).1.trans (by rw [e31]; exact x_up2_at _ _ _ _ : g31 69 22 = z30)); omega)) (show (gi32 69 23).toInt = (gi7 69 23).toInt + 1 from (by have ff37 : (gi32 69 23).toInt = z21.toInt := congrArg Int32.toInt ((hC32.1 69 23 rfl).1.trans ((by rw [e31]; exact x_up2_off (Or.inr (by decide)) : g31 69 23 = g28 69 23).trans ((by rw [e28]; exact x_up2_off (Or.inl (by decide)) : g28 69 23 = g22 69 23).trans (by rw [e22]; exact x_up2_at _ _ _ _ : g22 69 23 = z21)))); omega)) (show (gi32 69 24).toInt = (gi7 69 24).toInt from (by have ff38 : (gi32 69 24).toInt = (gi 69 24).toInt := congrArg Int32.toInt ((hC32.1 69 24 rfl).1.trans ((by rw [e31]; exact x_up2_off (Or.inr (by decide)) : g31 69 24 = g28 69 24).trans ((by rw [e28]; exact x_up2_off (Or.inl (by decide)) : g28 69 24 = g22 69 24).trans ((by rw [e22]; exact x_up2_off (Or.inr (by decide)) : g22 69 24 = gi7 69 24).trans c7_0)))); omega)) (show (gi32 69 25).toInt = (gi7 69 25).toInt from (by have ff39 : (gi32 69 25).toInt = (gi 69 25).toInt := congrArg Int32.toInt ((hC32.1 69 25 rfl).1.trans ((by rw [e31]; exact x_up2_off (Or.inr (by decide)) : g31 69 25 = g28 69 25).trans ((by rw [e28]; exact x_up2_off (Or.inl (by decide)) : g28 69 25 = g22 69 25).trans ((by rw [e22]; exact x_up2_off (Or.inr (by decide)) : g22 69 25 = gi7 69 25).trans c7_1)))); omega)) ((funext (fun j => (hC32.1 70 j rfl).1) : gi32 70 = g31 70).trans ((by rw [e31]; exact x_up2_ne (by decide) : g31 70 = g28 70).trans ((by rw [e28]; exact x_up2_ne (by decide) : g28 70 = g22 70).trans ((by rw [e22]; exact x_up2_ne (by decide) : g22 70 = gi7 70))))) ho.1 ho.2) (by omega) (fun b n q c T h => (by
                                                            obtain ⟨q2, T2, hX, hl, hm⟩ := j7_2 b n q c T h
                                                            have hoo := hm.2.1.2.2
                                                            have hk := q12.1 b n _ hm.1.1
                                                            have hN := s_nst_mi.mpr (Or.inl (hk.symm.trans (by omega)))
                                                            have hB := s_Cnd_n (c := c) hm.qn hN (show T2.length ≠ 6 by omega)
                                                            have hS : ¬ s_isS b n q2 40 := fun hh => absurd ((q23.1 b n _ (hm.1.1.fM (t_fM.rf.u9 (by decide) e22))).mpr hh) (by omega)
                                                            rw [s_brk20 (hN.resolve_right hS)] at hB
                                                            have h1 : t_MC b n q2 c (20 :: T2) g31 := hm.ps (v := (20 : Int32)) (by decide) (by omega) (((t_fM.rf.u9 (by decide) e22).ux (by decide) e28).u9 (by decide) e31) (congrArg Int32.toInt (by rw [e31, x_up2_off (Or.inr (by decide)), e28, x_up2_ne (by decide), e22, x_up2_off (Or.inr (by decide))])) (by rw [e31, x_up2_off (Or.inr (by decide)), e28, x_up2_ne (by decide), e22, x_up2_at]; exact Int.le_antisymm (by omega) (by omega)) (by rw [e31, x_up2_at]; exact Int.le_antisymm (by omega) (by omega)) ⟨fun j hj => (by rw [e31, x_up2_ne (by decide), e28, x_up2_off (Or.inr (show j ≠ (gi7 69 22).toNatClampNeg from hj)), e22, x_up2_ne (by decide)]), by rw [e31, x_up2_ne (by decide), e28]; exact x_up2_at _ _ _ _⟩
                                                            have h2 := h1.ah (q32.2 b n _ h1.1.1.S) ⟨(hC32.1 69 18 rfl).1, (hC32.1 69 17 rfl).1⟩ (congrArg Int32.toInt (hC32.1 69 24 rfl).1) (congrArg Int32.toInt (hC32.1 69 23 rfl).1) (congrArg Int32.toInt (hC32.1 69 22 rfl).1) (funext fun j => (hC32.1 77 j rfl).1)
                                                            exact ⟨_, _, hX.trans hB, by have := s_nst_gt hN; omega, h2⟩)) rfl
        · have r40 : w23.toInt ≠ 0 := fun e => h25 (Int32.toInt_inj.mp (e.trans (by decide : (0:Int) = (0 : Int32).toInt)))
          have l41 : 1 ≤ w23.toInt := t_nel h25 l23 rfl rfl
          refine ev_bp f_X12_aOne (nx := 58) (v := 40) rfl (by decide) rfl ?_
          refine ev_jmp f_X12_aOne (nx := 63) rfl rfl rfl ?_
          refine ev_inV2 f_X12_aOne (nx := 66) (lo2 := [(0, .ref 69), (1, .int 40)]) rfl rfl rfl rfl f_X12_does (hI.wf.s rfl) rfl rfl rfl rfl rfl ?_
          have kn42 := t_K_num j7_0
          refine ev_loc f_X12_does (nx := 1) rfl rfl rfl rfl ?_
          refine ev_getR f_X12_does (nx := 4) rfl (hI.wf.s rfl) rfl rfl (hI.wf.r rfl) rfl rfl ?_
          refine ev_loc f_X12_does (nx := 5) rfl rfl rfl rfl ?_
          refine ev_gvI f_X12_does (nx := 8) (w := (gi7 69 22)) rfl (hI.wf.s rfl) rfl rfl ((by rw [e22]; exact x_up2_off (Or.inr (by decide)) : g22 69 22 = gi7 69 22).trans rfl) rfl ?_
          refine ev_loc f_X12_does (nx := 9) rfl rfl rfl rfl ?_
          have u44 : (gi7 69 22).toInt ≤ (59:Int) := (by omega)
          refine ev_iastT f_X12_does (nx := 10) rfl (hI.wf.s rfl) l10 (by decide) u44 (by decide) rfl (hI.astG (hI.wf.s rfl) (fun lo hi e => absurd e (t_nob (by decide +kernel) _)) (fun k hk e => by have := hk.2.1; omega)) (hX.upI (t_inA_ok rfl)) (fun g43 e43 hI hX => ?_)
          refine ev_loc f_X12_does (nx := 11) rfl rfl rfl rfl ?_
          refine ev_alu f_X12_does (nx := 12) rfl rfl rfl rfl ?_
          refine ev_gvI f_X12_does (nx := 15) (w := (gi7 69 22)) rfl (hI.wf.s rfl) rfl rfl ((by rw [e43]; exact x_up2_off (Or.inl (by decide)) : g43 69 22 = g22 69 22).trans ((by rw [e22]; exact x_up2_off (Or.inr (by decide)) : g22 69 22 = gi7 69 22).trans rfl)) rfl ?_
          refine ev_ic f_X12_does (nx := 16) (v := 1) rfl (by decide) rfl ?_
          refine ev_addC f_X12_does (nx := 17) (c := 1) (l := 1) (u := 60) rfl (by decide) l10 u44 rfl rfl (by decide) (by decide) rfl (fun z45 e45 l45 u45 => ?_)
          refine ev_putIT f_X12_does (nx := 20) rfl (hI.wf.s rfl) rfl rfl rfl (hI.putB (hI.wf.s rfl) rfl rfl l45 (by decide) u45 (by decide)) (hX.upI rfl) (fun g46 e46 hI hX => ?_)
          refine ev_retK0 f_X12_does rfl rfl rfl ?_
          refine ev_loc f_X12_aOne (nx := 67) rfl rfl rfl rfl ?_
          refine ev_qN f_X12_aOne (nx := 70) (r := []) rfl rfl rfl rfl rfl rfl rfl (c_n_aheadB hI ) rfl hX rfl (fun gi47 gl47 gr47 hI hX hC47 q47 => ?_)
          have ff48 : (g46 69 14).toInt = (gi7 69 14).toInt := congrArg Int32.toInt ((by rw [e46]; exact x_up2_off (Or.inr (by decide)) : g46 69 14 = g43 69 14).trans ((by rw [e43]; exact x_up2_off (Or.inl (by decide)) : g43 69 14 = g22 69 14).trans ((by rw [e22]; exact x_up2_off (Or.inr (by decide)) : g22 69 14 = gi7 69 14).trans rfl)))
          have q47 : ((g46 69 14).toInt ≤ (gi47 69 14).toInt ∧ ((gi47 69 12).toInt ≠ 0 → (g46 69 14).toInt < (gi47 69 14).toInt) ∧ ((gi47 69 12).toInt = 3 → 0 ≤ (gi47 69 15).toInt)) ∧ (∀ (b : Nat → Int32) (n q : Nat), t_Sm b n q g46 → t_TM b n q gi47) := q47
          obtain ⟨l49, u49⟩ := hI.b (hI.wf.s (k := 69) rfl) (t_bdK rfl : t_bd 11 12 = some (0, 4))
          obtain ⟨l50, u50⟩ := hI.b (hI.wf.s (k := 69) rfl) (t_bdK rfl : t_bd 11 14 = some (0, 900))
          refine ev_jmp f_X12_aOne (nx := 0) rfl rfl rfl ?_
          refine ev_sub (lo := [(0, .ref 69)]) rfl (t_sc rfl t_sn) ?_
          exact ih7 _ (by omega) gi47 gl47 gr47  hI hX  ((hC47.1 69 24 rfl).1.trans ((by rw [e46]; exact x_up2_off (Or.inr (by decide)) : g46 69 24 = g43 69 24).trans ((by rw [e43]; exact x_up2_off (Or.inl (by decide)) : g43 69 24 = g22 69 24).trans ((by rw [e22]; exact x_up2_off (Or.inr (by decide)) : g22 69 24 = gi7 69 24).trans c7_0)))) ((hC47.1 69 25 rfl).1.trans ((by rw [e46]; exact x_up2_off (Or.inr (by decide)) : g46 69 25 = g43 69 25).trans ((by rw [e43]; exact x_up2_off (Or.inl (by decide)) : g43 69 25 = g22 69 25).trans ((by rw [e22]; exact x_up2_off (Or.inr (by decide)) : g22 69 25 = gi7 69 25).trans c7_1)))) (by have ho := (t_onec (p := (gi7 69 22).toInt.toNat) ((by rw [e22]; exact x_up2_ne (by decide) : g22 77 = gi7 77)) e43 ((funext (fun j => (hC47.1 77 j rfl).1) : gi47 77 = g46 77).trans ((by rw [e46]; exact x_up2_ne (by decide) : g46 77 = g43 77))) (by have hc := t_clamp (i := (gi7 69 22)) (by omega); omega)); exact t_K_does j7_0 (by omega) (by decide) (show (gi47 69 22).toInt = (gi7 69 22).toInt + 1 from (by have ff51 : (gi47 69 22).toInt = z45.toInt := congrArg Int32.toInt ((hC47.1 69 22 rfl).1.trans (by rw [e46]; exact x_up2_at _ _ _ _ : g46 69 22 = z45)); omega)) (show (gi47 69 23).toInt = (gi7 69 23).toInt + 1 from (by have ff52 : (gi47 69 23).toInt = z21.toInt := congrArg Int32.toInt ((hC47.1 69 23 rfl).1.trans ((by rw [e46]; exact x_up2_off (Or.inr (by decide)) : g46 69 23 = g43 69 23).trans ((by rw [e43]; exact x_up2_off (Or.inl (by decide)) : g43 69 23 = g22 69 23).trans (by rw [e22]; exact x_up2_at _ _ _ _ : g22 69 23 = z21)))); omega)) (show (gi47 69 24).toInt = (gi7 69 24).toInt from (by have ff53 : (gi47 69 24).toInt = (gi 69 24).toInt := congrArg Int32.toInt ((hC47.1 69 24 rfl).1.trans ((by rw [e46]; exact x_up2_off (Or.inr (by decide)) : g46 69 24 = g43 69 24).trans ((by rw [e43]; exact x_up2_off (Or.inl (by decide)) : g43 69 24 = g22 69 24).trans ((by rw [e22]; exact x_up2_off (Or.inr (by decide)) : g22 69 24 = gi7 69 24).trans c7_0)))); omega)) (show (gi47 69 25).toInt = (gi7 69 25).toInt from (by have ff54 : (gi47 69 25).toInt = (gi 69 25).toInt := congrArg Int32.toInt ((hC47.1 69 25 rfl).1.trans ((by rw [e46]; exact x_up2_off (Or.inr (by decide)) : g46 69 25 = g43 69 25).trans ((by rw [e43]; exact x_up2_off (Or.inl (by decide)) : g43 69 25 = g22 69 25).trans ((by rw [e22]; exact x_up2_off (Or.inr (by decide)) : g22 69 25 = gi7 69 25).trans c7_1)))); omega)) ((funext (fun j => (hC47.1 70 j rfl).1) : gi47 70 = g46 70).trans ((by rw [e46]; exact x_up2_ne (by decide) : g46 70 = g43 70).trans ((by rw [e43]; exact x_up2_ne (by decide) : g43 70 = g22 70).trans ((by rw [e22]; exact x_up2_ne (by decide) : g22 70 = gi7 70))))) ho.1 ho.2) (by omega) (fun b n q c T h => (by
                                                            obtain ⟨q2, T2, hX, hl, hm⟩ := j7_2 b n q c T h
                                                            have hoo := hm.2.1.2.2
                                                            have hk := q12.1 b n _ hm.1.1
                                                            have hN := s_nst_mi.mpr (Or.inl (hk.symm.trans (by omega)))
                                                            have hB := s_Cnd_n (c := c) hm.qn hN (show T2.length ≠ 6 by omega)
                                                            have hS : s_isS b n q2 40 := (q23.1 b n _ (hm.1.1.fM (t_fM.rf.u9 (by decide) e22))).mp (by omega)
                                                            rw [s_brk40 hS] at hB
                                                            have h1 : t_MC b n q2 c (40 :: T2) g46 := hm.ps (v := (40 : Int32)) (by decide) (by omega) (((t_fM.rf.u9 (by decide) e22).ux (by decide) e43).u9 (by decide) e46) (congrArg Int32.toInt (by rw [e46, x_up2_off (Or.inr (by decide)), e43, x_up2_ne (by decide), e22, x_up2_off (Or.inr (by decide))])) (by rw [e46, x_up2_off (Or.inr (by decide)), e43, x_up2_ne (by decide), e22, x_up2_at]; exact Int.le_antisymm (by omega) (by omega)) (by rw [e46, x_up2_at]; exact Int.le_antisymm (by omega) (by omega)) ⟨fun j hj => (by rw [e46, x_up2_ne (by decide), e43, x_up2_off (Or.inr (show j ≠ (gi7 69 22).toNatClampNeg from hj)), e22, x_up2_ne (by decide)]), by rw [e46, x_up2_ne (by decide), e43]; exact x_up2_at _ _ _ _⟩
                                                            have h2 := h1.ah (q47.2 b n _ h1.1.1.S) ⟨(hC47.1 69 18 rfl).1, (hC47.1 69 17 rfl).1⟩ (congrArg Int32.toInt (hC47.1 69 24 rfl).1) (congrArg Int32.toInt (hC47.1 69 23 rfl).1) (congrArg Int32.toInt (hC47.1 69 22 rfl).1) (funext fun j => (hC47.1 77 j rfl).1)
                                                            exact ⟨_, _, hX.trans hB, by have := s_nst_gt hN; omega, h2⟩)) rfl
    · have r55 : w12.toInt ≠ 20 := fun e => h13 (Int32.toInt_inj.mp (e.trans (by decide : (20:Int) = (20 : Int32).toInt)))
      refine ev_loc f_X12_aOne (nx := 12) rfl rfl rfl rfl ?_
      refine ev_bp f_X12_aOne (nx := 14) (v := 40) rfl (by decide) rfl ?_
      refine ev_qI0 f_X12_aOne (nx := 17) (r := []) rfl rfl rfl rfl rfl rfl rfl (c_n_isSignB hI (40)) rfl (fun w56 l56 u56 q56 => ?_)
      have q56 : (∀ (b : Nat → Int32) (n q : Nat), t_TM b n q gi7 → (w56.toInt = 1 ↔ s_isS b n q 40)) ∧ (w56.toInt = 1 → (gi7 69 12).toInt = 4) := q56
      refine ev_if f_X12_aOne (t1 := 73) (t2 := 20) rfl rfl rfl (fun h57 => ?_) (fun h57 => ?_)
      · have u58 : w56.toInt ≤ 0 := t_equ h57 (by decide : (0:Int32).toInt ≤ (0:Int))
        refine ev_loc f_X12_aOne (nx := 74) rfl rfl rfl rfl ?_
        refine ev_heap f_X12_aOne (nx := 76) rfl rfl rfl rfl ?_
        refine ev_qI0 f_X12_aOne (nx := 79) (r := []) rfl rfl rfl rfl rfl rfl rfl (c_n_inWords hI ) rfl (fun w59 l59 u59 q59 => ?_)
        have q59 : (∀ (b : Nat → Int32) (n q : Nat), t_TM b n q gi7 → w59.toInt = s_mi (s_W b n q)) ∧ (0 ≤ w59.toInt → (gi7 69 12).toInt = 2) := q59
        refine ev_loc f_X12_aOne (nx := 80) (lo' := [(1, .int w59), (0, .ref 69)]) rfl rfl rfl rfl ?_
        refine ev_loc f_X12_aOne (nx := 81) rfl rfl rfl rfl ?_
        refine ev_bp f_X12_aOne (nx := 83) (v := 15) rfl (by decide) rfl ?_
        refine ev_if f_X12_aOne (t1 := 110) (t2 := 86) rfl rfl rfl (fun h60 => ?_) (fun h60 => ?_)
        · have u61 : w59.toInt ≤ 15 := t_equ h60 (by decide : (15:Int32).toInt ≤ (15:Int))
          have l62 : 15 ≤ w59.toInt := t_eql h60 (by decide : (15:Int) ≤ (15:Int32).toInt)
          refine ev_loc f_X12_aOne (nx := 111) rfl rfl rfl rfl ?_
          refine ev_loc f_X12_aOne (nx := 112) rfl rfl rfl rfl ?_
          refine ev_qI f_X12_aOne (nx := 115) (r := []) rfl rfl rfl rfl rfl rfl rfl (c_n_aCaseB hI (w59) l62 (Int.le_trans u61 (by decide : (15:Int) ≤ 26)) (b := b) j7_0 (by omega)) rfl hX rfl (fun w63 gi63 gl63 gr63 l63 u63 hI hX hC63 q63 => ?_)
          have q63 : ((gi7 69 14).toInt ≤ (gi63 69 14).toInt ∧ (w63.toInt = 1 → (gi63 69 12).toInt ≠ 0 → (gi7 69 14).toInt < (gi63 69 14).toInt) ∧ (w63.toInt = 0 → (gi63 69 18).toInt ≠ 0) ∧ (w63.toInt = 1 → t_K (b) gi63 1)) ∧ ((∀ (b : Nat → Int32) (n q c : Nat) (T : List Int), t_MC b n q c T gi7 → s_fct b n q → ¬ s_nst b n q → s_mi (s_W b n q) = w59.toInt → (w63.toInt = 1 ∧ ∃ q2, q < q2 ∧ s_Cnd b n false q c T = s_Cnd b n true q2 (c + 1) (s_pop T) ∧ t_MC b n q2 (c + 1) T gi63) ∨ (w63.toInt = 0 ∧ ∃ p x, x ≠ 0 ∧ s_Cnd b n false q c T = s_qb b n p x ∧ t_MF gi63 (s_fk b n p x) (s_F b n p)))) := q63
          obtain ⟨l64, u64⟩ := hI.b (hI.wf.s (k := 69) rfl) (t_bdK rfl : t_bd 11 12 = some (0, 4))
          obtain ⟨l65, u65⟩ := hI.b (hI.wf.s (k := 69) rfl) (t_bdK rfl : t_bd 11 14 = some (0, 900))
          obtain ⟨l66, u66⟩ := hI.b (hI.wf.s (k := 69) rfl) (t_bdK rfl : t_bd 11 24 = some (0, 24))
          obtain ⟨l67, u67⟩ := hI.b (hI.wf.s (k := 69) rfl) (t_bdK rfl : t_bd 11 25 = some (0, 210))
          refine ev_if f_X12_aOne (t1 := 118) (t2 := 120) rfl rfl rfl (fun h68 => ?_) (fun h68 => ?_)
          · have u69 : w63.toInt ≤ 0 := t_equ h68 (by decide : (0:Int32).toInt ≤ (0:Int))
            refine ev_ic f_X12_aOne (nx := 119) (v := 0) rfl (by decide) rfl ?_
            exact ev_ret f_X12_aOne rfl rfl rfl ⟨_, _, _, rfl, hI, hX, ⟨_, rfl, (by decide : (0:Int) ≤ (0:Int32).toInt), (Int.le_trans (by decide : (0:Int32).toInt ≤ (0:Int)) (by decide : (0:Int) ≤ 1)), (show (∀ (b : Nat → Int32) (n q c : Nat) (T : List Int), t_MC b n q c T gi → ((0 : Int) = 1 ∧ ∃ q2 c2 T2, s_Cnd b n false q c T = s_Cnd b n true q2 c2 T2 ∧ q < q2 ∧ s_pop T2 = T2 ∧ ¬ (s_isS b n q2 41 ∧ T2 ≠ []) ∧ t_MC b n q2 c2 T2 gi63) ∨ ((0 : Int) = 0 ∧ ∃ p x, x ≠ 0 ∧ s_Cnd b n false q c T = s_qb b n p x ∧ t_MF gi63 (s_fk b n p x) (s_F b n p))) from (fun b n q c T h => (by
                                                            obtain ⟨q2, T2, hX, hl, hm⟩ := j7_2 b n q c T h
                                                            have hoo := hm.2.1.2.2
                                                            have hk := q12.1 b n _ hm.1.1
                                                            have hN : ¬ s_nst b n q2 := fun hh => (s_nst_mi.mp hh).elim (fun x => by omega) (fun x => absurd ((q56.1 b n _ hm.1.1).mpr x) (by omega))
                                                            have hk2 := q59.1 b n _ hm.1.1
                                                            have hf : s_fct b n q2 := s_fct_mi.mpr (by omega)
                                                            obtain ⟨_, p, x, hx, hK, h2⟩ := (q63.2 b n q2 c T2 hm hf hN hk2.symm).resolve_left (fun hh => absurd hh.1 (by omega))
                                                            exact Or.inr ⟨rfl, p, x, hx, hX.trans hK, h2⟩)))⟩⟩
          · have r70 : w63.toInt ≠ 0 := fun e => h68 (Int32.toInt_inj.mp (e.trans (by decide : (0:Int) = (0 : Int32).toInt)))
            have l71 : 1 ≤ w63.toInt := t_nel h68 l63 rfl rfl
            refine ev_loc f_X12_aOne (nx := 121) rfl rfl rfl rfl ?_
            refine ev_qN f_X12_aOne (nx := 124) (r := []) rfl rfl rfl rfl rfl rfl rfl (c_n_turnsRoundB hI  (b := b) (q63.1.2.2.2 (by omega))) rfl hX rfl (fun gi72 gl72 gr72 hI hX hC72 q72 => ?_)
            have q72 : (t_K (b) gi72 2) ∧ ((∀ (b : Nat → Int32) (n q c : Nat) (T : List Int), t_MC b n q c T gi63 → t_MC b n q c (s_pop T) gi72)) := q72
            obtain ⟨l73, u73⟩ := hI.b (hI.wf.s (k := 69) rfl) (t_bdK rfl : t_bd 11 22 = some (0, 60))
            obtain ⟨l74, u74⟩ := hI.b (hI.wf.s (k := 69) rfl) (t_bdK rfl : t_bd 11 23 = some (0, 6))
            obtain ⟨l75, u75⟩ := hI.b (hI.wf.s (k := 69) rfl) (t_bdK rfl : t_bd 11 25 = some (0, 210))
            have L76 : ∀ (m76 : Nat) (gi76 : Nat → Nat → Int32) (gl76 : Nat → Nat → Int64) (gr76 : Nat → Nat → Value), t_I sh gi76 gr76 → t_X wl_n_aOne sh gi gl gr gi76 gl76 gr76 → t_K b gi76 2 → (gi 69 14).toInt ≤ (gi76 69 14).toInt → ((gi76 69 12).toInt ≠ 0 → (gi 69 14).toInt < (gi76 69 14).toInt) → (∀ (b : Nat → Int32) (n q c : Nat) (T : List Int), t_MC b n q c T gi → ∃ q2 c2 T2, s_Cnd b n false q c T = s_Cnd b n true q2 c2 T2 ∧ q < q2 ∧ s_pop T2 = T2 ∧ t_MC b n q2 c2 T2 gi76) → (2 * (900 - (gi76 69 14).toInt) + min (gi76 69 12).toInt 1).toNat = m76 → x_Ev X (d + 6) n_X12_aOne 124 [(1, .int w59), (0, .ref 69)] [] (sh, gi76, gl76, gr76) (t_PI wl_n_aOne sh gi gl gr 0 1 (Q_n_aOne gi gl gr b)) := by
              intro m76
              induction m76 using Nat.strongRecOn with
              | _ m76 ih76 =>
              intro gi76 gl76 gr76 hI hX j76_0 j76_1 j76_2 j76_3 hm76
              obtain ⟨l77, u77⟩ := hI.b (hI.wf.s (k := 69) rfl) (t_bdK rfl : t_bd 11 12 = some (0, 4))
              obtain ⟨l78, u78⟩ := hI.b (hI.wf.s (k := 69) rfl) (t_bdK rfl : t_bd 11 14 = some (0, 900))
              obtain ⟨l79, u79⟩ := hI.b (hI.wf.s (k := 69) rfl) (t_bdK rfl : t_bd 11 22 = some (0, 60))
              obtain ⟨l80, u80⟩ := hI.b (hI.wf.s (k := 69) rfl) (t_bdK rfl : t_bd 11 23 = some (0, 6))
              obtain ⟨l81, u81⟩ := hI.b (hI.wf.s (k := 69) rfl) (t_bdK rfl : t_bd 11 24 = some (0, 24))
              obtain ⟨l82, u82⟩ := hI.b (hI.wf.s (k := 69) rfl) (t_bdK rfl : t_bd 11 25 = some (0, 210))
              refine ev_loc f_X12_aOne (nx := 125) rfl rfl rfl rfl ?_
              refine ev_bp f_X12_aOne (nx := 127) (v := 41) rfl (by decide) rfl ?_
              refine ev_qI0 f_X12_aOne (nx := 130) (r := []) rfl rfl rfl rfl rfl rfl rfl (c_n_isSignB hI (41)) rfl (fun w83 l83 u83 q83 => ?_)
              have q83 : (∀ (b : Nat → Int32) (n q : Nat), t_TM b n q gi76 → (w83.toInt = 1 ↔ s_isS b n q 41)) ∧ (w83.toInt = 1 → (gi76 69 12).toInt = 4) := q83
              refine ev_if f_X12_aOne (t1 := 187) (t2 := 133) rfl rfl rfl (fun h84 => ?_) (fun h84 => ?_)
              · have u85 : w83.toInt ≤ 0 := t_equ h84 (by decide : (0:Int32).toInt ≤ (0:Int))
                refine ev_ic f_X12_aOne (nx := 188) (v := 1) rfl (by decide) rfl ?_
                exact ev_ret f_X12_aOne rfl rfl rfl ⟨_, _, _, rfl, hI, hX, ⟨_, rfl, (Int.le_trans (by decide : (0:Int) ≤ 1) (by decide : (1:Int) ≤ (1:Int32).toInt)), (by decide : (1:Int32).toInt ≤ (1:Int)), (show (∀ (b : Nat → Int32) (n q c : Nat) (T : List Int), t_MC b n q c T gi → ((1 : Int) = 1 ∧ ∃ q2 c2 T2, s_Cnd b n false q c T = s_Cnd b n true q2 c2 T2 ∧ q < q2 ∧ s_pop T2 = T2 ∧ ¬ (s_isS b n q2 41 ∧ T2 ≠ []) ∧ t_MC b n q2 c2 T2 gi76) ∨ ((1 : Int) = 0 ∧ ∃ p x, x ≠ 0 ∧ s_Cnd b n false q c T = s_qb b n p x ∧ t_MF gi76 (s_fk b n p x) (s_F b n p))) from (fun b n q c T h => (by
                                                            obtain ⟨q2, c2, T2, hX, hl, hp, hm⟩ := j76_3 b n q c T h
                                                            exact Or.inl ⟨rfl, q2, c2, T2, hX, hl, hp, (fun hh => absurd ((q83.1 b n _ hm.1.1).mpr hh.1) (by omega)), hm⟩)))⟩⟩
              · have r86 : w83.toInt ≠ 0 := fun e => h84 (Int32.toInt_inj.mp (e.trans (by decide : (0:Int) = (0 : Int32).toInt)))
                have l87 : 1 ≤ w83.toInt := t_nel h84 l83 rfl rfl
                refine ev_loc f_X12_aOne (nx := 134) rfl rfl rfl rfl ?_
                refine ev_qI0 f_X12_aOne (nx := 137) (r := []) rfl rfl rfl rfl rfl rfl rfl (c_m_isWithin hI ) rfl (fun w88 l88 u88 q88 => ?_)
                have q88 : (w88.toInt = 1 → t_ex gi76) ∧ (w88.toInt = 0 → t_n40 gi76) := q88
                refine ev_if f_X12_aOne (t1 := 187) (t2 := 140) rfl rfl rfl (fun h89 => ?_) (fun h89 => ?_)
                · have u90 : w88.toInt ≤ 0 := t_equ h89 (by decide : (0:Int32).toInt ≤ (0:Int))
                  refine ev_ic f_X12_aOne (nx := 188) (v := 1) rfl (by decide) rfl ?_
                  exact ev_ret f_X12_aOne rfl rfl rfl ⟨_, _, _, rfl, hI, hX, ⟨_, rfl, (Int.le_trans (by decide : (0:Int) ≤ 1) (by decide : (1:Int) ≤ (1:Int32).toInt)), (by decide : (1:Int32).toInt ≤ (1:Int)), (show (∀ (b : Nat → Int32) (n q c : Nat) (T : List Int), t_MC b n q c T gi → ((1 : Int) = 1 ∧ ∃ q2 c2 T2, s_Cnd b n false q c T = s_Cnd b n true q2 c2 T2 ∧ q < q2 ∧ s_pop T2 = T2 ∧ ¬ (s_isS b n q2 41 ∧ T2 ≠ []) ∧ t_MC b n q2 c2 T2 gi76) ∨ ((1 : Int) = 0 ∧ ∃ p x, x ≠ 0 ∧ s_Cnd b n false q c T = s_qb b n p x ∧ t_MF gi76 (s_fk b n p x) (s_F b n p))) from (fun b n q c T h => (by
                                                            obtain ⟨q2, c2, T2, hX, hl, hp, hm⟩ := j76_3 b n q c T h
                                                            exact Or.inl ⟨rfl, q2, c2, T2, hX, hl, hp, (fun hh => hh.2 (hm.nx hp (q88.2 (by omega)) (by omega))), hm⟩)))⟩⟩
                · have r91 : w88.toInt ≠ 0 := fun e => h89 (Int32.toInt_inj.mp (e.trans (by decide : (0:Int) = (0 : Int32).toInt)))
                  have l92 : 1 ≤ w88.toInt := t_nel h89 l88 rfl rfl
                  have L93 : ∀ (m93 : Nat) (gi93 : Nat → Nat → Int32) (gl93 : Nat → Nat → Int64) (gr93 : Nat → Nat → Value), t_I sh gi93 gr93 → t_X wl_n_aOne sh gi gl gr gi93 gl93 gr93 → gi93 69 12 = (gi76 69 12) → gi93 69 14 = (gi76 69 14) → gi93 69 23 = (gi76 69 23) → gi93 69 24 = (gi76 69 24) → t_K b gi93 2 → t_ex gi93 → (gi 69 14).toInt ≤ (gi93 69 14).toInt → ((gi93 69 12).toInt ≠ 0 → (gi 69 14).toInt < (gi93 69 14).toInt) → (∀ (b : Nat → Int32) (n q c : Nat) (T : List Int), t_MC b n q c T gi → ∃ q2 c2 T2, s_Cnd b n false q c T = s_Cnd b n true q2 c2 T2 ∧ q < q2 ∧ s_pop T2 = T2 ∧ (s_isS b n q2 41 ∧ T2 ≠ []) ∧ t_MC b n q2 c2 T2 gi93) → (gi93 69 22).toInt.toNat = m93 → x_Ev X (d + 6) n_X12_aOne 140 [(1, .int w59), (0, .ref 69)] [] (sh, gi93, gl93, gr93) (t_PI wl_n_aOne sh gi gl gr 0 1 (Q_n_aOne gi gl gr b)) := by
                    intro m93
                    induction m93 using Nat.strongRecOn with
                    | _ m93 ih93 =>
                    intro gi93 gl93 gr93 hI hX c93_0 c93_1 c93_2 c93_3 j93_0 j93_1 j93_2 j93_3 j93_4 hm93
                    have cf93_0 : (gi93 69 12).toInt = (gi76 69 12).toInt := congrArg Int32.toInt c93_0
                    have cf93_1 : (gi93 69 14).toInt = (gi76 69 14).toInt := congrArg Int32.toInt c93_1
                    have cf93_2 : (gi93 69 23).toInt = (gi76 69 23).toInt := congrArg Int32.toInt c93_2
                    have cf93_3 : (gi93 69 24).toInt = (gi76 69 24).toInt := congrArg Int32.toInt c93_3
                    obtain ⟨l94, u94⟩ := hI.b (hI.wf.s (k := 69) rfl) (t_bdK rfl : t_bd 11 22 = some (0, 60))
                    obtain ⟨l95, u95⟩ := hI.b (hI.wf.s (k := 69) rfl) (t_bdK rfl : t_bd 11 25 = some (0, 210))
                    have l96 : (1:Int) ≤ (gi93 69 22).toInt := by obtain ⟨j, hj, _⟩ := j93_1; omega
                    refine ev_loc f_X12_aOne (nx := 141) rfl rfl rfl rfl ?_
                    refine ev_bp f_X12_aOne (nx := 143) (v := 40) rfl (by decide) rfl ?_
                    refine ev_inV2 f_X12_aOne (nx := 146) (lo2 := [(0, .ref 69), (1, .int 40)]) rfl rfl rfl rfl f_X12_isDoing (hI.wf.s rfl) rfl rfl rfl rfl rfl ?_
                    refine ev_loc f_X12_isDoing (nx := 1) rfl rfl rfl rfl ?_
                    refine ev_gvI f_X12_isDoing (nx := 4) (w := (gi93 69 22)) rfl (hI.wf.s rfl) rfl rfl rfl rfl ?_
                    refine ev_f f_X12_isDoing (t1 := 26) (t2 := 7) rfl rfl rfl (t_leF (by decide : (0:Int32).toInt ≤ (0:Int)) l96 (by decide)) ?_
                    refine ev_loc f_X12_isDoing (nx := 8) rfl rfl rfl rfl ?_
                    refine ev_getR f_X12_isDoing (nx := 11) rfl (hI.wf.s rfl) rfl rfl (hI.wf.r rfl) rfl rfl ?_
                    refine ev_loc f_X12_isDoing (nx := 12) rfl rfl rfl rfl ?_
                    refine ev_gvI f_X12_isDoing (nx := 15) (w := (gi93 69 22)) rfl (hI.wf.s rfl) rfl rfl rfl rfl ?_
                    refine ev_ic f_X12_isDoing (nx := 16) (v := 1) rfl (by decide) rfl ?_
                    refine ev_subC f_X12_isDoing (nx := 17) (c := 1) (l := 0) (u := 59) rfl (by decide) l96 u94 rfl rfl (by decide) (by decide) rfl (fun z97 e97 l97 u97 => ?_)
                    refine ev_ialdT f_X12_isDoing (nx := 18) rfl (hI.wf.s rfl) l97 (by decide) u97 (by decide) rfl (fun w98 e98 => ?_)
                    refine ev_loc f_X12_isDoing (nx := 19) rfl rfl rfl rfl ?_
                    refine ev_if f_X12_isDoing (t1 := 22) (t2 := 26) rfl rfl rfl (fun h99 => ?_) (fun h99 => ?_)
                    · have u100 : w98.toInt ≤ 40 := t_equ h99 (by decide : (40:Int32).toInt ≤ (40:Int))
                      have l101 : 40 ≤ w98.toInt := t_eql h99 (by decide : (40:Int) ≤ (40:Int32).toInt)
                      refine ev_ic f_X12_isDoing (nx := 23) (v := 1) rfl (by decide) rfl ?_
                      refine ev_jmp f_X12_isDoing (nx := 27) rfl rfl rfl ?_
                      refine ev_retK1 f_X12_isDoing rfl rfl rfl ?_
                      refine ev_f f_X12_aOne (t1 := 149) (t2 := 156) rfl rfl rfl (by decide) ?_
                      refine ev_loc f_X12_aOne (nx := 157) rfl rfl rfl rfl ?_
                      refine ev_alu f_X12_aOne (nx := 158) rfl rfl rfl rfl ?_
                      refine ev_gvI f_X12_aOne (nx := 161) (w := (gi93 69 22)) rfl (hI.wf.s rfl) rfl rfl rfl rfl ?_
                      refine ev_ic f_X12_aOne (nx := 162) (v := 1) rfl (by decide) rfl ?_
                      refine ev_subC f_X12_aOne (nx := 163) (c := 1) (l := 0) (u := 59) rfl (by decide) l96 u94 rfl rfl (by decide) (by decide) rfl (fun z102 e102 l102 u102 => ?_)
                      refine ev_putIT f_X12_aOne (nx := 166) rfl (hI.wf.s rfl) rfl rfl rfl (hI.putB (hI.wf.s rfl) rfl rfl l102 (by decide) u102 (by decide)) (hX.upI rfl) (fun g103 e103 hI hX => ?_)
                      refine ev_loc f_X12_aOne (nx := 167) rfl rfl rfl rfl ?_
                      refine ev_alu f_X12_aOne (nx := 168) rfl rfl rfl rfl ?_
                      refine ev_gvI f_X12_aOne (nx := 171) (w := (gi76 69 23)) rfl (hI.wf.s rfl) rfl rfl ((by rw [e103]; exact x_up2_off (Or.inr (by decide)) : g103 69 23 = gi93 69 23).trans c93_2) rfl ?_
                      refine ev_ic f_X12_aOne (nx := 172) (v := 1) rfl (by decide) rfl ?_
                      refine ev_subC f_X12_aOne (nx := 173) (c := 1) (l := (-1)) (u := 5) rfl (by decide) l80 u80 rfl rfl (by decide) (by decide) rfl (fun z104 e104 l104 u104 => ?_)
                      have l106 : (0:Int) ≤ z104.toInt := (by have hw := t_K_w j93_0 (by omega) (by rw [← (by rw [e98]; have hc := t_clamp (i := z97) (by omega); have hx : z97.toNatClampNeg = (gi93 69 22).toInt.toNat - 1 := (by omega); rw [hx] : w98 = gi93 77 ((gi93 69 22).toInt.toNat - 1))]; omega); omega)
                      refine ev_putIT f_X12_aOne (nx := 176) rfl (hI.wf.s rfl) rfl rfl rfl (hI.putB (hI.wf.s rfl) rfl rfl l106 (by decide) u104 (by decide)) (hX.upI rfl) (fun g105 e105 hI hX => ?_)
                      refine ev_loc f_X12_aOne (nx := 177) rfl rfl rfl rfl ?_
                      refine ev_qN f_X12_aOne (nx := 180) (r := []) rfl rfl rfl rfl rfl rfl rfl (c_n_aheadB hI ) rfl hX rfl (fun gi107 gl107 gr107 hI hX hC107 q107 => ?_)
                      have ff108 : (g105 69 14).toInt = (gi76 69 14).toInt := congrArg Int32.toInt ((by rw [e105]; exact x_up2_off (Or.inr (by decide)) : g105 69 14 = g103 69 14).trans ((by rw [e103]; exact x_up2_off (Or.inr (by decide)) : g103 69 14 = gi93 69 14).trans c93_1))
                      have q107 : ((g105 69 14).toInt ≤ (gi107 69 14).toInt ∧ ((gi107 69 12).toInt ≠ 0 → (g105 69 14).toInt < (gi107 69 14).toInt) ∧ ((gi107 69 12).toInt = 3 → 0 ≤ (gi107 69 15).toInt)) ∧ (∀ (b : Nat → Int32) (n q : Nat), t_Sm b n q g105 → t_TM b n q gi107) := q107
                      obtain ⟨l109, u109⟩ := hI.b (hI.wf.s (k := 69) rfl) (t_bdK rfl : t_bd 11 12 = some (0, 4))
                      obtain ⟨l110, u110⟩ := hI.b (hI.wf.s (k := 69) rfl) (t_bdK rfl : t_bd 11 14 = some (0, 900))
                      refine ev_loc f_X12_aOne (nx := 181) rfl rfl rfl rfl ?_
                      refine ev_qN f_X12_aOne (nx := 184) (r := []) rfl rfl rfl rfl rfl rfl rfl (c_n_turnsRoundB hI  (b := b) (t_K_par j93_0 (by omega) (by rw [← (by rw [e98]; have hc := t_clamp (i := z97) (by omega); have hx : z97.toNatClampNeg = (gi93 69 22).toInt.toNat - 1 := (by omega); rw [hx] : w98 = gi93 77 ((gi93 69 22).toInt.toNat - 1))]; omega) (show (gi107 69 22).toInt = (gi93 69 22).toInt - 1 from (by have ff112 : (gi107 69 22).toInt = z102.toInt := congrArg Int32.toInt ((hC107.1 69 22 rfl).1.trans ((by rw [e105]; exact x_up2_off (Or.inr (by decide)) : g105 69 22 = g103 69 22).trans (by rw [e103]; exact x_up2_at _ _ _ _ : g103 69 22 = z102))); omega)) (show (gi107 69 23).toInt = (gi93 69 23).toInt - 1 from (by have ff113 : (gi107 69 23).toInt = z104.toInt := congrArg Int32.toInt ((hC107.1 69 23 rfl).1.trans (by rw [e105]; exact x_up2_at _ _ _ _ : g105 69 23 = z104)); omega)) (show (gi107 69 24).toInt = (gi93 69 24).toInt from (by have ff114 : (gi107 69 24).toInt = (gi76 69 24).toInt := congrArg Int32.toInt ((hC107.1 69 24 rfl).1.trans ((by rw [e105]; exact x_up2_off (Or.inr (by decide)) : g105 69 24 = g103 69 24).trans ((by rw [e103]; exact x_up2_off (Or.inr (by decide)) : g103 69 24 = gi93 69 24).trans c93_3))); omega)) (show (gi107 69 25).toInt = (gi93 69 25).toInt from (by have ff115 : (gi107 69 25).toInt = (gi93 69 25).toInt := congrArg Int32.toInt ((hC107.1 69 25 rfl).1.trans ((by rw [e105]; exact x_up2_off (Or.inr (by decide)) : g105 69 25 = g103 69 25).trans ((by rw [e103]; exact x_up2_off (Or.inr (by decide)) : g103 69 25 = gi93 69 25).trans rfl))); omega)) ((funext (fun j => (hC107.1 77 j rfl).1) : gi107 77 = g105 77).trans ((by rw [e105]; exact x_up2_ne (by decide) : g105 77 = g103 77).trans ((by rw [e103]; exact x_up2_ne (by decide) : g103 77 = gi93 77)))) ((funext (fun j => (hC107.1 70 j rfl).1) : gi107 70 = g105 70).trans ((by rw [e105]; exact x_up2_ne (by decide) : g105 70 = g103 70).trans ((by rw [e103]; exact x_up2_ne (by decide) : g103 70 = gi93 70)))))) rfl hX rfl (fun gi111 gl111 gr111 hI hX hC111 q111 => ?_)
                      have q111 : (t_K (b) gi111 2) ∧ ((∀ (b : Nat → Int32) (n q c : Nat) (T : List Int), t_MC b n q c T gi107 → t_MC b n q c (s_pop T) gi111)) := q111
                      obtain ⟨l116, u116⟩ := hI.b (hI.wf.s (k := 69) rfl) (t_bdK rfl : t_bd 11 22 = some (0, 60))
                      obtain ⟨l117, u117⟩ := hI.b (hI.wf.s (k := 69) rfl) (t_bdK rfl : t_bd 11 23 = some (0, 6))
                      obtain ⟨l118, u118⟩ := hI.b (hI.wf.s (k := 69) rfl) (t_bdK rfl : t_bd 11 25 = some (0, 210))
                      refine ev_jmp f_X12_aOne (nx := 124) rfl rfl rfl ?_
                      refine ev_sub (lo := [(1, .int w59), (0, .ref 69)]) rfl (t_sc rfl (t_sc rfl t_sn)) ?_
                      exact ih76 _ (by have ff122 : (gi111 69 14).toInt = (gi107 69 14).toInt := congrArg Int32.toInt ((hC111.1 69 14 rfl).1.trans rfl); have ff123 : (gi111 69 12).toInt = (gi107 69 12).toInt := congrArg Int32.toInt ((hC111.1 69 12 rfl).1.trans rfl); omega) gi111 gl111 gr111  hI hX  q111.1 (by have ff119 : (gi111 69 14).toInt = (gi107 69 14).toInt := congrArg Int32.toInt ((hC111.1 69 14 rfl).1.trans rfl); omega) (by have ff120 : (gi111 69 12).toInt = (gi107 69 12).toInt := congrArg Int32.toInt ((hC111.1 69 12 rfl).1.trans rfl); have ff121 : (gi111 69 14).toInt = (gi107 69 14).toInt := congrArg Int32.toInt ((hC111.1 69 14 rfl).1.trans rfl); omega) (fun b n q c T h => (by
                                                            obtain ⟨q2, c2, T2, hX, hl, hp, ⟨hS, hne⟩, hm⟩ := j93_4 b n q c T h
                                                            obtain ⟨T3, eT, h1⟩ := hm.po (g1 := g105) (x := 40) (Or.inr rfl) (by omega) (by rw [← (by rw [e98]; have hc := t_clamp (i := z97) (by omega); have hx : z97.toNatClampNeg = (gi93 69 22).toInt.toNat - 1 := (Nat.le_antisymm (by omega) (by omega)); rw [hx] : w98 = gi93 77 ((gi93 69 22).toInt.toNat - 1))]; omega) ((t_fM.rf.u9 (by decide) e103).u9 (by decide) e105) (congrArg Int32.toInt (by rw [e105, x_up2_off (Or.inr (by decide)), e103, x_up2_off (Or.inr (by decide))])) (by rw [e105, x_up2_at]; exact Int.le_antisymm (by omega) (by omega)) (by rw [e105, x_up2_off (Or.inr (by decide)), e103, x_up2_at]; exact Int.le_antisymm (by omega) (by omega)) (funext fun j => (by rw [e105, x_up2_ne (by decide), e103, x_up2_ne (by decide)]))
                                                            subst eT
                                                            have h2 := h1.ah (q107.2 b n _ h1.1.1.S) ⟨(hC107.1 69 18 rfl).1, (hC107.1 69 17 rfl).1⟩ (congrArg Int32.toInt (hC107.1 69 24 rfl).1) (congrArg Int32.toInt (hC107.1 69 23 rfl).1) (congrArg Int32.toInt (hC107.1 69 22 rfl).1) (funext fun j => (hC107.1 77 j rfl).1)
                                                            exact ⟨_, c2, s_pop T3, hX.trans (s_Cnd_c hm.qn hS), by have := s_isS_gt hS; omega, s_pop_pop _, q111.2 b n _ _ _ h2⟩)) rfl
                    · have r124 : w98.toInt ≠ 40 := fun e => h99 (Int32.toInt_inj.mp (e.trans (by decide : (40:Int) = (40 : Int32).toInt)))
                      refine ev_ic f_X12_isDoing (nx := 27) (v := 0) rfl (by decide) rfl ?_
                      refine ev_retK1 f_X12_isDoing rfl rfl rfl ?_
                      refine ev_t f_X12_aOne (t1 := 149) (t2 := 156) rfl rfl rfl (by decide) ?_
                      refine ev_loc f_X12_aOne (nx := 150) rfl rfl rfl rfl ?_
                      refine ev_inV1 f_X12_aOne (nx := 153) (lo2 := [(0, .ref 69)]) rfl rfl rfl rfl f_X12_joins (hI.wf.s rfl) rfl rfl rfl rfl rfl ?_
                      have kn125 := t_K_num j93_0
                      refine ev_loc f_X12_joins (nx := 1) rfl rfl rfl rfl ?_
                      refine ev_alu f_X12_joins (nx := 2) rfl rfl rfl rfl ?_
                      refine ev_gvI f_X12_joins (nx := 5) (w := (gi93 69 22)) rfl (hI.wf.s rfl) rfl rfl rfl rfl ?_
                      refine ev_ic f_X12_joins (nx := 6) (v := 1) rfl (by decide) rfl ?_
                      refine ev_subC f_X12_joins (nx := 7) (c := 1) (l := 0) (u := 59) rfl (by decide) l96 u94 rfl rfl (by decide) (by decide) rfl (fun z126 e126 l126 u126 => ?_)
                      refine ev_putIT f_X12_joins (nx := 10) rfl (hI.wf.s rfl) rfl rfl rfl (hI.putB (hI.wf.s rfl) rfl rfl l126 (by decide) u126 (by decide)) (hX.upI rfl) (fun g127 e127 hI hX => ?_)
                      refine ev_loc f_X12_joins (nx := 11) rfl rfl rfl rfl ?_
                      refine ev_loc f_X12_joins (nx := 12) rfl rfl rfl rfl ?_
                      refine ev_getR f_X12_joins (nx := 15) rfl (hI.wf.s rfl) rfl rfl (hI.wf.r rfl) rfl rfl ?_
                      refine ev_loc f_X12_joins (nx := 16) rfl rfl rfl rfl ?_
                      refine ev_gvI f_X12_joins (nx := 19) (w := z126) rfl (hI.wf.s rfl) rfl rfl (by rw [e127]; exact x_up2_at _ _ _ _ : g127 69 22 = z126) rfl ?_
                      refine ev_ialdT f_X12_joins (nx := 20) rfl (hI.wf.s rfl) l126 (by decide) u126 (by decide) rfl (fun w128 e128 => ?_)
                      refine ev_inV2 f_X12_joins (nx := 23) (lo2 := [(0, .ref 69), (1, .int w128)]) rfl rfl rfl rfl f_X12_asksAlso (hI.wf.s rfl) rfl rfl rfl rfl rfl ?_
                      have kn129 := t_K_num j93_0
                      refine ev_loc f_X12_asksAlso (nx := 1) rfl rfl rfl rfl ?_
                      refine ev_getR f_X12_asksAlso (nx := 4) rfl (hI.wf.s rfl) rfl rfl (hI.wf.r rfl) rfl rfl ?_
                      refine ev_sp f_X12_asksAlso (nx := 7) (v := 1540) rfl (by decide) rfl ?_
                      refine ev_loc f_X12_asksAlso (nx := 8) rfl rfl rfl rfl ?_
                      refine ev_gvI f_X12_asksAlso (nx := 11) (w := (gi93 69 25)) rfl (hI.wf.s rfl) rfl rfl ((by rw [e127]; exact x_up2_off (Or.inr (by decide)) : g127 69 25 = gi93 69 25).trans rfl) rfl ?_
                      refine ev_addK f_X12_asksAlso (nx := 12) (c := 1540) (l := 1540) (u := 1750) rfl (by decide) l95 u95 rfl rfl (by decide) (by decide) rfl (fun z130 e130 l130 u130 => ?_)
                      refine ev_loc f_X12_asksAlso (nx := 13) rfl rfl rfl rfl ?_
                      refine ev_iastT f_X12_asksAlso (nx := 14) rfl (hI.wf.s rfl) l130 (by decide) u130 (by decide) rfl (hI.astL (hI.wf.s rfl) (by decide +kernel : t_abw 70 1540 1750 (-2147483648) 2147483647 = true) (t_cl1 l130 (by decide)) (t_cl2 l130 u130 (by decide) (by decide)) (t_lo w128) (t_hi w128) rfl) (hX.upI (t_inR (p := 1540) (m := 1750) rfl l130 (by decide) u130 (by decide) (by decide))) (fun g131 e131 hI hX => ?_)
                      refine ev_loc f_X12_asksAlso (nx := 15) rfl rfl rfl rfl ?_
                      refine ev_alu f_X12_asksAlso (nx := 16) rfl rfl rfl rfl ?_
                      refine ev_gvI f_X12_asksAlso (nx := 19) (w := (gi93 69 25)) rfl (hI.wf.s rfl) rfl rfl ((by rw [e131]; exact x_up2_off (Or.inl (by decide)) : g131 69 25 = g127 69 25).trans ((by rw [e127]; exact x_up2_off (Or.inr (by decide)) : g127 69 25 = gi93 69 25).trans rfl)) rfl ?_
                      refine ev_ic f_X12_asksAlso (nx := 20) (v := 1) rfl (by decide) rfl ?_
                      refine ev_addC f_X12_asksAlso (nx := 21) (c := 1) (l := 1) (u := 211) rfl (by decide) l95 u95 rfl rfl (by decide) (by decide) rfl (fun z132 e132 l132 u132 => ?_)
                      have u134 : z132.toInt ≤ (210:Int) := (by omega)
                      refine ev_putIT f_X12_asksAlso (nx := 24) rfl (hI.wf.s rfl) rfl rfl rfl (hI.putB (hI.wf.s rfl) rfl rfl l132 (by decide) u134 (by decide)) (hX.upI rfl) (fun g133 e133 hI hX => ?_)
                      refine ev_retK0 f_X12_asksAlso rfl rfl rfl ?_
                      refine ev_retK0 f_X12_joins rfl rfl rfl ?_
                      refine ev_jmp f_X12_aOne (nx := 140) rfl rfl rfl ?_
                      refine ev_sub (lo := [(1, .int w59), (0, .ref 69)]) rfl (t_sc rfl (t_sc rfl t_sn)) ?_
                      exact ih93 _ (by have ff143 : (g133 69 22).toInt = z126.toInt := congrArg Int32.toInt ((by rw [e133]; exact x_up2_off (Or.inr (by decide)) : g133 69 22 = g131 69 22).trans ((by rw [e131]; exact x_up2_off (Or.inl (by decide)) : g131 69 22 = g127 69 22).trans (by rw [e127]; exact x_up2_at _ _ _ _ : g127 69 22 = z126))); omega) g133 gl93 gr93  hI hX  ((by rw [e133]; exact x_up2_off (Or.inr (by decide)) : g133 69 12 = g131 69 12).trans ((by rw [e131]; exact x_up2_off (Or.inl (by decide)) : g131 69 12 = g127 69 12).trans ((by rw [e127]; exact x_up2_off (Or.inr (by decide)) : g127 69 12 = gi93 69 12).trans c93_0))) ((by rw [e133]; exact x_up2_off (Or.inr (by decide)) : g133 69 14 = g131 69 14).trans ((by rw [e131]; exact x_up2_off (Or.inl (by decide)) : g131 69 14 = g127 69 14).trans ((by rw [e127]; exact x_up2_off (Or.inr (by decide)) : g127 69 14 = gi93 69 14).trans c93_1))) ((by rw [e133]; exact x_up2_off (Or.inr (by decide)) : g133 69 23 = g131 69 23).trans ((by rw [e131]; exact x_up2_off (Or.inl (by decide)) : g131 69 23 = g127 69 23).trans ((by rw [e127]; exact x_up2_off (Or.inr (by decide)) : g127 69 23 = gi93 69 23).trans c93_2))) ((by rw [e133]; exact x_up2_off (Or.inr (by decide)) : g133 69 24 = g131 69 24).trans ((by rw [e131]; exact x_up2_off (Or.inl (by decide)) : g131 69 24 = g127 69 24).trans ((by rw [e127]; exact x_up2_off (Or.inr (by decide)) : g127 69 24 = gi93 69 24).trans c93_3))) (by have ht := (by rw [e128]; have hc := t_clamp (i := z126) (by omega); have hx : z126.toNatClampNeg = (gi93 69 22).toInt.toNat - 1 := (by omega); rw [hx]; exact congrFun (((by rw [e127]; exact x_up2_ne (by decide) : g127 77 = gi93 77))) _ : w128 = gi93 77 ((gi93 69 22).toInt.toNat - 1)); have ho := (t_one (p := 1540 + (gi93 69 25).toInt.toNat) ((by rw [e127]; exact x_up2_ne (by decide) : g127 70 = gi93 70)) e131 ((by rw [e133]; exact x_up2_ne (by decide) : g133 70 = g131 70)) (by have hc := t_clamp (i := z130) (by omega); omega)); exact t_K_bin j93_0 (by omega) (t_K_top j93_0 (by omega) (by rw [← (by rw [e98]; have hc := t_clamp (i := z97) (by omega); have hx : z97.toNatClampNeg = (gi93 69 22).toInt.toNat - 1 := (by omega); rw [hx] : w98 = gi93 77 ((gi93 69 22).toInt.toNat - 1))]; omega)) (show (g133 69 22).toInt = (gi93 69 22).toInt - 1 from (by have ff135 : (g133 69 22).toInt = z126.toInt := congrArg Int32.toInt ((by rw [e133]; exact x_up2_off (Or.inr (by decide)) : g133 69 22 = g131 69 22).trans ((by rw [e131]; exact x_up2_off (Or.inl (by decide)) : g131 69 22 = g127 69 22).trans (by rw [e127]; exact x_up2_at _ _ _ _ : g127 69 22 = z126))); omega)) (show (g133 69 23).toInt = (gi93 69 23).toInt from (by have ff136 : (g133 69 23).toInt = (gi76 69 23).toInt := congrArg Int32.toInt ((by rw [e133]; exact x_up2_off (Or.inr (by decide)) : g133 69 23 = g131 69 23).trans ((by rw [e131]; exact x_up2_off (Or.inl (by decide)) : g131 69 23 = g127 69 23).trans ((by rw [e127]; exact x_up2_off (Or.inr (by decide)) : g127 69 23 = gi93 69 23).trans c93_2))); omega)) (show (g133 69 24).toInt = (gi93 69 24).toInt from (by have ff137 : (g133 69 24).toInt = (gi76 69 24).toInt := congrArg Int32.toInt ((by rw [e133]; exact x_up2_off (Or.inr (by decide)) : g133 69 24 = g131 69 24).trans ((by rw [e131]; exact x_up2_off (Or.inl (by decide)) : g131 69 24 = g127 69 24).trans ((by rw [e127]; exact x_up2_off (Or.inr (by decide)) : g127 69 24 = gi93 69 24).trans c93_3))); omega)) (show (g133 69 25).toInt = (gi93 69 25).toInt + 1 from (by have ff138 : (g133 69 25).toInt = z132.toInt := congrArg Int32.toInt (by rw [e133]; exact x_up2_at _ _ _ _ : g133 69 25 = z132); omega)) ((by rw [e133]; exact x_up2_ne (by decide) : g133 77 = g131 77).trans ((by rw [e131]; exact x_up2_ne (by decide) : g131 77 = g127 77).trans ((by rw [e127]; exact x_up2_ne (by decide) : g127 77 = gi93 77)))) ho.1 (ho.2.trans ht)) (by obtain ⟨j, hj, hv⟩ := j93_1; have ht := (by rw [e98]; have hc := t_clamp (i := z97) (by omega); have hx : z97.toNatClampNeg = (gi93 69 22).toInt.toNat - 1 := (by omega); rw [hx] : w98 = gi93 77 ((gi93 69 22).toInt.toNat - 1)); have ff139 : (g133 69 22).toInt = z126.toInt := congrArg Int32.toInt ((by rw [e133]; exact x_up2_off (Or.inr (by decide)) : g133 69 22 = g131 69 22).trans ((by rw [e131]; exact x_up2_off (Or.inl (by decide)) : g131 69 22 = g127 69 22).trans (by rw [e127]; exact x_up2_at _ _ _ _ : g127 69 22 = z126))); refine ⟨j, ?_, (congrArg Int32.toInt (congrFun ((by rw [e133]; exact x_up2_ne (by decide) : g133 77 = g131 77).trans ((by rw [e131]; exact x_up2_ne (by decide) : g131 77 = g127 77).trans ((by rw [e127]; exact x_up2_ne (by decide) : g127 77 = gi93 77)))) j)).trans hv⟩; have hne : j ≠ (gi93 69 22).toInt.toNat - 1 := (fun e => by rw [e, ← ht] at hv; omega); omega) (by have ff140 : (g133 69 14).toInt = (gi76 69 14).toInt := congrArg Int32.toInt ((by rw [e133]; exact x_up2_off (Or.inr (by decide)) : g133 69 14 = g131 69 14).trans ((by rw [e131]; exact x_up2_off (Or.inl (by decide)) : g131 69 14 = g127 69 14).trans ((by rw [e127]; exact x_up2_off (Or.inr (by decide)) : g127 69 14 = gi93 69 14).trans c93_1))); omega) (by have ff141 : (g133 69 12).toInt = (gi76 69 12).toInt := congrArg Int32.toInt ((by rw [e133]; exact x_up2_off (Or.inr (by decide)) : g133 69 12 = g131 69 12).trans ((by rw [e131]; exact x_up2_off (Or.inl (by decide)) : g131 69 12 = g127 69 12).trans ((by rw [e127]; exact x_up2_off (Or.inr (by decide)) : g127 69 12 = gi93 69 12).trans c93_0))); have ff142 : (g133 69 14).toInt = (gi76 69 14).toInt := congrArg Int32.toInt ((by rw [e133]; exact x_up2_off (Or.inr (by decide)) : g133 69 14 = g131 69 14).trans ((by rw [e131]; exact x_up2_off (Or.inl (by decide)) : g131 69 14 = g127 69 14).trans ((by rw [e127]; exact x_up2_off (Or.inr (by decide)) : g127 69 14 = gi93 69 14).trans c93_1))); omega) (fun b n q c T h => (by
                                                            obtain ⟨q2, c2, T2, hX, hl, hp, hS, hm⟩ := j93_4 b n q c T h
                                                            have ht := hm.top hp (by omega) (by rw [← (by rw [e98]; have hc := t_clamp (i := z97) (by omega); have hx : z97.toNatClampNeg = (gi93 69 22).toInt.toNat - 1 := (Nat.le_antisymm (by omega) (by omega)); rw [hx] : w98 = gi93 77 ((gi93 69 22).toInt.toNat - 1))]; omega)
                                                            exact ⟨q2, c2, T2, hX, hl, hp, hS, hm.pj (by omega) ht (((t_fM.rf.u9 (by decide) e127).ux (by decide) e131).u9 (by decide) e133) (congrArg Int32.toInt (by rw [e133, x_up2_off (Or.inr (by decide)), e131, x_up2_ne (by decide), e127, x_up2_off (Or.inr (by decide))])) (congrArg Int32.toInt (by rw [e133, x_up2_off (Or.inr (by decide)), e131, x_up2_ne (by decide), e127, x_up2_off (Or.inr (by decide))])) (by rw [e133, x_up2_off (Or.inr (by decide)), e131, x_up2_ne (by decide), e127, x_up2_at]; exact Int.le_antisymm (by omega) (by omega)) (funext fun j => (by rw [e133, x_up2_ne (by decide), e131, x_up2_ne (by decide), e127, x_up2_ne (by decide)]))⟩)) rfl
                  refine ev_sub (lo := [(1, .int w59), (0, .ref 69)]) rfl (t_sc rfl (t_sc rfl t_sn)) ?_
                  exact L93 _ gi76 gl76 gr76  hI hX  rfl rfl rfl rfl j76_0 (q88.1 (by omega)) (by omega) (by omega) (fun b n q c T h => (by
                                                            obtain ⟨q2, c2, T2, hX, hl, hp, hm⟩ := j76_3 b n q c T h
                                                            exact ⟨q2, c2, T2, hX, hl, hp, ⟨(q83.1 b n _ hm.1.1).mp (by omega), hm.ex hp (q88.1 (by omega))⟩, hm⟩)) rfl
            refine ev_sub (lo := [(1, .int w59), (0, .ref 69)]) rfl (t_sc rfl (t_sc rfl t_sn)) ?_
            exact L76 _ gi72 gl72 gr72  hI hX  q72.1 (by have ff144 : (gi72 69 14).toInt = (gi63 69 14).toInt := congrArg Int32.toInt ((hC72.1 69 14 rfl).1.trans rfl); omega) (by have ff145 : (gi72 69 12).toInt = (gi63 69 12).toInt := congrArg Int32.toInt ((hC72.1 69 12 rfl).1.trans rfl); have ff146 : (gi72 69 14).toInt = (gi63 69 14).toInt := congrArg Int32.toInt ((hC72.1 69 14 rfl).1.trans rfl); omega) (fun b n q c T h => (by
                                                            obtain ⟨q2, T2, hX, hl, hm⟩ := j7_2 b n q c T h
                                                            have hk := q12.1 b n _ hm.1.1
                                                            have hN : ¬ s_nst b n q2 := fun hh => (s_nst_mi.mp hh).elim (fun x => by omega) (fun x => absurd ((q56.1 b n _ hm.1.1).mpr x) (by omega))
                                                            have hk2 := q59.1 b n _ hm.1.1
                                                            have hf : s_fct b n q2 := s_fct_mi.mpr (by omega)
                                                            obtain ⟨_, q3, hlt, hK, h2⟩ := (q63.2 b n q2 c T2 hm hf hN hk2.symm).resolve_right (fun hh => absurd hh.1 (by omega))
                                                            exact ⟨q3, c + 1, s_pop T2, hX.trans hK, by omega, s_pop_pop _, q72.2 b n _ _ _ h2⟩)) rfl
        · have r147 : w59.toInt ≠ 15 := fun e => h60 (Int32.toInt_inj.mp (e.trans (by decide : (15:Int) = (15 : Int32).toInt)))
          refine ev_loc f_X12_aOne (nx := 87) rfl rfl rfl rfl ?_
          refine ev_bp f_X12_aOne (nx := 89) (v := 16) rfl (by decide) rfl ?_
          refine ev_if f_X12_aOne (t1 := 110) (t2 := 92) rfl rfl rfl (fun h148 => ?_) (fun h148 => ?_)
          · have u149 : w59.toInt ≤ 16 := t_equ h148 (by decide : (16:Int32).toInt ≤ (16:Int))
            have l150 : 16 ≤ w59.toInt := t_eql h148 (by decide : (16:Int) ≤ (16:Int32).toInt)
            refine ev_loc f_X12_aOne (nx := 111) rfl rfl rfl rfl ?_
            refine ev_loc f_X12_aOne (nx := 112) rfl rfl rfl rfl ?_
            refine ev_qI f_X12_aOne (nx := 115) (r := []) rfl rfl rfl rfl rfl rfl rfl (c_n_aCaseB hI (w59) (Int.le_trans (by decide : (15:Int) ≤ 16) l150) (Int.le_trans u149 (by decide : (16:Int) ≤ 26)) (b := b) j7_0 (by omega)) rfl hX rfl (fun w151 gi151 gl151 gr151 l151 u151 hI hX hC151 q151 => ?_)
            have q151 : ((gi7 69 14).toInt ≤ (gi151 69 14).toInt ∧ (w151.toInt = 1 → (gi151 69 12).toInt ≠ 0 → (gi7 69 14).toInt < (gi151 69 14).toInt) ∧ (w151.toInt = 0 → (gi151 69 18).toInt ≠ 0) ∧ (w151.toInt = 1 → t_K (b) gi151 1)) ∧ ((∀ (b : Nat → Int32) (n q c : Nat) (T : List Int), t_MC b n q c T gi7 → s_fct b n q → ¬ s_nst b n q → s_mi (s_W b n q) = w59.toInt → (w151.toInt = 1 ∧ ∃ q2, q < q2 ∧ s_Cnd b n false q c T = s_Cnd b n true q2 (c + 1) (s_pop T) ∧ t_MC b n q2 (c + 1) T gi151) ∨ (w151.toInt = 0 ∧ ∃ p x, x ≠ 0 ∧ s_Cnd b n false q c T = s_qb b n p x ∧ t_MF gi151 (s_fk b n p x) (s_F b n p)))) := q151
            obtain ⟨l152, u152⟩ := hI.b (hI.wf.s (k := 69) rfl) (t_bdK rfl : t_bd 11 12 = some (0, 4))
            obtain ⟨l153, u153⟩ := hI.b (hI.wf.s (k := 69) rfl) (t_bdK rfl : t_bd 11 14 = some (0, 900))
            obtain ⟨l154, u154⟩ := hI.b (hI.wf.s (k := 69) rfl) (t_bdK rfl : t_bd 11 24 = some (0, 24))
            obtain ⟨l155, u155⟩ := hI.b (hI.wf.s (k := 69) rfl) (t_bdK rfl : t_bd 11 25 = some (0, 210))
            refine ev_if f_X12_aOne (t1 := 118) (t2 := 120) rfl rfl rfl (fun h156 => ?_) (fun h156 => ?_)
            · have u157 : w151.toInt ≤ 0 := t_equ h156 (by decide : (0:Int32).toInt ≤ (0:Int))
              refine ev_ic f_X12_aOne (nx := 119) (v := 0) rfl (by decide) rfl ?_
              exact ev_ret f_X12_aOne rfl rfl rfl ⟨_, _, _, rfl, hI, hX, ⟨_, rfl, (by decide : (0:Int) ≤ (0:Int32).toInt), (Int.le_trans (by decide : (0:Int32).toInt ≤ (0:Int)) (by decide : (0:Int) ≤ 1)), (show (∀ (b : Nat → Int32) (n q c : Nat) (T : List Int), t_MC b n q c T gi → ((0 : Int) = 1 ∧ ∃ q2 c2 T2, s_Cnd b n false q c T = s_Cnd b n true q2 c2 T2 ∧ q < q2 ∧ s_pop T2 = T2 ∧ ¬ (s_isS b n q2 41 ∧ T2 ≠ []) ∧ t_MC b n q2 c2 T2 gi151) ∨ ((0 : Int) = 0 ∧ ∃ p x, x ≠ 0 ∧ s_Cnd b n false q c T = s_qb b n p x ∧ t_MF gi151 (s_fk b n p x) (s_F b n p))) from (fun b n q c T h => (by
                                                            obtain ⟨q2, T2, hX, hl, hm⟩ := j7_2 b n q c T h
                                                            have hoo := hm.2.1.2.2
                                                            have hk := q12.1 b n _ hm.1.1
                                                            have hN : ¬ s_nst b n q2 := fun hh => (s_nst_mi.mp hh).elim (fun x => by omega) (fun x => absurd ((q56.1 b n _ hm.1.1).mpr x) (by omega))
                                                            have hk2 := q59.1 b n _ hm.1.1
                                                            have hf : s_fct b n q2 := s_fct_mi.mpr (by omega)
                                                            obtain ⟨_, p, x, hx, hK, h2⟩ := (q151.2 b n q2 c T2 hm hf hN hk2.symm).resolve_left (fun hh => absurd hh.1 (by omega))
                                                            exact Or.inr ⟨rfl, p, x, hx, hX.trans hK, h2⟩)))⟩⟩
            · have r158 : w151.toInt ≠ 0 := fun e => h156 (Int32.toInt_inj.mp (e.trans (by decide : (0:Int) = (0 : Int32).toInt)))
              have l159 : 1 ≤ w151.toInt := t_nel h156 l151 rfl rfl
              refine ev_loc f_X12_aOne (nx := 121) rfl rfl rfl rfl ?_
              refine ev_qN f_X12_aOne (nx := 124) (r := []) rfl rfl rfl rfl rfl rfl rfl (c_n_turnsRoundB hI  (b := b) (q151.1.2.2.2 (by omega))) rfl hX rfl (fun gi160 gl160 gr160 hI hX hC160 q160 => ?_)
              have q160 : (t_K (b) gi160 2) ∧ ((∀ (b : Nat → Int32) (n q c : Nat) (T : List Int), t_MC b n q c T gi151 → t_MC b n q c (s_pop T) gi160)) := q160
              obtain ⟨l161, u161⟩ := hI.b (hI.wf.s (k := 69) rfl) (t_bdK rfl : t_bd 11 22 = some (0, 60))
              obtain ⟨l162, u162⟩ := hI.b (hI.wf.s (k := 69) rfl) (t_bdK rfl : t_bd 11 23 = some (0, 6))
              obtain ⟨l163, u163⟩ := hI.b (hI.wf.s (k := 69) rfl) (t_bdK rfl : t_bd 11 25 = some (0, 210))
              have L164 : ∀ (m164 : Nat) (gi164 : Nat → Nat → Int32) (gl164 : Nat → Nat → Int64) (gr164 : Nat → Nat → Value), t_I sh gi164 gr164 → t_X wl_n_aOne sh gi gl gr gi164 gl164 gr164 → t_K b gi164 2 → (gi 69 14).toInt ≤ (gi164 69 14).toInt → ((gi164 69 12).toInt ≠ 0 → (gi 69 14).toInt < (gi164 69 14).toInt) → (∀ (b : Nat → Int32) (n q c : Nat) (T : List Int), t_MC b n q c T gi → ∃ q2 c2 T2, s_Cnd b n false q c T = s_Cnd b n true q2 c2 T2 ∧ q < q2 ∧ s_pop T2 = T2 ∧ t_MC b n q2 c2 T2 gi164) → (2 * (900 - (gi164 69 14).toInt) + min (gi164 69 12).toInt 1).toNat = m164 → x_Ev X (d + 6) n_X12_aOne 124 [(1, .int w59), (0, .ref 69)] [] (sh, gi164, gl164, gr164) (t_PI wl_n_aOne sh gi gl gr 0 1 (Q_n_aOne gi gl gr b)) := by
                intro m164
                induction m164 using Nat.strongRecOn with
                | _ m164 ih164 =>
                intro gi164 gl164 gr164 hI hX j164_0 j164_1 j164_2 j164_3 hm164
                obtain ⟨l165, u165⟩ := hI.b (hI.wf.s (k := 69) rfl) (t_bdK rfl : t_bd 11 12 = some (0, 4))
                obtain ⟨l166, u166⟩ := hI.b (hI.wf.s (k := 69) rfl) (t_bdK rfl : t_bd 11 14 = some (0, 900))
                obtain ⟨l167, u167⟩ := hI.b (hI.wf.s (k := 69) rfl) (t_bdK rfl : t_bd 11 22 = some (0, 60))
                obtain ⟨l168, u168⟩ := hI.b (hI.wf.s (k := 69) rfl) (t_bdK rfl : t_bd 11 23 = some (0, 6))
                obtain ⟨l169, u169⟩ := hI.b (hI.wf.s (k := 69) rfl) (t_bdK rfl : t_bd 11 24 = some (0, 24))
                obtain ⟨l170, u170⟩ := hI.b (hI.wf.s (k := 69) rfl) (t_bdK rfl : t_bd 11 25 = some (0, 210))
                refine ev_loc f_X12_aOne (nx := 125) rfl rfl rfl rfl ?_
                refine ev_bp f_X12_aOne (nx := 127) (v := 41) rfl (by decide) rfl ?_
                refine ev_qI0 f_X12_aOne (nx := 130) (r := []) rfl rfl rfl rfl rfl rfl rfl (c_n_isSignB hI (41)) rfl (fun w171 l171 u171 q171 => ?_)
                have q171 : (∀ (b : Nat → Int32) (n q : Nat), t_TM b n q gi164 → (w171.toInt = 1 ↔ s_isS b n q 41)) ∧ (w171.toInt = 1 → (gi164 69 12).toInt = 4) := q171
                refine ev_if f_X12_aOne (t1 := 187) (t2 := 133) rfl rfl rfl (fun h172 => ?_) (fun h172 => ?_)
                · have u173 : w171.toInt ≤ 0 := t_equ h172 (by decide : (0:Int32).toInt ≤ (0:Int))
                  refine ev_ic f_X12_aOne (nx := 188) (v := 1) rfl (by decide) rfl ?_
                  exact ev_ret f_X12_aOne rfl rfl rfl ⟨_, _, _, rfl, hI, hX, ⟨_, rfl, (Int.le_trans (by decide : (0:Int) ≤ 1) (by decide : (1:Int) ≤ (1:Int32).toInt)), (by decide : (1:Int32).toInt ≤ (1:Int)), (show (∀ (b : Nat → Int32) (n q c : Nat) (T : List Int), t_MC b n q c T gi → ((1 : Int) = 1 ∧ ∃ q2 c2 T2, s_Cnd b n false q c T = s_Cnd b n true q2 c2 T2 ∧ q < q2 ∧ s_pop T2 = T2 ∧ ¬ (s_isS b n q2 41 ∧ T2 ≠ []) ∧ t_MC b n q2 c2 T2 gi164) ∨ ((1 : Int) = 0 ∧ ∃ p x, x ≠ 0 ∧ s_Cnd b n false q c T = s_qb b n p x ∧ t_MF gi164 (s_fk b n p x) (s_F b n p))) from (fun b n q c T h => (by
                                                            obtain ⟨q2, c2, T2, hX, hl, hp, hm⟩ := j164_3 b n q c T h
                                                            exact Or.inl ⟨rfl, q2, c2, T2, hX, hl, hp, (fun hh => absurd ((q171.1 b n _ hm.1.1).mpr hh.1) (by omega)), hm⟩)))⟩⟩
                · have r174 : w171.toInt ≠ 0 := fun e => h172 (Int32.toInt_inj.mp (e.trans (by decide : (0:Int) = (0 : Int32).toInt)))
                  have l175 : 1 ≤ w171.toInt := t_nel h172 l171 rfl rfl
                  refine ev_loc f_X12_aOne (nx := 134) rfl rfl rfl rfl ?_
                  refine ev_qI0 f_X12_aOne (nx := 137) (r := []) rfl rfl rfl rfl rfl rfl rfl (c_m_isWithin hI ) rfl (fun w176 l176 u176 q176 => ?_)
                  have q176 : (w176.toInt = 1 → t_ex gi164) ∧ (w176.toInt = 0 → t_n40 gi164) := q176
                  refine ev_if f_X12_aOne (t1 := 187) (t2 := 140) rfl rfl rfl (fun h177 => ?_) (fun h177 => ?_)
                  · have u178 : w176.toInt ≤ 0 := t_equ h177 (by decide : (0:Int32).toInt ≤ (0:Int))
                    refine ev_ic f_X12_aOne (nx := 188) (v := 1) rfl (by decide) rfl ?_
                    exact ev_ret f_X12_aOne rfl rfl rfl ⟨_, _, _, rfl, hI, hX, ⟨_, rfl, (Int.le_trans (by decide : (0:Int) ≤ 1) (by decide : (1:Int) ≤ (1:Int32).toInt)), (by decide : (1:Int32).toInt ≤ (1:Int)), (show (∀ (b : Nat → Int32) (n q c : Nat) (T : List Int), t_MC b n q c T gi → ((1 : Int) = 1 ∧ ∃ q2 c2 T2, s_Cnd b n false q c T = s_Cnd b n true q2 c2 T2 ∧ q < q2 ∧ s_pop T2 = T2 ∧ ¬ (s_isS b n q2 41 ∧ T2 ≠ []) ∧ t_MC b n q2 c2 T2 gi164) ∨ ((1 : Int) = 0 ∧ ∃ p x, x ≠ 0 ∧ s_Cnd b n false q c T = s_qb b n p x ∧ t_MF gi164 (s_fk b n p x) (s_F b n p))) from (fun b n q c T h => (by
                                                            obtain ⟨q2, c2, T2, hX, hl, hp, hm⟩ := j164_3 b n q c T h
                                                            exact Or.inl ⟨rfl, q2, c2, T2, hX, hl, hp, (fun hh => hh.2 (hm.nx hp (q176.2 (by omega)) (by omega))), hm⟩)))⟩⟩
                  · have r179 : w176.toInt ≠ 0 := fun e => h177 (Int32.toInt_inj.mp (e.trans (by decide : (0:Int) = (0 : Int32).toInt)))
                    have l180 : 1 ≤ w176.toInt := t_nel h177 l176 rfl rfl
                    have L181 : ∀ (m181 : Nat) (gi181 : Nat → Nat → Int32) (gl181 : Nat → Nat → Int64) (gr181 : Nat → Nat → Value), t_I sh gi181 gr181 → t_X wl_n_aOne sh gi gl gr gi181 gl181 gr181 → gi181 69 12 = (gi164 69 12) → gi181 69 14 = (gi164 69 14) → gi181 69 23 = (gi164 69 23) → gi181 69 24 = (gi164 69 24) → t_K b gi181 2 → t_ex gi181 → (gi 69 14).toInt ≤ (gi181 69 14).toInt → ((gi181 69 12).toInt ≠ 0 → (gi 69 14).toInt < (gi181 69 14).toInt) → (∀ (b : Nat → Int32) (n q c : Nat) (T : List Int), t_MC b n q c T gi → ∃ q2 c2 T2, s_Cnd b n false q c T = s_Cnd b n true q2 c2 T2 ∧ q < q2 ∧ s_pop T2 = T2 ∧ (s_isS b n q2 41 ∧ T2 ≠ []) ∧ t_MC b n q2 c2 T2 gi181) → (gi181 69 22).toInt.toNat = m181 → x_Ev X (d + 6) n_X12_aOne 140 [(1, .int w59), (0, .ref 69)] [] (sh, gi181, gl181, gr181) (t_PI wl_n_aOne sh gi gl gr 0 1 (Q_n_aOne gi gl gr b)) := by
                      intro m181
                      induction m181 using Nat.strongRecOn with
                      | _ m181 ih181 =>
                      intro gi181 gl181 gr181 hI hX c181_0 c181_1 c181_2 c181_3 j181_0 j181_1 j181_2 j181_3 j181_4 hm181
                      have cf181_0 : (gi181 69 12).toInt = (gi164 69 12).toInt := congrArg Int32.toInt c181_0
                      have cf181_1 : (gi181 69 14).toInt = (gi164 69 14).toInt := congrArg Int32.toInt c181_1
                      have cf181_2 : (gi181 69 23).toInt = (gi164 69 23).toInt := congrArg Int32.toInt c181_2
                      have cf181_3 : (gi181 69 24).toInt = (gi164 69 24).toInt := congrArg Int32.toInt c181_3
                      obtain ⟨l182, u182⟩ := hI.b (hI.wf.s (k := 69) rfl) (t_bdK rfl : t_bd 11 22 = some (0, 60))
                      obtain ⟨l183, u183⟩ := hI.b (hI.wf.s (k := 69) rfl) (t_bdK rfl : t_bd 11 25 = some (0, 210))
                      have l184 : (1:Int) ≤ (gi181 69 22).toInt := by obtain ⟨j, hj, _⟩ := j181_1; omega
                      refine ev_loc f_X12_aOne (nx := 141) rfl rfl rfl rfl ?_
                      refine ev_bp f_X12_aOne (nx := 143) (v := 40) rfl (by decide) rfl ?_
                      refine ev_inV2 f_X12_aOne (nx := 146) (lo2 := [(0, .ref 69), (1, .int 40)]) rfl rfl rfl rfl f_X12_isDoing (hI.wf.s rfl) rfl rfl rfl rfl rfl ?_
                      refine ev_loc f_X12_isDoing (nx := 1) rfl rfl rfl rfl ?_
                      refine ev_gvI f_X12_isDoing (nx := 4) (w := (gi181 69 22)) rfl (hI.wf.s rfl) rfl rfl rfl rfl ?_
                      refine ev_f f_X12_isDoing (t1 := 26) (t2 := 7) rfl rfl rfl (t_leF (by decide : (0:Int32).toInt ≤ (0:Int)) l184 (by decide)) ?_
                      refine ev_loc f_X12_isDoing (nx := 8) rfl rfl rfl rfl ?_
                      refine ev_getR f_X12_isDoing (nx := 11) rfl (hI.wf.s rfl) rfl rfl (hI.wf.r rfl) rfl rfl ?_
                      refine ev_loc f_X12_isDoing (nx := 12) rfl rfl rfl rfl ?_
                      refine ev_gvI f_X12_isDoing (nx := 15) (w := (gi181 69 22)) rfl (hI.wf.s rfl) rfl rfl rfl rfl ?_
                      refine ev_ic f_X12_isDoing (nx := 16) (v := 1) rfl (by decide) rfl ?_
                      refine ev_subC f_X12_isDoing (nx := 17) (c := 1) (l := 0) (u := 59) rfl (by decide) l184 u182 rfl rfl (by decide) (by decide) rfl (fun z185 e185 l185 u185 => ?_)
                      refine ev_ialdT f_X12_isDoing (nx := 18) rfl (hI.wf.s rfl) l185 (by decide) u185 (by decide) rfl (fun w186 e186 => ?_)
                      refine ev_loc f_X12_isDoing (nx := 19) rfl rfl rfl rfl ?_
                      refine ev_if f_X12_isDoing (t1 := 22) (t2 := 26) rfl rfl rfl (fun h187 => ?_) (fun h187 => ?_)
                      · have u188 : w186.toInt ≤ 40 := t_equ h187 (by decide : (40:Int32).toInt ≤ (40:Int))
                        have l189 : 40 ≤ w186.toInt := t_eql h187 (by decide : (40:Int) ≤ (40:Int32).toInt)
                        refine ev_ic f_X12_isDoing (nx := 23) (v := 1) rfl (by decide) rfl ?_
                        refine ev_jmp f_X12_isDoing (nx := 27) rfl rfl rfl ?_
                        refine ev_retK1 f_X12_isDoing rfl rfl rfl ?_
                        refine ev_f f_X12_aOne (t1 := 149) (t2 := 156) rfl rfl rfl (by decide) ?_
                        refine ev_loc f_X12_aOne (nx := 157) rfl rfl rfl rfl ?_
                        refine ev_alu f_X12_aOne (nx := 158) rfl rfl rfl rfl ?_
                        refine ev_gvI f_X12_aOne (nx := 161) (w := (gi181 69 22)) rfl (hI.wf.s rfl) rfl rfl rfl rfl ?_
                        refine ev_ic f_X12_aOne (nx := 162) (v := 1) rfl (by decide) rfl ?_
                        refine ev_subC f_X12_aOne (nx := 163) (c := 1) (l := 0) (u := 59) rfl (by decide) l184 u182 rfl rfl (by decide) (by decide) rfl (fun z190 e190 l190 u190 => ?_)
                        refine ev_putIT f_X12_aOne (nx := 166) rfl (hI.wf.s rfl) rfl rfl rfl (hI.putB (hI.wf.s rfl) rfl rfl l190 (by decide) u190 (by decide)) (hX.upI rfl) (fun g191 e191 hI hX => ?_)
                        refine ev_loc f_X12_aOne (nx := 167) rfl rfl rfl rfl ?_
                        refine ev_alu f_X12_aOne (nx := 168) rfl rfl rfl rfl ?_
                        refine ev_gvI f_X12_aOne (nx := 171) (w := (gi164 69 23)) rfl (hI.wf.s rfl) rfl rfl ((by rw [e191]; exact x_up2_off (Or.inr (by decide)) : g191 69 23 = gi181 69 23).trans c181_2) rfl ?_
                        refine ev_ic f_X12_aOne (nx := 172) (v := 1) rfl (by decide) rfl ?_
                        refine ev_subC f_X12_aOne (nx := 173) (c := 1) (l := (-1)) (u := 5) rfl (by decide) l168 u168 rfl rfl (by decide) (by decide) rfl (fun z192 e192 l192 u192 => ?_)
                        have l194 : (0:Int) ≤ z192.toInt := (by have hw := t_K_w j181_0 (by omega) (by rw [← (by rw [e186]; have hc := t_clamp (i := z185) (by omega); have hx : z185.toNatClampNeg = (gi181 69 22).toInt.toNat - 1 := (by omega); rw [hx] : w186 = gi181 77 ((gi181 69 22).toInt.toNat - 1))]; omega); omega)
                        refine ev_putIT f_X12_aOne (nx := 176) rfl (hI.wf.s rfl) rfl rfl rfl (hI.putB (hI.wf.s rfl) rfl rfl l194 (by decide) u192 (by decide)) (hX.upI rfl) (fun g193 e193 hI hX => ?_)
                        refine ev_loc f_X12_aOne (nx := 177) rfl rfl rfl rfl ?_
                        refine ev_qN f_X12_aOne (nx := 180) (r := []) rfl rfl rfl rfl rfl rfl rfl (c_n_aheadB hI ) rfl hX rfl (fun gi195 gl195 gr195 hI hX hC195 q195 => ?_)
                        have ff196 : (g193 69 14).toInt = (gi164 69 14).toInt := congrArg Int32.toInt ((by rw [e193]; exact x_up2_off (Or.inr (by decide)) : g193 69 14 = g191 69 14).trans ((by rw [e191]; exact x_up2_off (Or.inr (by decide)) : g191 69 14 = gi181 69 14).trans c181_1))
                        have q195 : ((g193 69 14).toInt ≤ (gi195 69 14).toInt ∧ ((gi195 69 12).toInt ≠ 0 → (g193 69 14).toInt < (gi195 69 14).toInt) ∧ ((gi195 69 12).toInt = 3 → 0 ≤ (gi195 69 15).toInt)) ∧ (∀ (b : Nat → Int32) (n q : Nat), t_Sm b n q g193 → t_TM b n q gi195) := q195
                        obtain ⟨l197, u197⟩ := hI.b (hI.wf.s (k := 69) rfl) (t_bdK rfl : t_bd 11 12 = some (0, 4))
                        obtain ⟨l198, u198⟩ := hI.b (hI.wf.s (k := 69) rfl) (t_bdK rfl : t_bd 11 14 = some (0, 900))
                        refine ev_loc f_X12_aOne (nx := 181) rfl rfl rfl rfl ?_
                        refine ev_qN f_X12_aOne (nx := 184) (r := []) rfl rfl rfl rfl rfl rfl rfl (c_n_turnsRoundB hI  (b := b) (t_K_par j181_0 (by omega) (by rw [← (by rw [e186]; have hc := t_clamp (i := z185) (by omega); have hx : z185.toNatClampNeg = (gi181 69 22).toInt.toNat - 1 := (by omega); rw [hx] : w186 = gi181 77 ((gi181 69 22).toInt.toNat - 1))]; omega) (show (gi195 69 22).toInt = (gi181 69 22).toInt - 1 from (by have ff200 : (gi195 69 22).toInt = z190.toInt := congrArg Int32.toInt ((hC195.1 69 22 rfl).1.trans ((by rw [e193]; exact x_up2_off (Or.inr (by decide)) : g193 69 22 = g191 69 22).trans (by rw [e191]; exact x_up2_at _ _ _ _ : g191 69 22 = z190))); omega)) (show (gi195 69 23).toInt = (gi181 69 23).toInt - 1 from (by have ff201 : (gi195 69 23).toInt = z192.toInt := congrArg Int32.toInt ((hC195.1 69 23 rfl).1.trans (by rw [e193]; exact x_up2_at _ _ _ _ : g193 69 23 = z192)); omega)) (show (gi195 69 24).toInt = (gi181 69 24).toInt from (by have ff202 : (gi195 69 24).toInt = (gi164 69 24).toInt := congrArg Int32.toInt ((hC195.1 69 24 rfl).1.trans ((by rw [e193]; exact x_up2_off (Or.inr (by decide)) : g193 69 24 = g191 69 24).trans ((by rw [e191]; exact x_up2_off (Or.inr (by decide)) : g191 69 24 = gi181 69 24).trans c181_3))); omega)) (show (gi195 69 25).toInt = (gi181 69 25).toInt from (by have ff203 : (gi195 69 25).toInt = (gi181 69 25).toInt := congrArg Int32.toInt ((hC195.1 69 25 rfl).1.trans ((by rw [e193]; exact x_up2_off (Or.inr (by decide)) : g193 69 25 = g191 69 25).trans ((by rw [e191]; exact x_up2_off (Or.inr (by decide)) : g191 69 25 = gi181 69 25).trans rfl))); omega)) ((funext (fun j => (hC195.1 77 j rfl).1) : gi195 77 = g193 77).trans ((by rw [e193]; exact x_up2_ne (by decide) : g193 77 = g191 77).trans ((by rw [e191]; exact x_up2_ne (by decide) : g191 77 = gi181 77)))) ((funext (fun j => (hC195.1 70 j rfl).1) : gi195 70 = g193 70).trans ((by rw [e193]; exact x_up2_ne (by decide) : g193 70 = g191 70).trans ((by rw [e191]; exact x_up2_ne (by decide) : g191 70 = gi181 70)))))) rfl hX rfl (fun gi199 gl199 gr199 hI hX hC199 q199 => ?_)
                        have q199 : (t_K (b) gi199 2) ∧ ((∀ (b : Nat → Int32) (n q c : Nat) (T : List Int), t_MC b n q c T gi195 → t_MC b n q c (s_pop T) gi199)) := q199
                        obtain ⟨l204, u204⟩ := hI.b (hI.wf.s (k := 69) rfl) (t_bdK rfl : t_bd 11 22 = some (0, 60))
                        obtain ⟨l205, u205⟩ := hI.b (hI.wf.s (k := 69) rfl) (t_bdK rfl : t_bd 11 23 = some (0, 6))
                        obtain ⟨l206, u206⟩ := hI.b (hI.wf.s (k := 69) rfl) (t_bdK rfl : t_bd 11 25 = some (0, 210))
                        refine ev_jmp f_X12_aOne (nx := 124) rfl rfl rfl ?_
                        refine ev_sub (lo := [(1, .int w59), (0, .ref 69)]) rfl (t_sc rfl (t_sc rfl t_sn)) ?_
                        exact ih164 _ (by have ff210 : (gi199 69 14).toInt = (gi195 69 14).toInt := congrArg Int32.toInt ((hC199.1 69 14 rfl).1.trans rfl); have ff211 : (gi199 69 12).toInt = (gi195 69 12).toInt := congrArg Int32.toInt ((hC199.1 69 12 rfl).1.trans rfl); omega) gi199 gl199 gr199  hI hX  q199.1 (by have ff207 : (gi199 69 14).toInt = (gi195 69 14).toInt := congrArg Int32.toInt ((hC199.1 69 14 rfl).1.trans rfl); omega) (by have ff208 : (gi199 69 12).toInt = (gi195 69 12).toInt := congrArg Int32.toInt ((hC199.1 69 12 rfl).1.trans rfl); have ff209 : (gi199 69 14).toInt = (gi195 69 14).toInt := congrArg Int32.toInt ((hC199.1 69 14 rfl).1.trans rfl); omega) (fun b n q c T h => (by
                                                            obtain ⟨q2, c2, T2, hX, hl, hp, ⟨hS, hne⟩, hm⟩ := j181_4 b n q c T h
                                                            obtain ⟨T3, eT, h1⟩ := hm.po (g1 := g193) (x := 40) (Or.inr rfl) (by omega) (by rw [← (by rw [e186]; have hc := t_clamp (i := z185) (by omega); have hx : z185.toNatClampNeg = (gi181 69 22).toInt.toNat - 1 := (Nat.le_antisymm (by omega) (by omega)); rw [hx] : w186 = gi181 77 ((gi181 69 22).toInt.toNat - 1))]; omega) ((t_fM.rf.u9 (by decide) e191).u9 (by decide) e193) (congrArg Int32.toInt (by rw [e193, x_up2_off (Or.inr (by decide)), e191, x_up2_off (Or.inr (by decide))])) (by rw [e193, x_up2_at]; exact Int.le_antisymm (by omega) (by omega)) (by rw [e193, x_up2_off (Or.inr (by decide)), e191, x_up2_at]; exact Int.le_antisymm (by omega) (by omega)) (funext fun j => (by rw [e193, x_up2_ne (by decide), e191, x_up2_ne (by decide)]))
                                                            subst eT
                                                            have h2 := h1.ah (q195.2 b n _ h1.1.1.S) ⟨(hC195.1 69 18 rfl).1, (hC195.1 69 17 rfl).1⟩ (congrArg Int32.toInt (hC195.1 69 24 rfl).1) (congrArg Int32.toInt (hC195.1 69 23 rfl).1) (congrArg Int32.toInt (hC195.1 69 22 rfl).1) (funext fun j => (hC195.1 77 j rfl).1)
                                                            exact ⟨_, c2, s_pop T3, hX.trans (s_Cnd_c hm.qn hS), by have := s_isS_gt hS; omega, s_pop_pop _, q199.2 b n _ _ _ h2⟩)) rfl
                      · have r212 : w186.toInt ≠ 40 := fun e => h187 (Int32.toInt_inj.mp (e.trans (by decide : (40:Int) = (40 : Int32).toInt)))
                        refine ev_ic f_X12_isDoing (nx := 27) (v := 0) rfl (by decide) rfl ?_
                        refine ev_retK1 f_X12_isDoing rfl rfl rfl ?_
                        refine ev_t f_X12_aOne (t1 := 149) (t2 := 156) rfl rfl rfl (by decide) ?_
                        refine ev_loc f_X12_aOne (nx := 150) rfl rfl rfl rfl ?_
                        refine ev_inV1 f_X12_aOne (nx := 153) (lo2 := [(0, .ref 69)]) rfl rfl rfl rfl f_X12_joins (hI.wf.s rfl) rfl rfl rfl rfl rfl ?_
                        have kn213 := t_K_num j181_0
                        refine ev_loc f_X12_joins (nx := 1) rfl rfl rfl rfl ?_
                        refine ev_alu f_X12_joins (nx := 2) rfl rfl rfl rfl ?_
                        refine ev_gvI f_X12_joins (nx := 5) (w := (gi181 69 22)) rfl (hI.wf.s rfl) rfl rfl rfl rfl ?_
                        refine ev_ic f_X12_joins (nx := 6) (v := 1) rfl (by decide) rfl ?_
                        refine ev_subC f_X12_joins (nx := 7) (c := 1) (l := 0) (u := 59) rfl (by decide) l184 u182 rfl rfl (by decide) (by decide) rfl (fun z214 e214 l214 u214 => ?_)
                        refine ev_putIT f_X12_joins (nx := 10) rfl (hI.wf.s rfl) rfl rfl rfl (hI.putB (hI.wf.s rfl) rfl rfl l214 (by decide) u214 (by decide)) (hX.upI rfl) (fun g215 e215 hI hX => ?_)
                        refine ev_loc f_X12_joins (nx := 11) rfl rfl rfl rfl ?_
                        refine ev_loc f_X12_joins (nx := 12) rfl rfl rfl rfl ?_
                        refine ev_getR f_X12_joins (nx := 15) rfl (hI.wf.s rfl) rfl rfl (hI.wf.r rfl) rfl rfl ?_
                        refine ev_loc f_X12_joins (nx := 16) rfl rfl rfl rfl ?_
                        refine ev_gvI f_X12_joins (nx := 19) (w := z214) rfl (hI.wf.s rfl) rfl rfl (by rw [e215]; exact x_up2_at _ _ _ _ : g215 69 22 = z214) rfl ?_
                        refine ev_ialdT f_X12_joins (nx := 20) rfl (hI.wf.s rfl) l214 (by decide) u214 (by decide) rfl (fun w216 e216 => ?_)
                        refine ev_inV2 f_X12_joins (nx := 23) (lo2 := [(0, .ref 69), (1, .int w216)]) rfl rfl rfl rfl f_X12_asksAlso (hI.wf.s rfl) rfl rfl rfl rfl rfl ?_
                        have kn217 := t_K_num j181_0
                        refine ev_loc f_X12_asksAlso (nx := 1) rfl rfl rfl rfl ?_
                        refine ev_getR f_X12_asksAlso (nx := 4) rfl (hI.wf.s rfl) rfl rfl (hI.wf.r rfl) rfl rfl ?_
                        refine ev_sp f_X12_asksAlso (nx := 7) (v := 1540) rfl (by decide) rfl ?_
                        refine ev_loc f_X12_asksAlso (nx := 8) rfl rfl rfl rfl ?_
                        refine ev_gvI f_X12_asksAlso (nx := 11) (w := (gi181 69 25)) rfl (hI.wf.s rfl) rfl rfl ((by rw [e215]; exact x_up2_off (Or.inr (by decide)) : g215 69 25 = gi181 69 25).trans rfl) rfl ?_
                        refine ev_addK f_X12_asksAlso (nx := 12) (c := 1540) (l := 1540) (u := 1750) rfl (by decide) l183 u183 rfl rfl (by decide) (by decide) rfl (fun z218 e218 l218 u218 => ?_)
                        refine ev_loc f_X12_asksAlso (nx := 13) rfl rfl rfl rfl ?_
                        refine ev_iastT f_X12_asksAlso (nx := 14) rfl (hI.wf.s rfl) l218 (by decide) u218 (by decide) rfl (hI.astL (hI.wf.s rfl) (by decide +kernel : t_abw 70 1540 1750 (-2147483648) 2147483647 = true) (t_cl1 l218 (by decide)) (t_cl2 l218 u218 (by decide) (by decide)) (t_lo w216) (t_hi w216) rfl) (hX.upI (t_inR (p := 1540) (m := 1750) rfl l218 (by decide) u218 (by decide) (by decide))) (fun g219 e219 hI hX => ?_)
                        refine ev_loc f_X12_asksAlso (nx := 15) rfl rfl rfl rfl ?_
                        refine ev_alu f_X12_asksAlso (nx := 16) rfl rfl rfl rfl ?_
                        refine ev_gvI f_X12_asksAlso (nx := 19) (w := (gi181 69 25)) rfl (hI.wf.s rfl) rfl rfl ((by rw [e219]; exact x_up2_off (Or.inl (by decide)) : g219 69 25 = g215 69 25).trans ((by rw [e215]; exact x_up2_off (Or.inr (by decide)) : g215 69 25 = gi181 69 25).trans rfl)) rfl ?_
                        refine ev_ic f_X12_asksAlso (nx := 20) (v := 1) rfl (by decide) rfl ?_
                        refine ev_addC f_X12_asksAlso (nx := 21) (c := 1) (l := 1) (u := 211) rfl (by decide) l183 u183 rfl rfl (by decide) (by decide) rfl (fun z220 e220 l220 u220 => ?_)
                        have u222 : z220.toInt ≤ (210:Int) := (by omega)
                        refine ev_putIT f_X12_asksAlso (nx := 24) rfl (hI.wf.s rfl) rfl rfl rfl (hI.putB (hI.wf.s rfl) rfl rfl l220 (by decide) u222 (by decide)) (hX.upI rfl) (fun g221 e221 hI hX => ?_)
                        refine ev_retK0 f_X12_asksAlso rfl rfl rfl ?_
                        refine ev_retK0 f_X12_joins rfl rfl rfl ?_
                        refine ev_jmp f_X12_aOne (nx := 140) rfl rfl rfl ?_
                        refine ev_sub (lo := [(1, .int w59), (0, .ref 69)]) rfl (t_sc rfl (t_sc rfl t_sn)) ?_
                        exact ih181 _ (by have ff231 : (g221 69 22).toInt = z214.toInt := congrArg Int32.toInt ((by rw [e221]; exact x_up2_off (Or.inr (by decide)) : g221 69 22 = g219 69 22).trans ((by rw [e219]; exact x_up2_off (Or.inl (by decide)) : g219 69 22 = g215 69 22).trans (by rw [e215]; exact x_up2_at _ _ _ _ : g215 69 22 = z214))); omega) g221 gl181 gr181  hI hX  ((by rw [e221]; exact x_up2_off (Or.inr (by decide)) : g221 69 12 = g219 69 12).trans ((by rw [e219]; exact x_up2_off (Or.inl (by decide)) : g219 69 12 = g215 69 12).trans ((by rw [e215]; exact x_up2_off (Or.inr (by decide)) : g215 69 12 = gi181 69 12).trans c181_0))) ((by rw [e221]; exact x_up2_off (Or.inr (by decide)) : g221 69 14 = g219 69 14).trans ((by rw [e219]; exact x_up2_off (Or.inl (by decide)) : g219 69 14 = g215 69 14).trans ((by rw [e215]; exact x_up2_off (Or.inr (by decide)) : g215 69 14 = gi181 69 14).trans c181_1))) ((by rw [e221]; exact x_up2_off (Or.inr (by decide)) : g221 69 23 = g219 69 23).trans ((by rw [e219]; exact x_up2_off (Or.inl (by decide)) : g219 69 23 = g215 69 23).trans ((by rw [e215]; exact x_up2_off (Or.inr (by decide)) : g215 69 23 = gi181 69 23).trans c181_2))) ((by rw [e221]; exact x_up2_off (Or.inr (by decide)) : g221 69 24 = g219 69 24).trans ((by rw [e219]; exact x_up2_off (Or.inl (by decide)) : g219 69 24 = g215 69 24).trans ((by rw [e215]; exact x_up2_off (Or.inr (by decide)) : g215 69 24 = gi181 69 24).trans c181_3))) (by have ht := (by rw [e216]; have hc := t_clamp (i := z214) (by omega); have hx : z214.toNatClampNeg = (gi181 69 22).toInt.toNat - 1 := (by omega); rw [hx]; exact congrFun (((by rw [e215]; exact x_up2_ne (by decide) : g215 77 = gi181 77))) _ : w216 = gi181 77 ((gi181 69 22).toInt.toNat - 1)); have ho := (t_one (p := 1540 + (gi181 69 25).toInt.toNat) ((by rw [e215]; exact x_up2_ne (by decide) : g215 70 = gi181 70)) e219 ((by rw [e221]; exact x_up2_ne (by decide) : g221 70 = g219 70)) (by have hc := t_clamp (i := z218) (by omega); omega)); exact t_K_bin j181_0 (by omega) (t_K_top j181_0 (by omega) (by rw [← (by rw [e186]; have hc := t_clamp (i := z185) (by omega); have hx : z185.toNatClampNeg = (gi181 69 22).toInt.toNat - 1 := (by omega); rw [hx] : w186 = gi181 77 ((gi181 69 22).toInt.toNat - 1))]; omega)) (show (g221 69 22).toInt = (gi181 69 22).toInt - 1 from (by have ff223 : (g221 69 22).toInt = z214.toInt := congrArg Int32.toInt ((by rw [e221]; exact x_up2_off (Or.inr (by decide)) : g221 69 22 = g219 69 22).trans ((by rw [e219]; exact x_up2_off (Or.inl (by decide)) : g219 69 22 = g215 69 22).trans (by rw [e215]; exact x_up2_at _ _ _ _ : g215 69 22 = z214))); omega)) (show (g221 69 23).toInt = (gi181 69 23).toInt from (by have ff224 : (g221 69 23).toInt = (gi164 69 23).toInt := congrArg Int32.toInt ((by rw [e221]; exact x_up2_off (Or.inr (by decide)) : g221 69 23 = g219 69 23).trans ((by rw [e219]; exact x_up2_off (Or.inl (by decide)) : g219 69 23 = g215 69 23).trans ((by rw [e215]; exact x_up2_off (Or.inr (by decide)) : g215 69 23 = gi181 69 23).trans c181_2))); omega)) (show (g221 69 24).toInt = (gi181 69 24).toInt from (by have ff225 : (g221 69 24).toInt = (gi164 69 24).toInt := congrArg Int32.toInt ((by rw [e221]; exact x_up2_off (Or.inr (by decide)) : g221 69 24 = g219 69 24).trans ((by rw [e219]; exact x_up2_off (Or.inl (by decide)) : g219 69 24 = g215 69 24).trans ((by rw [e215]; exact x_up2_off (Or.inr (by decide)) : g215 69 24 = gi181 69 24).trans c181_3))); omega)) (show (g221 69 25).toInt = (gi181 69 25).toInt + 1 from (by have ff226 : (g221 69 25).toInt = z220.toInt := congrArg Int32.toInt (by rw [e221]; exact x_up2_at _ _ _ _ : g221 69 25 = z220); omega)) ((by rw [e221]; exact x_up2_ne (by decide) : g221 77 = g219 77).trans ((by rw [e219]; exact x_up2_ne (by decide) : g219 77 = g215 77).trans ((by rw [e215]; exact x_up2_ne (by decide) : g215 77 = gi181 77)))) ho.1 (ho.2.trans ht)) (by obtain ⟨j, hj, hv⟩ := j181_1; have ht := (by rw [e186]; have hc := t_clamp (i := z185) (by omega); have hx : z185.toNatClampNeg = (gi181 69 22).toInt.toNat - 1 := (by omega); rw [hx] : w186 = gi181 77 ((gi181 69 22).toInt.toNat - 1)); have ff227 : (g221 69 22).toInt = z214.toInt := congrArg Int32.toInt ((by rw [e221]; exact x_up2_off (Or.inr (by decide)) : g221 69 22 = g219 69 22).trans ((by rw [e219]; exact x_up2_off (Or.inl (by decide)) : g219 69 22 = g215 69 22).trans (by rw [e215]; exact x_up2_at _ _ _ _ : g215 69 22 = z214))); refine ⟨j, ?_, (congrArg Int32.toInt (congrFun ((by rw [e221]; exact x_up2_ne (by decide) : g221 77 = g219 77).trans ((by rw [e219]; exact x_up2_ne (by decide) : g219 77 = g215 77).trans ((by rw [e215]; exact x_up2_ne (by decide) : g215 77 = gi181 77)))) j)).trans hv⟩; have hne : j ≠ (gi181 69 22).toInt.toNat - 1 := (fun e => by rw [e, ← ht] at hv; omega); omega) (by have ff228 : (g221 69 14).toInt = (gi164 69 14).toInt := congrArg Int32.toInt ((by rw [e221]; exact x_up2_off (Or.inr (by decide)) : g221 69 14 = g219 69 14).trans ((by rw [e219]; exact x_up2_off (Or.inl (by decide)) : g219 69 14 = g215 69 14).trans ((by rw [e215]; exact x_up2_off (Or.inr (by decide)) : g215 69 14 = gi181 69 14).trans c181_1))); omega) (by have ff229 : (g221 69 12).toInt = (gi164 69 12).toInt := congrArg Int32.toInt ((by rw [e221]; exact x_up2_off (Or.inr (by decide)) : g221 69 12 = g219 69 12).trans ((by rw [e219]; exact x_up2_off (Or.inl (by decide)) : g219 69 12 = g215 69 12).trans ((by rw [e215]; exact x_up2_off (Or.inr (by decide)) : g215 69 12 = gi181 69 12).trans c181_0))); have ff230 : (g221 69 14).toInt = (gi164 69 14).toInt := congrArg Int32.toInt ((by rw [e221]; exact x_up2_off (Or.inr (by decide)) : g221 69 14 = g219 69 14).trans ((by rw [e219]; exact x_up2_off (Or.inl (by decide)) : g219 69 14 = g215 69 14).trans ((by rw [e215]; exact x_up2_off (Or.inr (by decide)) : g215 69 14 = gi181 69 14).trans c181_1))); omega) (fun b n q c T h => (by
                                                            obtain ⟨q2, c2, T2, hX, hl, hp, hS, hm⟩ := j181_4 b n q c T h
                                                            have ht := hm.top hp (by omega) (by rw [← (by rw [e186]; have hc := t_clamp (i := z185) (by omega); have hx : z185.toNatClampNeg = (gi181 69 22).toInt.toNat - 1 := (Nat.le_antisymm (by omega) (by omega)); rw [hx] : w186 = gi181 77 ((gi181 69 22).toInt.toNat - 1))]; omega)
                                                            exact ⟨q2, c2, T2, hX, hl, hp, hS, hm.pj (by omega) ht (((t_fM.rf.u9 (by decide) e215).ux (by decide) e219).u9 (by decide) e221) (congrArg Int32.toInt (by rw [e221, x_up2_off (Or.inr (by decide)), e219, x_up2_ne (by decide), e215, x_up2_off (Or.inr (by decide))])) (congrArg Int32.toInt (by rw [e221, x_up2_off (Or.inr (by decide)), e219, x_up2_ne (by decide), e215, x_up2_off (Or.inr (by decide))])) (by rw [e221, x_up2_off (Or.inr (by decide)), e219, x_up2_ne (by decide), e215, x_up2_at]; exact Int.le_antisymm (by omega) (by omega)) (funext fun j => (by rw [e221, x_up2_ne (by decide), e219, x_up2_ne (by decide), e215, x_up2_ne (by decide)]))⟩)) rfl
                    refine ev_sub (lo := [(1, .int w59), (0, .ref 69)]) rfl (t_sc rfl (t_sc rfl t_sn)) ?_
                    exact L181 _ gi164 gl164 gr164  hI hX  rfl rfl rfl rfl j164_0 (q176.1 (by omega)) (by omega) (by omega) (fun b n q c T h => (by
                                                            obtain ⟨q2, c2, T2, hX, hl, hp, hm⟩ := j164_3 b n q c T h
                                                            exact ⟨q2, c2, T2, hX, hl, hp, ⟨(q171.1 b n _ hm.1.1).mp (by omega), hm.ex hp (q176.1 (by omega))⟩, hm⟩)) rfl
              refine ev_sub (lo := [(1, .int w59), (0, .ref 69)]) rfl (t_sc rfl (t_sc rfl t_sn)) ?_
              exact L164 _ gi160 gl160 gr160  hI hX  q160.1 (by have ff232 : (gi160 69 14).toInt = (gi151 69 14).toInt := congrArg Int32.toInt ((hC160.1 69 14 rfl).1.trans rfl); omega) (by have ff233 : (gi160 69 12).toInt = (gi151 69 12).toInt := congrArg Int32.toInt ((hC160.1 69 12 rfl).1.trans rfl); have ff234 : (gi160 69 14).toInt = (gi151 69 14).toInt := congrArg Int32.toInt ((hC160.1 69 14 rfl).1.trans rfl); omega) (fun b n q c T h => (by
                                                            obtain ⟨q2, T2, hX, hl, hm⟩ := j7_2 b n q c T h
                                                            have hk := q12.1 b n _ hm.1.1
                                                            have hN : ¬ s_nst b n q2 := fun hh => (s_nst_mi.mp hh).elim (fun x => by omega) (fun x => absurd ((q56.1 b n _ hm.1.1).mpr x) (by omega))
                                                            have hk2 := q59.1 b n _ hm.1.1
                                                            have hf : s_fct b n q2 := s_fct_mi.mpr (by omega)
                                                            obtain ⟨_, q3, hlt, hK, h2⟩ := (q151.2 b n q2 c T2 hm hf hN hk2.symm).resolve_right (fun hh => absurd hh.1 (by omega))
                                                            exact ⟨q3, c + 1, s_pop T2, hX.trans hK, by omega, s_pop_pop _, q160.2 b n _ _ _ h2⟩)) rfl
          · have r235 : w59.toInt ≠ 16 := fun e => h148 (Int32.toInt_inj.mp (e.trans (by decide : (16:Int) = (16 : Int32).toInt)))
            refine ev_loc f_X12_aOne (nx := 93) rfl rfl rfl rfl ?_
            refine ev_bp f_X12_aOne (nx := 95) (v := 22) rfl (by decide) rfl ?_
            refine ev_if f_X12_aOne (t1 := 104) (t2 := 98) rfl rfl rfl (fun h236 => ?_) (fun h236 => ?_)
            · have u237 : w59.toInt ≤ 21 := t_ltu h236 (by decide : (22:Int32).toInt ≤ (22:Int)) rfl
              refine ev_loc f_X12_aOne (nx := 105) rfl rfl rfl rfl ?_
              refine ev_ic f_X12_aOne (nx := 106) (v := 2) rfl (by decide) rfl ?_
              refine ev_qI f_X12_aOne (nx := 109) (r := []) rfl rfl rfl rfl rfl rfl rfl (c_n_fails hI (2) (by decide : (2:Int) ≤ (2:Int32).toInt) (Int.le_trans (by decide : (2:Int32).toInt ≤ (2:Int)) (by decide : (2:Int) ≤ 7))) rfl hX rfl (fun w238 gi238 gl238 gr238 l238 u238 hI hX hC238 q238 => ?_)
              have q238 : (∀ (b : Nat → Int32) (n q : Nat), t_TM b n q gi7 → (gi7 69 18).toInt = 0 → t_MF gi238 (s_fk b n q 2) (s_F b n q)) ∧ w238.toInt = 0 := q238
              exact ev_retZ f_X12_aOne rfl l238 (Int.le_trans u238 (by decide : (0:Int) ≤ 1)) ⟨_, _, _, rfl, hI, hX, ⟨_, rfl, l238, (Int.le_trans u238 (by decide : (0:Int) ≤ 1)), (show (∀ (b : Nat → Int32) (n q c : Nat) (T : List Int), t_MC b n q c T gi → (w238.toInt = 1 ∧ ∃ q2 c2 T2, s_Cnd b n false q c T = s_Cnd b n true q2 c2 T2 ∧ q < q2 ∧ s_pop T2 = T2 ∧ ¬ (s_isS b n q2 41 ∧ T2 ≠ []) ∧ t_MC b n q2 c2 T2 gi238) ∨ (w238.toInt = 0 ∧ ∃ p x, x ≠ 0 ∧ s_Cnd b n false q c T = s_qb b n p x ∧ t_MF gi238 (s_fk b n p x) (s_F b n p))) from (fun b n q c T h => (by
                                                            obtain ⟨q2, T2, hX, hl, hm⟩ := j7_2 b n q c T h
                                                            have hoo := hm.2.1.2.2
                                                            have hk := q12.1 b n _ hm.1.1
                                                            have hN : ¬ s_nst b n q2 := fun hh => (s_nst_mi.mp hh).elim (fun x => by omega) (fun x => absurd ((q56.1 b n _ hm.1.1).mpr x) (by omega))
                                                            have hk2 := q59.1 b n _ hm.1.1
                                                            have hf : ¬ s_fct b n q2 := fun hh => by have := s_fct_mi.mp hh; omega
                                                            exact Or.inr ⟨q238.2, _, 2, by decide, hX.trans (s_Cnd_f hm.qn hN hf), q238.1 b n _ hm.1.1 hm.1.2.1⟩)))⟩⟩
            · have l239 : 22 ≤ w59.toInt := t_lel (t_nlt h236) (by decide : (22:Int) ≤ (22:Int32).toInt)
              refine ev_loc f_X12_aOne (nx := 99) rfl rfl rfl rfl ?_
              refine ev_bp f_X12_aOne (nx := 101) (v := 26) rfl (by decide) rfl ?_
              refine ev_if f_X12_aOne (t1 := 110) (t2 := 104) rfl rfl rfl (fun h240 => ?_) (fun h240 => ?_)
              · have u241 : w59.toInt ≤ 26 := t_leu h240 (by decide : (26:Int32).toInt ≤ (26:Int))
                refine ev_loc f_X12_aOne (nx := 111) rfl rfl rfl rfl ?_
                refine ev_loc f_X12_aOne (nx := 112) rfl rfl rfl rfl ?_
                refine ev_qI f_X12_aOne (nx := 115) (r := []) rfl rfl rfl rfl rfl rfl rfl (c_n_aCaseB hI (w59) (Int.le_trans (by decide : (15:Int) ≤ 22) l239) u241 (b := b) j7_0 (by omega)) rfl hX rfl (fun w242 gi242 gl242 gr242 l242 u242 hI hX hC242 q242 => ?_)
                have q242 : ((gi7 69 14).toInt ≤ (gi242 69 14).toInt ∧ (w242.toInt = 1 → (gi242 69 12).toInt ≠ 0 → (gi7 69 14).toInt < (gi242 69 14).toInt) ∧ (w242.toInt = 0 → (gi242 69 18).toInt ≠ 0) ∧ (w242.toInt = 1 → t_K (b) gi242 1)) ∧ ((∀ (b : Nat → Int32) (n q c : Nat) (T : List Int), t_MC b n q c T gi7 → s_fct b n q → ¬ s_nst b n q → s_mi (s_W b n q) = w59.toInt → (w242.toInt = 1 ∧ ∃ q2, q < q2 ∧ s_Cnd b n false q c T = s_Cnd b n true q2 (c + 1) (s_pop T) ∧ t_MC b n q2 (c + 1) T gi242) ∨ (w242.toInt = 0 ∧ ∃ p x, x ≠ 0 ∧ s_Cnd b n false q c T = s_qb b n p x ∧ t_MF gi242 (s_fk b n p x) (s_F b n p)))) := q242
                obtain ⟨l243, u243⟩ := hI.b (hI.wf.s (k := 69) rfl) (t_bdK rfl : t_bd 11 12 = some (0, 4))
                obtain ⟨l244, u244⟩ := hI.b (hI.wf.s (k := 69) rfl) (t_bdK rfl : t_bd 11 14 = some (0, 900))
                obtain ⟨l245, u245⟩ := hI.b (hI.wf.s (k := 69) rfl) (t_bdK rfl : t_bd 11 24 = some (0, 24))
                obtain ⟨l246, u246⟩ := hI.b (hI.wf.s (k := 69) rfl) (t_bdK rfl : t_bd 11 25 = some (0, 210))
                refine ev_if f_X12_aOne (t1 := 118) (t2 := 120) rfl rfl rfl (fun h247 => ?_) (fun h247 => ?_)
                · have u248 : w242.toInt ≤ 0 := t_equ h247 (by decide : (0:Int32).toInt ≤ (0:Int))
                  refine ev_ic f_X12_aOne (nx := 119) (v := 0) rfl (by decide) rfl ?_
                  exact ev_ret f_X12_aOne rfl rfl rfl ⟨_, _, _, rfl, hI, hX, ⟨_, rfl, (by decide : (0:Int) ≤ (0:Int32).toInt), (Int.le_trans (by decide : (0:Int32).toInt ≤ (0:Int)) (by decide : (0:Int) ≤ 1)), (show (∀ (b : Nat → Int32) (n q c : Nat) (T : List Int), t_MC b n q c T gi → ((0 : Int) = 1 ∧ ∃ q2 c2 T2, s_Cnd b n false q c T = s_Cnd b n true q2 c2 T2 ∧ q < q2 ∧ s_pop T2 = T2 ∧ ¬ (s_isS b n q2 41 ∧ T2 ≠ []) ∧ t_MC b n q2 c2 T2 gi242) ∨ ((0 : Int) = 0 ∧ ∃ p x, x ≠ 0 ∧ s_Cnd b n false q c T = s_qb b n p x ∧ t_MF gi242 (s_fk b n p x) (s_F b n p))) from (fun b n q c T h => (by
                                                            obtain ⟨q2, T2, hX, hl, hm⟩ := j7_2 b n q c T h
                                                            have hoo := hm.2.1.2.2
                                                            have hk := q12.1 b n _ hm.1.1
                                                            have hN : ¬ s_nst b n q2 := fun hh => (s_nst_mi.mp hh).elim (fun x => by omega) (fun x => absurd ((q56.1 b n _ hm.1.1).mpr x) (by omega))
                                                            have hk2 := q59.1 b n _ hm.1.1
                                                            have hf : s_fct b n q2 := s_fct_mi.mpr (by omega)
                                                            obtain ⟨_, p, x, hx, hK, h2⟩ := (q242.2 b n q2 c T2 hm hf hN hk2.symm).resolve_left (fun hh => absurd hh.1 (by omega))
                                                            exact Or.inr ⟨rfl, p, x, hx, hX.trans hK, h2⟩)))⟩⟩
                · have r249 : w242.toInt ≠ 0 := fun e => h247 (Int32.toInt_inj.mp (e.trans (by decide : (0:Int) = (0 : Int32).toInt)))
                  have l250 : 1 ≤ w242.toInt := t_nel h247 l242 rfl rfl
                  refine ev_loc f_X12_aOne (nx := 121) rfl rfl rfl rfl ?_
                  refine ev_qN f_X12_aOne (nx := 124) (r := []) rfl rfl rfl rfl rfl rfl rfl (c_n_turnsRoundB hI  (b := b) (q242.1.2.2.2 (by omega))) rfl hX rfl (fun gi251 gl251 gr251 hI hX hC251 q251 => ?_)
                  have q251 : (t_K (b) gi251 2) ∧ ((∀ (b : Nat → Int32) (n q c : Nat) (T : List Int), t_MC b n q c T gi242 → t_MC b n q c (s_pop T) gi251)) := q251
                  obtain ⟨l252, u252⟩ := hI.b (hI.wf.s (k := 69) rfl) (t_bdK rfl : t_bd 11 22 = some (0, 60))
                  obtain ⟨l253, u253⟩ := hI.b (hI.wf.s (k := 69) rfl) (t_bdK rfl : t_bd 11 23 = some (0, 6))
                  obtain ⟨l254, u254⟩ := hI.b (hI.wf.s (k := 69) rfl) (t_bdK rfl : t_bd 11 25 = some (0, 210))
                  have L255 : ∀ (m255 : Nat) (gi255 : Nat → Nat → Int32) (gl255 : Nat → Nat → Int64) (gr255 : Nat → Nat → Value), t_I sh gi255 gr255 → t_X wl_n_aOne sh gi gl gr gi255 gl255 gr255 → t_K b gi255 2 → (gi 69 14).toInt ≤ (gi255 69 14).toInt → ((gi255 69 12).toInt ≠ 0 → (gi 69 14).toInt < (gi255 69 14).toInt) → (∀ (b : Nat → Int32) (n q c : Nat) (T : List Int), t_MC b n q c T gi → ∃ q2 c2 T2, s_Cnd b n false q c T = s_Cnd b n true q2 c2 T2 ∧ q < q2 ∧ s_pop T2 = T2 ∧ t_MC b n q2 c2 T2 gi255) → (2 * (900 - (gi255 69 14).toInt) + min (gi255 69 12).toInt 1).toNat = m255 → x_Ev X (d + 6) n_X12_aOne 124 [(1, .int w59), (0, .ref 69)] [] (sh, gi255, gl255, gr255) (t_PI wl_n_aOne sh gi gl gr 0 1 (Q_n_aOne gi gl gr b)) := by
                    intro m255
                    induction m255 using Nat.strongRecOn with
                    | _ m255 ih255 =>
                    intro gi255 gl255 gr255 hI hX j255_0 j255_1 j255_2 j255_3 hm255
                    obtain ⟨l256, u256⟩ := hI.b (hI.wf.s (k := 69) rfl) (t_bdK rfl : t_bd 11 12 = some (0, 4))
                    obtain ⟨l257, u257⟩ := hI.b (hI.wf.s (k := 69) rfl) (t_bdK rfl : t_bd 11 14 = some (0, 900))
                    obtain ⟨l258, u258⟩ := hI.b (hI.wf.s (k := 69) rfl) (t_bdK rfl : t_bd 11 22 = some (0, 60))
                    obtain ⟨l259, u259⟩ := hI.b (hI.wf.s (k := 69) rfl) (t_bdK rfl : t_bd 11 23 = some (0, 6))
                    obtain ⟨l260, u260⟩ := hI.b (hI.wf.s (k := 69) rfl) (t_bdK rfl : t_bd 11 24 = some (0, 24))
                    obtain ⟨l261, u261⟩ := hI.b (hI.wf.s (k := 69) rfl) (t_bdK rfl : t_bd 11 25 = some (0, 210))
                    refine ev_loc f_X12_aOne (nx := 125) rfl rfl rfl rfl ?_
                    refine ev_bp f_X12_aOne (nx := 127) (v := 41) rfl (by decide) rfl ?_
                    refine ev_qI0 f_X12_aOne (nx := 130) (r := []) rfl rfl rfl rfl rfl rfl rfl (c_n_isSignB hI (41)) rfl (fun w262 l262 u262 q262 => ?_)
                    have q262 : (∀ (b : Nat → Int32) (n q : Nat), t_TM b n q gi255 → (w262.toInt = 1 ↔ s_isS b n q 41)) ∧ (w262.toInt = 1 → (gi255 69 12).toInt = 4) := q262
                    refine ev_if f_X12_aOne (t1 := 187) (t2 := 133) rfl rfl rfl (fun h263 => ?_) (fun h263 => ?_)
                    · have u264 : w262.toInt ≤ 0 := t_equ h263 (by decide : (0:Int32).toInt ≤ (0:Int))
                      refine ev_ic f_X12_aOne (nx := 188) (v := 1) rfl (by decide) rfl ?_
                      exact ev_ret f_X12_aOne rfl rfl rfl ⟨_, _, _, rfl, hI, hX, ⟨_, rfl, (Int.le_trans (by decide : (0:Int) ≤ 1) (by decide : (1:Int) ≤ (1:Int32).toInt)), (by decide : (1:Int32).toInt ≤ (1:Int)), (show (∀ (b : Nat → Int32) (n q c : Nat) (T : List Int), t_MC b n q c T gi → ((1 : Int) = 1 ∧ ∃ q2 c2 T2, s_Cnd b n false q c T = s_Cnd b n true q2 c2 T2 ∧ q < q2 ∧ s_pop T2 = T2 ∧ ¬ (s_isS b n q2 41 ∧ T2 ≠ []) ∧ t_MC b n q2 c2 T2 gi255) ∨ ((1 : Int) = 0 ∧ ∃ p x, x ≠ 0 ∧ s_Cnd b n false q c T = s_qb b n p x ∧ t_MF gi255 (s_fk b n p x) (s_F b n p))) from (fun b n q c T h => (by
                                                            obtain ⟨q2, c2, T2, hX, hl, hp, hm⟩ := j255_3 b n q c T h
                                                            exact Or.inl ⟨rfl, q2, c2, T2, hX, hl, hp, (fun hh => absurd ((q262.1 b n _ hm.1.1).mpr hh.1) (by omega)), hm⟩)))⟩⟩
                    · have r265 : w262.toInt ≠ 0 := fun e => h263 (Int32.toInt_inj.mp (e.trans (by decide : (0:Int) = (0 : Int32).toInt)))
                      have l266 : 1 ≤ w262.toInt := t_nel h263 l262 rfl rfl
                      refine ev_loc f_X12_aOne (nx := 134) rfl rfl rfl rfl ?_
                      refine ev_qI0 f_X12_aOne (nx := 137) (r := []) rfl rfl rfl rfl rfl rfl rfl (c_m_isWithin hI ) rfl (fun w267 l267 u267 q267 => ?_)
                      have q267 : (w267.toInt = 1 → t_ex gi255) ∧ (w267.toInt = 0 → t_n40 gi255) := q267
                      refine ev_if f_X12_aOne (t1 := 187) (t2 := 140) rfl rfl rfl (fun h268 => ?_) (fun h268 => ?_)
                      · have u269 : w267.toInt ≤ 0 := t_equ h268 (by decide : (0:Int32).toInt ≤ (0:Int))
                        refine ev_ic f_X12_aOne (nx := 188) (v := 1) rfl (by decide) rfl ?_
                        exact ev_ret f_X12_aOne rfl rfl rfl ⟨_, _, _, rfl, hI, hX, ⟨_, rfl, (Int.le_trans (by decide : (0:Int) ≤ 1) (by decide : (1:Int) ≤ (1:Int32).toInt)), (by decide : (1:Int32).toInt ≤ (1:Int)), (show (∀ (b : Nat → Int32) (n q c : Nat) (T : List Int), t_MC b n q c T gi → ((1 : Int) = 1 ∧ ∃ q2 c2 T2, s_Cnd b n false q c T = s_Cnd b n true q2 c2 T2 ∧ q < q2 ∧ s_pop T2 = T2 ∧ ¬ (s_isS b n q2 41 ∧ T2 ≠ []) ∧ t_MC b n q2 c2 T2 gi255) ∨ ((1 : Int) = 0 ∧ ∃ p x, x ≠ 0 ∧ s_Cnd b n false q c T = s_qb b n p x ∧ t_MF gi255 (s_fk b n p x) (s_F b n p))) from (fun b n q c T h => (by
                                                            obtain ⟨q2, c2, T2, hX, hl, hp, hm⟩ := j255_3 b n q c T h
                                                            exact Or.inl ⟨rfl, q2, c2, T2, hX, hl, hp, (fun hh => hh.2 (hm.nx hp (q267.2 (by omega)) (by omega))), hm⟩)))⟩⟩
                      · have r270 : w267.toInt ≠ 0 := fun e => h268 (Int32.toInt_inj.mp (e.trans (by decide : (0:Int) = (0 : Int32).toInt)))
                        have l271 : 1 ≤ w267.toInt := t_nel h268 l267 rfl rfl
                        have L272 : ∀ (m272 : Nat) (gi272 : Nat → Nat → Int32) (gl272 : Nat → Nat → Int64) (gr272 : Nat → Nat → Value), t_I sh gi272 gr272 → t_X wl_n_aOne sh gi gl gr gi272 gl272 gr272 → gi272 69 12 = (gi255 69 12) → gi272 69 14 = (gi255 69 14) → gi272 69 23 = (gi255 69 23) → gi272 69 24 = (gi255 69 24) → t_K b gi272 2 → t_ex gi272 → (gi 69 14).toInt ≤ (gi272 69 14).toInt → ((gi272 69 12).toInt ≠ 0 → (gi 69 14).toInt < (gi272 69 14).toInt) → (∀ (b : Nat → Int32) (n q c : Nat) (T : List Int), t_MC b n q c T gi → ∃ q2 c2 T2, s_Cnd b n false q c T = s_Cnd b n true q2 c2 T2 ∧ q < q2 ∧ s_pop T2 = T2 ∧ (s_isS b n q2 41 ∧ T2 ≠ []) ∧ t_MC b n q2 c2 T2 gi272) → (gi272 69 22).toInt.toNat = m272 → x_Ev X (d + 6) n_X12_aOne 140 [(1, .int w59), (0, .ref 69)] [] (sh, gi272, gl272, gr272) (t_PI wl_n_aOne sh gi gl gr 0 1 (Q_n_aOne gi gl gr b)) := by
                          intro m272
                          induction m272 using Nat.strongRecOn with
                          | _ m272 ih272 =>
                          intro gi272 gl272 gr272 hI hX c272_0 c272_1 c272_2 c272_3 j272_0 j272_1 j272_2 j272_3 j272_4 hm272
                          have cf272_0 : (gi272 69 12).toInt = (gi255 69 12).toInt := congrArg Int32.toInt c272_0
                          have cf272_1 : (gi272 69 14).toInt = (gi255 69 14).toInt := congrArg Int32.toInt c272_1
                          have cf272_2 : (gi272 69 23).toInt = (gi255 69 23).toInt := congrArg Int32.toInt c272_2
                          have cf272_3 : (gi272 69 24).toInt = (gi255 69 24).toInt := congrArg Int32.toInt c272_3
                          obtain ⟨l273, u273⟩ := hI.b (hI.wf.s (k := 69) rfl) (t_bdK rfl : t_bd 11 22 = some (0, 60))
                          obtain ⟨l274, u274⟩ := hI.b (hI.wf.s (k := 69) rfl) (t_bdK rfl : t_bd 11 25 = some (0, 210))
                          have l275 : (1:Int) ≤ (gi272 69 22).toInt := by obtain ⟨j, hj, _⟩ := j272_1; omega
                          refine ev_loc f_X12_aOne (nx := 141) rfl rfl rfl rfl ?_
                          refine ev_bp f_X12_aOne (nx := 143) (v := 40) rfl (by decide) rfl ?_
                          refine ev_inV2 f_X12_aOne (nx := 146) (lo2 := [(0, .ref 69), (1, .int 40)]) rfl rfl rfl rfl f_X12_isDoing (hI.wf.s rfl) rfl rfl rfl rfl rfl ?_
                          refine ev_loc f_X12_isDoing (nx := 1) rfl rfl rfl rfl ?_
                          refine ev_gvI f_X12_isDoing (nx := 4) (w := (gi272 69 22)) rfl (hI.wf.s rfl) rfl rfl rfl rfl ?_
                          refine ev_f f_X12_isDoing (t1 := 26) (t2 := 7) rfl rfl rfl (t_leF (by decide : (0:Int32).toInt ≤ (0:Int)) l275 (by decide)) ?_
                          refine ev_loc f_X12_isDoing (nx := 8) rfl rfl rfl rfl ?_
                          refine ev_getR f_X12_isDoing (nx := 11) rfl (hI.wf.s rfl) rfl rfl (hI.wf.r rfl) rfl rfl ?_
                          refine ev_loc f_X12_isDoing (nx := 12) rfl rfl rfl rfl ?_
                          refine ev_gvI f_X12_isDoing (nx := 15) (w := (gi272 69 22)) rfl (hI.wf.s rfl) rfl rfl rfl rfl ?_
                          refine ev_ic f_X12_isDoing (nx := 16) (v := 1) rfl (by decide) rfl ?_
                          refine ev_subC f_X12_isDoing (nx := 17) (c := 1) (l := 0) (u := 59) rfl (by decide) l275 u273 rfl rfl (by decide) (by decide) rfl (fun z276 e276 l276 u276 => ?_)
                          refine ev_ialdT f_X12_isDoing (nx := 18) rfl (hI.wf.s rfl) l276 (by decide) u276 (by decide) rfl (fun w277 e277 => ?_)
                          refine ev_loc f_X12_isDoing (nx := 19) rfl rfl rfl rfl ?_
                          refine ev_if f_X12_isDoing (t1 := 22) (t2 := 26) rfl rfl rfl (fun h278 => ?_) (fun h278 => ?_)
                          · have u279 : w277.toInt ≤ 40 := t_equ h278 (by decide : (40:Int32).toInt ≤ (40:Int))
                            have l280 : 40 ≤ w277.toInt := t_eql h278 (by decide : (40:Int) ≤ (40:Int32).toInt)
                            refine ev_ic f_X12_isDoing (nx := 23) (v := 1) rfl (by decide) rfl ?_
                            refine ev_jmp f_X12_isDoing (nx := 27) rfl rfl rfl ?_
                            refine ev_retK1 f_X12_isDoing rfl rfl rfl ?_
                            refine ev_f f_X12_aOne (t1 := 149) (t2 := 156) rfl rfl rfl (by decide) ?_
                            refine ev_loc f_X12_aOne (nx := 157) rfl rfl rfl rfl ?_
                            refine ev_alu f_X12_aOne (nx := 158) rfl rfl rfl rfl ?_
                            refine ev_gvI f_X12_aOne (nx := 161) (w := (gi272 69 22)) rfl (hI.wf.s rfl) rfl rfl rfl rfl ?_
                            refine ev_ic f_X12_aOne (nx := 162) (v := 1) rfl (by decide) rfl ?_
                            refine ev_subC f_X12_aOne (nx := 163) (c := 1) (l := 0) (u := 59) rfl (by decide) l275 u273 rfl rfl (by decide) (by decide) rfl (fun z281 e281 l281 u281 => ?_)
                            refine ev_putIT f_X12_aOne (nx := 166) rfl (hI.wf.s rfl) rfl rfl rfl (hI.putB (hI.wf.s rfl) rfl rfl l281 (by decide) u281 (by decide)) (hX.upI rfl) (fun g282 e282 hI hX => ?_)
                            refine ev_loc f_X12_aOne (nx := 167) rfl rfl rfl rfl ?_
                            refine ev_alu f_X12_aOne (nx := 168) rfl rfl rfl rfl ?_
                            refine ev_gvI f_X12_aOne (nx := 171) (w := (gi255 69 23)) rfl (hI.wf.s rfl) rfl rfl ((by rw [e282]; exact x_up2_off (Or.inr (by decide)) : g282 69 23 = gi272 69 23).trans c272_2) rfl ?_
                            refine ev_ic f_X12_aOne (nx := 172) (v := 1) rfl (by decide) rfl ?_
                            refine ev_subC f_X12_aOne (nx := 173) (c := 1) (l := (-1)) (u := 5) rfl (by decide) l259 u259 rfl rfl (by decide) (by decide) rfl (fun z283 e283 l283 u283 => ?_)
                            have l285 : (0:Int) ≤ z283.toInt := (by have hw := t_K_w j272_0 (by omega) (by rw [← (by rw [e277]; have hc := t_clamp (i := z276) (by omega); have hx : z276.toNatClampNeg = (gi272 69 22).toInt.toNat - 1 := (by omega); rw [hx] : w277 = gi272 77 ((gi272 69 22).toInt.toNat - 1))]; omega); omega)
                            refine ev_putIT f_X12_aOne (nx := 176) rfl (hI.wf.s rfl) rfl rfl rfl (hI.putB (hI.wf.s rfl) rfl rfl l285 (by decide) u283 (by decide)) (hX.upI rfl) (fun g284 e284 hI hX => ?_)
                            refine ev_loc f_X12_aOne (nx := 177) rfl rfl rfl rfl ?_
                            refine ev_qN f_X12_aOne (nx := 180) (r := []) rfl rfl rfl rfl rfl rfl rfl (c_n_aheadB hI ) rfl hX rfl (fun gi286 gl286 gr286 hI hX hC286 q286 => ?_)
                            have ff287 : (g284 69 14).toInt = (gi255 69 14).toInt := congrArg Int32.toInt ((by rw [e284]; exact x_up2_off (Or.inr (by decide)) : g284 69 14 = g282 69 14).trans ((by rw [e282]; exact x_up2_off (Or.inr (by decide)) : g282 69 14 = gi272 69 14).trans c272_1))
                            have q286 : ((g284 69 14).toInt ≤ (gi286 69 14).toInt ∧ ((gi286 69 12).toInt ≠ 0 → (g284 69 14).toInt < (gi286 69 14).toInt) ∧ ((gi286 69 12).toInt = 3 → 0 ≤ (gi286 69 15).toInt)) ∧ (∀ (b : Nat → Int32) (n q : Nat), t_Sm b n q g284 → t_TM b n q gi286) := q286
                            obtain ⟨l288, u288⟩ := hI.b (hI.wf.s (k := 69) rfl) (t_bdK rfl : t_bd 11 12 = some (0, 4))
                            obtain ⟨l289, u289⟩ := hI.b (hI.wf.s (k := 69) rfl) (t_bdK rfl : t_bd 11 14 = some (0, 900))
                            refine ev_loc f_X12_aOne (nx := 181) rfl rfl rfl rfl ?_
                            refine ev_qN f_X12_aOne (nx := 184) (r := []) rfl rfl rfl rfl rfl rfl rfl (c_n_turnsRoundB hI  (b := b) (t_K_par j272_0 (by omega) (by rw [← (by rw [e277]; have hc := t_clamp (i := z276) (by omega); have hx : z276.toNatClampNeg = (gi272 69 22).toInt.toNat - 1 := (by omega); rw [hx] : w277 = gi272 77 ((gi272 69 22).toInt.toNat - 1))]; omega) (show (gi286 69 22).toInt = (gi272 69 22).toInt - 1 from (by have ff291 : (gi286 69 22).toInt = z281.toInt := congrArg Int32.toInt ((hC286.1 69 22 rfl).1.trans ((by rw [e284]; exact x_up2_off (Or.inr (by decide)) : g284 69 22 = g282 69 22).trans (by rw [e282]; exact x_up2_at _ _ _ _ : g282 69 22 = z281))); omega)) (show (gi286 69 23).toInt = (gi272 69 23).toInt - 1 from (by have ff292 : (gi286 69 23).toInt = z283.toInt := congrArg Int32.toInt ((hC286.1 69 23 rfl).1.trans (by rw [e284]; exact x_up2_at _ _ _ _ : g284 69 23 = z283)); omega)) (show (gi286 69 24).toInt = (gi272 69 24).toInt from (by have ff293 : (gi286 69 24).toInt = (gi255 69 24).toInt := congrArg Int32.toInt ((hC286.1 69 24 rfl).1.trans ((by rw [e284]; exact x_up2_off (Or.inr (by decide)) : g284 69 24 = g282 69 24).trans ((by rw [e282]; exact x_up2_off (Or.inr (by decide)) : g282 69 24 = gi272 69 24).trans c272_3))); omega)) (show (gi286 69 25).toInt = (gi272 69 25).toInt from (by have ff294 : (gi286 69 25).toInt = (gi272 69 25).toInt := congrArg Int32.toInt ((hC286.1 69 25 rfl).1.trans ((by rw [e284]; exact x_up2_off (Or.inr (by decide)) : g284 69 25 = g282 69 25).trans ((by rw [e282]; exact x_up2_off (Or.inr (by decide)) : g282 69 25 = gi272 69 25).trans rfl))); omega)) ((funext (fun j => (hC286.1 77 j rfl).1) : gi286 77 = g284 77).trans ((by rw [e284]; exact x_up2_ne (by decide) : g284 77 = g282 77).trans ((by rw [e282]; exact x_up2_ne (by decide) : g282 77 = gi272 77)))) ((funext (fun j => (hC286.1 70 j rfl).1) : gi286 70 = g284 70).trans ((by rw [e284]; exact x_up2_ne (by decide) : g284 70 = g282 70).trans ((by rw [e282]; exact x_up2_ne (by decide) : g282 70 = gi272 70)))))) rfl hX rfl (fun gi290 gl290 gr290 hI hX hC290 q290 => ?_)
                            have q290 : (t_K (b) gi290 2) ∧ ((∀ (b : Nat → Int32) (n q c : Nat) (T : List Int), t_MC b n q c T gi286 → t_MC b n q c (s_pop T) gi290)) := q290
                            obtain ⟨l295, u295⟩ := hI.b (hI.wf.s (k := 69) rfl) (t_bdK rfl : t_bd 11 22 = some (0, 60))
                            obtain ⟨l296, u296⟩ := hI.b (hI.wf.s (k := 69) rfl) (t_bdK rfl : t_bd 11 23 = some (0, 6))
                            obtain ⟨l297, u297⟩ := hI.b (hI.wf.s (k := 69) rfl) (t_bdK rfl : t_bd 11 25 = some (0, 210))
                            refine ev_jmp f_X12_aOne (nx := 124) rfl rfl rfl ?_
                            refine ev_sub (lo := [(1, .int w59), (0, .ref 69)]) rfl (t_sc rfl (t_sc rfl t_sn)) ?_
                            exact ih255 _ (by have ff301 : (gi290 69 14).toInt = (gi286 69 14).toInt := congrArg Int32.toInt ((hC290.1 69 14 rfl).1.trans rfl); have ff302 : (gi290 69 12).toInt = (gi286 69 12).toInt := congrArg Int32.toInt ((hC290.1 69 12 rfl).1.trans rfl); omega) gi290 gl290 gr290  hI hX  q290.1 (by have ff298 : (gi290 69 14).toInt = (gi286 69 14).toInt := congrArg Int32.toInt ((hC290.1 69 14 rfl).1.trans rfl); omega) (by have ff299 : (gi290 69 12).toInt = (gi286 69 12).toInt := congrArg Int32.toInt ((hC290.1 69 12 rfl).1.trans rfl); have ff300 : (gi290 69 14).toInt = (gi286 69 14).toInt := congrArg Int32.toInt ((hC290.1 69 14 rfl).1.trans rfl); omega) (fun b n q c T h => (by
                                                            obtain ⟨q2, c2, T2, hX, hl, hp, ⟨hS, hne⟩, hm⟩ := j272_4 b n q c T h
                                                            obtain ⟨T3, eT, h1⟩ := hm.po (g1 := g284) (x := 40) (Or.inr rfl) (by omega) (by rw [← (by rw [e277]; have hc := t_clamp (i := z276) (by omega); have hx : z276.toNatClampNeg = (gi272 69 22).toInt.toNat - 1 := (Nat.le_antisymm (by omega) (by omega)); rw [hx] : w277 = gi272 77 ((gi272 69 22).toInt.toNat - 1))]; omega) ((t_fM.rf.u9 (by decide) e282).u9 (by decide) e284) (congrArg Int32.toInt (by rw [e284, x_up2_off (Or.inr (by decide)), e282, x_up2_off (Or.inr (by decide))])) (by rw [e284, x_up2_at]; exact Int.le_antisymm (by omega) (by omega)) (by rw [e284, x_up2_off (Or.inr (by decide)), e282, x_up2_at]; exact Int.le_antisymm (by omega) (by omega)) (funext fun j => (by rw [e284, x_up2_ne (by decide), e282, x_up2_ne (by decide)]))
                                                            subst eT
                                                            have h2 := h1.ah (q286.2 b n _ h1.1.1.S) ⟨(hC286.1 69 18 rfl).1, (hC286.1 69 17 rfl).1⟩ (congrArg Int32.toInt (hC286.1 69 24 rfl).1) (congrArg Int32.toInt (hC286.1 69 23 rfl).1) (congrArg Int32.toInt (hC286.1 69 22 rfl).1) (funext fun j => (hC286.1 77 j rfl).1)
                                                            exact ⟨_, c2, s_pop T3, hX.trans (s_Cnd_c hm.qn hS), by have := s_isS_gt hS; omega, s_pop_pop _, q290.2 b n _ _ _ h2⟩)) rfl
                          · have r303 : w277.toInt ≠ 40 := fun e => h278 (Int32.toInt_inj.mp (e.trans (by decide : (40:Int) = (40 : Int32).toInt)))
                            refine ev_ic f_X12_isDoing (nx := 27) (v := 0) rfl (by decide) rfl ?_
                            refine ev_retK1 f_X12_isDoing rfl rfl rfl ?_
                            refine ev_t f_X12_aOne (t1 := 149) (t2 := 156) rfl rfl rfl (by decide) ?_
                            refine ev_loc f_X12_aOne (nx := 150) rfl rfl rfl rfl ?_
                            refine ev_inV1 f_X12_aOne (nx := 153) (lo2 := [(0, .ref 69)]) rfl rfl rfl rfl f_X12_joins (hI.wf.s rfl) rfl rfl rfl rfl rfl ?_
                            have kn304 := t_K_num j272_0
                            refine ev_loc f_X12_joins (nx := 1) rfl rfl rfl rfl ?_
                            refine ev_alu f_X12_joins (nx := 2) rfl rfl rfl rfl ?_
                            refine ev_gvI f_X12_joins (nx := 5) (w := (gi272 69 22)) rfl (hI.wf.s rfl) rfl rfl rfl rfl ?_
                            refine ev_ic f_X12_joins (nx := 6) (v := 1) rfl (by decide) rfl ?_
                            refine ev_subC f_X12_joins (nx := 7) (c := 1) (l := 0) (u := 59) rfl (by decide) l275 u273 rfl rfl (by decide) (by decide) rfl (fun z305 e305 l305 u305 => ?_)
                            refine ev_putIT f_X12_joins (nx := 10) rfl (hI.wf.s rfl) rfl rfl rfl (hI.putB (hI.wf.s rfl) rfl rfl l305 (by decide) u305 (by decide)) (hX.upI rfl) (fun g306 e306 hI hX => ?_)
                            refine ev_loc f_X12_joins (nx := 11) rfl rfl rfl rfl ?_
                            refine ev_loc f_X12_joins (nx := 12) rfl rfl rfl rfl ?_
                            refine ev_getR f_X12_joins (nx := 15) rfl (hI.wf.s rfl) rfl rfl (hI.wf.r rfl) rfl rfl ?_
                            refine ev_loc f_X12_joins (nx := 16) rfl rfl rfl rfl ?_
                            refine ev_gvI f_X12_joins (nx := 19) (w := z305) rfl (hI.wf.s rfl) rfl rfl (by rw [e306]; exact x_up2_at _ _ _ _ : g306 69 22 = z305) rfl ?_
                            refine ev_ialdT f_X12_joins (nx := 20) rfl (hI.wf.s rfl) l305 (by decide) u305 (by decide) rfl (fun w307 e307 => ?_)
                            refine ev_inV2 f_X12_joins (nx := 23) (lo2 := [(0, .ref 69), (1, .int w307)]) rfl rfl rfl rfl f_X12_asksAlso (hI.wf.s rfl) rfl rfl rfl rfl rfl ?_
                            have kn308 := t_K_num j272_0
                            refine ev_loc f_X12_asksAlso (nx := 1) rfl rfl rfl rfl ?_
                            refine ev_getR f_X12_asksAlso (nx := 4) rfl (hI.wf.s rfl) rfl rfl (hI.wf.r rfl) rfl rfl ?_
                            refine ev_sp f_X12_asksAlso (nx := 7) (v := 1540) rfl (by decide) rfl ?_
                            refine ev_loc f_X12_asksAlso (nx := 8) rfl rfl rfl rfl ?_
                            refine ev_gvI f_X12_asksAlso (nx := 11) (w := (gi272 69 25)) rfl (hI.wf.s rfl) rfl rfl ((by rw [e306]; exact x_up2_off (Or.inr (by decide)) : g306 69 25 = gi272 69 25).trans rfl) rfl ?_
                            refine ev_addK f_X12_asksAlso (nx := 12) (c := 1540) (l := 1540) (u := 1750) rfl (by decide) l274 u274 rfl rfl (by decide) (by decide) rfl (fun z309 e309 l309 u309 => ?_)
                            refine ev_loc f_X12_asksAlso (nx := 13) rfl rfl rfl rfl ?_
                            refine ev_iastT f_X12_asksAlso (nx := 14) rfl (hI.wf.s rfl) l309 (by decide) u309 (by decide) rfl (hI.astL (hI.wf.s rfl) (by decide +kernel : t_abw 70 1540 1750 (-2147483648) 2147483647 = true) (t_cl1 l309 (by decide)) (t_cl2 l309 u309 (by decide) (by decide)) (t_lo w307) (t_hi w307) rfl) (hX.upI (t_inR (p := 1540) (m := 1750) rfl l309 (by decide) u309 (by decide) (by decide))) (fun g310 e310 hI hX => ?_)
                            refine ev_loc f_X12_asksAlso (nx := 15) rfl rfl rfl rfl ?_
                            refine ev_alu f_X12_asksAlso (nx := 16) rfl rfl rfl rfl ?_
                            refine ev_gvI f_X12_asksAlso (nx := 19) (w := (gi272 69 25)) rfl (hI.wf.s rfl) rfl rfl ((by rw [e310]; exact x_up2_off (Or.inl (by decide)) : g310 69 25 = g306 69 25).trans ((by rw [e306]; exact x_up2_off (Or.inr (by decide)) : g306 69 25 = gi272 69 25).trans rfl)) rfl ?_
                            refine ev_ic f_X12_asksAlso (nx := 20) (v := 1) rfl (by decide) rfl ?_
                            refine ev_addC f_X12_asksAlso (nx := 21) (c := 1) (l := 1) (u := 211) rfl (by decide) l274 u274 rfl rfl (by decide) (by decide) rfl (fun z311 e311 l311 u311 => ?_)
                            have u313 : z311.toInt ≤ (210:Int) := (by omega)
                            refine ev_putIT f_X12_asksAlso (nx := 24) rfl (hI.wf.s rfl) rfl rfl rfl (hI.putB (hI.wf.s rfl) rfl rfl l311 (by decide) u313 (by decide)) (hX.upI rfl) (fun g312 e312 hI hX => ?_)
                            refine ev_retK0 f_X12_asksAlso rfl rfl rfl ?_
                            refine ev_retK0 f_X12_joins rfl rfl rfl ?_
                            refine ev_jmp f_X12_aOne (nx := 140) rfl rfl rfl ?_
                            refine ev_sub (lo := [(1, .int w59), (0, .ref 69)]) rfl (t_sc rfl (t_sc rfl t_sn)) ?_
                            exact ih272 _ (by have ff322 : (g312 69 22).toInt = z305.toInt := congrArg Int32.toInt ((by rw [e312]; exact x_up2_off (Or.inr (by decide)) : g312 69 22 = g310 69 22).trans ((by rw [e310]; exact x_up2_off (Or.inl (by decide)) : g310 69 22 = g306 69 22).trans (by rw [e306]; exact x_up2_at _ _ _ _ : g306 69 22 = z305))); omega) g312 gl272 gr272  hI hX  ((by rw [e312]; exact x_up2_off (Or.inr (by decide)) : g312 69 12 = g310 69 12).trans ((by rw [e310]; exact x_up2_off (Or.inl (by decide)) : g310 69 12 = g306 69 12).trans ((by rw [e306]; exact x_up2_off (Or.inr (by decide)) : g306 69 12 = gi272 69 12).trans c272_0))) ((by rw [e312]; exact x_up2_off (Or.inr (by decide)) : g312 69 14 = g310 69 14).trans ((by rw [e310]; exact x_up2_off (Or.inl (by decide)) : g310 69 14 = g306 69 14).trans ((by rw [e306]; exact x_up2_off (Or.inr (by decide)) : g306 69 14 = gi272 69 14).trans c272_1))) ((by rw [e312]; exact x_up2_off (Or.inr (by decide)) : g312 69 23 = g310 69 23).trans ((by rw [e310]; exact x_up2_off (Or.inl (by decide)) : g310 69 23 = g306 69 23).trans ((by rw [e306]; exact x_up2_off (Or.inr (by decide)) : g306 69 23 = gi272 69 23).trans c272_2))) ((by rw [e312]; exact x_up2_off (Or.inr (by decide)) : g312 69 24 = g310 69 24).trans ((by rw [e310]; exact x_up2_off (Or.inl (by decide)) : g310 69 24 = g306 69 24).trans ((by rw [e306]; exact x_up2_off (Or.inr (by decide)) : g306 69 24 = gi272 69 24).trans c272_3))) (by have ht := (by rw [e307]; have hc := t_clamp (i := z305) (by omega); have hx : z305.toNatClampNeg = (gi272 69 22).toInt.toNat - 1 := (by omega); rw [hx]; exact congrFun (((by rw [e306]; exact x_up2_ne (by decide) : g306 77 = gi272 77))) _ : w307 = gi272 77 ((gi272 69 22).toInt.toNat - 1)); have ho := (t_one (p := 1540 + (gi272 69 25).toInt.toNat) ((by rw [e306]; exact x_up2_ne (by decide) : g306 70 = gi272 70)) e310 ((by rw [e312]; exact x_up2_ne (by decide) : g312 70 = g310 70)) (by have hc := t_clamp (i := z309) (by omega); omega)); exact t_K_bin j272_0 (by omega) (t_K_top j272_0 (by omega) (by rw [← (by rw [e277]; have hc := t_clamp (i := z276) (by omega); have hx : z276.toNatClampNeg = (gi272 69 22).toInt.toNat - 1 := (by omega); rw [hx] : w277 = gi272 77 ((gi272 69 22).toInt.toNat - 1))]; omega)) (show (g312 69 22).toInt = (gi272 69 22).toInt - 1 from (by have ff314 : (g312 69 22).toInt = z305.toInt := congrArg Int32.toInt ((by rw [e312]; exact x_up2_off (Or.inr (by decide)) : g312 69 22 = g310 69 22).trans ((by rw [e310]; exact x_up2_off (Or.inl (by decide)) : g310 69 22 = g306 69 22).trans (by rw [e306]; exact x_up2_at _ _ _ _ : g306 69 22 = z305))); omega)) (show (g312 69 23).toInt = (gi272 69 23).toInt from (by have ff315 : (g312 69 23).toInt = (gi255 69 23).toInt := congrArg Int32.toInt ((by rw [e312]; exact x_up2_off (Or.inr (by decide)) : g312 69 23 = g310 69 23).trans ((by rw [e310]; exact x_up2_off (Or.inl (by decide)) : g310 69 23 = g306 69 23).trans ((by rw [e306]; exact x_up2_off (Or.inr (by decide)) : g306 69 23 = gi272 69 23).trans c272_2))); omega)) (show (g312 69 24).toInt = (gi272 69 24).toInt from (by have ff316 : (g312 69 24).toInt = (gi255 69 24).toInt := congrArg Int32.toInt ((by rw [e312]; exact x_up2_off (Or.inr (by decide)) : g312 69 24 = g310 69 24).trans ((by rw [e310]; exact x_up2_off (Or.inl (by decide)) : g310 69 24 = g306 69 24).trans ((by rw [e306]; exact x_up2_off (Or.inr (by decide)) : g306 69 24 = gi272 69 24).trans c272_3))); omega)) (show (g312 69 25).toInt = (gi272 69 25).toInt + 1 from (by have ff317 : (g312 69 25).toInt = z311.toInt := congrArg Int32.toInt (by rw [e312]; exact x_up2_at _ _ _ _ : g312 69 25 = z311); omega)) ((by rw [e312]; exact x_up2_ne (by decide) : g312 77 = g310 77).trans ((by rw [e310]; exact x_up2_ne (by decide) : g310 77 = g306 77).trans ((by rw [e306]; exact x_up2_ne (by decide) : g306 77 = gi272 77)))) ho.1 (ho.2.trans ht)) (by obtain ⟨j, hj, hv⟩ := j272_1; have ht := (by rw [e277]; have hc := t_clamp (i := z276) (by omega); have hx : z276.toNatClampNeg = (gi272 69 22).toInt.toNat - 1 := (by omega); rw [hx] : w277 = gi272 77 ((gi272 69 22).toInt.toNat - 1)); have ff318 : (g312 69 22).toInt = z305.toInt := congrArg Int32.toInt ((by rw [e312]; exact x_up2_off (Or.inr (by decide)) : g312 69 22 = g310 69 22).trans ((by rw [e310]; exact x_up2_off (Or.inl (by decide)) : g310 69 22 = g306 69 22).trans (by rw [e306]; exact x_up2_at _ _ _ _ : g306 69 22 = z305))); refine ⟨j, ?_, (congrArg Int32.toInt (congrFun ((by rw [e312]; exact x_up2_ne (by decide) : g312 77 = g310 77).trans ((by rw [e310]; exact x_up2_ne (by decide) : g310 77 = g306 77).trans ((by rw [e306]; exact x_up2_ne (by decide) : g306 77 = gi272 77)))) j)).trans hv⟩; have hne : j ≠ (gi272 69 22).toInt.toNat - 1 := (fun e => by rw [e, ← ht] at hv; omega); omega) (by have ff319 : (g312 69 14).toInt = (gi255 69 14).toInt := congrArg Int32.toInt ((by rw [e312]; exact x_up2_off (Or.inr (by decide)) : g312 69 14 = g310 69 14).trans ((by rw [e310]; exact x_up2_off (Or.inl (by decide)) : g310 69 14 = g306 69 14).trans ((by rw [e306]; exact x_up2_off (Or.inr (by decide)) : g306 69 14 = gi272 69 14).trans c272_1))); omega) (by have ff320 : (g312 69 12).toInt = (gi255 69 12).toInt := congrArg Int32.toInt ((by rw [e312]; exact x_up2_off (Or.inr (by decide)) : g312 69 12 = g310 69 12).trans ((by rw [e310]; exact x_up2_off (Or.inl (by decide)) : g310 69 12 = g306 69 12).trans ((by rw [e306]; exact x_up2_off (Or.inr (by decide)) : g306 69 12 = gi272 69 12).trans c272_0))); have ff321 : (g312 69 14).toInt = (gi255 69 14).toInt := congrArg Int32.toInt ((by rw [e312]; exact x_up2_off (Or.inr (by decide)) : g312 69 14 = g310 69 14).trans ((by rw [e310]; exact x_up2_off (Or.inl (by decide)) : g310 69 14 = g306 69 14).trans ((by rw [e306]; exact x_up2_off (Or.inr (by decide)) : g306 69 14 = gi272 69 14).trans c272_1))); omega) (fun b n q c T h => (by
                                                            obtain ⟨q2, c2, T2, hX, hl, hp, hS, hm⟩ := j272_4 b n q c T h
                                                            have ht := hm.top hp (by omega) (by rw [← (by rw [e277]; have hc := t_clamp (i := z276) (by omega); have hx : z276.toNatClampNeg = (gi272 69 22).toInt.toNat - 1 := (Nat.le_antisymm (by omega) (by omega)); rw [hx] : w277 = gi272 77 ((gi272 69 22).toInt.toNat - 1))]; omega)
                                                            exact ⟨q2, c2, T2, hX, hl, hp, hS, hm.pj (by omega) ht (((t_fM.rf.u9 (by decide) e306).ux (by decide) e310).u9 (by decide) e312) (congrArg Int32.toInt (by rw [e312, x_up2_off (Or.inr (by decide)), e310, x_up2_ne (by decide), e306, x_up2_off (Or.inr (by decide))])) (congrArg Int32.toInt (by rw [e312, x_up2_off (Or.inr (by decide)), e310, x_up2_ne (by decide), e306, x_up2_off (Or.inr (by decide))])) (by rw [e312, x_up2_off (Or.inr (by decide)), e310, x_up2_ne (by decide), e306, x_up2_at]; exact Int.le_antisymm (by omega) (by omega)) (funext fun j => (by rw [e312, x_up2_ne (by decide), e310, x_up2_ne (by decide), e306, x_up2_ne (by decide)]))⟩)) rfl
                        refine ev_sub (lo := [(1, .int w59), (0, .ref 69)]) rfl (t_sc rfl (t_sc rfl t_sn)) ?_
                        exact L272 _ gi255 gl255 gr255  hI hX  rfl rfl rfl rfl j255_0 (q267.1 (by omega)) (by omega) (by omega) (fun b n q c T h => (by
                                                            obtain ⟨q2, c2, T2, hX, hl, hp, hm⟩ := j255_3 b n q c T h
                                                            exact ⟨q2, c2, T2, hX, hl, hp, ⟨(q262.1 b n _ hm.1.1).mp (by omega), hm.ex hp (q267.1 (by omega))⟩, hm⟩)) rfl
                  refine ev_sub (lo := [(1, .int w59), (0, .ref 69)]) rfl (t_sc rfl (t_sc rfl t_sn)) ?_
                  exact L255 _ gi251 gl251 gr251  hI hX  q251.1 (by have ff323 : (gi251 69 14).toInt = (gi242 69 14).toInt := congrArg Int32.toInt ((hC251.1 69 14 rfl).1.trans rfl); omega) (by have ff324 : (gi251 69 12).toInt = (gi242 69 12).toInt := congrArg Int32.toInt ((hC251.1 69 12 rfl).1.trans rfl); have ff325 : (gi251 69 14).toInt = (gi242 69 14).toInt := congrArg Int32.toInt ((hC251.1 69 14 rfl).1.trans rfl); omega) (fun b n q c T h => (by
                                                            obtain ⟨q2, T2, hX, hl, hm⟩ := j7_2 b n q c T h
                                                            have hk := q12.1 b n _ hm.1.1
                                                            have hN : ¬ s_nst b n q2 := fun hh => (s_nst_mi.mp hh).elim (fun x => by omega) (fun x => absurd ((q56.1 b n _ hm.1.1).mpr x) (by omega))
                                                            have hk2 := q59.1 b n _ hm.1.1
                                                            have hf : s_fct b n q2 := s_fct_mi.mpr (by omega)
                                                            obtain ⟨_, q3, hlt, hK, h2⟩ := (q242.2 b n q2 c T2 hm hf hN hk2.symm).resolve_right (fun hh => absurd hh.1 (by omega))
                                                            exact ⟨q3, c + 1, s_pop T2, hX.trans hK, by omega, s_pop_pop _, q251.2 b n _ _ _ h2⟩)) rfl
              · have l326 : 27 ≤ w59.toInt := t_ltl (t_nle h240) (by decide : (26:Int) ≤ (26:Int32).toInt) rfl
                refine ev_loc f_X12_aOne (nx := 105) rfl rfl rfl rfl ?_
                refine ev_ic f_X12_aOne (nx := 106) (v := 2) rfl (by decide) rfl ?_
                refine ev_qI f_X12_aOne (nx := 109) (r := []) rfl rfl rfl rfl rfl rfl rfl (c_n_fails hI (2) (by decide : (2:Int) ≤ (2:Int32).toInt) (Int.le_trans (by decide : (2:Int32).toInt ≤ (2:Int)) (by decide : (2:Int) ≤ 7))) rfl hX rfl (fun w327 gi327 gl327 gr327 l327 u327 hI hX hC327 q327 => ?_)
                have q327 : (∀ (b : Nat → Int32) (n q : Nat), t_TM b n q gi7 → (gi7 69 18).toInt = 0 → t_MF gi327 (s_fk b n q 2) (s_F b n q)) ∧ w327.toInt = 0 := q327
                exact ev_retZ f_X12_aOne rfl l327 (Int.le_trans u327 (by decide : (0:Int) ≤ 1)) ⟨_, _, _, rfl, hI, hX, ⟨_, rfl, l327, (Int.le_trans u327 (by decide : (0:Int) ≤ 1)), (show (∀ (b : Nat → Int32) (n q c : Nat) (T : List Int), t_MC b n q c T gi → (w327.toInt = 1 ∧ ∃ q2 c2 T2, s_Cnd b n false q c T = s_Cnd b n true q2 c2 T2 ∧ q < q2 ∧ s_pop T2 = T2 ∧ ¬ (s_isS b n q2 41 ∧ T2 ≠ []) ∧ t_MC b n q2 c2 T2 gi327) ∨ (w327.toInt = 0 ∧ ∃ p x, x ≠ 0 ∧ s_Cnd b n false q c T = s_qb b n p x ∧ t_MF gi327 (s_fk b n p x) (s_F b n p))) from (fun b n q c T h => (by
                                                            obtain ⟨q2, T2, hX, hl, hm⟩ := j7_2 b n q c T h
                                                            have hoo := hm.2.1.2.2
                                                            have hk := q12.1 b n _ hm.1.1
                                                            have hN : ¬ s_nst b n q2 := fun hh => (s_nst_mi.mp hh).elim (fun x => by omega) (fun x => absurd ((q56.1 b n _ hm.1.1).mpr x) (by omega))
                                                            have hk2 := q59.1 b n _ hm.1.1
                                                            have hf : ¬ s_fct b n q2 := fun hh => by have := s_fct_mi.mp hh; omega
                                                            exact Or.inr ⟨q327.2, _, 2, by decide, hX.trans (s_Cnd_f hm.qn hN hf), q327.1 b n _ hm.1.1 hm.1.2.1⟩)))⟩⟩
      · have r328 : w56.toInt ≠ 0 := fun e => h57 (Int32.toInt_inj.mp (e.trans (by decide : (0:Int) = (0 : Int32).toInt)))
        have l329 : 1 ≤ w56.toInt := t_nel h57 l56 rfl rfl
        refine ev_loc f_X12_aOne (nx := 21) rfl rfl rfl rfl ?_
        refine ev_gvI f_X12_aOne (nx := 24) (w := (gi7 69 23)) rfl (hI.wf.s rfl) rfl rfl rfl rfl ?_
        refine ev_bp f_X12_aOne (nx := 26) (v := 6) rfl (by decide) rfl ?_
        refine ev_if f_X12_aOne (t1 := 29) (t2 := 36) rfl rfl rfl (fun h330 => ?_) (fun h330 => ?_)
        · have l331 : 6 ≤ (gi7 69 23).toInt := t_eql h330 (by decide : (6:Int) ≤ (6:Int32).toInt)
          refine ev_loc f_X12_aOne (nx := 30) rfl rfl rfl rfl ?_
          refine ev_bp f_X12_aOne (nx := 32) (v := 7) rfl (by decide) rfl ?_
          refine ev_qI f_X12_aOne (nx := 35) (r := []) rfl rfl rfl rfl rfl rfl rfl (c_n_fails hI (7) (Int.le_trans (by decide : (2:Int) ≤ 7) (by decide : (7:Int) ≤ (7:Int32).toInt)) (by decide : (7:Int32).toInt ≤ (7:Int))) rfl hX rfl (fun w332 gi332 gl332 gr332 l332 u332 hI hX hC332 q332 => ?_)
          have q332 : (∀ (b : Nat → Int32) (n q : Nat), t_TM b n q gi7 → (gi7 69 18).toInt = 0 → t_MF gi332 (s_fk b n q 7) (s_F b n q)) ∧ w332.toInt = 0 := q332
          exact ev_retZ f_X12_aOne rfl l332 (Int.le_trans u332 (by decide : (0:Int) ≤ 1)) ⟨_, _, _, rfl, hI, hX, ⟨_, rfl, l332, (Int.le_trans u332 (by decide : (0:Int) ≤ 1)), (show (∀ (b : Nat → Int32) (n q c : Nat) (T : List Int), t_MC b n q c T gi → (w332.toInt = 1 ∧ ∃ q2 c2 T2, s_Cnd b n false q c T = s_Cnd b n true q2 c2 T2 ∧ q < q2 ∧ s_pop T2 = T2 ∧ ¬ (s_isS b n q2 41 ∧ T2 ≠ []) ∧ t_MC b n q2 c2 T2 gi332) ∨ (w332.toInt = 0 ∧ ∃ p x, x ≠ 0 ∧ s_Cnd b n false q c T = s_qb b n p x ∧ t_MF gi332 (s_fk b n p x) (s_F b n p))) from (fun b n q c T h => (by
                                                            obtain ⟨q2, T2, hX, hl, hm⟩ := j7_2 b n q c T h
                                                            have hoo := hm.2.1.2.2
                                                            have hk := q12.1 b n _ hm.1.1
                                                            have hN : s_nst b n q2 := Or.inr ((q56.1 b n _ hm.1.1).mp (by omega))
                                                            exact Or.inr ⟨q332.2, _, 7, by decide, hX.trans (s_Cnd_n6 hm.qn hN (show T2.length = 6 by omega)), q332.1 b n _ hm.1.1 hm.1.2.1⟩)))⟩⟩
        · have r333 : (gi7 69 23).toInt ≠ 6 := fun e => h330 (Int32.toInt_inj.mp (e.trans (by decide : (6:Int) = (6 : Int32).toInt)))
          have u334 : (gi7 69 23).toInt ≤ 5 := t_neu h330 u11 rfl rfl
          refine ev_loc f_X12_aOne (nx := 37) rfl rfl rfl rfl ?_
          refine ev_alu f_X12_aOne (nx := 38) rfl rfl rfl rfl ?_
          refine ev_gvI f_X12_aOne (nx := 41) (w := (gi7 69 23)) rfl (hI.wf.s rfl) rfl rfl rfl rfl ?_
          refine ev_ic f_X12_aOne (nx := 42) (v := 1) rfl (by decide) rfl ?_
          refine ev_addC f_X12_aOne (nx := 43) (c := 1) (l := 1) (u := 6) rfl (by decide) l11 u334 rfl rfl (by decide) (by decide) rfl (fun z335 e335 l335 u335 => ?_)
          refine ev_putIT f_X12_aOne (nx := 46) rfl (hI.wf.s rfl) rfl rfl rfl (hI.putB (hI.wf.s rfl) rfl rfl l335 (by decide) u335 (by decide)) (hX.upI rfl) (fun g336 e336 hI hX => ?_)
          refine ev_loc f_X12_aOne (nx := 47) rfl rfl rfl rfl ?_
          refine ev_loc f_X12_aOne (nx := 48) rfl rfl rfl rfl ?_
          refine ev_bp f_X12_aOne (nx := 50) (v := 40) rfl (by decide) rfl ?_
          refine ev_qI0 f_X12_aOne (nx := 53) (r := [.ref 69]) rfl rfl rfl rfl rfl rfl rfl (c_n_isSignB hI (40)) rfl (fun w337 l337 u337 q337 => ?_)
          have ff338 : (g336 69 12).toInt = (gi7 69 12).toInt := congrArg Int32.toInt ((by rw [e336]; exact x_up2_off (Or.inr (by decide)) : g336 69 12 = gi7 69 12).trans rfl)
          have q337 : (∀ (b : Nat → Int32) (n q : Nat), t_TM b n q g336 → (w337.toInt = 1 ↔ s_isS b n q 40)) ∧ (w337.toInt = 1 → (g336 69 12).toInt = 4) := q337
          refine ev_if f_X12_aOne (t1 := 61) (t2 := 56) rfl rfl rfl (fun h339 => ?_) (fun h339 => ?_)
          · have u340 : w337.toInt ≤ 0 := t_equ h339 (by decide : (0:Int32).toInt ≤ (0:Int))
            refine ev_bp f_X12_aOne (nx := 63) (v := 20) rfl (by decide) rfl ?_
            refine ev_inV2 f_X12_aOne (nx := 66) (lo2 := [(0, .ref 69), (1, .int 20)]) rfl rfl rfl rfl f_X12_does (hI.wf.s rfl) rfl rfl rfl rfl rfl ?_
            have kn341 := t_K_num j7_0
            refine ev_loc f_X12_does (nx := 1) rfl rfl rfl rfl ?_
            refine ev_getR f_X12_does (nx := 4) rfl (hI.wf.s rfl) rfl rfl (hI.wf.r rfl) rfl rfl ?_
            refine ev_loc f_X12_does (nx := 5) rfl rfl rfl rfl ?_
            refine ev_gvI f_X12_does (nx := 8) (w := (gi7 69 22)) rfl (hI.wf.s rfl) rfl rfl ((by rw [e336]; exact x_up2_off (Or.inr (by decide)) : g336 69 22 = gi7 69 22).trans rfl) rfl ?_
            refine ev_loc f_X12_does (nx := 9) rfl rfl rfl rfl ?_
            have u343 : (gi7 69 22).toInt ≤ (59:Int) := (by omega)
            refine ev_iastT f_X12_does (nx := 10) rfl (hI.wf.s rfl) l10 (by decide) u343 (by decide) rfl (hI.astG (hI.wf.s rfl) (fun lo hi e => absurd e (t_nob (by decide +kernel) _)) (fun k hk e => by have := hk.2.1; omega)) (hX.upI (t_inA_ok rfl)) (fun g342 e342 hI hX => ?_)
            refine ev_loc f_X12_does (nx := 11) rfl rfl rfl rfl ?_
            refine ev_alu f_X12_does (nx := 12) rfl rfl rfl rfl ?_
            refine ev_gvI f_X12_does (nx := 15) (w := (gi7 69 22)) rfl (hI.wf.s rfl) rfl rfl ((by rw [e342]; exact x_up2_off (Or.inl (by decide)) : g342 69 22 = g336 69 22).trans ((by rw [e336]; exact x_up2_off (Or.inr (by decide)) : g336 69 22 = gi7 69 22).trans rfl)) rfl ?_
            refine ev_ic f_X12_does (nx := 16) (v := 1) rfl (by decide) rfl ?_
            refine ev_addC f_X12_does (nx := 17) (c := 1) (l := 1) (u := 60) rfl (by decide) l10 u343 rfl rfl (by decide) (by decide) rfl (fun z344 e344 l344 u344 => ?_)
            refine ev_putIT f_X12_does (nx := 20) rfl (hI.wf.s rfl) rfl rfl rfl (hI.putB (hI.wf.s rfl) rfl rfl l344 (by decide) u344 (by decide)) (hX.upI rfl) (fun g345 e345 hI hX => ?_)
            refine ev_retK0 f_X12_does rfl rfl rfl ?_
            refine ev_loc f_X12_aOne (nx := 67) rfl rfl rfl rfl ?_
            refine ev_qN f_X12_aOne (nx := 70) (r := []) rfl rfl rfl rfl rfl rfl rfl (c_n_aheadB hI ) rfl hX rfl (fun gi346 gl346 gr346 hI hX hC346 q346 => ?_)
            have ff347 : (g345 69 14).toInt = (gi7 69 14).toInt := congrArg Int32.toInt ((by rw [e345]; exact x_up2_off (Or.inr (by decide)) : g345 69 14 = g342 69 14).trans ((by rw [e342]; exact x_up2_off (Or.inl (by decide)) : g342 69 14 = g336 69 14).trans ((by rw [e336]; exact x_up2_off (Or.inr (by decide)) : g336 69 14 = gi7 69 14).trans rfl)))
            have q346 : ((g345 69 14).toInt ≤ (gi346 69 14).toInt ∧ ((gi346 69 12).toInt ≠ 0 → (g345 69 14).toInt < (gi346 69 14).toInt) ∧ ((gi346 69 12).toInt = 3 → 0 ≤ (gi346 69 15).toInt)) ∧ (∀ (b : Nat → Int32) (n q : Nat), t_Sm b n q g345 → t_TM b n q gi346) := q346
            obtain ⟨l348, u348⟩ := hI.b (hI.wf.s (k := 69) rfl) (t_bdK rfl : t_bd 11 12 = some (0, 4))
            obtain ⟨l349, u349⟩ := hI.b (hI.wf.s (k := 69) rfl) (t_bdK rfl : t_bd 11 14 = some (0, 900))
            refine ev_jmp f_X12_aOne (nx := 0) rfl rfl rfl ?_
            refine ev_sub (lo := [(0, .ref 69)]) rfl (t_sc rfl t_sn) ?_
            exact ih7 _ (by omega) gi346 gl346 gr346  hI hX  ((hC346.1 69 24 rfl).1.trans ((by rw [e345]; exact x_up2_off (Or.inr (by decide)) : g345 69 24 = g342 69 24).trans ((by rw [e342]; exact x_up2_off (Or.inl (by decide)) : g342 69 24 = g336 69 24).trans ((by rw [e336]; exact x_up2_off (Or.inr (by decide)) : g336 69 24 = gi7 69 24).trans c7_0)))) ((hC346.1 69 25 rfl).1.trans ((by rw [e345]; exact x_up2_off (Or.inr (by decide)) : g345 69 25 = g342 69 25).trans ((by rw [e342]; exact x_up2_off (Or.inl (by decide)) : g342 69 25 = g336 69 25).trans ((by rw [e336]; exact x_up2_off (Or.inr (by decide)) : g336 69 25 = gi7 69 25).trans c7_1)))) (by have ho := (t_onec (p := (gi7 69 22).toInt.toNat) ((by rw [e336]; exact x_up2_ne (by decide) : g336 77 = gi7 77)) e342 ((funext (fun j => (hC346.1 77 j rfl).1) : gi346 77 = g345 77).trans ((by rw [e345]; exact x_up2_ne (by decide) : g345 77 = g342 77))) (by have hc := t_clamp (i := (gi7 69 22)) (by omega); omega)); exact t_K_does j7_0 (by omega) (by decide) (show (gi346 69 22).toInt = (gi7 69 22).toInt + 1 from (by have ff350 : (gi346 69 22).toInt = z344.toInt := congrArg Int32.toInt ((hC346.1 69 22 rfl).1.trans (by rw [e345]; exact x_up2_at _ _ _ _ : g345 69 22 = z344)); omega)) (show (gi346 69 23).toInt = (gi7 69 23).toInt + 1 from (by have ff351 : (gi346 69 23).toInt = z335.toInt := congrArg Int32.toInt ((hC346.1 69 23 rfl).1.trans ((by rw [e345]; exact x_up2_off (Or.inr (by decide)) : g345 69 23 = g342 69 23).trans ((by rw [e342]; exact x_up2_off (Or.inl (by decide)) : g342 69 23 = g336 69 23).trans (by rw [e336]; exact x_up2_at _ _ _ _ : g336 69 23 = z335)))); omega)) (show (gi346 69 24).toInt = (gi7 69 24).toInt from (by have ff352 : (gi346 69 24).toInt = (gi 69 24).toInt := congrArg Int32.toInt ((hC346.1 69 24 rfl).1.trans ((by rw [e345]; exact x_up2_off (Or.inr (by decide)) : g345 69 24 = g342 69 24).trans ((by rw [e342]; exact x_up2_off (Or.inl (by decide)) : g342 69 24 = g336 69 24).trans ((by rw [e336]; exact x_up2_off (Or.inr (by decide)) : g336 69 24 = gi7 69 24).trans c7_0)))); omega)) (show (gi346 69 25).toInt = (gi7 69 25).toInt from (by have ff353 : (gi346 69 25).toInt = (gi 69 25).toInt := congrArg Int32.toInt ((hC346.1 69 25 rfl).1.trans ((by rw [e345]; exact x_up2_off (Or.inr (by decide)) : g345 69 25 = g342 69 25).trans ((by rw [e342]; exact x_up2_off (Or.inl (by decide)) : g342 69 25 = g336 69 25).trans ((by rw [e336]; exact x_up2_off (Or.inr (by decide)) : g336 69 25 = gi7 69 25).trans c7_1)))); omega)) ((funext (fun j => (hC346.1 70 j rfl).1) : gi346 70 = g345 70).trans ((by rw [e345]; exact x_up2_ne (by decide) : g345 70 = g342 70).trans ((by rw [e342]; exact x_up2_ne (by decide) : g342 70 = g336 70).trans ((by rw [e336]; exact x_up2_ne (by decide) : g336 70 = gi7 70))))) ho.1 ho.2) (by omega) (fun b n q c T h => (by
                                                            obtain ⟨q2, T2, hX, hl, hm⟩ := j7_2 b n q c T h
                                                            have hoo := hm.2.1.2.2
                                                            have hk := q12.1 b n _ hm.1.1
                                                            have hN : s_nst b n q2 := Or.inr ((q56.1 b n _ hm.1.1).mp (by omega))
                                                            have hB := s_Cnd_n (c := c) hm.qn hN (show T2.length ≠ 6 by omega)
                                                            have hS : ¬ s_isS b n q2 40 := fun hh => absurd ((q337.1 b n _ (hm.1.1.fM (t_fM.rf.u9 (by decide) e336))).mpr hh) (by omega)
                                                            rw [s_brk20 (hN.resolve_right hS)] at hB
                                                            have h1 : t_MC b n q2 c (20 :: T2) g345 := hm.ps (v := (20 : Int32)) (by decide) (by omega) (((t_fM.rf.u9 (by decide) e336).ux (by decide) e342).u9 (by decide) e345) (congrArg Int32.toInt (by rw [e345, x_up2_off (Or.inr (by decide)), e342, x_up2_ne (by decide), e336, x_up2_off (Or.inr (by decide))])) (by rw [e345, x_up2_off (Or.inr (by decide)), e342, x_up2_ne (by decide), e336, x_up2_at]; exact Int.le_antisymm (by omega) (by omega)) (by rw [e345, x_up2_at]; exact Int.le_antisymm (by omega) (by omega)) ⟨fun j hj => (by rw [e345, x_up2_ne (by decide), e342, x_up2_off (Or.inr (show j ≠ (gi7 69 22).toNatClampNeg from hj)), e336, x_up2_ne (by decide)]), by rw [e345, x_up2_ne (by decide), e342]; exact x_up2_at _ _ _ _⟩
                                                            have h2 := h1.ah (q346.2 b n _ h1.1.1.S) ⟨(hC346.1 69 18 rfl).1, (hC346.1 69 17 rfl).1⟩ (congrArg Int32.toInt (hC346.1 69 24 rfl).1) (congrArg Int32.toInt (hC346.1 69 23 rfl).1) (congrArg Int32.toInt (hC346.1 69 22 rfl).1) (funext fun j => (hC346.1 77 j rfl).1)
                                                            exact ⟨_, _, hX.trans hB, by have := s_nst_gt hN; omega, h2⟩)) rfl
          · have r354 : w337.toInt ≠ 0 := fun e => h339 (Int32.toInt_inj.mp (e.trans (by decide : (0:Int) = (0 : Int32).toInt)))
            have l355 : 1 ≤ w337.toInt := t_nel h339 l337 rfl rfl
            refine ev_bp f_X12_aOne (nx := 58) (v := 40) rfl (by decide) rfl ?_
            refine ev_jmp f_X12_aOne (nx := 63) rfl rfl rfl ?_
            refine ev_inV2 f_X12_aOne (nx := 66) (lo2 := [(0, .ref 69), (1, .int 40)]) rfl rfl rfl rfl f_X12_does (hI.wf.s rfl) rfl rfl rfl rfl rfl ?_
            have kn356 := t_K_num j7_0
            refine ev_loc f_X12_does (nx := 1) rfl rfl rfl rfl ?_
            refine ev_getR f_X12_does (nx := 4) rfl (hI.wf.s rfl) rfl rfl (hI.wf.r rfl) rfl rfl ?_
            refine ev_loc f_X12_does (nx := 5) rfl rfl rfl rfl ?_
            refine ev_gvI f_X12_does (nx := 8) (w := (gi7 69 22)) rfl (hI.wf.s rfl) rfl rfl ((by rw [e336]; exact x_up2_off (Or.inr (by decide)) : g336 69 22 = gi7 69 22).trans rfl) rfl ?_
            refine ev_loc f_X12_does (nx := 9) rfl rfl rfl rfl ?_
            have u358 : (gi7 69 22).toInt ≤ (59:Int) := (by omega)
            refine ev_iastT f_X12_does (nx := 10) rfl (hI.wf.s rfl) l10 (by decide) u358 (by decide) rfl (hI.astG (hI.wf.s rfl) (fun lo hi e => absurd e (t_nob (by decide +kernel) _)) (fun k hk e => by have := hk.2.1; omega)) (hX.upI (t_inA_ok rfl)) (fun g357 e357 hI hX => ?_)
            refine ev_loc f_X12_does (nx := 11) rfl rfl rfl rfl ?_
            refine ev_alu f_X12_does (nx := 12) rfl rfl rfl rfl ?_
            refine ev_gvI f_X12_does (nx := 15) (w := (gi7 69 22)) rfl (hI.wf.s rfl) rfl rfl ((by rw [e357]; exact x_up2_off (Or.inl (by decide)) : g357 69 22 = g336 69 22).trans ((by rw [e336]; exact x_up2_off (Or.inr (by decide)) : g336 69 22 = gi7 69 22).trans rfl)) rfl ?_
            refine ev_ic f_X12_does (nx := 16) (v := 1) rfl (by decide) rfl ?_
            refine ev_addC f_X12_does (nx := 17) (c := 1) (l := 1) (u := 60) rfl (by decide) l10 u358 rfl rfl (by decide) (by decide) rfl (fun z359 e359 l359 u359 => ?_)
            refine ev_putIT f_X12_does (nx := 20) rfl (hI.wf.s rfl) rfl rfl rfl (hI.putB (hI.wf.s rfl) rfl rfl l359 (by decide) u359 (by decide)) (hX.upI rfl) (fun g360 e360 hI hX => ?_)
            refine ev_retK0 f_X12_does rfl rfl rfl ?_
            refine ev_loc f_X12_aOne (nx := 67) rfl rfl rfl rfl ?_
            refine ev_qN f_X12_aOne (nx := 70) (r := []) rfl rfl rfl rfl rfl rfl rfl (c_n_aheadB hI ) rfl hX rfl (fun gi361 gl361 gr361 hI hX hC361 q361 => ?_)
            have ff362 : (g360 69 14).toInt = (gi7 69 14).toInt := congrArg Int32.toInt ((by rw [e360]; exact x_up2_off (Or.inr (by decide)) : g360 69 14 = g357 69 14).trans ((by rw [e357]; exact x_up2_off (Or.inl (by decide)) : g357 69 14 = g336 69 14).trans ((by rw [e336]; exact x_up2_off (Or.inr (by decide)) : g336 69 14 = gi7 69 14).trans rfl)))
            have q361 : ((g360 69 14).toInt ≤ (gi361 69 14).toInt ∧ ((gi361 69 12).toInt ≠ 0 → (g360 69 14).toInt < (gi361 69 14).toInt) ∧ ((gi361 69 12).toInt = 3 → 0 ≤ (gi361 69 15).toInt)) ∧ (∀ (b : Nat → Int32) (n q : Nat), t_Sm b n q g360 → t_TM b n q gi361) := q361
            obtain ⟨l363, u363⟩ := hI.b (hI.wf.s (k := 69) rfl) (t_bdK rfl : t_bd 11 12 = some (0, 4))
            obtain ⟨l364, u364⟩ := hI.b (hI.wf.s (k := 69) rfl) (t_bdK rfl : t_bd 11 14 = some (0, 900))
            refine ev_jmp f_X12_aOne (nx := 0) rfl rfl rfl ?_
            refine ev_sub (lo := [(0, .ref 69)]) rfl (t_sc rfl t_sn) ?_
            exact ih7 _ (by omega) gi361 gl361 gr361  hI hX  ((hC361.1 69 24 rfl).1.trans ((by rw [e360]; exact x_up2_off (Or.inr (by decide)) : g360 69 24 = g357 69 24).trans ((by rw [e357]; exact x_up2_off (Or.inl (by decide)) : g357 69 24 = g336 69 24).trans ((by rw [e336]; exact x_up2_off (Or.inr (by decide)) : g336 69 24 = gi7 69 24).trans c7_0)))) ((hC361.1 69 25 rfl).1.trans ((by rw [e360]; exact x_up2_off (Or.inr (by decide)) : g360 69 25 = g357 69 25).trans ((by rw [e357]; exact x_up2_off (Or.inl (by decide)) : g357 69 25 = g336 69 25).trans ((by rw [e336]; exact x_up2_off (Or.inr (by decide)) : g336 69 25 = gi7 69 25).trans c7_1)))) (by have ho := (t_onec (p := (gi7 69 22).toInt.toNat) ((by rw [e336]; exact x_up2_ne (by decide) : g336 77 = gi7 77)) e357 ((funext (fun j => (hC361.1 77 j rfl).1) : gi361 77 = g360 77).trans ((by rw [e360]; exact x_up2_ne (by decide) : g360 77 = g357 77))) (by have hc := t_clamp (i := (gi7 69 22)) (by omega); omega)); exact t_K_does j7_0 (by omega) (by decide) (show (gi361 69 22).toInt = (gi7 69 22).toInt + 1 from (by have ff365 : (gi361 69 22).toInt = z359.toInt := congrArg Int32.toInt ((hC361.1 69 22 rfl).1.trans (by rw [e360]; exact x_up2_at _ _ _ _ : g360 69 22 = z359)); omega)) (show (gi361 69 23).toInt = (gi7 69 23).toInt + 1 from (by have ff366 : (gi361 69 23).toInt = z335.toInt := congrArg Int32.toInt ((hC361.1 69 23 rfl).1.trans ((by rw [e360]; exact x_up2_off (Or.inr (by decide)) : g360 69 23 = g357 69 23).trans ((by rw [e357]; exact x_up2_off (Or.inl (by decide)) : g357 69 23 = g336 69 23).trans (by rw [e336]; exact x_up2_at _ _ _ _ : g336 69 23 = z335)))); omega)) (show (gi361 69 24).toInt = (gi7 69 24).toInt from (by have ff367 : (gi361 69 24).toInt = (gi 69 24).toInt := congrArg Int32.toInt ((hC361.1 69 24 rfl).1.trans ((by rw [e360]; exact x_up2_off (Or.inr (by decide)) : g360 69 24 = g357 69 24).trans ((by rw [e357]; exact x_up2_off (Or.inl (by decide)) : g357 69 24 = g336 69 24).trans ((by rw [e336]; exact x_up2_off (Or.inr (by decide)) : g336 69 24 = gi7 69 24).trans c7_0)))); omega)) (show (gi361 69 25).toInt = (gi7 69 25).toInt from (by have ff368 : (gi361 69 25).toInt = (gi 69 25).toInt := congrArg Int32.toInt ((hC361.1 69 25 rfl).1.trans ((by rw [e360]; exact x_up2_off (Or.inr (by decide)) : g360 69 25 = g357 69 25).trans ((by rw [e357]; exact x_up2_off (Or.inl (by decide)) : g357 69 25 = g336 69 25).trans ((by rw [e336]; exact x_up2_off (Or.inr (by decide)) : g336 69 25 = gi7 69 25).trans c7_1)))); omega)) ((funext (fun j => (hC361.1 70 j rfl).1) : gi361 70 = g360 70).trans ((by rw [e360]; exact x_up2_ne (by decide) : g360 70 = g357 70).trans ((by rw [e357]; exact x_up2_ne (by decide) : g357 70 = g336 70).trans ((by rw [e336]; exact x_up2_ne (by decide) : g336 70 = gi7 70))))) ho.1 ho.2) (by omega) (fun b n q c T h => (by
                                                            obtain ⟨q2, T2, hX, hl, hm⟩ := j7_2 b n q c T h
                                                            have hoo := hm.2.1.2.2
                                                            have hk := q12.1 b n _ hm.1.1
                                                            have hN : s_nst b n q2 := Or.inr ((q56.1 b n _ hm.1.1).mp (by omega))
                                                            have hB := s_Cnd_n (c := c) hm.qn hN (show T2.length ≠ 6 by omega)
                                                            have hS : s_isS b n q2 40 := (q337.1 b n _ (hm.1.1.fM (t_fM.rf.u9 (by decide) e336))).mp (by omega)
                                                            rw [s_brk40 hS] at hB
                                                            have h1 : t_MC b n q2 c (40 :: T2) g360 := hm.ps (v := (40 : Int32)) (by decide) (by omega) (((t_fM.rf.u9 (by decide) e336).ux (by decide) e357).u9 (by decide) e360) (congrArg Int32.toInt (by rw [e360, x_up2_off (Or.inr (by decide)), e357, x_up2_ne (by decide), e336, x_up2_off (Or.inr (by decide))])) (by rw [e360, x_up2_off (Or.inr (by decide)), e357, x_up2_ne (by decide), e336, x_up2_at]; exact Int.le_antisymm (by omega) (by omega)) (by rw [e360, x_up2_at]; exact Int.le_antisymm (by omega) (by omega)) ⟨fun j hj => (by rw [e360, x_up2_ne (by decide), e357, x_up2_off (Or.inr (show j ≠ (gi7 69 22).toNatClampNeg from hj)), e336, x_up2_ne (by decide)]), by rw [e360, x_up2_ne (by decide), e357]; exact x_up2_at _ _ _ _⟩
                                                            have h2 := h1.ah (q361.2 b n _ h1.1.1.S) ⟨(hC361.1 69 18 rfl).1, (hC361.1 69 17 rfl).1⟩ (congrArg Int32.toInt (hC361.1 69 24 rfl).1) (congrArg Int32.toInt (hC361.1 69 23 rfl).1) (congrArg Int32.toInt (hC361.1 69 22 rfl).1) (funext fun j => (hC361.1 77 j rfl).1)
                                                            exact ⟨_, _, hX.trans hB, by have := s_nst_gt hN; omega, h2⟩)) rfl
  refine ev_sub (lo := [(0, .ref 69)]) rfl (t_sc rfl t_sn) ?_
  exact L7 _ gi gl gr  hI hX  rfl rfl e_p0 (by omega) (fun b n q c T h => ⟨q, T, rfl, Nat.le_refl _, h⟩) rfl
noncomputable def Q_n_aOneB (gi : Nat → Nat → Int32) (gl : Nat → Nat → Int64) (gr : Nat → Nat → Value) (b : Nat → Int32) : Int32 → (Nat → Nat → Int32) → (Nat → Nat → Int64) → (Nat → Nat → Value) → Prop := fun (v : Int32) (gi2 : Nat → Nat → Int32) (gl2 : Nat → Nat → Int64) (gr2 : Nat → Nat → Value) => ((gi 69 14).toInt ≤ (gi2 69 14).toInt ∧ (v.toInt = 1 → (gi2 69 12).toInt ≠ 0 → (gi 69 14).toInt < (gi2 69 14).toInt) ∧ (v.toInt = 0 → (gi2 69 18).toInt ≠ 0) ∧ (v.toInt = 1 → t_K b gi2 2)) ∧ ((∀ (b : Nat → Int32) (n q c : Nat) (T : List Int), t_MC b n q c T gi → (v.toInt = 1 ∧ ∃ q2 c2 T2, s_Cnd b n false q c T = s_Cnd b n true q2 c2 T2 ∧ q < q2 ∧ s_pop T2 = T2 ∧ ¬ (s_isS b n q2 41 ∧ T2 ≠ []) ∧ t_MC b n q2 c2 T2 gi2) ∨ (v.toInt = 0 ∧ ∃ p x, x ≠ 0 ∧ s_Cnd b n false q c T = s_qb b n p x ∧ t_MF gi2 (s_fk b n p x) (s_F b n p))))
theorem c_n_aOneB {X : x_Ext} {d : Nat} {sh : List (Nat ⊕ (Nat × Nat))} {gi : Nat → Nat → Int32} {gl : Nat → Nat → Int64} {gr : Nat → Nat → Value} (hI : t_I sh gi gr) {b : Nat → Int32} (e_p0 : t_K b gi 0) : x_Me X (d + 6) n_X12_aOne [.ref 69] (sh, gi, gl, gr) (t_PI wl_m_aOne sh gi gl gr 0 1 (Q_n_aOneB gi gl gr b)) := by
  refine ((x_Me.up (c_m_aOne (X := X) (d := d) (gl := gl) (b := b) hI e_p0) (by omega)).and (x_Me.up (c_n_aOne (X := X) (d := d) (gl := gl) (b := b) hI e_p0) (by omega))).mono ?_
  rintro v G' ⟨⟨g1, l1, r1, rfl, k1, k2, x, rfl, k3, k4, k5⟩, g2, l2, r2, e, _, _, x2, e2, _, _, q⟩
  cases e; cases e2
  exact ⟨g1, l1, r1, rfl, k1, k2, x, rfl, k3, k4, k5, q⟩
/-! ===== printed by riv.py: the RULES of the other side ===== -/
noncomputable def wl_n_conditions : List (Nat × Nat) := [(69, 12), (69, 13), (69, 14), (69, 15), (69, 17), (69, 18), (69, 22), (69, 23), (69, 24), (69, 25), (70, 154011750), (77, 9999)]
noncomputable def Q_n_conditions (gi : Nat → Nat → Int32) (gl : Nat → Nat → Int64) (gr : Nat → Nat → Value) (b : Nat → Int32) : Int32 → (Nat → Nat → Int32) → (Nat → Nat → Int64) → (Nat → Nat → Value) → Prop := fun (v : Int32) (gi2 : Nat → Nat → Int32) (gl2 : Nat → Nat → Int64) (gr2 : Nat → Nat → Value) => (∀ (b : Nat → Int32) (n q c : Nat), t_TM b n q gi → t_MF gi 0 (-1) → n ≤ 300 → (gi 69 24).toInt = (c : Int) → (v.toInt = 1 ∧ ∃ q2 c2 : Nat, s_Cnd b n false q c [] = s_qk q2 c2 ∧ q < q2 ∧ t_TM b n q2 gi2 ∧ t_MF gi2 0 (-1) ∧ (gi2 69 24).toInt = (c2 : Int)) ∨ (v.toInt = 0 ∧ ∃ p x, x ≠ 0 ∧ s_Cnd b n false q c [] = s_qb b n p x ∧ t_MF gi2 (s_fk b n p x) (s_F b n p)))
set_option maxHeartbeats 40000000 in
theorem c_n_conditions {X : x_Ext} {d : Nat} {sh : List (Nat ⊕ (Nat × Nat))} {gi : Nat → Nat → Int32} {gl : Nat → Nat → Int64} {gr : Nat → Nat → Value} (hI : t_I sh gi gr) {b : Nat → Int32} (e_p0 : (gi 69 25).toInt ≤ 8 * (gi 69 24).toInt) (e_p1 : gi 70 = b) (e_p2 : t_lo4 b = (gi 69 25).toInt.toNat) : x_Me X (d + 7) n_X12_conditions [.ref 69] (sh, gi, gl, gr) (t_PI wl_n_conditions sh gi gl gr 0 1 (Q_n_conditions gi gl gr b)) := by
  have hX : t_X wl_n_conditions sh gi gl gr gi gl gr := t_X.rf
  refine me_i f_X12_conditions (hI.wf.s rfl) rfl rfl rfl ?_
  obtain ⟨l1, u1⟩ := hI.b (hI.wf.s (k := 69) rfl) (t_bdK rfl : t_bd 11 12 = some (0, 4))
  obtain ⟨l2, u2⟩ := hI.b (hI.wf.s (k := 69) rfl) (t_bdK rfl : t_bd 11 14 = some (0, 900))
  have hI3 := hI
  have hI4 := hI
  have hI5 := hI
  have hI6 := hI
  refine ev_loc f_X12_conditions (nx := 1) rfl rfl rfl rfl ?_
  refine ev_ic f_X12_conditions (nx := 2) (v := 0) rfl (by decide) rfl ?_
  refine ev_putIT f_X12_conditions (nx := 5) rfl (hI.wf.s rfl) rfl rfl rfl (hI.putB (hI.wf.s rfl) rfl rfl (by decide : (0:Int) ≤ (0:Int32).toInt) (by decide) (by decide : (0:Int32).toInt ≤ (0:Int)) (by decide)) (hX.upI rfl) (fun g7 e7 hI hX => ?_)
  refine ev_loc f_X12_conditions (nx := 6) rfl rfl rfl rfl ?_
  refine ev_ic f_X12_conditions (nx := 7) (v := 0) rfl (by decide) rfl ?_
  refine ev_putIT f_X12_conditions (nx := 10) rfl (hI.wf.s rfl) rfl rfl rfl (hI.putB (hI.wf.s rfl) rfl rfl (by decide : (0:Int) ≤ (0:Int32).toInt) (by decide) (by decide : (0:Int32).toInt ≤ (0:Int)) (by decide)) (hX.upI rfl) (fun g8 e8 hI hX => ?_)
  refine ev_loc f_X12_conditions (nx := 11) rfl rfl rfl rfl ?_
  refine ev_qI f_X12_conditions (nx := 14) (r := []) rfl rfl rfl rfl rfl rfl rfl (c_n_aOneB hI  (b := b) (t_K_0 (show (g8 69 22).toInt = 0 from (by have ff14 : (g8 69 22).toInt = 0 := (congrArg Int32.toInt ((by rw [e8]; exact x_up2_off (Or.inr (by decide)) : g8 69 22 = g7 69 22).trans (by rw [e7]; exact x_up2_at _ _ _ _ : g7 69 22 = 0))).trans (by decide); omega)) (show (g8 69 23).toInt = 0 from (by have ff15 : (g8 69 23).toInt = 0 := (congrArg Int32.toInt (by rw [e8]; exact x_up2_at _ _ _ _ : g8 69 23 = 0)).trans (by decide); omega)) (by have hb4 := hI.b (hI.wf.s (k := 69) rfl) (t_bdK rfl : t_bd 11 24 = some (0, 24)); have hb5 := hI.b (hI.wf.s (k := 69) rfl) (t_bdK rfl : t_bd 11 25 = some (0, 210)); have ff10 : (g8 69 24).toInt = (gi 69 24).toInt := congrArg Int32.toInt ((by rw [e8]; exact x_up2_off (Or.inr (by decide)) : g8 69 24 = g7 69 24).trans ((by rw [e7]; exact x_up2_off (Or.inr (by decide)) : g7 69 24 = gi 69 24).trans rfl)); omega) (by have hb4 := hI.b (hI.wf.s (k := 69) rfl) (t_bdK rfl : t_bd 11 24 = some (0, 24)); have hb5 := hI.b (hI.wf.s (k := 69) rfl) (t_bdK rfl : t_bd 11 25 = some (0, 210)); have ff11 : (g8 69 25).toInt = (gi 69 25).toInt := congrArg Int32.toInt ((by rw [e8]; exact x_up2_off (Or.inr (by decide)) : g8 69 25 = g7 69 25).trans ((by rw [e7]; exact x_up2_off (Or.inr (by decide)) : g7 69 25 = gi 69 25).trans rfl)); have ff12 : (g8 69 24).toInt = (gi 69 24).toInt := congrArg Int32.toInt ((by rw [e8]; exact x_up2_off (Or.inr (by decide)) : g8 69 24 = g7 69 24).trans ((by rw [e7]; exact x_up2_off (Or.inr (by decide)) : g7 69 24 = gi 69 24).trans rfl)); omega) (((by rw [e8]; exact x_up2_ne (by decide) : g8 70 = g7 70).trans ((by rw [e7]; exact x_up2_ne (by decide) : g7 70 = gi 70))).trans e_p1) (by have hb4 := hI.b (hI.wf.s (k := 69) rfl) (t_bdK rfl : t_bd 11 24 = some (0, 24)); have hb5 := hI.b (hI.wf.s (k := 69) rfl) (t_bdK rfl : t_bd 11 25 = some (0, 210)); have ff13 : (g8 69 25).toInt = (gi 69 25).toInt := congrArg Int32.toInt ((by rw [e8]; exact x_up2_off (Or.inr (by decide)) : g8 69 25 = g7 69 25).trans ((by rw [e7]; exact x_up2_off (Or.inr (by decide)) : g7 69 25 = gi 69 25).trans rfl)); omega))) rfl hX rfl (fun w9 gi9 gl9 gr9 l9 u9 hI hX hC9 q9 => ?_)
  have ff16 : (g8 69 14).toInt = (gi 69 14).toInt := congrArg Int32.toInt ((by rw [e8]; exact x_up2_off (Or.inr (by decide)) : g8 69 14 = g7 69 14).trans ((by rw [e7]; exact x_up2_off (Or.inr (by decide)) : g7 69 14 = gi 69 14).trans rfl))
  have q9 : ((g8 69 14).toInt ≤ (gi9 69 14).toInt ∧ (w9.toInt = 1 → (gi9 69 12).toInt ≠ 0 → (g8 69 14).toInt < (gi9 69 14).toInt) ∧ (w9.toInt = 0 → (gi9 69 18).toInt ≠ 0) ∧ (w9.toInt = 1 → t_K (b) gi9 2)) ∧ ((∀ (b : Nat → Int32) (n q c : Nat) (T : List Int), t_MC b n q c T g8 → (w9.toInt = 1 ∧ ∃ q2 c2 T2, s_Cnd b n false q c T = s_Cnd b n true q2 c2 T2 ∧ q < q2 ∧ s_pop T2 = T2 ∧ ¬ (s_isS b n q2 41 ∧ T2 ≠ []) ∧ t_MC b n q2 c2 T2 gi9) ∨ (w9.toInt = 0 ∧ ∃ p x, x ≠ 0 ∧ s_Cnd b n false q c T = s_qb b n p x ∧ t_MF gi9 (s_fk b n p x) (s_F b n p)))) := q9
  obtain ⟨l17, u17⟩ := hI.b (hI.wf.s (k := 69) rfl) (t_bdK rfl : t_bd 11 12 = some (0, 4))
  obtain ⟨l18, u18⟩ := hI.b (hI.wf.s (k := 69) rfl) (t_bdK rfl : t_bd 11 14 = some (0, 900))
  have hI19 := hI
  have hI20 := hI
  have hI21 := hI
  have hI22 := hI
  refine ev_if f_X12_conditions (t1 := 17) (t2 := 19) rfl rfl rfl (fun h23 => ?_) (fun h23 => ?_)
  · have u24 : w9.toInt ≤ 0 := t_equ h23 (by decide : (0:Int32).toInt ≤ (0:Int))
    refine ev_ic f_X12_conditions (nx := 18) (v := 0) rfl (by decide) rfl ?_
    exact ev_ret f_X12_conditions rfl rfl rfl ⟨_, _, _, rfl, hI, hX, ⟨_, rfl, (by decide : (0:Int) ≤ (0:Int32).toInt), (Int.le_trans (by decide : (0:Int32).toInt ≤ (0:Int)) (by decide : (0:Int) ≤ 1)), (show (∀ (b : Nat → Int32) (n q c : Nat), t_TM b n q gi → t_MF gi 0 (-1) → n ≤ 300 → (gi 69 24).toInt = (c : Int) → ((0 : Int) = 1 ∧ ∃ q2 c2 : Nat, s_Cnd b n false q c [] = s_qk q2 c2 ∧ q < q2 ∧ t_TM b n q2 gi9 ∧ t_MF gi9 0 (-1) ∧ (gi9 69 24).toInt = (c2 : Int)) ∨ ((0 : Int) = 0 ∧ ∃ p x, x ≠ 0 ∧ s_Cnd b n false q c [] = s_qb b n p x ∧ t_MF gi9 (s_fk b n p x) (s_F b n p))) from (fun b n q c ht hf hn hc => (by
                                                            have h0 := t_MC_0 (g1 := g8) ht hf hn hc ((t_fM.rf.u9 (by decide) e7).u9 (by decide) e8) (congrArg Int32.toInt (by rw [e8, x_up2_off (Or.inr (by decide)), e7, x_up2_off (Or.inr (by decide))])) (by rw [e8, x_up2_at]; rfl) (by rw [e8, x_up2_off (Or.inr (by decide)), e7, x_up2_at]; rfl)
                                                            obtain ⟨_, p, x, hx, hX, h2⟩ := (q9.2 b n _ _ _ h0).resolve_left (fun hh => absurd hh.1 (by omega))
                                                            exact Or.inr ⟨rfl, p, x, hx, hX, h2⟩)))⟩⟩
  · have r25 : w9.toInt ≠ 0 := fun e => h23 (Int32.toInt_inj.mp (e.trans (by decide : (0:Int) = (0 : Int32).toInt)))
    have l26 : 1 ≤ w9.toInt := t_nel h23 l9 rfl rfl
    refine ev_loc f_X12_conditions (nx := 20) rfl rfl rfl rfl ?_
    refine ev_heap f_X12_conditions (nx := 22) rfl rfl rfl rfl ?_
    refine ev_qI0 f_X12_conditions (nx := 25) (r := []) rfl rfl rfl rfl rfl rfl rfl (c_n_inWords hI ) rfl (fun w27 l27 u27 q27 => ?_)
    have q27 : (∀ (b : Nat → Int32) (n q : Nat), t_TM b n q gi9 → w27.toInt = s_mi (s_W b n q)) ∧ (0 ≤ w27.toInt → (gi9 69 12).toInt = 2) := q27
    refine ev_loc f_X12_conditions (nx := 26) (lo' := [(1, .int w27), (0, .ref 69)]) rfl rfl rfl rfl ?_
    have L28 : ∀ (m28 : Nat) (gi28 : Nat → Nat → Int32) (gl28 : Nat → Nat → Int64) (gr28 : Nat → Nat → Value) (y28_1 : Int32), t_I sh gi28 gr28 → t_X wl_n_conditions sh gi gl gr gi28 gl28 gr28 → (-1) ≤ y28_1.toInt → y28_1.toInt ≤ 137 → t_K b gi28 2 → (gi 69 14).toInt ≤ (gi28 69 14).toInt → ((gi28 69 12).toInt ≠ 0 → (gi 69 14).toInt < (gi28 69 14).toInt) → (0 ≤ y28_1.toInt → (gi28 69 12).toInt = 2) → (∀ (b : Nat → Int32) (n q c : Nat), t_TM b n q gi → t_MF gi 0 (-1) → n ≤ 300 → (gi 69 24).toInt = (c : Int) → ∃ q2 c2 T2, s_Cnd b n false q c [] = s_Cnd b n true q2 c2 T2 ∧ q < q2 ∧ s_pop T2 = T2 ∧ ¬ (s_isS b n q2 41 ∧ T2 ≠ []) ∧ y28_1.toInt = s_mi (s_W b n q2) ∧ t_MC b n q2 c2 T2 gi28) → (2 * (900 - (gi28 69 14).toInt) + min (gi28 69 12).toInt 1).toNat = m28 → x_Ev X (d + 7) n_X12_conditions 26 [(1, .int y28_1), (0, .ref 69)] [] (sh, gi28, gl28, gr28) (t_PI wl_n_conditions sh gi gl gr 0 1 (Q_n_conditions gi gl gr b)) := by
      intro m28
      induction m28 using Nat.strongRecOn with
      | _ m28 ih28 =>
      intro gi28 gl28 gr28 y28_1 hI hX l28_1 u28_1 j28_0 j28_1 j28_2 j28_3 j28_4 hm28
      obtain ⟨l29, u29⟩ := hI.b (hI.wf.s (k := 69) rfl) (t_bdK rfl : t_bd 11 12 = some (0, 4))
      obtain ⟨l30, u30⟩ := hI.b (hI.wf.s (k := 69) rfl) (t_bdK rfl : t_bd 11 14 = some (0, 900))
      have hI31 := hI
      have hI32 := hI
      have hI33 := hI
      have hI34 := hI
      refine ev_loc f_X12_conditions (nx := 27) rfl rfl rfl rfl ?_
      refine ev_bp f_X12_conditions (nx := 29) (v := 18) rfl (by decide) rfl ?_
      refine ev_if f_X12_conditions (t1 := 38) (t2 := 32) rfl rfl rfl (fun h35 => ?_) (fun h35 => ?_)
      · have u36 : y28_1.toInt ≤ 18 := t_equ h35 (by decide : (18:Int32).toInt ≤ (18:Int))
        have l37 : 18 ≤ y28_1.toInt := t_eql h35 (by decide : (18:Int) ≤ (18:Int32).toInt)
        have L38 : ∀ (m38 : Nat) (gi38 : Nat → Nat → Int32) (gl38 : Nat → Nat → Int64) (gr38 : Nat → Nat → Value), t_I sh gi38 gr38 → t_X wl_n_conditions sh gi gl gr gi38 gl38 gr38 → gi38 69 12 = (gi28 69 12) → gi38 69 14 = (gi28 69 14) → gi38 69 23 = (gi28 69 23) → gi38 69 24 = (gi28 69 24) → t_K b gi38 2 → (gi 69 14).toInt ≤ (gi38 69 14).toInt → ((gi38 69 12).toInt ≠ 0 → (gi 69 14).toInt < (gi38 69 14).toInt) → (∀ (b : Nat → Int32) (n q c : Nat), t_TM b n q gi → t_MF gi 0 (-1) → n ≤ 300 → (gi 69 24).toInt = (c : Int) → ∃ q2 c2 T2, s_Cnd b n false q c [] = s_Cnd b n true q2 c2 T2 ∧ q < q2 ∧ s_pop T2 = T2 ∧ s_jnd b n q2 ∧ t_MC b n q2 c2 T2 gi38) → (gi38 69 22).toInt.toNat = m38 → x_Ev X (d + 7) n_X12_conditions 38 [(1, .int y28_1), (0, .ref 69)] [] (sh, gi38, gl38, gr38) (t_PI wl_n_conditions sh gi gl gr 0 1 (Q_n_conditions gi gl gr b)) := by
          intro m38
          induction m38 using Nat.strongRecOn with
          | _ m38 ih38 =>
          intro gi38 gl38 gr38 hI hX c38_0 c38_1 c38_2 c38_3 j38_0 j38_1 j38_2 j38_3 hm38
          have cf38_0 : (gi38 69 12).toInt = (gi28 69 12).toInt := congrArg Int32.toInt c38_0
          have cf38_1 : (gi38 69 14).toInt = (gi28 69 14).toInt := congrArg Int32.toInt c38_1
          have cf38_2 : (gi38 69 23).toInt = (gi28 69 23).toInt := congrArg Int32.toInt c38_2
          have cf38_3 : (gi38 69 24).toInt = (gi28 69 24).toInt := congrArg Int32.toInt c38_3
          have hI39 := hI
          have hI40 := hI
          refine ev_loc f_X12_conditions (nx := 39) rfl rfl rfl rfl ?_
          refine ev_bp f_X12_conditions (nx := 41) (v := 19) rfl (by decide) rfl ?_
          refine ev_inV2 f_X12_conditions (nx := 44) (lo2 := [(0, .ref 69), (1, .int 19)]) rfl rfl rfl rfl f_X12_isDoing (hI.wf.s rfl) rfl rfl rfl rfl rfl ?_
          refine ev_loc f_X12_isDoing (nx := 1) rfl rfl rfl rfl ?_
          refine ev_gvI f_X12_isDoing (nx := 4) (w := (gi38 69 22)) rfl (hI.wf.s rfl) rfl rfl rfl rfl ?_
          refine ev_if f_X12_isDoing (t1 := 26) (t2 := 7) rfl rfl rfl (fun h41 => ?_) (fun h41 => ?_)
          · have u42 : (gi38 69 22).toInt ≤ 0 := t_leu h41 (by decide : (0:Int32).toInt ≤ (0:Int))
            refine ev_ic f_X12_isDoing (nx := 27) (v := 0) rfl (by decide) rfl ?_
            refine ev_retK1 f_X12_isDoing rfl rfl rfl ?_
            refine ev_t f_X12_conditions (t1 := 47) (t2 := 62) rfl rfl rfl (by decide) ?_
            refine ev_loc f_X12_conditions (nx := 48) rfl rfl rfl rfl ?_
            refine ev_bp f_X12_conditions (nx := 50) (v := 18) rfl (by decide) rfl ?_
            refine ev_t f_X12_conditions (t1 := 53) (t2 := 69) rfl rfl rfl (t_eqT u36 l37 (by decide : (18:Int32).toInt ≤ (18:Int)) (by decide : (18:Int) ≤ (18:Int32).toInt)) ?_
            refine ev_loc f_X12_conditions (nx := 54) rfl rfl rfl rfl ?_
            refine ev_bp f_X12_conditions (nx := 56) (v := 18) rfl (by decide) rfl ?_
            refine ev_inV2 f_X12_conditions (nx := 59) (lo2 := [(0, .ref 69), (1, .int 18)]) rfl rfl rfl rfl f_X12_isDoing (hI.wf.s rfl) rfl rfl rfl rfl rfl ?_
            refine ev_loc f_X12_isDoing (nx := 1) rfl rfl rfl rfl ?_
            refine ev_gvI f_X12_isDoing (nx := 4) (w := (gi38 69 22)) rfl (hI.wf.s rfl) rfl rfl rfl rfl ?_
            refine ev_t f_X12_isDoing (t1 := 26) (t2 := 7) rfl rfl rfl (t_leT u42 (by decide : (0:Int) ≤ (0:Int32).toInt) (by decide)) ?_
            refine ev_ic f_X12_isDoing (nx := 27) (v := 0) rfl (by decide) rfl ?_
            refine ev_retK1 f_X12_isDoing rfl rfl rfl ?_
            refine ev_t f_X12_conditions (t1 := 69) (t2 := 62) rfl rfl rfl (by decide) ?_
            refine ev_loc f_X12_conditions (nx := 70) rfl rfl rfl rfl ?_
            refine ev_loc f_X12_conditions (nx := 71) rfl rfl rfl rfl ?_
            refine ev_inV2 f_X12_conditions (nx := 74) (lo2 := [(0, .ref 69), (1, .int y28_1)]) rfl rfl rfl rfl f_X12_does (hI.wf.s rfl) rfl rfl rfl rfl rfl ?_
            have kn43 := t_K_num j38_0
            refine ev_loc f_X12_does (nx := 1) rfl rfl rfl rfl ?_
            refine ev_getR f_X12_does (nx := 4) rfl (hI.wf.s rfl) rfl rfl (hI.wf.r rfl) rfl rfl ?_
            refine ev_loc f_X12_does (nx := 5) rfl rfl rfl rfl ?_
            refine ev_gvI f_X12_does (nx := 8) (w := (gi38 69 22)) rfl (hI.wf.s rfl) rfl rfl rfl rfl ?_
            refine ev_loc f_X12_does (nx := 9) rfl rfl rfl rfl ?_
            refine ev_iastT f_X12_does (nx := 10) rfl (hI.wf.s rfl) (hI39.b (hI39.wf.s (k := 69) rfl) (t_bdK rfl : t_bd 11 22 = some (0, 60))).1 (by decide) u42 (by decide) rfl (hI.astG (hI.wf.s rfl) (fun lo hi e => absurd e (t_nob (by decide +kernel) _)) (fun k hk e => by have := hk.2.1; omega)) (hX.upI (t_inA_ok rfl)) (fun g44 e44 hI hX => ?_)
            refine ev_loc f_X12_does (nx := 11) rfl rfl rfl rfl ?_
            refine ev_alu f_X12_does (nx := 12) rfl rfl rfl rfl ?_
            refine ev_gvI f_X12_does (nx := 15) (w := (gi38 69 22)) rfl (hI.wf.s rfl) rfl rfl ((by rw [e44]; exact x_up2_off (Or.inl (by decide)) : g44 69 22 = gi38 69 22).trans rfl) rfl ?_
            refine ev_ic f_X12_does (nx := 16) (v := 1) rfl (by decide) rfl ?_
            refine ev_addC f_X12_does (nx := 17) (c := 1) (l := 1) (u := 1) rfl (by decide) (hI39.b (hI39.wf.s (k := 69) rfl) (t_bdK rfl : t_bd 11 22 = some (0, 60))).1 u42 rfl rfl (by decide) (by decide) rfl (fun z45 e45 l45 u45 => ?_)
            refine ev_putIT f_X12_does (nx := 20) rfl (hI.wf.s rfl) rfl rfl rfl (hI.putB (hI.wf.s rfl) rfl rfl l45 (by decide) u45 (by decide)) (hX.upI rfl) (fun g46 e46 hI hX => ?_)
            refine ev_retK0 f_X12_does rfl rfl rfl ?_
            refine ev_loc f_X12_conditions (nx := 75) rfl rfl rfl rfl ?_
            refine ev_qN f_X12_conditions (nx := 78) (r := []) rfl rfl rfl rfl rfl rfl rfl (c_n_aheadB hI ) rfl hX rfl (fun gi47 gl47 gr47 hI hX hC47 q47 => ?_)
            have ff48 : (g46 69 14).toInt = (gi28 69 14).toInt := congrArg Int32.toInt ((by rw [e46]; exact x_up2_off (Or.inr (by decide)) : g46 69 14 = g44 69 14).trans ((by rw [e44]; exact x_up2_off (Or.inl (by decide)) : g44 69 14 = gi38 69 14).trans c38_1))
            have q47 : ((g46 69 14).toInt ≤ (gi47 69 14).toInt ∧ ((gi47 69 12).toInt ≠ 0 → (g46 69 14).toInt < (gi47 69 14).toInt) ∧ ((gi47 69 12).toInt = 3 → 0 ≤ (gi47 69 15).toInt)) ∧ (∀ (b : Nat → Int32) (n q : Nat), t_Sm b n q g46 → t_TM b n q gi47) := q47
            obtain ⟨l49, u49⟩ := hI.b (hI.wf.s (k := 69) rfl) (t_bdK rfl : t_bd 11 12 = some (0, 4))
            obtain ⟨l50, u50⟩ := hI.b (hI.wf.s (k := 69) rfl) (t_bdK rfl : t_bd 11 14 = some (0, 900))
            refine ev_loc f_X12_conditions (nx := 79) rfl rfl rfl rfl ?_
            refine ev_qI f_X12_conditions (nx := 82) (r := []) rfl rfl rfl rfl rfl rfl rfl (c_n_aOneB hI  (b := b) (by have ho := (t_onec (p := (gi38 69 22).toInt.toNat) rfl e44 ((funext (fun j => (hC47.1 77 j rfl).1) : gi47 77 = g46 77).trans ((by rw [e46]; exact x_up2_ne (by decide) : g46 77 = g44 77))) (by have hc := t_clamp (i := (gi38 69 22)) (by omega); omega)); exact t_K_op j38_0 (by omega) (show (gi47 69 22).toInt = (gi38 69 22).toInt + 1 from (by have ff52 : (gi47 69 22).toInt = z45.toInt := congrArg Int32.toInt ((hC47.1 69 22 rfl).1.trans (by rw [e46]; exact x_up2_at _ _ _ _ : g46 69 22 = z45)); omega)) (show (gi47 69 23).toInt = (gi38 69 23).toInt from (by have ff53 : (gi47 69 23).toInt = (gi28 69 23).toInt := congrArg Int32.toInt ((hC47.1 69 23 rfl).1.trans ((by rw [e46]; exact x_up2_off (Or.inr (by decide)) : g46 69 23 = g44 69 23).trans ((by rw [e44]; exact x_up2_off (Or.inl (by decide)) : g44 69 23 = gi38 69 23).trans c38_2))); omega)) (show (gi47 69 24).toInt = (gi38 69 24).toInt from (by have ff54 : (gi47 69 24).toInt = (gi28 69 24).toInt := congrArg Int32.toInt ((hC47.1 69 24 rfl).1.trans ((by rw [e46]; exact x_up2_off (Or.inr (by decide)) : g46 69 24 = g44 69 24).trans ((by rw [e44]; exact x_up2_off (Or.inl (by decide)) : g44 69 24 = gi38 69 24).trans c38_3))); omega)) (show (gi47 69 25).toInt = (gi38 69 25).toInt from (by have ff55 : (gi47 69 25).toInt = (gi38 69 25).toInt := congrArg Int32.toInt ((hC47.1 69 25 rfl).1.trans ((by rw [e46]; exact x_up2_off (Or.inr (by decide)) : g46 69 25 = g44 69 25).trans ((by rw [e44]; exact x_up2_off (Or.inl (by decide)) : g44 69 25 = gi38 69 25).trans rfl))); omega)) ((funext (fun j => (hC47.1 70 j rfl).1) : gi47 70 = g46 70).trans ((by rw [e46]; exact x_up2_ne (by decide) : g46 70 = g44 70).trans ((by rw [e44]; exact x_up2_ne (by decide) : g44 70 = gi38 70)))) ho.1 ho.2)) rfl hX rfl (fun w51 gi51 gl51 gr51 l51 u51 hI hX hC51 q51 => ?_)
            have q51 : ((gi47 69 14).toInt ≤ (gi51 69 14).toInt ∧ (w51.toInt = 1 → (gi51 69 12).toInt ≠ 0 → (gi47 69 14).toInt < (gi51 69 14).toInt) ∧ (w51.toInt = 0 → (gi51 69 18).toInt ≠ 0) ∧ (w51.toInt = 1 → t_K (b) gi51 2)) ∧ ((∀ (b : Nat → Int32) (n q c : Nat) (T : List Int), t_MC b n q c T gi47 → (w51.toInt = 1 ∧ ∃ q2 c2 T2, s_Cnd b n false q c T = s_Cnd b n true q2 c2 T2 ∧ q < q2 ∧ s_pop T2 = T2 ∧ ¬ (s_isS b n q2 41 ∧ T2 ≠ []) ∧ t_MC b n q2 c2 T2 gi51) ∨ (w51.toInt = 0 ∧ ∃ p x, x ≠ 0 ∧ s_Cnd b n false q c T = s_qb b n p x ∧ t_MF gi51 (s_fk b n p x) (s_F b n p)))) := q51
            obtain ⟨l56, u56⟩ := hI.b (hI.wf.s (k := 69) rfl) (t_bdK rfl : t_bd 11 12 = some (0, 4))
            obtain ⟨l57, u57⟩ := hI.b (hI.wf.s (k := 69) rfl) (t_bdK rfl : t_bd 11 14 = some (0, 900))
            have hI58 := hI
            have hI59 := hI
            have hI60 := hI
            have hI61 := hI
            refine ev_if f_X12_conditions (t1 := 85) (t2 := 87) rfl rfl rfl (fun h62 => ?_) (fun h62 => ?_)
            · have u63 : w51.toInt ≤ 0 := t_equ h62 (by decide : (0:Int32).toInt ≤ (0:Int))
              refine ev_ic f_X12_conditions (nx := 86) (v := 0) rfl (by decide) rfl ?_
              exact ev_ret f_X12_conditions rfl rfl rfl ⟨_, _, _, rfl, hI, hX, ⟨_, rfl, (by decide : (0:Int) ≤ (0:Int32).toInt), (Int.le_trans (by decide : (0:Int32).toInt ≤ (0:Int)) (by decide : (0:Int) ≤ 1)), (show (∀ (b : Nat → Int32) (n q c : Nat), t_TM b n q gi → t_MF gi 0 (-1) → n ≤ 300 → (gi 69 24).toInt = (c : Int) → ((0 : Int) = 1 ∧ ∃ q2 c2 : Nat, s_Cnd b n false q c [] = s_qk q2 c2 ∧ q < q2 ∧ t_TM b n q2 gi51 ∧ t_MF gi51 0 (-1) ∧ (gi51 69 24).toInt = (c2 : Int)) ∨ ((0 : Int) = 0 ∧ ∃ p x, x ≠ 0 ∧ s_Cnd b n false q c [] = s_qb b n p x ∧ t_MF gi51 (s_fk b n p x) (s_F b n p))) from (fun b n q c ht hf hn hc => (by
                                                            obtain ⟨q2, c2, T2, hX, hl, hp, hj, hm⟩ := j38_3 b n q c ht hf hn hc
                                                            have h1 := hm.psj (g1 := g46) hp (v := y28_1) (Or.inl (Int.le_antisymm (by omega) (by omega))) (by omega) ((t_fM.rf.ux (by decide) e44).u9 (by decide) e46) (congrArg Int32.toInt (by rw [e46, x_up2_off (Or.inr (by decide)), e44, x_up2_ne (by decide)])) (congrArg Int32.toInt (by rw [e46, x_up2_off (Or.inr (by decide)), e44, x_up2_ne (by decide)])) (by rw [e46, x_up2_at]; exact Int.le_antisymm (by omega) (by omega)) ⟨fun j hj => (by rw [e46, x_up2_ne (by decide), e44, x_up2_off (Or.inr (show j ≠ (gi38 69 22).toNatClampNeg from hj))]), by rw [e46, x_up2_ne (by decide), e44]; exact x_up2_at _ _ _ _⟩
                                                            have h2 := h1.ah (q47.2 b n _ h1.1.1.S) ⟨(hC47.1 69 18 rfl).1, (hC47.1 69 17 rfl).1⟩ (congrArg Int32.toInt (hC47.1 69 24 rfl).1) (congrArg Int32.toInt (hC47.1 69 23 rfl).1) (congrArg Int32.toInt (hC47.1 69 22 rfl).1) (funext fun j => (hC47.1 77 j rfl).1)
                                                            obtain ⟨_, p, x, hx, hX3, h3⟩ := (q51.2 b n _ _ _ h2).resolve_left (fun hh => absurd hh.1 (by omega))
                                                            exact Or.inr ⟨rfl, p, x, hx, (hX.trans (s_Cnd_j hm.qn hj)).trans hX3, h3⟩)))⟩⟩
            · have r64 : w51.toInt ≠ 0 := fun e => h62 (Int32.toInt_inj.mp (e.trans (by decide : (0:Int) = (0 : Int32).toInt)))
              have l65 : 1 ≤ w51.toInt := t_nel h62 l51 rfl rfl
              refine ev_loc f_X12_conditions (nx := 88) rfl rfl rfl rfl ?_
              refine ev_heap f_X12_conditions (nx := 90) rfl rfl rfl rfl ?_
              refine ev_qI0 f_X12_conditions (nx := 93) (r := []) rfl rfl rfl rfl rfl rfl rfl (c_n_inWords hI ) rfl (fun w66 l66 u66 q66 => ?_)
              have q66 : (∀ (b : Nat → Int32) (n q : Nat), t_TM b n q gi51 → w66.toInt = s_mi (s_W b n q)) ∧ (0 ≤ w66.toInt → (gi51 69 12).toInt = 2) := q66
              refine ev_loc f_X12_conditions (nx := 94) (lo' := [(1, .int w66), (0, .ref 69)]) rfl rfl rfl rfl ?_
              refine ev_jmp f_X12_conditions (nx := 26) rfl rfl rfl ?_
              refine ev_sub (lo := [(1, .int w66), (0, .ref 69)]) rfl (t_sc rfl (t_sc rfl t_sn)) ?_
              exact ih28 _ (t_ms30 hm28 (j28_3 (by omega)) (by have := q51.1.1; omega) (fun h => by have := q51.1.2.1 (by omega) h; omega) (by omega) (by omega) rfl rfl) gi51 gl51 gr51 (w66) hI hX  l66 u66 (q51.1.2.2.2 (by omega)) (by omega) (by omega) (by omega) (fun b n q c ht hf hn hc => (by
                                                            obtain ⟨q2, c2, T2, hX, hl, hp, hj, hm⟩ := j38_3 b n q c ht hf hn hc
                                                            have h1 := hm.psj (g1 := g46) hp (v := y28_1) (Or.inl (Int.le_antisymm (by omega) (by omega))) (by omega) ((t_fM.rf.ux (by decide) e44).u9 (by decide) e46) (congrArg Int32.toInt (by rw [e46, x_up2_off (Or.inr (by decide)), e44, x_up2_ne (by decide)])) (congrArg Int32.toInt (by rw [e46, x_up2_off (Or.inr (by decide)), e44, x_up2_ne (by decide)])) (by rw [e46, x_up2_at]; exact Int.le_antisymm (by omega) (by omega)) ⟨fun j hj => (by rw [e46, x_up2_ne (by decide), e44, x_up2_off (Or.inr (show j ≠ (gi38 69 22).toNatClampNeg from hj))]), by rw [e46, x_up2_ne (by decide), e44]; exact x_up2_at _ _ _ _⟩
                                                            have h2 := h1.ah (q47.2 b n _ h1.1.1.S) ⟨(hC47.1 69 18 rfl).1, (hC47.1 69 17 rfl).1⟩ (congrArg Int32.toInt (hC47.1 69 24 rfl).1) (congrArg Int32.toInt (hC47.1 69 23 rfl).1) (congrArg Int32.toInt (hC47.1 69 22 rfl).1) (funext fun j => (hC47.1 77 j rfl).1)
                                                            obtain ⟨_, q3, c3, T3, hX3, hl3, hp3, hng3, hm3⟩ := (q51.2 b n _ _ _ h2).resolve_right (fun hh => absurd hh.1 (by omega))
                                                            have hg := s_jnd_gt hj
                                                            exact ⟨q3, c3, T3, (hX.trans (s_Cnd_j hm.qn hj)).trans hX3, by omega, hp3, hng3, q66.1 b n _ hm3.1.1, hm3⟩)) rfl
          · have l67 : 1 ≤ (gi38 69 22).toInt := t_ltl (t_nle h41) (by decide : (0:Int) ≤ (0:Int32).toInt) rfl
            refine ev_loc f_X12_isDoing (nx := 8) rfl rfl rfl rfl ?_
            refine ev_getR f_X12_isDoing (nx := 11) rfl (hI.wf.s rfl) rfl rfl (hI.wf.r rfl) rfl rfl ?_
            refine ev_loc f_X12_isDoing (nx := 12) rfl rfl rfl rfl ?_
            refine ev_gvI f_X12_isDoing (nx := 15) (w := (gi38 69 22)) rfl (hI.wf.s rfl) rfl rfl rfl rfl ?_
            refine ev_ic f_X12_isDoing (nx := 16) (v := 1) rfl (by decide) rfl ?_
            refine ev_subC f_X12_isDoing (nx := 17) (c := 1) (l := 0) (u := 59) rfl (by decide) l67 (hI39.b (hI39.wf.s (k := 69) rfl) (t_bdK rfl : t_bd 11 22 = some (0, 60))).2 rfl rfl (by decide) (by decide) rfl (fun z68 e68 l68 u68 => ?_)
            refine ev_ialdT f_X12_isDoing (nx := 18) rfl (hI.wf.s rfl) l68 (by decide) u68 (by decide) rfl (fun w69 e69 => ?_)
            refine ev_loc f_X12_isDoing (nx := 19) rfl rfl rfl rfl ?_
            refine ev_if f_X12_isDoing (t1 := 22) (t2 := 26) rfl rfl rfl (fun h70 => ?_) (fun h70 => ?_)
            · have u71 : w69.toInt ≤ 19 := t_equ h70 (by decide : (19:Int32).toInt ≤ (19:Int))
              have l72 : 19 ≤ w69.toInt := t_eql h70 (by decide : (19:Int) ≤ (19:Int32).toInt)
              refine ev_ic f_X12_isDoing (nx := 23) (v := 1) rfl (by decide) rfl ?_
              refine ev_jmp f_X12_isDoing (nx := 27) rfl rfl rfl ?_
              refine ev_retK1 f_X12_isDoing rfl rfl rfl ?_
              refine ev_f f_X12_conditions (t1 := 47) (t2 := 62) rfl rfl rfl (by decide) ?_
              refine ev_loc f_X12_conditions (nx := 63) rfl rfl rfl rfl ?_
              refine ev_inV1 f_X12_conditions (nx := 66) (lo2 := [(0, .ref 69)]) rfl rfl rfl rfl f_X12_joins (hI.wf.s rfl) rfl rfl rfl rfl rfl ?_
              have kn73 := t_K_num j38_0
              refine ev_loc f_X12_joins (nx := 1) rfl rfl rfl rfl ?_
              refine ev_alu f_X12_joins (nx := 2) rfl rfl rfl rfl ?_
              refine ev_gvI f_X12_joins (nx := 5) (w := (gi38 69 22)) rfl (hI.wf.s rfl) rfl rfl rfl rfl ?_
              refine ev_ic f_X12_joins (nx := 6) (v := 1) rfl (by decide) rfl ?_
              refine ev_subC f_X12_joins (nx := 7) (c := 1) (l := 0) (u := 59) rfl (by decide) l67 (hI39.b (hI39.wf.s (k := 69) rfl) (t_bdK rfl : t_bd 11 22 = some (0, 60))).2 rfl rfl (by decide) (by decide) rfl (fun z74 e74 l74 u74 => ?_)
              refine ev_putIT f_X12_joins (nx := 10) rfl (hI.wf.s rfl) rfl rfl rfl (hI.putB (hI.wf.s rfl) rfl rfl l74 (by decide) u74 (by decide)) (hX.upI rfl) (fun g75 e75 hI hX => ?_)
              refine ev_loc f_X12_joins (nx := 11) rfl rfl rfl rfl ?_
              refine ev_loc f_X12_joins (nx := 12) rfl rfl rfl rfl ?_
              refine ev_getR f_X12_joins (nx := 15) rfl (hI.wf.s rfl) rfl rfl (hI.wf.r rfl) rfl rfl ?_
              refine ev_loc f_X12_joins (nx := 16) rfl rfl rfl rfl ?_
              refine ev_gvI f_X12_joins (nx := 19) (w := z74) rfl (hI.wf.s rfl) rfl rfl (by rw [e75]; exact x_up2_at _ _ _ _ : g75 69 22 = z74) rfl ?_
              refine ev_ialdT f_X12_joins (nx := 20) rfl (hI.wf.s rfl) l74 (by decide) u74 (by decide) rfl (fun w76 e76 => ?_)
              refine ev_inV2 f_X12_joins (nx := 23) (lo2 := [(0, .ref 69), (1, .int w76)]) rfl rfl rfl rfl f_X12_asksAlso (hI.wf.s rfl) rfl rfl rfl rfl rfl ?_
              have kn77 := t_K_num j38_0
              refine ev_loc f_X12_asksAlso (nx := 1) rfl rfl rfl rfl ?_
              refine ev_getR f_X12_asksAlso (nx := 4) rfl (hI.wf.s rfl) rfl rfl (hI.wf.r rfl) rfl rfl ?_
              refine ev_sp f_X12_asksAlso (nx := 7) (v := 1540) rfl (by decide) rfl ?_
              refine ev_loc f_X12_asksAlso (nx := 8) rfl rfl rfl rfl ?_
              refine ev_gvI f_X12_asksAlso (nx := 11) (w := (gi38 69 25)) rfl (hI.wf.s rfl) rfl rfl ((by rw [e75]; exact x_up2_off (Or.inr (by decide)) : g75 69 25 = gi38 69 25).trans rfl) rfl ?_
              refine ev_addK f_X12_asksAlso (nx := 12) (c := 1540) (l := 1540) (u := 1750) rfl (by decide) (hI40.b (hI40.wf.s (k := 69) rfl) (t_bdK rfl : t_bd 11 25 = some (0, 210))).1 (hI40.b (hI40.wf.s (k := 69) rfl) (t_bdK rfl : t_bd 11 25 = some (0, 210))).2 rfl rfl (by decide) (by decide) rfl (fun z78 e78 l78 u78 => ?_)
              refine ev_loc f_X12_asksAlso (nx := 13) rfl rfl rfl rfl ?_
              refine ev_iastT f_X12_asksAlso (nx := 14) rfl (hI.wf.s rfl) l78 (by decide) u78 (by decide) rfl (hI.astL (hI.wf.s rfl) (by decide +kernel : t_abw 70 1540 1750 (-2147483648) 2147483647 = true) (t_cl1 l78 (by decide)) (t_cl2 l78 u78 (by decide) (by decide)) (t_lo w76) (t_hi w76) rfl) (hX.upI (t_inR (p := 1540) (m := 1750) rfl l78 (by decide) u78 (by decide) (by decide))) (fun g79 e79 hI hX => ?_)
              refine ev_loc f_X12_asksAlso (nx := 15) rfl rfl rfl rfl ?_
              refine ev_alu f_X12_asksAlso (nx := 16) rfl rfl rfl rfl ?_
              refine ev_gvI f_X12_asksAlso (nx := 19) (w := (gi38 69 25)) rfl (hI.wf.s rfl) rfl rfl ((by rw [e79]; exact x_up2_off (Or.inl (by decide)) : g79 69 25 = g75 69 25).trans ((by rw [e75]; exact x_up2_off (Or.inr (by decide)) : g75 69 25 = gi38 69 25).trans rfl)) rfl ?_
              refine ev_ic f_X12_asksAlso (nx := 20) (v := 1) rfl (by decide) rfl ?_
              refine ev_addC f_X12_asksAlso (nx := 21) (c := 1) (l := 1) (u := 211) rfl (by decide) (hI40.b (hI40.wf.s (k := 69) rfl) (t_bdK rfl : t_bd 11 25 = some (0, 210))).1 (hI40.b (hI40.wf.s (k := 69) rfl) (t_bdK rfl : t_bd 11 25 = some (0, 210))).2 rfl rfl (by decide) (by decide) rfl (fun z80 e80 l80 u80 => ?_)
              have u82 : z80.toInt ≤ (210:Int) := (by omega)
              refine ev_putIT f_X12_asksAlso (nx := 24) rfl (hI.wf.s rfl) rfl rfl rfl (hI.putB (hI.wf.s rfl) rfl rfl l80 (by decide) u82 (by decide)) (hX.upI rfl) (fun g81 e81 hI hX => ?_)
              refine ev_retK0 f_X12_asksAlso rfl rfl rfl ?_
              refine ev_retK0 f_X12_joins rfl rfl rfl ?_
              refine ev_jmp f_X12_conditions (nx := 38) rfl rfl rfl ?_
              refine ev_sub (lo := [(1, .int y28_1), (0, .ref 69)]) rfl (t_sc rfl (t_sc rfl t_sn)) ?_
              exact ih38 _ (by have ff90 : (g81 69 22).toInt = z74.toInt := congrArg Int32.toInt ((by rw [e81]; exact x_up2_off (Or.inr (by decide)) : g81 69 22 = g79 69 22).trans ((by rw [e79]; exact x_up2_off (Or.inl (by decide)) : g79 69 22 = g75 69 22).trans (by rw [e75]; exact x_up2_at _ _ _ _ : g75 69 22 = z74))); omega) g81 gl38 gr38  hI hX  ((by rw [e81]; exact x_up2_off (Or.inr (by decide)) : g81 69 12 = g79 69 12).trans ((by rw [e79]; exact x_up2_off (Or.inl (by decide)) : g79 69 12 = g75 69 12).trans ((by rw [e75]; exact x_up2_off (Or.inr (by decide)) : g75 69 12 = gi38 69 12).trans c38_0))) ((by rw [e81]; exact x_up2_off (Or.inr (by decide)) : g81 69 14 = g79 69 14).trans ((by rw [e79]; exact x_up2_off (Or.inl (by decide)) : g79 69 14 = g75 69 14).trans ((by rw [e75]; exact x_up2_off (Or.inr (by decide)) : g75 69 14 = gi38 69 14).trans c38_1))) ((by rw [e81]; exact x_up2_off (Or.inr (by decide)) : g81 69 23 = g79 69 23).trans ((by rw [e79]; exact x_up2_off (Or.inl (by decide)) : g79 69 23 = g75 69 23).trans ((by rw [e75]; exact x_up2_off (Or.inr (by decide)) : g75 69 23 = gi38 69 23).trans c38_2))) ((by rw [e81]; exact x_up2_off (Or.inr (by decide)) : g81 69 24 = g79 69 24).trans ((by rw [e79]; exact x_up2_off (Or.inl (by decide)) : g79 69 24 = g75 69 24).trans ((by rw [e75]; exact x_up2_off (Or.inr (by decide)) : g75 69 24 = gi38 69 24).trans c38_3))) (by have ht := (by rw [e76]; have hc := t_clamp (i := z74) (by omega); have hx : z74.toNatClampNeg = (gi38 69 22).toInt.toNat - 1 := (by omega); rw [hx]; exact congrFun (((by rw [e75]; exact x_up2_ne (by decide) : g75 77 = gi38 77))) _ : w76 = gi38 77 ((gi38 69 22).toInt.toNat - 1)); have ho := (t_one (p := 1540 + (gi38 69 25).toInt.toNat) ((by rw [e75]; exact x_up2_ne (by decide) : g75 70 = gi38 70)) e79 ((by rw [e81]; exact x_up2_ne (by decide) : g81 70 = g79 70)) (by have hc := t_clamp (i := z78) (by omega); omega)); exact t_K_bin j38_0 (by omega) (by rw [← (by rw [e69]; have hc := t_clamp (i := z68) (by omega); have hx : z68.toNatClampNeg = (gi38 69 22).toInt.toNat - 1 := (by omega); rw [hx] : w69 = gi38 77 ((gi38 69 22).toInt.toNat - 1))]; omega) (show (g81 69 22).toInt = (gi38 69 22).toInt - 1 from (by have ff83 : (g81 69 22).toInt = z74.toInt := congrArg Int32.toInt ((by rw [e81]; exact x_up2_off (Or.inr (by decide)) : g81 69 22 = g79 69 22).trans ((by rw [e79]; exact x_up2_off (Or.inl (by decide)) : g79 69 22 = g75 69 22).trans (by rw [e75]; exact x_up2_at _ _ _ _ : g75 69 22 = z74))); omega)) (show (g81 69 23).toInt = (gi38 69 23).toInt from (by have ff84 : (g81 69 23).toInt = (gi28 69 23).toInt := congrArg Int32.toInt ((by rw [e81]; exact x_up2_off (Or.inr (by decide)) : g81 69 23 = g79 69 23).trans ((by rw [e79]; exact x_up2_off (Or.inl (by decide)) : g79 69 23 = g75 69 23).trans ((by rw [e75]; exact x_up2_off (Or.inr (by decide)) : g75 69 23 = gi38 69 23).trans c38_2))); omega)) (show (g81 69 24).toInt = (gi38 69 24).toInt from (by have ff85 : (g81 69 24).toInt = (gi28 69 24).toInt := congrArg Int32.toInt ((by rw [e81]; exact x_up2_off (Or.inr (by decide)) : g81 69 24 = g79 69 24).trans ((by rw [e79]; exact x_up2_off (Or.inl (by decide)) : g79 69 24 = g75 69 24).trans ((by rw [e75]; exact x_up2_off (Or.inr (by decide)) : g75 69 24 = gi38 69 24).trans c38_3))); omega)) (show (g81 69 25).toInt = (gi38 69 25).toInt + 1 from (by have ff86 : (g81 69 25).toInt = z80.toInt := congrArg Int32.toInt (by rw [e81]; exact x_up2_at _ _ _ _ : g81 69 25 = z80); omega)) ((by rw [e81]; exact x_up2_ne (by decide) : g81 77 = g79 77).trans ((by rw [e79]; exact x_up2_ne (by decide) : g79 77 = g75 77).trans ((by rw [e75]; exact x_up2_ne (by decide) : g75 77 = gi38 77)))) ho.1 (ho.2.trans ht)) (by have ff87 : (g81 69 14).toInt = (gi28 69 14).toInt := congrArg Int32.toInt ((by rw [e81]; exact x_up2_off (Or.inr (by decide)) : g81 69 14 = g79 69 14).trans ((by rw [e79]; exact x_up2_off (Or.inl (by decide)) : g79 69 14 = g75 69 14).trans ((by rw [e75]; exact x_up2_off (Or.inr (by decide)) : g75 69 14 = gi38 69 14).trans c38_1))); omega) (by have ff88 : (g81 69 12).toInt = (gi28 69 12).toInt := congrArg Int32.toInt ((by rw [e81]; exact x_up2_off (Or.inr (by decide)) : g81 69 12 = g79 69 12).trans ((by rw [e79]; exact x_up2_off (Or.inl (by decide)) : g79 69 12 = g75 69 12).trans ((by rw [e75]; exact x_up2_off (Or.inr (by decide)) : g75 69 12 = gi38 69 12).trans c38_0))); have ff89 : (g81 69 14).toInt = (gi28 69 14).toInt := congrArg Int32.toInt ((by rw [e81]; exact x_up2_off (Or.inr (by decide)) : g81 69 14 = g79 69 14).trans ((by rw [e79]; exact x_up2_off (Or.inl (by decide)) : g79 69 14 = g75 69 14).trans ((by rw [e75]; exact x_up2_off (Or.inr (by decide)) : g75 69 14 = gi38 69 14).trans c38_1))); omega) (fun b n q c ht hf hn hc => (by
                                                            obtain ⟨q2, c2, T2, hX, hl, hp, hj, hm⟩ := j38_3 b n q c ht hf hn hc
                                                            exact ⟨q2, c2, T2, hX, hl, hp, hj, hm.pj (by omega) (Or.inr (by rw [← (by rw [e69]; have hc := t_clamp (i := z68) (by omega); have hx : z68.toNatClampNeg = (gi38 69 22).toInt.toNat - 1 := (Nat.le_antisymm (by omega) (by omega)); rw [hx] : w69 = gi38 77 ((gi38 69 22).toInt.toNat - 1))]; exact Int.le_antisymm (by omega) (by omega))) (((t_fM.rf.u9 (by decide) e75).ux (by decide) e79).u9 (by decide) e81) (congrArg Int32.toInt (by rw [e81, x_up2_off (Or.inr (by decide)), e79, x_up2_ne (by decide), e75, x_up2_off (Or.inr (by decide))])) (congrArg Int32.toInt (by rw [e81, x_up2_off (Or.inr (by decide)), e79, x_up2_ne (by decide), e75, x_up2_off (Or.inr (by decide))])) (by rw [e81, x_up2_off (Or.inr (by decide)), e79, x_up2_ne (by decide), e75, x_up2_at]; exact Int.le_antisymm (by omega) (by omega)) (funext fun j => (by rw [e81, x_up2_ne (by decide), e79, x_up2_ne (by decide), e75, x_up2_ne (by decide)]))⟩)) rfl
            · have r91 : w69.toInt ≠ 19 := fun e => h70 (Int32.toInt_inj.mp (e.trans (by decide : (19:Int) = (19 : Int32).toInt)))
              refine ev_ic f_X12_isDoing (nx := 27) (v := 0) rfl (by decide) rfl ?_
              refine ev_retK1 f_X12_isDoing rfl rfl rfl ?_
              refine ev_t f_X12_conditions (t1 := 47) (t2 := 62) rfl rfl rfl (by decide) ?_
              refine ev_loc f_X12_conditions (nx := 48) rfl rfl rfl rfl ?_
              refine ev_bp f_X12_conditions (nx := 50) (v := 18) rfl (by decide) rfl ?_
              refine ev_t f_X12_conditions (t1 := 53) (t2 := 69) rfl rfl rfl (t_eqT u36 l37 (by decide : (18:Int32).toInt ≤ (18:Int)) (by decide : (18:Int) ≤ (18:Int32).toInt)) ?_
              refine ev_loc f_X12_conditions (nx := 54) rfl rfl rfl rfl ?_
              refine ev_bp f_X12_conditions (nx := 56) (v := 18) rfl (by decide) rfl ?_
              refine ev_inV2 f_X12_conditions (nx := 59) (lo2 := [(0, .ref 69), (1, .int 18)]) rfl rfl rfl rfl f_X12_isDoing (hI.wf.s rfl) rfl rfl rfl rfl rfl ?_
              refine ev_loc f_X12_isDoing (nx := 1) rfl rfl rfl rfl ?_
              refine ev_gvI f_X12_isDoing (nx := 4) (w := (gi38 69 22)) rfl (hI.wf.s rfl) rfl rfl rfl rfl ?_
              refine ev_f f_X12_isDoing (t1 := 26) (t2 := 7) rfl rfl rfl (t_leF (by decide : (0:Int32).toInt ≤ (0:Int)) l67 (by decide)) ?_
              refine ev_loc f_X12_isDoing (nx := 8) rfl rfl rfl rfl ?_
              refine ev_getR f_X12_isDoing (nx := 11) rfl (hI.wf.s rfl) rfl rfl (hI.wf.r rfl) rfl rfl ?_
              refine ev_loc f_X12_isDoing (nx := 12) rfl rfl rfl rfl ?_
              refine ev_gvI f_X12_isDoing (nx := 15) (w := (gi38 69 22)) rfl (hI.wf.s rfl) rfl rfl rfl rfl ?_
              refine ev_ic f_X12_isDoing (nx := 16) (v := 1) rfl (by decide) rfl ?_
              refine ev_subC f_X12_isDoing (nx := 17) (c := 1) (l := 0) (u := 59) rfl (by decide) l67 (hI39.b (hI39.wf.s (k := 69) rfl) (t_bdK rfl : t_bd 11 22 = some (0, 60))).2 rfl rfl (by decide) (by decide) rfl (fun z92 e92 l92 u92 => ?_)
              refine ev_ialdT f_X12_isDoing (nx := 18) rfl (hI.wf.s rfl) l92 (by decide) u92 (by decide) rfl (fun w93 e93 => ?_)
              refine ev_loc f_X12_isDoing (nx := 19) rfl rfl rfl rfl ?_
              refine ev_if f_X12_isDoing (t1 := 22) (t2 := 26) rfl rfl rfl (fun h94 => ?_) (fun h94 => ?_)
              · have u95 : w93.toInt ≤ 18 := t_equ h94 (by decide : (18:Int32).toInt ≤ (18:Int))
                have l96 : 18 ≤ w93.toInt := t_eql h94 (by decide : (18:Int) ≤ (18:Int32).toInt)
                refine ev_ic f_X12_isDoing (nx := 23) (v := 1) rfl (by decide) rfl ?_
                refine ev_jmp f_X12_isDoing (nx := 27) rfl rfl rfl ?_
                refine ev_retK1 f_X12_isDoing rfl rfl rfl ?_
                refine ev_f f_X12_conditions (t1 := 69) (t2 := 62) rfl rfl rfl (by decide) ?_
                refine ev_loc f_X12_conditions (nx := 63) rfl rfl rfl rfl ?_
                refine ev_inV1 f_X12_conditions (nx := 66) (lo2 := [(0, .ref 69)]) rfl rfl rfl rfl f_X12_joins (hI.wf.s rfl) rfl rfl rfl rfl rfl ?_
                have kn97 := t_K_num j38_0
                refine ev_loc f_X12_joins (nx := 1) rfl rfl rfl rfl ?_
                refine ev_alu f_X12_joins (nx := 2) rfl rfl rfl rfl ?_
                refine ev_gvI f_X12_joins (nx := 5) (w := (gi38 69 22)) rfl (hI.wf.s rfl) rfl rfl rfl rfl ?_
                refine ev_ic f_X12_joins (nx := 6) (v := 1) rfl (by decide) rfl ?_
                refine ev_subC f_X12_joins (nx := 7) (c := 1) (l := 0) (u := 59) rfl (by decide) l67 (hI39.b (hI39.wf.s (k := 69) rfl) (t_bdK rfl : t_bd 11 22 = some (0, 60))).2 rfl rfl (by decide) (by decide) rfl (fun z98 e98 l98 u98 => ?_)
                refine ev_putIT f_X12_joins (nx := 10) rfl (hI.wf.s rfl) rfl rfl rfl (hI.putB (hI.wf.s rfl) rfl rfl l98 (by decide) u98 (by decide)) (hX.upI rfl) (fun g99 e99 hI hX => ?_)
                refine ev_loc f_X12_joins (nx := 11) rfl rfl rfl rfl ?_
                refine ev_loc f_X12_joins (nx := 12) rfl rfl rfl rfl ?_
                refine ev_getR f_X12_joins (nx := 15) rfl (hI.wf.s rfl) rfl rfl (hI.wf.r rfl) rfl rfl ?_
                refine ev_loc f_X12_joins (nx := 16) rfl rfl rfl rfl ?_
                refine ev_gvI f_X12_joins (nx := 19) (w := z98) rfl (hI.wf.s rfl) rfl rfl (by rw [e99]; exact x_up2_at _ _ _ _ : g99 69 22 = z98) rfl ?_
                refine ev_ialdT f_X12_joins (nx := 20) rfl (hI.wf.s rfl) l98 (by decide) u98 (by decide) rfl (fun w100 e100 => ?_)
                refine ev_inV2 f_X12_joins (nx := 23) (lo2 := [(0, .ref 69), (1, .int w100)]) rfl rfl rfl rfl f_X12_asksAlso (hI.wf.s rfl) rfl rfl rfl rfl rfl ?_
                have kn101 := t_K_num j38_0
                refine ev_loc f_X12_asksAlso (nx := 1) rfl rfl rfl rfl ?_
                refine ev_getR f_X12_asksAlso (nx := 4) rfl (hI.wf.s rfl) rfl rfl (hI.wf.r rfl) rfl rfl ?_
                refine ev_sp f_X12_asksAlso (nx := 7) (v := 1540) rfl (by decide) rfl ?_
                refine ev_loc f_X12_asksAlso (nx := 8) rfl rfl rfl rfl ?_
                refine ev_gvI f_X12_asksAlso (nx := 11) (w := (gi38 69 25)) rfl (hI.wf.s rfl) rfl rfl ((by rw [e99]; exact x_up2_off (Or.inr (by decide)) : g99 69 25 = gi38 69 25).trans rfl) rfl ?_
                refine ev_addK f_X12_asksAlso (nx := 12) (c := 1540) (l := 1540) (u := 1750) rfl (by decide) (hI40.b (hI40.wf.s (k := 69) rfl) (t_bdK rfl : t_bd 11 25 = some (0, 210))).1 (hI40.b (hI40.wf.s (k := 69) rfl) (t_bdK rfl : t_bd 11 25 = some (0, 210))).2 rfl rfl (by decide) (by decide) rfl (fun z102 e102 l102 u102 => ?_)
                refine ev_loc f_X12_asksAlso (nx := 13) rfl rfl rfl rfl ?_
                refine ev_iastT f_X12_asksAlso (nx := 14) rfl (hI.wf.s rfl) l102 (by decide) u102 (by decide) rfl (hI.astL (hI.wf.s rfl) (by decide +kernel : t_abw 70 1540 1750 (-2147483648) 2147483647 = true) (t_cl1 l102 (by decide)) (t_cl2 l102 u102 (by decide) (by decide)) (t_lo w100) (t_hi w100) rfl) (hX.upI (t_inR (p := 1540) (m := 1750) rfl l102 (by decide) u102 (by decide) (by decide))) (fun g103 e103 hI hX => ?_)
                refine ev_loc f_X12_asksAlso (nx := 15) rfl rfl rfl rfl ?_
                refine ev_alu f_X12_asksAlso (nx := 16) rfl rfl rfl rfl ?_
                refine ev_gvI f_X12_asksAlso (nx := 19) (w := (gi38 69 25)) rfl (hI.wf.s rfl) rfl rfl ((by rw [e103]; exact x_up2_off (Or.inl (by decide)) : g103 69 25 = g99 69 25).trans ((by rw [e99]; exact x_up2_off (Or.inr (by decide)) : g99 69 25 = gi38 69 25).trans rfl)) rfl ?_
                refine ev_ic f_X12_asksAlso (nx := 20) (v := 1) rfl (by decide) rfl ?_
                refine ev_addC f_X12_asksAlso (nx := 21) (c := 1) (l := 1) (u := 211) rfl (by decide) (hI40.b (hI40.wf.s (k := 69) rfl) (t_bdK rfl : t_bd 11 25 = some (0, 210))).1 (hI40.b (hI40.wf.s (k := 69) rfl) (t_bdK rfl : t_bd 11 25 = some (0, 210))).2 rfl rfl (by decide) (by decide) rfl (fun z104 e104 l104 u104 => ?_)
                have u106 : z104.toInt ≤ (210:Int) := (by omega)
                refine ev_putIT f_X12_asksAlso (nx := 24) rfl (hI.wf.s rfl) rfl rfl rfl (hI.putB (hI.wf.s rfl) rfl rfl l104 (by decide) u106 (by decide)) (hX.upI rfl) (fun g105 e105 hI hX => ?_)
                refine ev_retK0 f_X12_asksAlso rfl rfl rfl ?_
                refine ev_retK0 f_X12_joins rfl rfl rfl ?_
                refine ev_jmp f_X12_conditions (nx := 38) rfl rfl rfl ?_
                refine ev_sub (lo := [(1, .int y28_1), (0, .ref 69)]) rfl (t_sc rfl (t_sc rfl t_sn)) ?_
                exact ih38 _ (by have ff114 : (g105 69 22).toInt = z98.toInt := congrArg Int32.toInt ((by rw [e105]; exact x_up2_off (Or.inr (by decide)) : g105 69 22 = g103 69 22).trans ((by rw [e103]; exact x_up2_off (Or.inl (by decide)) : g103 69 22 = g99 69 22).trans (by rw [e99]; exact x_up2_at _ _ _ _ : g99 69 22 = z98))); omega) g105 gl38 gr38  hI hX  ((by rw [e105]; exact x_up2_off (Or.inr (by decide)) : g105 69 12 = g103 69 12).trans ((by rw [e103]; exact x_up2_off (Or.inl (by decide)) : g103 69 12 = g99 69 12).trans ((by rw [e99]; exact x_up2_off (Or.inr (by decide)) : g99 69 12 = gi38 69 12).trans c38_0))) ((by rw [e105]; exact x_up2_off (Or.inr (by decide)) : g105 69 14 = g103 69 14).trans ((by rw [e103]; exact x_up2_off (Or.inl (by decide)) : g103 69 14 = g99 69 14).trans ((by rw [e99]; exact x_up2_off (Or.inr (by decide)) : g99 69 14 = gi38 69 14).trans c38_1))) ((by rw [e105]; exact x_up2_off (Or.inr (by decide)) : g105 69 23 = g103 69 23).trans ((by rw [e103]; exact x_up2_off (Or.inl (by decide)) : g103 69 23 = g99 69 23).trans ((by rw [e99]; exact x_up2_off (Or.inr (by decide)) : g99 69 23 = gi38 69 23).trans c38_2))) ((by rw [e105]; exact x_up2_off (Or.inr (by decide)) : g105 69 24 = g103 69 24).trans ((by rw [e103]; exact x_up2_off (Or.inl (by decide)) : g103 69 24 = g99 69 24).trans ((by rw [e99]; exact x_up2_off (Or.inr (by decide)) : g99 69 24 = gi38 69 24).trans c38_3))) (by have ht := (by rw [e100]; have hc := t_clamp (i := z98) (by omega); have hx : z98.toNatClampNeg = (gi38 69 22).toInt.toNat - 1 := (by omega); rw [hx]; exact congrFun (((by rw [e99]; exact x_up2_ne (by decide) : g99 77 = gi38 77))) _ : w100 = gi38 77 ((gi38 69 22).toInt.toNat - 1)); have ho := (t_one (p := 1540 + (gi38 69 25).toInt.toNat) ((by rw [e99]; exact x_up2_ne (by decide) : g99 70 = gi38 70)) e103 ((by rw [e105]; exact x_up2_ne (by decide) : g105 70 = g103 70)) (by have hc := t_clamp (i := z102) (by omega); omega)); exact t_K_bin j38_0 (by omega) (by rw [← (by rw [e93]; have hc := t_clamp (i := z92) (by omega); have hx : z92.toNatClampNeg = (gi38 69 22).toInt.toNat - 1 := (by omega); rw [hx] : w93 = gi38 77 ((gi38 69 22).toInt.toNat - 1))]; omega) (show (g105 69 22).toInt = (gi38 69 22).toInt - 1 from (by have ff107 : (g105 69 22).toInt = z98.toInt := congrArg Int32.toInt ((by rw [e105]; exact x_up2_off (Or.inr (by decide)) : g105 69 22 = g103 69 22).trans ((by rw [e103]; exact x_up2_off (Or.inl (by decide)) : g103 69 22 = g99 69 22).trans (by rw [e99]; exact x_up2_at _ _ _ _ : g99 69 22 = z98))); omega)) (show (g105 69 23).toInt = (gi38 69 23).toInt from (by have ff108 : (g105 69 23).toInt = (gi28 69 23).toInt := congrArg Int32.toInt ((by rw [e105]; exact x_up2_off (Or.inr (by decide)) : g105 69 23 = g103 69 23).trans ((by rw [e103]; exact x_up2_off (Or.inl (by decide)) : g103 69 23 = g99 69 23).trans ((by rw [e99]; exact x_up2_off (Or.inr (by decide)) : g99 69 23 = gi38 69 23).trans c38_2))); omega)) (show (g105 69 24).toInt = (gi38 69 24).toInt from (by have ff109 : (g105 69 24).toInt = (gi28 69 24).toInt := congrArg Int32.toInt ((by rw [e105]; exact x_up2_off (Or.inr (by decide)) : g105 69 24 = g103 69 24).trans ((by rw [e103]; exact x_up2_off (Or.inl (by decide)) : g103 69 24 = g99 69 24).trans ((by rw [e99]; exact x_up2_off (Or.inr (by decide)) : g99 69 24 = gi38 69 24).trans c38_3))); omega)) (show (g105 69 25).toInt = (gi38 69 25).toInt + 1 from (by have ff110 : (g105 69 25).toInt = z104.toInt := congrArg Int32.toInt (by rw [e105]; exact x_up2_at _ _ _ _ : g105 69 25 = z104); omega)) ((by rw [e105]; exact x_up2_ne (by decide) : g105 77 = g103 77).trans ((by rw [e103]; exact x_up2_ne (by decide) : g103 77 = g99 77).trans ((by rw [e99]; exact x_up2_ne (by decide) : g99 77 = gi38 77)))) ho.1 (ho.2.trans ht)) (by have ff111 : (g105 69 14).toInt = (gi28 69 14).toInt := congrArg Int32.toInt ((by rw [e105]; exact x_up2_off (Or.inr (by decide)) : g105 69 14 = g103 69 14).trans ((by rw [e103]; exact x_up2_off (Or.inl (by decide)) : g103 69 14 = g99 69 14).trans ((by rw [e99]; exact x_up2_off (Or.inr (by decide)) : g99 69 14 = gi38 69 14).trans c38_1))); omega) (by have ff112 : (g105 69 12).toInt = (gi28 69 12).toInt := congrArg Int32.toInt ((by rw [e105]; exact x_up2_off (Or.inr (by decide)) : g105 69 12 = g103 69 12).trans ((by rw [e103]; exact x_up2_off (Or.inl (by decide)) : g103 69 12 = g99 69 12).trans ((by rw [e99]; exact x_up2_off (Or.inr (by decide)) : g99 69 12 = gi38 69 12).trans c38_0))); have ff113 : (g105 69 14).toInt = (gi28 69 14).toInt := congrArg Int32.toInt ((by rw [e105]; exact x_up2_off (Or.inr (by decide)) : g105 69 14 = g103 69 14).trans ((by rw [e103]; exact x_up2_off (Or.inl (by decide)) : g103 69 14 = g99 69 14).trans ((by rw [e99]; exact x_up2_off (Or.inr (by decide)) : g99 69 14 = gi38 69 14).trans c38_1))); omega) (fun b n q c ht hf hn hc => (by
                                                            obtain ⟨q2, c2, T2, hX, hl, hp, hj, hm⟩ := j38_3 b n q c ht hf hn hc
                                                            exact ⟨q2, c2, T2, hX, hl, hp, hj, hm.pj (by omega) (Or.inl (by rw [← (by rw [e93]; have hc := t_clamp (i := z92) (by omega); have hx : z92.toNatClampNeg = (gi38 69 22).toInt.toNat - 1 := (Nat.le_antisymm (by omega) (by omega)); rw [hx] : w93 = gi38 77 ((gi38 69 22).toInt.toNat - 1))]; exact Int.le_antisymm (by omega) (by omega))) (((t_fM.rf.u9 (by decide) e99).ux (by decide) e103).u9 (by decide) e105) (congrArg Int32.toInt (by rw [e105, x_up2_off (Or.inr (by decide)), e103, x_up2_ne (by decide), e99, x_up2_off (Or.inr (by decide))])) (congrArg Int32.toInt (by rw [e105, x_up2_off (Or.inr (by decide)), e103, x_up2_ne (by decide), e99, x_up2_off (Or.inr (by decide))])) (by rw [e105, x_up2_off (Or.inr (by decide)), e103, x_up2_ne (by decide), e99, x_up2_at]; exact Int.le_antisymm (by omega) (by omega)) (funext fun j => (by rw [e105, x_up2_ne (by decide), e103, x_up2_ne (by decide), e99, x_up2_ne (by decide)]))⟩)) rfl
              · have r115 : w93.toInt ≠ 18 := fun e => h94 (Int32.toInt_inj.mp (e.trans (by decide : (18:Int) = (18 : Int32).toInt)))
                refine ev_ic f_X12_isDoing (nx := 27) (v := 0) rfl (by decide) rfl ?_
                refine ev_retK1 f_X12_isDoing rfl rfl rfl ?_
                refine ev_t f_X12_conditions (t1 := 69) (t2 := 62) rfl rfl rfl (by decide) ?_
                refine ev_loc f_X12_conditions (nx := 70) rfl rfl rfl rfl ?_
                refine ev_loc f_X12_conditions (nx := 71) rfl rfl rfl rfl ?_
                refine ev_inV2 f_X12_conditions (nx := 74) (lo2 := [(0, .ref 69), (1, .int y28_1)]) rfl rfl rfl rfl f_X12_does (hI.wf.s rfl) rfl rfl rfl rfl rfl ?_
                have kn116 := t_K_num j38_0
                refine ev_loc f_X12_does (nx := 1) rfl rfl rfl rfl ?_
                refine ev_getR f_X12_does (nx := 4) rfl (hI.wf.s rfl) rfl rfl (hI.wf.r rfl) rfl rfl ?_
                refine ev_loc f_X12_does (nx := 5) rfl rfl rfl rfl ?_
                refine ev_gvI f_X12_does (nx := 8) (w := (gi38 69 22)) rfl (hI.wf.s rfl) rfl rfl rfl rfl ?_
                refine ev_loc f_X12_does (nx := 9) rfl rfl rfl rfl ?_
                have u118 : (gi38 69 22).toInt ≤ (59:Int) := (by omega)
                refine ev_iastT f_X12_does (nx := 10) rfl (hI.wf.s rfl) l67 (by decide) u118 (by decide) rfl (hI.astG (hI.wf.s rfl) (fun lo hi e => absurd e (t_nob (by decide +kernel) _)) (fun k hk e => by have := hk.2.1; omega)) (hX.upI (t_inA_ok rfl)) (fun g117 e117 hI hX => ?_)
                refine ev_loc f_X12_does (nx := 11) rfl rfl rfl rfl ?_
                refine ev_alu f_X12_does (nx := 12) rfl rfl rfl rfl ?_
                refine ev_gvI f_X12_does (nx := 15) (w := (gi38 69 22)) rfl (hI.wf.s rfl) rfl rfl ((by rw [e117]; exact x_up2_off (Or.inl (by decide)) : g117 69 22 = gi38 69 22).trans rfl) rfl ?_
                refine ev_ic f_X12_does (nx := 16) (v := 1) rfl (by decide) rfl ?_
                refine ev_addC f_X12_does (nx := 17) (c := 1) (l := 2) (u := 60) rfl (by decide) l67 u118 rfl rfl (by decide) (by decide) rfl (fun z119 e119 l119 u119 => ?_)
                refine ev_putIT f_X12_does (nx := 20) rfl (hI.wf.s rfl) rfl rfl rfl (hI.putB (hI.wf.s rfl) rfl rfl l119 (by decide) u119 (by decide)) (hX.upI rfl) (fun g120 e120 hI hX => ?_)
                refine ev_retK0 f_X12_does rfl rfl rfl ?_
                refine ev_loc f_X12_conditions (nx := 75) rfl rfl rfl rfl ?_
                refine ev_qN f_X12_conditions (nx := 78) (r := []) rfl rfl rfl rfl rfl rfl rfl (c_n_aheadB hI ) rfl hX rfl (fun gi121 gl121 gr121 hI hX hC121 q121 => ?_)
                have ff122 : (g120 69 14).toInt = (gi28 69 14).toInt := congrArg Int32.toInt ((by rw [e120]; exact x_up2_off (Or.inr (by decide)) : g120 69 14 = g117 69 14).trans ((by rw [e117]; exact x_up2_off (Or.inl (by decide)) : g117 69 14 = gi38 69 14).trans c38_1))
                have q121 : ((g120 69 14).toInt ≤ (gi121 69 14).toInt ∧ ((gi121 69 12).toInt ≠ 0 → (g120 69 14).toInt < (gi121 69 14).toInt) ∧ ((gi121 69 12).toInt = 3 → 0 ≤ (gi121 69 15).toInt)) ∧ (∀ (b : Nat → Int32) (n q : Nat), t_Sm b n q g120 → t_TM b n q gi121) := q121
                obtain ⟨l123, u123⟩ := hI.b (hI.wf.s (k := 69) rfl) (t_bdK rfl : t_bd 11 12 = some (0, 4))
                obtain ⟨l124, u124⟩ := hI.b (hI.wf.s (k := 69) rfl) (t_bdK rfl : t_bd 11 14 = some (0, 900))
                refine ev_loc f_X12_conditions (nx := 79) rfl rfl rfl rfl ?_
                refine ev_qI f_X12_conditions (nx := 82) (r := []) rfl rfl rfl rfl rfl rfl rfl (c_n_aOneB hI  (b := b) (by have ho := (t_onec (p := (gi38 69 22).toInt.toNat) rfl e117 ((funext (fun j => (hC121.1 77 j rfl).1) : gi121 77 = g120 77).trans ((by rw [e120]; exact x_up2_ne (by decide) : g120 77 = g117 77))) (by have hc := t_clamp (i := (gi38 69 22)) (by omega); omega)); exact t_K_op j38_0 (by omega) (show (gi121 69 22).toInt = (gi38 69 22).toInt + 1 from (by have ff126 : (gi121 69 22).toInt = z119.toInt := congrArg Int32.toInt ((hC121.1 69 22 rfl).1.trans (by rw [e120]; exact x_up2_at _ _ _ _ : g120 69 22 = z119)); omega)) (show (gi121 69 23).toInt = (gi38 69 23).toInt from (by have ff127 : (gi121 69 23).toInt = (gi28 69 23).toInt := congrArg Int32.toInt ((hC121.1 69 23 rfl).1.trans ((by rw [e120]; exact x_up2_off (Or.inr (by decide)) : g120 69 23 = g117 69 23).trans ((by rw [e117]; exact x_up2_off (Or.inl (by decide)) : g117 69 23 = gi38 69 23).trans c38_2))); omega)) (show (gi121 69 24).toInt = (gi38 69 24).toInt from (by have ff128 : (gi121 69 24).toInt = (gi28 69 24).toInt := congrArg Int32.toInt ((hC121.1 69 24 rfl).1.trans ((by rw [e120]; exact x_up2_off (Or.inr (by decide)) : g120 69 24 = g117 69 24).trans ((by rw [e117]; exact x_up2_off (Or.inl (by decide)) : g117 69 24 = gi38 69 24).trans c38_3))); omega)) (show (gi121 69 25).toInt = (gi38 69 25).toInt from (by have ff129 : (gi121 69 25).toInt = (gi38 69 25).toInt := congrArg Int32.toInt ((hC121.1 69 25 rfl).1.trans ((by rw [e120]; exact x_up2_off (Or.inr (by decide)) : g120 69 25 = g117 69 25).trans ((by rw [e117]; exact x_up2_off (Or.inl (by decide)) : g117 69 25 = gi38 69 25).trans rfl))); omega)) ((funext (fun j => (hC121.1 70 j rfl).1) : gi121 70 = g120 70).trans ((by rw [e120]; exact x_up2_ne (by decide) : g120 70 = g117 70).trans ((by rw [e117]; exact x_up2_ne (by decide) : g117 70 = gi38 70)))) ho.1 ho.2)) rfl hX rfl (fun w125 gi125 gl125 gr125 l125 u125 hI hX hC125 q125 => ?_)
                have q125 : ((gi121 69 14).toInt ≤ (gi125 69 14).toInt ∧ (w125.toInt = 1 → (gi125 69 12).toInt ≠ 0 → (gi121 69 14).toInt < (gi125 69 14).toInt) ∧ (w125.toInt = 0 → (gi125 69 18).toInt ≠ 0) ∧ (w125.toInt = 1 → t_K (b) gi125 2)) ∧ ((∀ (b : Nat → Int32) (n q c : Nat) (T : List Int), t_MC b n q c T gi121 → (w125.toInt = 1 ∧ ∃ q2 c2 T2, s_Cnd b n false q c T = s_Cnd b n true q2 c2 T2 ∧ q < q2 ∧ s_pop T2 = T2 ∧ ¬ (s_isS b n q2 41 ∧ T2 ≠ []) ∧ t_MC b n q2 c2 T2 gi125) ∨ (w125.toInt = 0 ∧ ∃ p x, x ≠ 0 ∧ s_Cnd b n false q c T = s_qb b n p x ∧ t_MF gi125 (s_fk b n p x) (s_F b n p)))) := q125
                obtain ⟨l130, u130⟩ := hI.b (hI.wf.s (k := 69) rfl) (t_bdK rfl : t_bd 11 12 = some (0, 4))
                obtain ⟨l131, u131⟩ := hI.b (hI.wf.s (k := 69) rfl) (t_bdK rfl : t_bd 11 14 = some (0, 900))
                have hI132 := hI
                have hI133 := hI
                have hI134 := hI
                have hI135 := hI
                refine ev_if f_X12_conditions (t1 := 85) (t2 := 87) rfl rfl rfl (fun h136 => ?_) (fun h136 => ?_)
                · have u137 : w125.toInt ≤ 0 := t_equ h136 (by decide : (0:Int32).toInt ≤ (0:Int))
                  refine ev_ic f_X12_conditions (nx := 86) (v := 0) rfl (by decide) rfl ?_
                  exact ev_ret f_X12_conditions rfl rfl rfl ⟨_, _, _, rfl, hI, hX, ⟨_, rfl, (by decide : (0:Int) ≤ (0:Int32).toInt), (Int.le_trans (by decide : (0:Int32).toInt ≤ (0:Int)) (by decide : (0:Int) ≤ 1)), (show (∀ (b : Nat → Int32) (n q c : Nat), t_TM b n q gi → t_MF gi 0 (-1) → n ≤ 300 → (gi 69 24).toInt = (c : Int) → ((0 : Int) = 1 ∧ ∃ q2 c2 : Nat, s_Cnd b n false q c [] = s_qk q2 c2 ∧ q < q2 ∧ t_TM b n q2 gi125 ∧ t_MF gi125 0 (-1) ∧ (gi125 69 24).toInt = (c2 : Int)) ∨ ((0 : Int) = 0 ∧ ∃ p x, x ≠ 0 ∧ s_Cnd b n false q c [] = s_qb b n p x ∧ t_MF gi125 (s_fk b n p x) (s_F b n p))) from (fun b n q c ht hf hn hc => (by
                                                            obtain ⟨q2, c2, T2, hX, hl, hp, hj, hm⟩ := j38_3 b n q c ht hf hn hc
                                                            have h1 := hm.psj (g1 := g120) hp (v := y28_1) (Or.inl (Int.le_antisymm (by omega) (by omega))) (by omega) ((t_fM.rf.ux (by decide) e117).u9 (by decide) e120) (congrArg Int32.toInt (by rw [e120, x_up2_off (Or.inr (by decide)), e117, x_up2_ne (by decide)])) (congrArg Int32.toInt (by rw [e120, x_up2_off (Or.inr (by decide)), e117, x_up2_ne (by decide)])) (by rw [e120, x_up2_at]; exact Int.le_antisymm (by omega) (by omega)) ⟨fun j hj => (by rw [e120, x_up2_ne (by decide), e117, x_up2_off (Or.inr (show j ≠ (gi38 69 22).toNatClampNeg from hj))]), by rw [e120, x_up2_ne (by decide), e117]; exact x_up2_at _ _ _ _⟩
                                                            have h2 := h1.ah (q121.2 b n _ h1.1.1.S) ⟨(hC121.1 69 18 rfl).1, (hC121.1 69 17 rfl).1⟩ (congrArg Int32.toInt (hC121.1 69 24 rfl).1) (congrArg Int32.toInt (hC121.1 69 23 rfl).1) (congrArg Int32.toInt (hC121.1 69 22 rfl).1) (funext fun j => (hC121.1 77 j rfl).1)
                                                            obtain ⟨_, p, x, hx, hX3, h3⟩ := (q125.2 b n _ _ _ h2).resolve_left (fun hh => absurd hh.1 (by omega))
                                                            exact Or.inr ⟨rfl, p, x, hx, (hX.trans (s_Cnd_j hm.qn hj)).trans hX3, h3⟩)))⟩⟩
                · have r138 : w125.toInt ≠ 0 := fun e => h136 (Int32.toInt_inj.mp (e.trans (by decide : (0:Int) = (0 : Int32).toInt)))
                  have l139 : 1 ≤ w125.toInt := t_nel h136 l125 rfl rfl
                  refine ev_loc f_X12_conditions (nx := 88) rfl rfl rfl rfl ?_
                  refine ev_heap f_X12_conditions (nx := 90) rfl rfl rfl rfl ?_
                  refine ev_qI0 f_X12_conditions (nx := 93) (r := []) rfl rfl rfl rfl rfl rfl rfl (c_n_inWords hI ) rfl (fun w140 l140 u140 q140 => ?_)
                  have q140 : (∀ (b : Nat → Int32) (n q : Nat), t_TM b n q gi125 → w140.toInt = s_mi (s_W b n q)) ∧ (0 ≤ w140.toInt → (gi125 69 12).toInt = 2) := q140
                  refine ev_loc f_X12_conditions (nx := 94) (lo' := [(1, .int w140), (0, .ref 69)]) rfl rfl rfl rfl ?_
                  refine ev_jmp f_X12_conditions (nx := 26) rfl rfl rfl ?_
                  refine ev_sub (lo := [(1, .int w140), (0, .ref 69)]) rfl (t_sc rfl (t_sc rfl t_sn)) ?_
                  exact ih28 _ (t_ms30 hm28 (j28_3 (by omega)) (by have := q125.1.1; omega) (fun h => by have := q125.1.2.1 (by omega) h; omega) (by omega) (by omega) rfl rfl) gi125 gl125 gr125 (w140) hI hX  l140 u140 (q125.1.2.2.2 (by omega)) (by omega) (by omega) (by omega) (fun b n q c ht hf hn hc => (by
                                                            obtain ⟨q2, c2, T2, hX, hl, hp, hj, hm⟩ := j38_3 b n q c ht hf hn hc
                                                            have h1 := hm.psj (g1 := g120) hp (v := y28_1) (Or.inl (Int.le_antisymm (by omega) (by omega))) (by omega) ((t_fM.rf.ux (by decide) e117).u9 (by decide) e120) (congrArg Int32.toInt (by rw [e120, x_up2_off (Or.inr (by decide)), e117, x_up2_ne (by decide)])) (congrArg Int32.toInt (by rw [e120, x_up2_off (Or.inr (by decide)), e117, x_up2_ne (by decide)])) (by rw [e120, x_up2_at]; exact Int.le_antisymm (by omega) (by omega)) ⟨fun j hj => (by rw [e120, x_up2_ne (by decide), e117, x_up2_off (Or.inr (show j ≠ (gi38 69 22).toNatClampNeg from hj))]), by rw [e120, x_up2_ne (by decide), e117]; exact x_up2_at _ _ _ _⟩
                                                            have h2 := h1.ah (q121.2 b n _ h1.1.1.S) ⟨(hC121.1 69 18 rfl).1, (hC121.1 69 17 rfl).1⟩ (congrArg Int32.toInt (hC121.1 69 24 rfl).1) (congrArg Int32.toInt (hC121.1 69 23 rfl).1) (congrArg Int32.toInt (hC121.1 69 22 rfl).1) (funext fun j => (hC121.1 77 j rfl).1)
                                                            obtain ⟨_, q3, c3, T3, hX3, hl3, hp3, hng3, hm3⟩ := (q125.2 b n _ _ _ h2).resolve_right (fun hh => absurd hh.1 (by omega))
                                                            have hg := s_jnd_gt hj
                                                            exact ⟨q3, c3, T3, (hX.trans (s_Cnd_j hm.qn hj)).trans hX3, by omega, hp3, hng3, q140.1 b n _ hm3.1.1, hm3⟩)) rfl
        refine ev_sub (lo := [(1, .int y28_1), (0, .ref 69)]) rfl (t_sc rfl (t_sc rfl t_sn)) ?_
        exact L38 _ gi28 gl28 gr28  hI hX  rfl rfl rfl rfl j28_0 (by omega) (by omega) (fun b n q c ht hf hn hc => (by
                                                            obtain ⟨q2, c2, T2, hX, hl, hp, hng, hw, hm⟩ := j28_4 b n q c ht hf hn hc
                                                            exact ⟨q2, c2, T2, hX, hl, hp, s_jnd_mi.mpr (by omega), hm⟩)) rfl
      · have r141 : y28_1.toInt ≠ 18 := fun e => h35 (Int32.toInt_inj.mp (e.trans (by decide : (18:Int) = (18 : Int32).toInt)))
        refine ev_loc f_X12_conditions (nx := 33) rfl rfl rfl rfl ?_
        refine ev_bp f_X12_conditions (nx := 35) (v := 19) rfl (by decide) rfl ?_
        refine ev_if f_X12_conditions (t1 := 38) (t2 := 97) rfl rfl rfl (fun h142 => ?_) (fun h142 => ?_)
        · have u143 : y28_1.toInt ≤ 19 := t_equ h142 (by decide : (19:Int32).toInt ≤ (19:Int))
          have l144 : 19 ≤ y28_1.toInt := t_eql h142 (by decide : (19:Int) ≤ (19:Int32).toInt)
          have L145 : ∀ (m145 : Nat) (gi145 : Nat → Nat → Int32) (gl145 : Nat → Nat → Int64) (gr145 : Nat → Nat → Value), t_I sh gi145 gr145 → t_X wl_n_conditions sh gi gl gr gi145 gl145 gr145 → gi145 69 12 = (gi28 69 12) → gi145 69 14 = (gi28 69 14) → gi145 69 23 = (gi28 69 23) → gi145 69 24 = (gi28 69 24) → t_K b gi145 2 → (gi 69 14).toInt ≤ (gi145 69 14).toInt → ((gi145 69 12).toInt ≠ 0 → (gi 69 14).toInt < (gi145 69 14).toInt) → (∀ (b : Nat → Int32) (n q c : Nat), t_TM b n q gi → t_MF gi 0 (-1) → n ≤ 300 → (gi 69 24).toInt = (c : Int) → ∃ q2 c2 T2, s_Cnd b n false q c [] = s_Cnd b n true q2 c2 T2 ∧ q < q2 ∧ s_pop T2 = T2 ∧ s_jnd b n q2 ∧ t_MC b n q2 c2 T2 gi145) → (gi145 69 22).toInt.toNat = m145 → x_Ev X (d + 7) n_X12_conditions 38 [(1, .int y28_1), (0, .ref 69)] [] (sh, gi145, gl145, gr145) (t_PI wl_n_conditions sh gi gl gr 0 1 (Q_n_conditions gi gl gr b)) := by
            intro m145
            induction m145 using Nat.strongRecOn with
            | _ m145 ih145 =>
            intro gi145 gl145 gr145 hI hX c145_0 c145_1 c145_2 c145_3 j145_0 j145_1 j145_2 j145_3 hm145
            have cf145_0 : (gi145 69 12).toInt = (gi28 69 12).toInt := congrArg Int32.toInt c145_0
            have cf145_1 : (gi145 69 14).toInt = (gi28 69 14).toInt := congrArg Int32.toInt c145_1
            have cf145_2 : (gi145 69 23).toInt = (gi28 69 23).toInt := congrArg Int32.toInt c145_2
            have cf145_3 : (gi145 69 24).toInt = (gi28 69 24).toInt := congrArg Int32.toInt c145_3
            have hI146 := hI
            have hI147 := hI
            refine ev_loc f_X12_conditions (nx := 39) rfl rfl rfl rfl ?_
            refine ev_bp f_X12_conditions (nx := 41) (v := 19) rfl (by decide) rfl ?_
            refine ev_inV2 f_X12_conditions (nx := 44) (lo2 := [(0, .ref 69), (1, .int 19)]) rfl rfl rfl rfl f_X12_isDoing (hI.wf.s rfl) rfl rfl rfl rfl rfl ?_
            refine ev_loc f_X12_isDoing (nx := 1) rfl rfl rfl rfl ?_
            refine ev_gvI f_X12_isDoing (nx := 4) (w := (gi145 69 22)) rfl (hI.wf.s rfl) rfl rfl rfl rfl ?_
            refine ev_if f_X12_isDoing (t1 := 26) (t2 := 7) rfl rfl rfl (fun h148 => ?_) (fun h148 => ?_)
            · have u149 : (gi145 69 22).toInt ≤ 0 := t_leu h148 (by decide : (0:Int32).toInt ≤ (0:Int))
              refine ev_ic f_X12_isDoing (nx := 27) (v := 0) rfl (by decide) rfl ?_
              refine ev_retK1 f_X12_isDoing rfl rfl rfl ?_
              refine ev_t f_X12_conditions (t1 := 47) (t2 := 62) rfl rfl rfl (by decide) ?_
              refine ev_loc f_X12_conditions (nx := 48) rfl rfl rfl rfl ?_
              refine ev_bp f_X12_conditions (nx := 50) (v := 18) rfl (by decide) rfl ?_
              refine ev_f f_X12_conditions (t1 := 53) (t2 := 69) rfl rfl rfl (t_neT' (by decide : (18:Int32).toInt ≤ (18:Int)) l144 (by decide)) ?_
              refine ev_loc f_X12_conditions (nx := 70) rfl rfl rfl rfl ?_
              refine ev_loc f_X12_conditions (nx := 71) rfl rfl rfl rfl ?_
              refine ev_inV2 f_X12_conditions (nx := 74) (lo2 := [(0, .ref 69), (1, .int y28_1)]) rfl rfl rfl rfl f_X12_does (hI.wf.s rfl) rfl rfl rfl rfl rfl ?_
              have kn150 := t_K_num j145_0
              refine ev_loc f_X12_does (nx := 1) rfl rfl rfl rfl ?_
              refine ev_getR f_X12_does (nx := 4) rfl (hI.wf.s rfl) rfl rfl (hI.wf.r rfl) rfl rfl ?_
              refine ev_loc f_X12_does (nx := 5) rfl rfl rfl rfl ?_
              refine ev_gvI f_X12_does (nx := 8) (w := (gi145 69 22)) rfl (hI.wf.s rfl) rfl rfl rfl rfl ?_
              refine ev_loc f_X12_does (nx := 9) rfl rfl rfl rfl ?_
              refine ev_iastT f_X12_does (nx := 10) rfl (hI.wf.s rfl) (hI146.b (hI146.wf.s (k := 69) rfl) (t_bdK rfl : t_bd 11 22 = some (0, 60))).1 (by decide) u149 (by decide) rfl (hI.astG (hI.wf.s rfl) (fun lo hi e => absurd e (t_nob (by decide +kernel) _)) (fun k hk e => by have := hk.2.1; omega)) (hX.upI (t_inA_ok rfl)) (fun g151 e151 hI hX => ?_)
              refine ev_loc f_X12_does (nx := 11) rfl rfl rfl rfl ?_
              refine ev_alu f_X12_does (nx := 12) rfl rfl rfl rfl ?_
              refine ev_gvI f_X12_does (nx := 15) (w := (gi145 69 22)) rfl (hI.wf.s rfl) rfl rfl ((by rw [e151]; exact x_up2_off (Or.inl (by decide)) : g151 69 22 = gi145 69 22).trans rfl) rfl ?_
              refine ev_ic f_X12_does (nx := 16) (v := 1) rfl (by decide) rfl ?_
              refine ev_addC f_X12_does (nx := 17) (c := 1) (l := 1) (u := 1) rfl (by decide) (hI146.b (hI146.wf.s (k := 69) rfl) (t_bdK rfl : t_bd 11 22 = some (0, 60))).1 u149 rfl rfl (by decide) (by decide) rfl (fun z152 e152 l152 u152 => ?_)
              refine ev_putIT f_X12_does (nx := 20) rfl (hI.wf.s rfl) rfl rfl rfl (hI.putB (hI.wf.s rfl) rfl rfl l152 (by decide) u152 (by decide)) (hX.upI rfl) (fun g153 e153 hI hX => ?_)
              refine ev_retK0 f_X12_does rfl rfl rfl ?_
              refine ev_loc f_X12_conditions (nx := 75) rfl rfl rfl rfl ?_
              refine ev_qN f_X12_conditions (nx := 78) (r := []) rfl rfl rfl rfl rfl rfl rfl (c_n_aheadB hI ) rfl hX rfl (fun gi154 gl154 gr154 hI hX hC154 q154 => ?_)
              have ff155 : (g153 69 14).toInt = (gi28 69 14).toInt := congrArg Int32.toInt ((by rw [e153]; exact x_up2_off (Or.inr (by decide)) : g153 69 14 = g151 69 14).trans ((by rw [e151]; exact x_up2_off (Or.inl (by decide)) : g151 69 14 = gi145 69 14).trans c145_1))
              have q154 : ((g153 69 14).toInt ≤ (gi154 69 14).toInt ∧ ((gi154 69 12).toInt ≠ 0 → (g153 69 14).toInt < (gi154 69 14).toInt) ∧ ((gi154 69 12).toInt = 3 → 0 ≤ (gi154 69 15).toInt)) ∧ (∀ (b : Nat → Int32) (n q : Nat), t_Sm b n q g153 → t_TM b n q gi154) := q154
              obtain ⟨l156, u156⟩ := hI.b (hI.wf.s (k := 69) rfl) (t_bdK rfl : t_bd 11 12 = some (0, 4))
              obtain ⟨l157, u157⟩ := hI.b (hI.wf.s (k := 69) rfl) (t_bdK rfl : t_bd 11 14 = some (0, 900))
              refine ev_loc f_X12_conditions (nx := 79) rfl rfl rfl rfl ?_
              refine ev_qI f_X12_conditions (nx := 82) (r := []) rfl rfl rfl rfl rfl rfl rfl (c_n_aOneB hI  (b := b) (by have ho := (t_onec (p := (gi145 69 22).toInt.toNat) rfl e151 ((funext (fun j => (hC154.1 77 j rfl).1) : gi154 77 = g153 77).trans ((by rw [e153]; exact x_up2_ne (by decide) : g153 77 = g151 77))) (by have hc := t_clamp (i := (gi145 69 22)) (by omega); omega)); exact t_K_op j145_0 (by omega) (show (gi154 69 22).toInt = (gi145 69 22).toInt + 1 from (by have ff159 : (gi154 69 22).toInt = z152.toInt := congrArg Int32.toInt ((hC154.1 69 22 rfl).1.trans (by rw [e153]; exact x_up2_at _ _ _ _ : g153 69 22 = z152)); omega)) (show (gi154 69 23).toInt = (gi145 69 23).toInt from (by have ff160 : (gi154 69 23).toInt = (gi28 69 23).toInt := congrArg Int32.toInt ((hC154.1 69 23 rfl).1.trans ((by rw [e153]; exact x_up2_off (Or.inr (by decide)) : g153 69 23 = g151 69 23).trans ((by rw [e151]; exact x_up2_off (Or.inl (by decide)) : g151 69 23 = gi145 69 23).trans c145_2))); omega)) (show (gi154 69 24).toInt = (gi145 69 24).toInt from (by have ff161 : (gi154 69 24).toInt = (gi28 69 24).toInt := congrArg Int32.toInt ((hC154.1 69 24 rfl).1.trans ((by rw [e153]; exact x_up2_off (Or.inr (by decide)) : g153 69 24 = g151 69 24).trans ((by rw [e151]; exact x_up2_off (Or.inl (by decide)) : g151 69 24 = gi145 69 24).trans c145_3))); omega)) (show (gi154 69 25).toInt = (gi145 69 25).toInt from (by have ff162 : (gi154 69 25).toInt = (gi145 69 25).toInt := congrArg Int32.toInt ((hC154.1 69 25 rfl).1.trans ((by rw [e153]; exact x_up2_off (Or.inr (by decide)) : g153 69 25 = g151 69 25).trans ((by rw [e151]; exact x_up2_off (Or.inl (by decide)) : g151 69 25 = gi145 69 25).trans rfl))); omega)) ((funext (fun j => (hC154.1 70 j rfl).1) : gi154 70 = g153 70).trans ((by rw [e153]; exact x_up2_ne (by decide) : g153 70 = g151 70).trans ((by rw [e151]; exact x_up2_ne (by decide) : g151 70 = gi145 70)))) ho.1 ho.2)) rfl hX rfl (fun w158 gi158 gl158 gr158 l158 u158 hI hX hC158 q158 => ?_)
              have q158 : ((gi154 69 14).toInt ≤ (gi158 69 14).toInt ∧ (w158.toInt = 1 → (gi158 69 12).toInt ≠ 0 → (gi154 69 14).toInt < (gi158 69 14).toInt) ∧ (w158.toInt = 0 → (gi158 69 18).toInt ≠ 0) ∧ (w158.toInt = 1 → t_K (b) gi158 2)) ∧ ((∀ (b : Nat → Int32) (n q c : Nat) (T : List Int), t_MC b n q c T gi154 → (w158.toInt = 1 ∧ ∃ q2 c2 T2, s_Cnd b n false q c T = s_Cnd b n true q2 c2 T2 ∧ q < q2 ∧ s_pop T2 = T2 ∧ ¬ (s_isS b n q2 41 ∧ T2 ≠ []) ∧ t_MC b n q2 c2 T2 gi158) ∨ (w158.toInt = 0 ∧ ∃ p x, x ≠ 0 ∧ s_Cnd b n false q c T = s_qb b n p x ∧ t_MF gi158 (s_fk b n p x) (s_F b n p)))) := q158
              obtain ⟨l163, u163⟩ := hI.b (hI.wf.s (k := 69) rfl) (t_bdK rfl : t_bd 11 12 = some (0, 4))
              obtain ⟨l164, u164⟩ := hI.b (hI.wf.s (k := 69) rfl) (t_bdK rfl : t_bd 11 14 = some (0, 900))
              have hI165 := hI
              have hI166 := hI
              have hI167 := hI
              have hI168 := hI
              refine ev_if f_X12_conditions (t1 := 85) (t2 := 87) rfl rfl rfl (fun h169 => ?_) (fun h169 => ?_)
              · have u170 : w158.toInt ≤ 0 := t_equ h169 (by decide : (0:Int32).toInt ≤ (0:Int))
                refine ev_ic f_X12_conditions (nx := 86) (v := 0) rfl (by decide) rfl ?_
                exact ev_ret f_X12_conditions rfl rfl rfl ⟨_, _, _, rfl, hI, hX, ⟨_, rfl, (by decide : (0:Int) ≤ (0:Int32).toInt), (Int.le_trans (by decide : (0:Int32).toInt ≤ (0:Int)) (by decide : (0:Int) ≤ 1)), (show (∀ (b : Nat → Int32) (n q c : Nat), t_TM b n q gi → t_MF gi 0 (-1) → n ≤ 300 → (gi 69 24).toInt = (c : Int) → ((0 : Int) = 1 ∧ ∃ q2 c2 : Nat, s_Cnd b n false q c [] = s_qk q2 c2 ∧ q < q2 ∧ t_TM b n q2 gi158 ∧ t_MF gi158 0 (-1) ∧ (gi158 69 24).toInt = (c2 : Int)) ∨ ((0 : Int) = 0 ∧ ∃ p x, x ≠ 0 ∧ s_Cnd b n false q c [] = s_qb b n p x ∧ t_MF gi158 (s_fk b n p x) (s_F b n p))) from (fun b n q c ht hf hn hc => (by
                                                            obtain ⟨q2, c2, T2, hX, hl, hp, hj, hm⟩ := j145_3 b n q c ht hf hn hc
                                                            have h1 := hm.psj (g1 := g153) hp (v := y28_1) (Or.inr (Int.le_antisymm (by omega) (by omega))) (by omega) ((t_fM.rf.ux (by decide) e151).u9 (by decide) e153) (congrArg Int32.toInt (by rw [e153, x_up2_off (Or.inr (by decide)), e151, x_up2_ne (by decide)])) (congrArg Int32.toInt (by rw [e153, x_up2_off (Or.inr (by decide)), e151, x_up2_ne (by decide)])) (by rw [e153, x_up2_at]; exact Int.le_antisymm (by omega) (by omega)) ⟨fun j hj => (by rw [e153, x_up2_ne (by decide), e151, x_up2_off (Or.inr (show j ≠ (gi145 69 22).toNatClampNeg from hj))]), by rw [e153, x_up2_ne (by decide), e151]; exact x_up2_at _ _ _ _⟩
                                                            have h2 := h1.ah (q154.2 b n _ h1.1.1.S) ⟨(hC154.1 69 18 rfl).1, (hC154.1 69 17 rfl).1⟩ (congrArg Int32.toInt (hC154.1 69 24 rfl).1) (congrArg Int32.toInt (hC154.1 69 23 rfl).1) (congrArg Int32.toInt (hC154.1 69 22 rfl).1) (funext fun j => (hC154.1 77 j rfl).1)
                                                            obtain ⟨_, p, x, hx, hX3, h3⟩ := (q158.2 b n _ _ _ h2).resolve_left (fun hh => absurd hh.1 (by omega))
                                                            exact Or.inr ⟨rfl, p, x, hx, (hX.trans (s_Cnd_j hm.qn hj)).trans hX3, h3⟩)))⟩⟩
              · have r171 : w158.toInt ≠ 0 := fun e => h169 (Int32.toInt_inj.mp (e.trans (by decide : (0:Int) = (0 : Int32).toInt)))
                have l172 : 1 ≤ w158.toInt := t_nel h169 l158 rfl rfl
                refine ev_loc f_X12_conditions (nx := 88) rfl rfl rfl rfl ?_
                refine ev_heap f_X12_conditions (nx := 90) rfl rfl rfl rfl ?_
                refine ev_qI0 f_X12_conditions (nx := 93) (r := []) rfl rfl rfl rfl rfl rfl rfl (c_n_inWords hI ) rfl (fun w173 l173 u173 q173 => ?_)
                have q173 : (∀ (b : Nat → Int32) (n q : Nat), t_TM b n q gi158 → w173.toInt = s_mi (s_W b n q)) ∧ (0 ≤ w173.toInt → (gi158 69 12).toInt = 2) := q173
                refine ev_loc f_X12_conditions (nx := 94) (lo' := [(1, .int w173), (0, .ref 69)]) rfl rfl rfl rfl ?_
                refine ev_jmp f_X12_conditions (nx := 26) rfl rfl rfl ?_
                refine ev_sub (lo := [(1, .int w173), (0, .ref 69)]) rfl (t_sc rfl (t_sc rfl t_sn)) ?_
                exact ih28 _ (t_ms30 hm28 (j28_3 (by omega)) (by have := q158.1.1; omega) (fun h => by have := q158.1.2.1 (by omega) h; omega) (by omega) (by omega) rfl rfl) gi158 gl158 gr158 (w173) hI hX  l173 u173 (q158.1.2.2.2 (by omega)) (by omega) (by omega) (by omega) (fun b n q c ht hf hn hc => (by
                                                            obtain ⟨q2, c2, T2, hX, hl, hp, hj, hm⟩ := j145_3 b n q c ht hf hn hc
                                                            have h1 := hm.psj (g1 := g153) hp (v := y28_1) (Or.inr (Int.le_antisymm (by omega) (by omega))) (by omega) ((t_fM.rf.ux (by decide) e151).u9 (by decide) e153) (congrArg Int32.toInt (by rw [e153, x_up2_off (Or.inr (by decide)), e151, x_up2_ne (by decide)])) (congrArg Int32.toInt (by rw [e153, x_up2_off (Or.inr (by decide)), e151, x_up2_ne (by decide)])) (by rw [e153, x_up2_at]; exact Int.le_antisymm (by omega) (by omega)) ⟨fun j hj => (by rw [e153, x_up2_ne (by decide), e151, x_up2_off (Or.inr (show j ≠ (gi145 69 22).toNatClampNeg from hj))]), by rw [e153, x_up2_ne (by decide), e151]; exact x_up2_at _ _ _ _⟩
                                                            have h2 := h1.ah (q154.2 b n _ h1.1.1.S) ⟨(hC154.1 69 18 rfl).1, (hC154.1 69 17 rfl).1⟩ (congrArg Int32.toInt (hC154.1 69 24 rfl).1) (congrArg Int32.toInt (hC154.1 69 23 rfl).1) (congrArg Int32.toInt (hC154.1 69 22 rfl).1) (funext fun j => (hC154.1 77 j rfl).1)
                                                            obtain ⟨_, q3, c3, T3, hX3, hl3, hp3, hng3, hm3⟩ := (q158.2 b n _ _ _ h2).resolve_right (fun hh => absurd hh.1 (by omega))
                                                            have hg := s_jnd_gt hj
                                                            exact ⟨q3, c3, T3, (hX.trans (s_Cnd_j hm.qn hj)).trans hX3, by omega, hp3, hng3, q173.1 b n _ hm3.1.1, hm3⟩)) rfl
            · have l174 : 1 ≤ (gi145 69 22).toInt := t_ltl (t_nle h148) (by decide : (0:Int) ≤ (0:Int32).toInt) rfl
              refine ev_loc f_X12_isDoing (nx := 8) rfl rfl rfl rfl ?_
              refine ev_getR f_X12_isDoing (nx := 11) rfl (hI.wf.s rfl) rfl rfl (hI.wf.r rfl) rfl rfl ?_
              refine ev_loc f_X12_isDoing (nx := 12) rfl rfl rfl rfl ?_
              refine ev_gvI f_X12_isDoing (nx := 15) (w := (gi145 69 22)) rfl (hI.wf.s rfl) rfl rfl rfl rfl ?_
              refine ev_ic f_X12_isDoing (nx := 16) (v := 1) rfl (by decide) rfl ?_
              refine ev_subC f_X12_isDoing (nx := 17) (c := 1) (l := 0) (u := 59) rfl (by decide) l174 (hI146.b (hI146.wf.s (k := 69) rfl) (t_bdK rfl : t_bd 11 22 = some (0, 60))).2 rfl rfl (by decide) (by decide) rfl (fun z175 e175 l175 u175 => ?_)
              refine ev_ialdT f_X12_isDoing (nx := 18) rfl (hI.wf.s rfl) l175 (by decide) u175 (by decide) rfl (fun w176 e176 => ?_)
              refine ev_loc f_X12_isDoing (nx := 19) rfl rfl rfl rfl ?_
              refine ev_if f_X12_isDoing (t1 := 22) (t2 := 26) rfl rfl rfl (fun h177 => ?_) (fun h177 => ?_)
              · have u178 : w176.toInt ≤ 19 := t_equ h177 (by decide : (19:Int32).toInt ≤ (19:Int))
                have l179 : 19 ≤ w176.toInt := t_eql h177 (by decide : (19:Int) ≤ (19:Int32).toInt)
                refine ev_ic f_X12_isDoing (nx := 23) (v := 1) rfl (by decide) rfl ?_
                refine ev_jmp f_X12_isDoing (nx := 27) rfl rfl rfl ?_
                refine ev_retK1 f_X12_isDoing rfl rfl rfl ?_
                refine ev_f f_X12_conditions (t1 := 47) (t2 := 62) rfl rfl rfl (by decide) ?_
                refine ev_loc f_X12_conditions (nx := 63) rfl rfl rfl rfl ?_
                refine ev_inV1 f_X12_conditions (nx := 66) (lo2 := [(0, .ref 69)]) rfl rfl rfl rfl f_X12_joins (hI.wf.s rfl) rfl rfl rfl rfl rfl ?_
                have kn180 := t_K_num j145_0
                refine ev_loc f_X12_joins (nx := 1) rfl rfl rfl rfl ?_
                refine ev_alu f_X12_joins (nx := 2) rfl rfl rfl rfl ?_
                refine ev_gvI f_X12_joins (nx := 5) (w := (gi145 69 22)) rfl (hI.wf.s rfl) rfl rfl rfl rfl ?_
                refine ev_ic f_X12_joins (nx := 6) (v := 1) rfl (by decide) rfl ?_
                refine ev_subC f_X12_joins (nx := 7) (c := 1) (l := 0) (u := 59) rfl (by decide) l174 (hI146.b (hI146.wf.s (k := 69) rfl) (t_bdK rfl : t_bd 11 22 = some (0, 60))).2 rfl rfl (by decide) (by decide) rfl (fun z181 e181 l181 u181 => ?_)
                refine ev_putIT f_X12_joins (nx := 10) rfl (hI.wf.s rfl) rfl rfl rfl (hI.putB (hI.wf.s rfl) rfl rfl l181 (by decide) u181 (by decide)) (hX.upI rfl) (fun g182 e182 hI hX => ?_)
                refine ev_loc f_X12_joins (nx := 11) rfl rfl rfl rfl ?_
                refine ev_loc f_X12_joins (nx := 12) rfl rfl rfl rfl ?_
                refine ev_getR f_X12_joins (nx := 15) rfl (hI.wf.s rfl) rfl rfl (hI.wf.r rfl) rfl rfl ?_
                refine ev_loc f_X12_joins (nx := 16) rfl rfl rfl rfl ?_
                refine ev_gvI f_X12_joins (nx := 19) (w := z181) rfl (hI.wf.s rfl) rfl rfl (by rw [e182]; exact x_up2_at _ _ _ _ : g182 69 22 = z181) rfl ?_
                refine ev_ialdT f_X12_joins (nx := 20) rfl (hI.wf.s rfl) l181 (by decide) u181 (by decide) rfl (fun w183 e183 => ?_)
                refine ev_inV2 f_X12_joins (nx := 23) (lo2 := [(0, .ref 69), (1, .int w183)]) rfl rfl rfl rfl f_X12_asksAlso (hI.wf.s rfl) rfl rfl rfl rfl rfl ?_
                have kn184 := t_K_num j145_0
                refine ev_loc f_X12_asksAlso (nx := 1) rfl rfl rfl rfl ?_
                refine ev_getR f_X12_asksAlso (nx := 4) rfl (hI.wf.s rfl) rfl rfl (hI.wf.r rfl) rfl rfl ?_
                refine ev_sp f_X12_asksAlso (nx := 7) (v := 1540) rfl (by decide) rfl ?_
                refine ev_loc f_X12_asksAlso (nx := 8) rfl rfl rfl rfl ?_
                refine ev_gvI f_X12_asksAlso (nx := 11) (w := (gi145 69 25)) rfl (hI.wf.s rfl) rfl rfl ((by rw [e182]; exact x_up2_off (Or.inr (by decide)) : g182 69 25 = gi145 69 25).trans rfl) rfl ?_
                refine ev_addK f_X12_asksAlso (nx := 12) (c := 1540) (l := 1540) (u := 1750) rfl (by decide) (hI147.b (hI147.wf.s (k := 69) rfl) (t_bdK rfl : t_bd 11 25 = some (0, 210))).1 (hI147.b (hI147.wf.s (k := 69) rfl) (t_bdK rfl : t_bd 11 25 = some (0, 210))).2 rfl rfl (by decide) (by decide) rfl (fun z185 e185 l185 u185 => ?_)
                refine ev_loc f_X12_asksAlso (nx := 13) rfl rfl rfl rfl ?_
                refine ev_iastT f_X12_asksAlso (nx := 14) rfl (hI.wf.s rfl) l185 (by decide) u185 (by decide) rfl (hI.astL (hI.wf.s rfl) (by decide +kernel : t_abw 70 1540 1750 (-2147483648) 2147483647 = true) (t_cl1 l185 (by decide)) (t_cl2 l185 u185 (by decide) (by decide)) (t_lo w183) (t_hi w183) rfl) (hX.upI (t_inR (p := 1540) (m := 1750) rfl l185 (by decide) u185 (by decide) (by decide))) (fun g186 e186 hI hX => ?_)
                refine ev_loc f_X12_asksAlso (nx := 15) rfl rfl rfl rfl ?_
                refine ev_alu f_X12_asksAlso (nx := 16) rfl rfl rfl rfl ?_
                refine ev_gvI f_X12_asksAlso (nx := 19) (w := (gi145 69 25)) rfl (hI.wf.s rfl) rfl rfl ((by rw [e186]; exact x_up2_off (Or.inl (by decide)) : g186 69 25 = g182 69 25).trans ((by rw [e182]; exact x_up2_off (Or.inr (by decide)) : g182 69 25 = gi145 69 25).trans rfl)) rfl ?_
                refine ev_ic f_X12_asksAlso (nx := 20) (v := 1) rfl (by decide) rfl ?_
                refine ev_addC f_X12_asksAlso (nx := 21) (c := 1) (l := 1) (u := 211) rfl (by decide) (hI147.b (hI147.wf.s (k := 69) rfl) (t_bdK rfl : t_bd 11 25 = some (0, 210))).1 (hI147.b (hI147.wf.s (k := 69) rfl) (t_bdK rfl : t_bd 11 25 = some (0, 210))).2 rfl rfl (by decide) (by decide) rfl (fun z187 e187 l187 u187 => ?_)
                have u189 : z187.toInt ≤ (210:Int) := (by omega)
                refine ev_putIT f_X12_asksAlso (nx := 24) rfl (hI.wf.s rfl) rfl rfl rfl (hI.putB (hI.wf.s rfl) rfl rfl l187 (by decide) u189 (by decide)) (hX.upI rfl) (fun g188 e188 hI hX => ?_)
                refine ev_retK0 f_X12_asksAlso rfl rfl rfl ?_
                refine ev_retK0 f_X12_joins rfl rfl rfl ?_
                refine ev_jmp f_X12_conditions (nx := 38) rfl rfl rfl ?_
                refine ev_sub (lo := [(1, .int y28_1), (0, .ref 69)]) rfl (t_sc rfl (t_sc rfl t_sn)) ?_
                exact ih145 _ (by have ff197 : (g188 69 22).toInt = z181.toInt := congrArg Int32.toInt ((by rw [e188]; exact x_up2_off (Or.inr (by decide)) : g188 69 22 = g186 69 22).trans ((by rw [e186]; exact x_up2_off (Or.inl (by decide)) : g186 69 22 = g182 69 22).trans (by rw [e182]; exact x_up2_at _ _ _ _ : g182 69 22 = z181))); omega) g188 gl145 gr145  hI hX  ((by rw [e188]; exact x_up2_off (Or.inr (by decide)) : g188 69 12 = g186 69 12).trans ((by rw [e186]; exact x_up2_off (Or.inl (by decide)) : g186 69 12 = g182 69 12).trans ((by rw [e182]; exact x_up2_off (Or.inr (by decide)) : g182 69 12 = gi145 69 12).trans c145_0))) ((by rw [e188]; exact x_up2_off (Or.inr (by decide)) : g188 69 14 = g186 69 14).trans ((by rw [e186]; exact x_up2_off (Or.inl (by decide)) : g186 69 14 = g182 69 14).trans ((by rw [e182]; exact x_up2_off (Or.inr (by decide)) : g182 69 14 = gi145 69 14).trans c145_1))) ((by rw [e188]; exact x_up2_off (Or.inr (by decide)) : g188 69 23 = g186 69 23).trans ((by rw [e186]; exact x_up2_off (Or.inl (by decide)) : g186 69 23 = g182 69 23).trans ((by rw [e182]; exact x_up2_off (Or.inr (by decide)) : g182 69 23 = gi145 69 23).trans c145_2))) ((by rw [e188]; exact x_up2_off (Or.inr (by decide)) : g188 69 24 = g186 69 24).trans ((by rw [e186]; exact x_up2_off (Or.inl (by decide)) : g186 69 24 = g182 69 24).trans ((by rw [e182]; exact x_up2_off (Or.inr (by decide)) : g182 69 24 = gi145 69 24).trans c145_3))) (by have ht := (by rw [e183]; have hc := t_clamp (i := z181) (by omega); have hx : z181.toNatClampNeg = (gi145 69 22).toInt.toNat - 1 := (by omega); rw [hx]; exact congrFun (((by rw [e182]; exact x_up2_ne (by decide) : g182 77 = gi145 77))) _ : w183 = gi145 77 ((gi145 69 22).toInt.toNat - 1)); have ho := (t_one (p := 1540 + (gi145 69 25).toInt.toNat) ((by rw [e182]; exact x_up2_ne (by decide) : g182 70 = gi145 70)) e186 ((by rw [e188]; exact x_up2_ne (by decide) : g188 70 = g186 70)) (by have hc := t_clamp (i := z185) (by omega); omega)); exact t_K_bin j145_0 (by omega) (by rw [← (by rw [e176]; have hc := t_clamp (i := z175) (by omega); have hx : z175.toNatClampNeg = (gi145 69 22).toInt.toNat - 1 := (by omega); rw [hx] : w176 = gi145 77 ((gi145 69 22).toInt.toNat - 1))]; omega) (show (g188 69 22).toInt = (gi145 69 22).toInt - 1 from (by have ff190 : (g188 69 22).toInt = z181.toInt := congrArg Int32.toInt ((by rw [e188]; exact x_up2_off (Or.inr (by decide)) : g188 69 22 = g186 69 22).trans ((by rw [e186]; exact x_up2_off (Or.inl (by decide)) : g186 69 22 = g182 69 22).trans (by rw [e182]; exact x_up2_at _ _ _ _ : g182 69 22 = z181))); omega)) (show (g188 69 23).toInt = (gi145 69 23).toInt from (by have ff191 : (g188 69 23).toInt = (gi28 69 23).toInt := congrArg Int32.toInt ((by rw [e188]; exact x_up2_off (Or.inr (by decide)) : g188 69 23 = g186 69 23).trans ((by rw [e186]; exact x_up2_off (Or.inl (by decide)) : g186 69 23 = g182 69 23).trans ((by rw [e182]; exact x_up2_off (Or.inr (by decide)) : g182 69 23 = gi145 69 23).trans c145_2))); omega)) (show (g188 69 24).toInt = (gi145 69 24).toInt from (by have ff192 : (g188 69 24).toInt = (gi28 69 24).toInt := congrArg Int32.toInt ((by rw [e188]; exact x_up2_off (Or.inr (by decide)) : g188 69 24 = g186 69 24).trans ((by rw [e186]; exact x_up2_off (Or.inl (by decide)) : g186 69 24 = g182 69 24).trans ((by rw [e182]; exact x_up2_off (Or.inr (by decide)) : g182 69 24 = gi145 69 24).trans c145_3))); omega)) (show (g188 69 25).toInt = (gi145 69 25).toInt + 1 from (by have ff193 : (g188 69 25).toInt = z187.toInt := congrArg Int32.toInt (by rw [e188]; exact x_up2_at _ _ _ _ : g188 69 25 = z187); omega)) ((by rw [e188]; exact x_up2_ne (by decide) : g188 77 = g186 77).trans ((by rw [e186]; exact x_up2_ne (by decide) : g186 77 = g182 77).trans ((by rw [e182]; exact x_up2_ne (by decide) : g182 77 = gi145 77)))) ho.1 (ho.2.trans ht)) (by have ff194 : (g188 69 14).toInt = (gi28 69 14).toInt := congrArg Int32.toInt ((by rw [e188]; exact x_up2_off (Or.inr (by decide)) : g188 69 14 = g186 69 14).trans ((by rw [e186]; exact x_up2_off (Or.inl (by decide)) : g186 69 14 = g182 69 14).trans ((by rw [e182]; exact x_up2_off (Or.inr (by decide)) : g182 69 14 = gi145 69 14).trans c145_1))); omega) (by have ff195 : (g188 69 12).toInt = (gi28 69 12).toInt := congrArg Int32.toInt ((by rw [e188]; exact x_up2_off (Or.inr (by decide)) : g188 69 12 = g186 69 12).trans ((by rw [e186]; exact x_up2_off (Or.inl (by decide)) : g186 69 12 = g182 69 12).trans ((by rw [e182]; exact x_up2_off (Or.inr (by decide)) : g182 69 12 = gi145 69 12).trans c145_0))); have ff196 : (g188 69 14).toInt = (gi28 69 14).toInt := congrArg Int32.toInt ((by rw [e188]; exact x_up2_off (Or.inr (by decide)) : g188 69 14 = g186 69 14).trans ((by rw [e186]; exact x_up2_off (Or.inl (by decide)) : g186 69 14 = g182 69 14).trans ((by rw [e182]; exact x_up2_off (Or.inr (by decide)) : g182 69 14 = gi145 69 14).trans c145_1))); omega) (fun b n q c ht hf hn hc => (by
                                                            obtain ⟨q2, c2, T2, hX, hl, hp, hj, hm⟩ := j145_3 b n q c ht hf hn hc
                                                            exact ⟨q2, c2, T2, hX, hl, hp, hj, hm.pj (by omega) (Or.inr (by rw [← (by rw [e176]; have hc := t_clamp (i := z175) (by omega); have hx : z175.toNatClampNeg = (gi145 69 22).toInt.toNat - 1 := (Nat.le_antisymm (by omega) (by omega)); rw [hx] : w176 = gi145 77 ((gi145 69 22).toInt.toNat - 1))]; exact Int.le_antisymm (by omega) (by omega))) (((t_fM.rf.u9 (by decide) e182).ux (by decide) e186).u9 (by decide) e188) (congrArg Int32.toInt (by rw [e188, x_up2_off (Or.inr (by decide)), e186, x_up2_ne (by decide), e182, x_up2_off (Or.inr (by decide))])) (congrArg Int32.toInt (by rw [e188, x_up2_off (Or.inr (by decide)), e186, x_up2_ne (by decide), e182, x_up2_off (Or.inr (by decide))])) (by rw [e188, x_up2_off (Or.inr (by decide)), e186, x_up2_ne (by decide), e182, x_up2_at]; exact Int.le_antisymm (by omega) (by omega)) (funext fun j => (by rw [e188, x_up2_ne (by decide), e186, x_up2_ne (by decide), e182, x_up2_ne (by decide)]))⟩)) rfl
              · have r198 : w176.toInt ≠ 19 := fun e => h177 (Int32.toInt_inj.mp (e.trans (by decide : (19:Int) = (19 : Int32).toInt)))
                refine ev_ic f_X12_isDoing (nx := 27) (v := 0) rfl (by decide) rfl ?_
                refine ev_retK1 f_X12_isDoing rfl rfl rfl ?_
                refine ev_t f_X12_conditions (t1 := 47) (t2 := 62) rfl rfl rfl (by decide) ?_
                refine ev_loc f_X12_conditions (nx := 48) rfl rfl rfl rfl ?_
                refine ev_bp f_X12_conditions (nx := 50) (v := 18) rfl (by decide) rfl ?_
                refine ev_f f_X12_conditions (t1 := 53) (t2 := 69) rfl rfl rfl (t_neT' (by decide : (18:Int32).toInt ≤ (18:Int)) l144 (by decide)) ?_
                refine ev_loc f_X12_conditions (nx := 70) rfl rfl rfl rfl ?_
                refine ev_loc f_X12_conditions (nx := 71) rfl rfl rfl rfl ?_
                refine ev_inV2 f_X12_conditions (nx := 74) (lo2 := [(0, .ref 69), (1, .int y28_1)]) rfl rfl rfl rfl f_X12_does (hI.wf.s rfl) rfl rfl rfl rfl rfl ?_
                have kn199 := t_K_num j145_0
                refine ev_loc f_X12_does (nx := 1) rfl rfl rfl rfl ?_
                refine ev_getR f_X12_does (nx := 4) rfl (hI.wf.s rfl) rfl rfl (hI.wf.r rfl) rfl rfl ?_
                refine ev_loc f_X12_does (nx := 5) rfl rfl rfl rfl ?_
                refine ev_gvI f_X12_does (nx := 8) (w := (gi145 69 22)) rfl (hI.wf.s rfl) rfl rfl rfl rfl ?_
                refine ev_loc f_X12_does (nx := 9) rfl rfl rfl rfl ?_
                have u201 : (gi145 69 22).toInt ≤ (59:Int) := (by omega)
                refine ev_iastT f_X12_does (nx := 10) rfl (hI.wf.s rfl) l174 (by decide) u201 (by decide) rfl (hI.astG (hI.wf.s rfl) (fun lo hi e => absurd e (t_nob (by decide +kernel) _)) (fun k hk e => by have := hk.2.1; omega)) (hX.upI (t_inA_ok rfl)) (fun g200 e200 hI hX => ?_)
                refine ev_loc f_X12_does (nx := 11) rfl rfl rfl rfl ?_
                refine ev_alu f_X12_does (nx := 12) rfl rfl rfl rfl ?_
                refine ev_gvI f_X12_does (nx := 15) (w := (gi145 69 22)) rfl (hI.wf.s rfl) rfl rfl ((by rw [e200]; exact x_up2_off (Or.inl (by decide)) : g200 69 22 = gi145 69 22).trans rfl) rfl ?_
                refine ev_ic f_X12_does (nx := 16) (v := 1) rfl (by decide) rfl ?_
                refine ev_addC f_X12_does (nx := 17) (c := 1) (l := 2) (u := 60) rfl (by decide) l174 u201 rfl rfl (by decide) (by decide) rfl (fun z202 e202 l202 u202 => ?_)
                refine ev_putIT f_X12_does (nx := 20) rfl (hI.wf.s rfl) rfl rfl rfl (hI.putB (hI.wf.s rfl) rfl rfl l202 (by decide) u202 (by decide)) (hX.upI rfl) (fun g203 e203 hI hX => ?_)
                refine ev_retK0 f_X12_does rfl rfl rfl ?_
                refine ev_loc f_X12_conditions (nx := 75) rfl rfl rfl rfl ?_
                refine ev_qN f_X12_conditions (nx := 78) (r := []) rfl rfl rfl rfl rfl rfl rfl (c_n_aheadB hI ) rfl hX rfl (fun gi204 gl204 gr204 hI hX hC204 q204 => ?_)
                have ff205 : (g203 69 14).toInt = (gi28 69 14).toInt := congrArg Int32.toInt ((by rw [e203]; exact x_up2_off (Or.inr (by decide)) : g203 69 14 = g200 69 14).trans ((by rw [e200]; exact x_up2_off (Or.inl (by decide)) : g200 69 14 = gi145 69 14).trans c145_1))
                have q204 : ((g203 69 14).toInt ≤ (gi204 69 14).toInt ∧ ((gi204 69 12).toInt ≠ 0 → (g203 69 14).toInt < (gi204 69 14).toInt) ∧ ((gi204 69 12).toInt = 3 → 0 ≤ (gi204 69 15).toInt)) ∧ (∀ (b : Nat → Int32) (n q : Nat), t_Sm b n q g203 → t_TM b n q gi204) := q204
                obtain ⟨l206, u206⟩ := hI.b (hI.wf.s (k := 69) rfl) (t_bdK rfl : t_bd 11 12 = some (0, 4))
                obtain ⟨l207, u207⟩ := hI.b (hI.wf.s (k := 69) rfl) (t_bdK rfl : t_bd 11 14 = some (0, 900))
                refine ev_loc f_X12_conditions (nx := 79) rfl rfl rfl rfl ?_
                refine ev_qI f_X12_conditions (nx := 82) (r := []) rfl rfl rfl rfl rfl rfl rfl (c_n_aOneB hI  (b := b) (by have ho := (t_onec (p := (gi145 69 22).toInt.toNat) rfl e200 ((funext (fun j => (hC204.1 77 j rfl).1) : gi204 77 = g203 77).trans ((by rw [e203]; exact x_up2_ne (by decide) : g203 77 = g200 77))) (by have hc := t_clamp (i := (gi145 69 22)) (by omega); omega)); exact t_K_op j145_0 (by omega) (show (gi204 69 22).toInt = (gi145 69 22).toInt + 1 from (by have ff209 : (gi204 69 22).toInt = z202.toInt := congrArg Int32.toInt ((hC204.1 69 22 rfl).1.trans (by rw [e203]; exact x_up2_at _ _ _ _ : g203 69 22 = z202)); omega)) (show (gi204 69 23).toInt = (gi145 69 23).toInt from (by have ff210 : (gi204 69 23).toInt = (gi28 69 23).toInt := congrArg Int32.toInt ((hC204.1 69 23 rfl).1.trans ((by rw [e203]; exact x_up2_off (Or.inr (by decide)) : g203 69 23 = g200 69 23).trans ((by rw [e200]; exact x_up2_off (Or.inl (by decide)) : g200 69 23 = gi145 69 23).trans c145_2))); omega)) (show (gi204 69 24).toInt = (gi145 69 24).toInt from (by have ff211 : (gi204 69 24).toInt = (gi28 69 24).toInt := congrArg Int32.toInt ((hC204.1 69 24 rfl).1.trans ((by rw [e203]; exact x_up2_off (Or.inr (by decide)) : g203 69 24 = g200 69 24).trans ((by rw [e200]; exact x_up2_off (Or.inl (by decide)) : g200 69 24 = gi145 69 24).trans c145_3))); omega)) (show (gi204 69 25).toInt = (gi145 69 25).toInt from (by have ff212 : (gi204 69 25).toInt = (gi145 69 25).toInt := congrArg Int32.toInt ((hC204.1 69 25 rfl).1.trans ((by rw [e203]; exact x_up2_off (Or.inr (by decide)) : g203 69 25 = g200 69 25).trans ((by rw [e200]; exact x_up2_off (Or.inl (by decide)) : g200 69 25 = gi145 69 25).trans rfl))); omega)) ((funext (fun j => (hC204.1 70 j rfl).1) : gi204 70 = g203 70).trans ((by rw [e203]; exact x_up2_ne (by decide) : g203 70 = g200 70).trans ((by rw [e200]; exact x_up2_ne (by decide) : g200 70 = gi145 70)))) ho.1 ho.2)) rfl hX rfl (fun w208 gi208 gl208 gr208 l208 u208 hI hX hC208 q208 => ?_)
                have q208 : ((gi204 69 14).toInt ≤ (gi208 69 14).toInt ∧ (w208.toInt = 1 → (gi208 69 12).toInt ≠ 0 → (gi204 69 14).toInt < (gi208 69 14).toInt) ∧ (w208.toInt = 0 → (gi208 69 18).toInt ≠ 0) ∧ (w208.toInt = 1 → t_K (b) gi208 2)) ∧ ((∀ (b : Nat → Int32) (n q c : Nat) (T : List Int), t_MC b n q c T gi204 → (w208.toInt = 1 ∧ ∃ q2 c2 T2, s_Cnd b n false q c T = s_Cnd b n true q2 c2 T2 ∧ q < q2 ∧ s_pop T2 = T2 ∧ ¬ (s_isS b n q2 41 ∧ T2 ≠ []) ∧ t_MC b n q2 c2 T2 gi208) ∨ (w208.toInt = 0 ∧ ∃ p x, x ≠ 0 ∧ s_Cnd b n false q c T = s_qb b n p x ∧ t_MF gi208 (s_fk b n p x) (s_F b n p)))) := q208
                obtain ⟨l213, u213⟩ := hI.b (hI.wf.s (k := 69) rfl) (t_bdK rfl : t_bd 11 12 = some (0, 4))
                obtain ⟨l214, u214⟩ := hI.b (hI.wf.s (k := 69) rfl) (t_bdK rfl : t_bd 11 14 = some (0, 900))
                have hI215 := hI
                have hI216 := hI
                have hI217 := hI
                have hI218 := hI
                refine ev_if f_X12_conditions (t1 := 85) (t2 := 87) rfl rfl rfl (fun h219 => ?_) (fun h219 => ?_)
                · have u220 : w208.toInt ≤ 0 := t_equ h219 (by decide : (0:Int32).toInt ≤ (0:Int))
                  refine ev_ic f_X12_conditions (nx := 86) (v := 0) rfl (by decide) rfl ?_
                  exact ev_ret f_X12_conditions rfl rfl rfl ⟨_, _, _, rfl, hI, hX, ⟨_, rfl, (by decide : (0:Int) ≤ (0:Int32).toInt), (Int.le_trans (by decide : (0:Int32).toInt ≤ (0:Int)) (by decide : (0:Int) ≤ 1)), (show (∀ (b : Nat → Int32) (n q c : Nat), t_TM b n q gi → t_MF gi 0 (-1) → n ≤ 300 → (gi 69 24).toInt = (c : Int) → ((0 : Int) = 1 ∧ ∃ q2 c2 : Nat, s_Cnd b n false q c [] = s_qk q2 c2 ∧ q < q2 ∧ t_TM b n q2 gi208 ∧ t_MF gi208 0 (-1) ∧ (gi208 69 24).toInt = (c2 : Int)) ∨ ((0 : Int) = 0 ∧ ∃ p x, x ≠ 0 ∧ s_Cnd b n false q c [] = s_qb b n p x ∧ t_MF gi208 (s_fk b n p x) (s_F b n p))) from (fun b n q c ht hf hn hc => (by
                                                            obtain ⟨q2, c2, T2, hX, hl, hp, hj, hm⟩ := j145_3 b n q c ht hf hn hc
                                                            have h1 := hm.psj (g1 := g203) hp (v := y28_1) (Or.inr (Int.le_antisymm (by omega) (by omega))) (by omega) ((t_fM.rf.ux (by decide) e200).u9 (by decide) e203) (congrArg Int32.toInt (by rw [e203, x_up2_off (Or.inr (by decide)), e200, x_up2_ne (by decide)])) (congrArg Int32.toInt (by rw [e203, x_up2_off (Or.inr (by decide)), e200, x_up2_ne (by decide)])) (by rw [e203, x_up2_at]; exact Int.le_antisymm (by omega) (by omega)) ⟨fun j hj => (by rw [e203, x_up2_ne (by decide), e200, x_up2_off (Or.inr (show j ≠ (gi145 69 22).toNatClampNeg from hj))]), by rw [e203, x_up2_ne (by decide), e200]; exact x_up2_at _ _ _ _⟩
                                                            have h2 := h1.ah (q204.2 b n _ h1.1.1.S) ⟨(hC204.1 69 18 rfl).1, (hC204.1 69 17 rfl).1⟩ (congrArg Int32.toInt (hC204.1 69 24 rfl).1) (congrArg Int32.toInt (hC204.1 69 23 rfl).1) (congrArg Int32.toInt (hC204.1 69 22 rfl).1) (funext fun j => (hC204.1 77 j rfl).1)
                                                            obtain ⟨_, p, x, hx, hX3, h3⟩ := (q208.2 b n _ _ _ h2).resolve_left (fun hh => absurd hh.1 (by omega))
                                                            exact Or.inr ⟨rfl, p, x, hx, (hX.trans (s_Cnd_j hm.qn hj)).trans hX3, h3⟩)))⟩⟩
                · have r221 : w208.toInt ≠ 0 := fun e => h219 (Int32.toInt_inj.mp (e.trans (by decide : (0:Int) = (0 : Int32).toInt)))
                  have l222 : 1 ≤ w208.toInt := t_nel h219 l208 rfl rfl
                  refine ev_loc f_X12_conditions (nx := 88) rfl rfl rfl rfl ?_
                  refine ev_heap f_X12_conditions (nx := 90) rfl rfl rfl rfl ?_
                  refine ev_qI0 f_X12_conditions (nx := 93) (r := []) rfl rfl rfl rfl rfl rfl rfl (c_n_inWords hI ) rfl (fun w223 l223 u223 q223 => ?_)
                  have q223 : (∀ (b : Nat → Int32) (n q : Nat), t_TM b n q gi208 → w223.toInt = s_mi (s_W b n q)) ∧ (0 ≤ w223.toInt → (gi208 69 12).toInt = 2) := q223
                  refine ev_loc f_X12_conditions (nx := 94) (lo' := [(1, .int w223), (0, .ref 69)]) rfl rfl rfl rfl ?_
                  refine ev_jmp f_X12_conditions (nx := 26) rfl rfl rfl ?_
                  refine ev_sub (lo := [(1, .int w223), (0, .ref 69)]) rfl (t_sc rfl (t_sc rfl t_sn)) ?_
                  exact ih28 _ (t_ms30 hm28 (j28_3 (by omega)) (by have := q208.1.1; omega) (fun h => by have := q208.1.2.1 (by omega) h; omega) (by omega) (by omega) rfl rfl) gi208 gl208 gr208 (w223) hI hX  l223 u223 (q208.1.2.2.2 (by omega)) (by omega) (by omega) (by omega) (fun b n q c ht hf hn hc => (by
                                                            obtain ⟨q2, c2, T2, hX, hl, hp, hj, hm⟩ := j145_3 b n q c ht hf hn hc
                                                            have h1 := hm.psj (g1 := g203) hp (v := y28_1) (Or.inr (Int.le_antisymm (by omega) (by omega))) (by omega) ((t_fM.rf.ux (by decide) e200).u9 (by decide) e203) (congrArg Int32.toInt (by rw [e203, x_up2_off (Or.inr (by decide)), e200, x_up2_ne (by decide)])) (congrArg Int32.toInt (by rw [e203, x_up2_off (Or.inr (by decide)), e200, x_up2_ne (by decide)])) (by rw [e203, x_up2_at]; exact Int.le_antisymm (by omega) (by omega)) ⟨fun j hj => (by rw [e203, x_up2_ne (by decide), e200, x_up2_off (Or.inr (show j ≠ (gi145 69 22).toNatClampNeg from hj))]), by rw [e203, x_up2_ne (by decide), e200]; exact x_up2_at _ _ _ _⟩
                                                            have h2 := h1.ah (q204.2 b n _ h1.1.1.S) ⟨(hC204.1 69 18 rfl).1, (hC204.1 69 17 rfl).1⟩ (congrArg Int32.toInt (hC204.1 69 24 rfl).1) (congrArg Int32.toInt (hC204.1 69 23 rfl).1) (congrArg Int32.toInt (hC204.1 69 22 rfl).1) (funext fun j => (hC204.1 77 j rfl).1)
                                                            obtain ⟨_, q3, c3, T3, hX3, hl3, hp3, hng3, hm3⟩ := (q208.2 b n _ _ _ h2).resolve_right (fun hh => absurd hh.1 (by omega))
                                                            have hg := s_jnd_gt hj
                                                            exact ⟨q3, c3, T3, (hX.trans (s_Cnd_j hm.qn hj)).trans hX3, by omega, hp3, hng3, q223.1 b n _ hm3.1.1, hm3⟩)) rfl
          refine ev_sub (lo := [(1, .int y28_1), (0, .ref 69)]) rfl (t_sc rfl (t_sc rfl t_sn)) ?_
          exact L145 _ gi28 gl28 gr28  hI hX  rfl rfl rfl rfl j28_0 (by omega) (by omega) (fun b n q c ht hf hn hc => (by
                                                            obtain ⟨q2, c2, T2, hX, hl, hp, hng, hw, hm⟩ := j28_4 b n q c ht hf hn hc
                                                            exact ⟨q2, c2, T2, hX, hl, hp, s_jnd_mi.mpr (by omega), hm⟩)) rfl
        · have r224 : y28_1.toInt ≠ 19 := fun e => h142 (Int32.toInt_inj.mp (e.trans (by decide : (19:Int) = (19 : Int32).toInt)))
          refine ev_loc f_X12_conditions (nx := 98) rfl rfl rfl rfl ?_
          refine ev_qI0 f_X12_conditions (nx := 101) (r := []) rfl rfl rfl rfl rfl rfl rfl (c_m_isWithin hI ) rfl (fun w225 l225 u225 q225 => ?_)
          have q225 : (w225.toInt = 1 → t_ex gi28) ∧ (w225.toInt = 0 → t_n40 gi28) := q225
          refine ev_if f_X12_conditions (t1 := 110) (t2 := 104) rfl rfl rfl (fun h226 => ?_) (fun h226 => ?_)
          · have u227 : w225.toInt ≤ 0 := t_equ h226 (by decide : (0:Int32).toInt ≤ (0:Int))
            have L228 : ∀ (m228 : Nat) (gi228 : Nat → Nat → Int32) (gl228 : Nat → Nat → Int64) (gr228 : Nat → Nat → Value), t_I sh gi228 gr228 → t_X wl_n_conditions sh gi gl gr gi228 gl228 gr228 → gi228 69 12 = (gi28 69 12) → gi228 69 14 = (gi28 69 14) → gi228 69 23 = (gi28 69 23) → gi228 69 24 = (gi28 69 24) → t_K b gi228 2 → t_n40 gi228 → (gi 69 14).toInt ≤ (gi228 69 14).toInt → ((gi228 69 12).toInt ≠ 0 → (gi 69 14).toInt < (gi228 69 14).toInt) → (∀ (b : Nat → Int32) (n q c : Nat), t_TM b n q gi → t_MF gi 0 (-1) → n ≤ 300 → (gi 69 24).toInt = (c : Int) → ∃ q2 c2 : Nat, s_Cnd b n false q c [] = s_qk q2 c2 ∧ q < q2 ∧ t_TM b n q2 gi228 ∧ t_MF gi228 0 (-1) ∧ (gi228 69 24).toInt = (c2 : Int)) → (gi228 69 22).toInt.toNat = m228 → x_Ev X (d + 7) n_X12_conditions 110 [(1, .int y28_1), (0, .ref 69)] [] (sh, gi228, gl228, gr228) (t_PI wl_n_conditions sh gi gl gr 0 1 (Q_n_conditions gi gl gr b)) := by
              intro m228
              induction m228 using Nat.strongRecOn with
              | _ m228 ih228 =>
              intro gi228 gl228 gr228 hI hX c228_0 c228_1 c228_2 c228_3 j228_0 j228_1 j228_2 j228_3 j228_4 hm228
              have cf228_0 : (gi228 69 12).toInt = (gi28 69 12).toInt := congrArg Int32.toInt c228_0
              have cf228_1 : (gi228 69 14).toInt = (gi28 69 14).toInt := congrArg Int32.toInt c228_1
              have cf228_2 : (gi228 69 23).toInt = (gi28 69 23).toInt := congrArg Int32.toInt c228_2
              have cf228_3 : (gi228 69 24).toInt = (gi28 69 24).toInt := congrArg Int32.toInt c228_3
              have hI229 := hI
              have hI230 := hI
              refine ev_loc f_X12_conditions (nx := 111) rfl rfl rfl rfl ?_
              refine ev_gvI f_X12_conditions (nx := 114) (w := (gi228 69 22)) rfl (hI.wf.s rfl) rfl rfl rfl rfl ?_
              refine ev_if f_X12_conditions (t1 := 124) (t2 := 117) rfl rfl rfl (fun h231 => ?_) (fun h231 => ?_)
              · have u232 : (gi228 69 22).toInt ≤ 0 := t_leu h231 (by decide : (0:Int32).toInt ≤ (0:Int))
                refine ev_ic f_X12_conditions (nx := 125) (v := 1) rfl (by decide) rfl ?_
                exact ev_ret f_X12_conditions rfl rfl rfl ⟨_, _, _, rfl, hI, hX, ⟨_, rfl, (Int.le_trans (by decide : (0:Int) ≤ 1) (by decide : (1:Int) ≤ (1:Int32).toInt)), (by decide : (1:Int32).toInt ≤ (1:Int)), (show (∀ (b : Nat → Int32) (n q c : Nat), t_TM b n q gi → t_MF gi 0 (-1) → n ≤ 300 → (gi 69 24).toInt = (c : Int) → ((1 : Int) = 1 ∧ ∃ q2 c2 : Nat, s_Cnd b n false q c [] = s_qk q2 c2 ∧ q < q2 ∧ t_TM b n q2 gi228 ∧ t_MF gi228 0 (-1) ∧ (gi228 69 24).toInt = (c2 : Int)) ∨ ((1 : Int) = 0 ∧ ∃ p x, x ≠ 0 ∧ s_Cnd b n false q c [] = s_qb b n p x ∧ t_MF gi228 (s_fk b n p x) (s_F b n p))) from (fun b n q c ht hf hn hc => (by
                                                            exact Or.inl ⟨rfl, j228_4 b n q c ht hf hn hc⟩)))⟩⟩
              · have l233 : 1 ≤ (gi228 69 22).toInt := t_ltl (t_nle h231) (by decide : (0:Int) ≤ (0:Int32).toInt) rfl
                refine ev_loc f_X12_conditions (nx := 118) rfl rfl rfl rfl ?_
                refine ev_inV1 f_X12_conditions (nx := 121) (lo2 := [(0, .ref 69)]) rfl rfl rfl rfl f_X12_joins (hI.wf.s rfl) rfl rfl rfl rfl rfl ?_
                have kn234 := t_K_num j228_0
                refine ev_loc f_X12_joins (nx := 1) rfl rfl rfl rfl ?_
                refine ev_alu f_X12_joins (nx := 2) rfl rfl rfl rfl ?_
                refine ev_gvI f_X12_joins (nx := 5) (w := (gi228 69 22)) rfl (hI.wf.s rfl) rfl rfl rfl rfl ?_
                refine ev_ic f_X12_joins (nx := 6) (v := 1) rfl (by decide) rfl ?_
                refine ev_subC f_X12_joins (nx := 7) (c := 1) (l := 0) (u := 59) rfl (by decide) l233 (hI229.b (hI229.wf.s (k := 69) rfl) (t_bdK rfl : t_bd 11 22 = some (0, 60))).2 rfl rfl (by decide) (by decide) rfl (fun z235 e235 l235 u235 => ?_)
                refine ev_putIT f_X12_joins (nx := 10) rfl (hI.wf.s rfl) rfl rfl rfl (hI.putB (hI.wf.s rfl) rfl rfl l235 (by decide) u235 (by decide)) (hX.upI rfl) (fun g236 e236 hI hX => ?_)
                refine ev_loc f_X12_joins (nx := 11) rfl rfl rfl rfl ?_
                refine ev_loc f_X12_joins (nx := 12) rfl rfl rfl rfl ?_
                refine ev_getR f_X12_joins (nx := 15) rfl (hI.wf.s rfl) rfl rfl (hI.wf.r rfl) rfl rfl ?_
                refine ev_loc f_X12_joins (nx := 16) rfl rfl rfl rfl ?_
                refine ev_gvI f_X12_joins (nx := 19) (w := z235) rfl (hI.wf.s rfl) rfl rfl (by rw [e236]; exact x_up2_at _ _ _ _ : g236 69 22 = z235) rfl ?_
                refine ev_ialdT f_X12_joins (nx := 20) rfl (hI.wf.s rfl) l235 (by decide) u235 (by decide) rfl (fun w237 e237 => ?_)
                refine ev_inV2 f_X12_joins (nx := 23) (lo2 := [(0, .ref 69), (1, .int w237)]) rfl rfl rfl rfl f_X12_asksAlso (hI.wf.s rfl) rfl rfl rfl rfl rfl ?_
                have kn238 := t_K_num j228_0
                refine ev_loc f_X12_asksAlso (nx := 1) rfl rfl rfl rfl ?_
                refine ev_getR f_X12_asksAlso (nx := 4) rfl (hI.wf.s rfl) rfl rfl (hI.wf.r rfl) rfl rfl ?_
                refine ev_sp f_X12_asksAlso (nx := 7) (v := 1540) rfl (by decide) rfl ?_
                refine ev_loc f_X12_asksAlso (nx := 8) rfl rfl rfl rfl ?_
                refine ev_gvI f_X12_asksAlso (nx := 11) (w := (gi228 69 25)) rfl (hI.wf.s rfl) rfl rfl ((by rw [e236]; exact x_up2_off (Or.inr (by decide)) : g236 69 25 = gi228 69 25).trans rfl) rfl ?_
                refine ev_addK f_X12_asksAlso (nx := 12) (c := 1540) (l := 1540) (u := 1750) rfl (by decide) (hI230.b (hI230.wf.s (k := 69) rfl) (t_bdK rfl : t_bd 11 25 = some (0, 210))).1 (hI230.b (hI230.wf.s (k := 69) rfl) (t_bdK rfl : t_bd 11 25 = some (0, 210))).2 rfl rfl (by decide) (by decide) rfl (fun z239 e239 l239 u239 => ?_)
                refine ev_loc f_X12_asksAlso (nx := 13) rfl rfl rfl rfl ?_
                refine ev_iastT f_X12_asksAlso (nx := 14) rfl (hI.wf.s rfl) l239 (by decide) u239 (by decide) rfl (hI.astL (hI.wf.s rfl) (by decide +kernel : t_abw 70 1540 1750 (-2147483648) 2147483647 = true) (t_cl1 l239 (by decide)) (t_cl2 l239 u239 (by decide) (by decide)) (t_lo w237) (t_hi w237) rfl) (hX.upI (t_inR (p := 1540) (m := 1750) rfl l239 (by decide) u239 (by decide) (by decide))) (fun g240 e240 hI hX => ?_)
                refine ev_loc f_X12_asksAlso (nx := 15) rfl rfl rfl rfl ?_
                refine ev_alu f_X12_asksAlso (nx := 16) rfl rfl rfl rfl ?_
                refine ev_gvI f_X12_asksAlso (nx := 19) (w := (gi228 69 25)) rfl (hI.wf.s rfl) rfl rfl ((by rw [e240]; exact x_up2_off (Or.inl (by decide)) : g240 69 25 = g236 69 25).trans ((by rw [e236]; exact x_up2_off (Or.inr (by decide)) : g236 69 25 = gi228 69 25).trans rfl)) rfl ?_
                refine ev_ic f_X12_asksAlso (nx := 20) (v := 1) rfl (by decide) rfl ?_
                refine ev_addC f_X12_asksAlso (nx := 21) (c := 1) (l := 1) (u := 211) rfl (by decide) (hI230.b (hI230.wf.s (k := 69) rfl) (t_bdK rfl : t_bd 11 25 = some (0, 210))).1 (hI230.b (hI230.wf.s (k := 69) rfl) (t_bdK rfl : t_bd 11 25 = some (0, 210))).2 rfl rfl (by decide) (by decide) rfl (fun z241 e241 l241 u241 => ?_)
                have u243 : z241.toInt ≤ (210:Int) := (by omega)
                refine ev_putIT f_X12_asksAlso (nx := 24) rfl (hI.wf.s rfl) rfl rfl rfl (hI.putB (hI.wf.s rfl) rfl rfl l241 (by decide) u243 (by decide)) (hX.upI rfl) (fun g242 e242 hI hX => ?_)
                refine ev_retK0 f_X12_asksAlso rfl rfl rfl ?_
                refine ev_retK0 f_X12_joins rfl rfl rfl ?_
                refine ev_jmp f_X12_conditions (nx := 110) rfl rfl rfl ?_
                refine ev_sub (lo := [(1, .int y28_1), (0, .ref 69)]) rfl (t_sc rfl (t_sc rfl t_sn)) ?_
                exact ih228 _ (by have ff252 : (g242 69 22).toInt = z235.toInt := congrArg Int32.toInt ((by rw [e242]; exact x_up2_off (Or.inr (by decide)) : g242 69 22 = g240 69 22).trans ((by rw [e240]; exact x_up2_off (Or.inl (by decide)) : g240 69 22 = g236 69 22).trans (by rw [e236]; exact x_up2_at _ _ _ _ : g236 69 22 = z235))); omega) g242 gl228 gr228  hI hX  ((by rw [e242]; exact x_up2_off (Or.inr (by decide)) : g242 69 12 = g240 69 12).trans ((by rw [e240]; exact x_up2_off (Or.inl (by decide)) : g240 69 12 = g236 69 12).trans ((by rw [e236]; exact x_up2_off (Or.inr (by decide)) : g236 69 12 = gi228 69 12).trans c228_0))) ((by rw [e242]; exact x_up2_off (Or.inr (by decide)) : g242 69 14 = g240 69 14).trans ((by rw [e240]; exact x_up2_off (Or.inl (by decide)) : g240 69 14 = g236 69 14).trans ((by rw [e236]; exact x_up2_off (Or.inr (by decide)) : g236 69 14 = gi228 69 14).trans c228_1))) ((by rw [e242]; exact x_up2_off (Or.inr (by decide)) : g242 69 23 = g240 69 23).trans ((by rw [e240]; exact x_up2_off (Or.inl (by decide)) : g240 69 23 = g236 69 23).trans ((by rw [e236]; exact x_up2_off (Or.inr (by decide)) : g236 69 23 = gi228 69 23).trans c228_2))) ((by rw [e242]; exact x_up2_off (Or.inr (by decide)) : g242 69 24 = g240 69 24).trans ((by rw [e240]; exact x_up2_off (Or.inl (by decide)) : g240 69 24 = g236 69 24).trans ((by rw [e236]; exact x_up2_off (Or.inr (by decide)) : g236 69 24 = gi228 69 24).trans c228_3))) (by have ht := (by rw [e237]; have hc := t_clamp (i := z235) (by omega); have hx : z235.toNatClampNeg = (gi228 69 22).toInt.toNat - 1 := (by omega); rw [hx]; exact congrFun (((by rw [e236]; exact x_up2_ne (by decide) : g236 77 = gi228 77))) _ : w237 = gi228 77 ((gi228 69 22).toInt.toNat - 1)); have ho := (t_one (p := 1540 + (gi228 69 25).toInt.toNat) ((by rw [e236]; exact x_up2_ne (by decide) : g236 70 = gi228 70)) e240 ((by rw [e242]; exact x_up2_ne (by decide) : g242 70 = g240 70)) (by have hc := t_clamp (i := z239) (by omega); omega)); exact t_K_bin j228_0 (by omega) (t_K_top j228_0 (by omega) (j228_1 _ (by omega))) (show (g242 69 22).toInt = (gi228 69 22).toInt - 1 from (by have ff244 : (g242 69 22).toInt = z235.toInt := congrArg Int32.toInt ((by rw [e242]; exact x_up2_off (Or.inr (by decide)) : g242 69 22 = g240 69 22).trans ((by rw [e240]; exact x_up2_off (Or.inl (by decide)) : g240 69 22 = g236 69 22).trans (by rw [e236]; exact x_up2_at _ _ _ _ : g236 69 22 = z235))); omega)) (show (g242 69 23).toInt = (gi228 69 23).toInt from (by have ff245 : (g242 69 23).toInt = (gi28 69 23).toInt := congrArg Int32.toInt ((by rw [e242]; exact x_up2_off (Or.inr (by decide)) : g242 69 23 = g240 69 23).trans ((by rw [e240]; exact x_up2_off (Or.inl (by decide)) : g240 69 23 = g236 69 23).trans ((by rw [e236]; exact x_up2_off (Or.inr (by decide)) : g236 69 23 = gi228 69 23).trans c228_2))); omega)) (show (g242 69 24).toInt = (gi228 69 24).toInt from (by have ff246 : (g242 69 24).toInt = (gi28 69 24).toInt := congrArg Int32.toInt ((by rw [e242]; exact x_up2_off (Or.inr (by decide)) : g242 69 24 = g240 69 24).trans ((by rw [e240]; exact x_up2_off (Or.inl (by decide)) : g240 69 24 = g236 69 24).trans ((by rw [e236]; exact x_up2_off (Or.inr (by decide)) : g236 69 24 = gi228 69 24).trans c228_3))); omega)) (show (g242 69 25).toInt = (gi228 69 25).toInt + 1 from (by have ff247 : (g242 69 25).toInt = z241.toInt := congrArg Int32.toInt (by rw [e242]; exact x_up2_at _ _ _ _ : g242 69 25 = z241); omega)) ((by rw [e242]; exact x_up2_ne (by decide) : g242 77 = g240 77).trans ((by rw [e240]; exact x_up2_ne (by decide) : g240 77 = g236 77).trans ((by rw [e236]; exact x_up2_ne (by decide) : g236 77 = gi228 77)))) ho.1 (ho.2.trans ht)) (fun j hj => by rw [congrFun ((by rw [e242]; exact x_up2_ne (by decide) : g242 77 = g240 77).trans ((by rw [e240]; exact x_up2_ne (by decide) : g240 77 = g236 77).trans ((by rw [e236]; exact x_up2_ne (by decide) : g236 77 = gi228 77)))) j]; exact j228_1 j (by have ff248 : (g242 69 22).toInt = z235.toInt := congrArg Int32.toInt ((by rw [e242]; exact x_up2_off (Or.inr (by decide)) : g242 69 22 = g240 69 22).trans ((by rw [e240]; exact x_up2_off (Or.inl (by decide)) : g240 69 22 = g236 69 22).trans (by rw [e236]; exact x_up2_at _ _ _ _ : g236 69 22 = z235))); omega)) (by have ff249 : (g242 69 14).toInt = (gi28 69 14).toInt := congrArg Int32.toInt ((by rw [e242]; exact x_up2_off (Or.inr (by decide)) : g242 69 14 = g240 69 14).trans ((by rw [e240]; exact x_up2_off (Or.inl (by decide)) : g240 69 14 = g236 69 14).trans ((by rw [e236]; exact x_up2_off (Or.inr (by decide)) : g236 69 14 = gi228 69 14).trans c228_1))); omega) (by have ff250 : (g242 69 12).toInt = (gi28 69 12).toInt := congrArg Int32.toInt ((by rw [e242]; exact x_up2_off (Or.inr (by decide)) : g242 69 12 = g240 69 12).trans ((by rw [e240]; exact x_up2_off (Or.inl (by decide)) : g240 69 12 = g236 69 12).trans ((by rw [e236]; exact x_up2_off (Or.inr (by decide)) : g236 69 12 = gi228 69 12).trans c228_0))); have ff251 : (g242 69 14).toInt = (gi28 69 14).toInt := congrArg Int32.toInt ((by rw [e242]; exact x_up2_off (Or.inr (by decide)) : g242 69 14 = g240 69 14).trans ((by rw [e240]; exact x_up2_off (Or.inl (by decide)) : g240 69 14 = g236 69 14).trans ((by rw [e236]; exact x_up2_off (Or.inr (by decide)) : g236 69 14 = gi228 69 14).trans c228_1))); omega) (fun b n q c ht hf hn hc => (by
                                                            obtain ⟨q2, c2, hX, hl, h1, h2, h3⟩ := j228_4 b n q c ht hf hn hc
                                                            exact ⟨q2, c2, hX, hl, h1.fM (((t_fM.rf.u9 (by decide) e236).ux (by decide) e240).u9 (by decide) e242), h2.fM (((t_fM.rf.u9 (by decide) e236).ux (by decide) e240).u9 (by decide) e242), (congrArg Int32.toInt (by rw [e242, x_up2_off (Or.inr (by decide)), e240, x_up2_ne (by decide), e236, x_up2_off (Or.inr (by decide))])).trans h3⟩)) rfl
            refine ev_sub (lo := [(1, .int y28_1), (0, .ref 69)]) rfl (t_sc rfl (t_sc rfl t_sn)) ?_
            exact L228 _ gi28 gl28 gr28  hI hX  rfl rfl rfl rfl j28_0 (q225.2 (by omega)) (by omega) (by omega) (fun b n q c ht hf hn hc => (by
                                                            obtain ⟨q2, c2, T2, hX, hl, hp, hng, hw, hm⟩ := j28_4 b n q c ht hf hn hc
                                                            have hnj : ¬ s_jnd b n q2 := fun hh => by have := s_jnd_mi.mp hh; omega
                                                            have k0 := (t_K_num j28_0).1
                                                            have hT := hm.nx hp (q225.2 (by omega)) (by omega)
                                                            subst hT
                                                            exact ⟨q2, c2, hX.trans (s_Cnd_e hm.qn hnj), hl, hm.1.1, hm.1.2, hm.2.1.2.1⟩)) rfl
          · have r253 : w225.toInt ≠ 0 := fun e => h226 (Int32.toInt_inj.mp (e.trans (by decide : (0:Int) = (0 : Int32).toInt)))
            have l254 : 1 ≤ w225.toInt := t_nel h226 l225 rfl rfl
            refine ev_loc f_X12_conditions (nx := 105) rfl rfl rfl rfl ?_
            refine ev_ic f_X12_conditions (nx := 106) (v := 2) rfl (by decide) rfl ?_
            refine ev_qI f_X12_conditions (nx := 109) (r := []) rfl rfl rfl rfl rfl rfl rfl (c_n_fails hI (2) (by decide : (2:Int) ≤ (2:Int32).toInt) (Int.le_trans (by decide : (2:Int32).toInt ≤ (2:Int)) (by decide : (2:Int) ≤ 7))) rfl hX rfl (fun w255 gi255 gl255 gr255 l255 u255 hI hX hC255 q255 => ?_)
            have q255 : (∀ (b : Nat → Int32) (n q : Nat), t_TM b n q gi28 → (gi28 69 18).toInt = 0 → t_MF gi255 (s_fk b n q 2) (s_F b n q)) ∧ w255.toInt = 0 := q255
            exact ev_retZ f_X12_conditions rfl l255 (Int.le_trans u255 (by decide : (0:Int) ≤ 1)) ⟨_, _, _, rfl, hI, hX, ⟨_, rfl, l255, (Int.le_trans u255 (by decide : (0:Int) ≤ 1)), (show (∀ (b : Nat → Int32) (n q c : Nat), t_TM b n q gi → t_MF gi 0 (-1) → n ≤ 300 → (gi 69 24).toInt = (c : Int) → (w255.toInt = 1 ∧ ∃ q2 c2 : Nat, s_Cnd b n false q c [] = s_qk q2 c2 ∧ q < q2 ∧ t_TM b n q2 gi255 ∧ t_MF gi255 0 (-1) ∧ (gi255 69 24).toInt = (c2 : Int)) ∨ (w255.toInt = 0 ∧ ∃ p x, x ≠ 0 ∧ s_Cnd b n false q c [] = s_qb b n p x ∧ t_MF gi255 (s_fk b n p x) (s_F b n p))) from (fun b n q c ht hf hn hc => (by
                                                            obtain ⟨q2, c2, T2, hX, hl, hp, hng, hw, hm⟩ := j28_4 b n q c ht hf hn hc
                                                            have hnj : ¬ s_jnd b n q2 := fun hh => by have := s_jnd_mi.mp hh; omega
                                                            have hne := hm.ex hp (q225.1 (by omega))
                                                            exact Or.inr ⟨q255.2, _, 2, by decide, hX.trans (by rw [s_Cnd_2 hm.qn, s_ifF hng, s_ifF hnj, s_ifT hne]), q255.1 b n _ hm.1.1 hm.1.2.1⟩)))⟩⟩
    refine ev_sub (lo := [(1, .int w27), (0, .ref 69)]) rfl (t_sc rfl (t_sc rfl t_sn)) ?_
    exact L28 _ gi9 gl9 gr9 (w27) hI hX  l27 u27 (q9.1.2.2.2 (by omega)) (by omega) (by omega) (by omega) (fun b n q c ht hf hn hc => (by
                                                            have h0 := t_MC_0 (g1 := g8) ht hf hn hc ((t_fM.rf.u9 (by decide) e7).u9 (by decide) e8) (congrArg Int32.toInt (by rw [e8, x_up2_off (Or.inr (by decide)), e7, x_up2_off (Or.inr (by decide))])) (by rw [e8, x_up2_at]; rfl) (by rw [e8, x_up2_off (Or.inr (by decide)), e7, x_up2_at]; rfl)
                                                            obtain ⟨_, q2, c2, T2, hX, hl, hp, hng, hm⟩ := (q9.2 b n _ _ _ h0).resolve_right (fun hh => absurd hh.1 (by omega))
                                                            exact ⟨q2, c2, T2, hX, hl, hp, hng, q27.1 b n _ hm.1.1, hm⟩)) rfl
noncomputable def Q_n_conditionsB (gi : Nat → Nat → Int32) (gl : Nat → Nat → Int64) (gr : Nat → Nat → Value) (b : Nat → Int32) : Int32 → (Nat → Nat → Int32) → (Nat → Nat → Int64) → (Nat → Nat → Value) → Prop := fun (v : Int32) (gi2 : Nat → Nat → Int32) (gl2 : Nat → Nat → Int64) (gr2 : Nat → Nat → Value) => ((gi 69 14).toInt ≤ (gi2 69 14).toInt ∧ (v.toInt = 1 → (gi2 69 12).toInt ≠ 0 → (gi 69 14).toInt < (gi2 69 14).toInt) ∧ (v.toInt = 0 → (gi2 69 18).toInt ≠ 0) ∧ (v.toInt = 1 → (t_em (gi2 70) (t_lo4 b) (gi2 69 25).toInt.toNat 1 ∧ (∀ j : Nat, j < 1540 + t_lo4 b → gi2 70 j = b j) ∧ 0 ≤ (gi2 69 25).toInt ∧ (gi2 69 25).toInt ≤ 8 * (gi2 69 24).toInt))) ∧ ((∀ (b : Nat → Int32) (n q c : Nat), t_TM b n q gi → t_MF gi 0 (-1) → n ≤ 300 → (gi 69 24).toInt = (c : Int) → (v.toInt = 1 ∧ ∃ q2 c2 : Nat, s_Cnd b n false q c [] = s_qk q2 c2 ∧ q < q2 ∧ t_TM b n q2 gi2 ∧ t_MF gi2 0 (-1) ∧ (gi2 69 24).toInt = (c2 : Int)) ∨ (v.toInt = 0 ∧ ∃ p x, x ≠ 0 ∧ s_Cnd b n false q c [] = s_qb b n p x ∧ t_MF gi2 (s_fk b n p x) (s_F b n p))))
theorem c_n_conditionsB {X : x_Ext} {d : Nat} {sh : List (Nat ⊕ (Nat × Nat))} {gi : Nat → Nat → Int32} {gl : Nat → Nat → Int64} {gr : Nat → Nat → Value} (hI : t_I sh gi gr) {b : Nat → Int32} (e_p0 : (gi 69 25).toInt ≤ 8 * (gi 69 24).toInt) (e_p1 : gi 70 = b) (e_p2 : t_lo4 b = (gi 69 25).toInt.toNat) : x_Me X (d + 7) n_X12_conditions [.ref 69] (sh, gi, gl, gr) (t_PI wl_m_conditions sh gi gl gr 0 1 (Q_n_conditionsB gi gl gr b)) := by
  refine ((x_Me.up (c_m_conditions (X := X) (d := d) (gl := gl) (b := b) hI e_p0 e_p1 e_p2) (by omega)).and (x_Me.up (c_n_conditions (X := X) (d := d) (gl := gl) (b := b) hI e_p0 e_p1 e_p2) (by omega))).mono ?_
  rintro v G' ⟨⟨g1, l1, r1, rfl, k1, k2, x, rfl, k3, k4, k5⟩, g2, l2, r2, e, _, _, x2, e2, _, _, q⟩
  cases e; cases e2
  exact ⟨g1, l1, r1, rfl, k1, k2, x, rfl, k3, k4, k5, q⟩
noncomputable def wl_n_aRule : List (Nat × Nat) := [(69, 12), (69, 13), (69, 14), (69, 15), (69, 17), (69, 18), (69, 22), (69, 23), (69, 24), (69, 25), (70, 140311403), (70, 150011536), (70, 150111537), (70, 150211538), (70, 154011750), (77, 9999)]
noncomputable def Q_n_aRule (gi : Nat → Nat → Int32) (gl : Nat → Nat → Int64) (gr : Nat → Nat → Value) : Int32 → (Nat → Nat → Int32) → (Nat → Nat → Int64) → (Nat → Nat → Value) → Prop := fun (v : Int32) (gi2 : Nat → Nat → Int32) (gl2 : Nat → Nat → Int64) (gr2 : Nat → Nat → Value) => (∀ (b : Nat → Int32) (n q c r : Nat), t_TM b n q gi → t_MF gi 0 (-1) → n ≤ 300 → (gi 69 24).toInt = (c : Int) → (gi 70 1403).toInt = (r : Int) → s_K b n q ≠ 0 → (v.toInt = 1 ∧ ∃ q2 c2 : Nat, (r < 12 ∧ ∀ m, s_rls b n (m + 1) q c r = s_rls b n m q2 c2 (r + 1)) ∧ t_TM b n q2 gi2 ∧ t_MF gi2 0 (-1) ∧ (gi2 69 24).toInt = (c2 : Int) ∧ (gi2 70 1403).toInt = (r : Int) + 1) ∨ (v.toInt = 0 ∧ ∃ p x, x ≠ 0 ∧ (∀ m, s_rls b n (m + 1) q c r = ((s_qb b n p x).1, 0)) ∧ t_MF gi2 (s_fk b n p x) (s_F b n p)))
set_option maxHeartbeats 40000000 in
theorem c_n_aRule {X : x_Ext} {d : Nat} {sh : List (Nat ⊕ (Nat × Nat))} {gi : Nat → Nat → Int32} {gl : Nat → Nat → Int64} {gr : Nat → Nat → Value} (hI : t_I sh gi gr) (e_p0 : t_R4 (gi 70) (gi 69 25).toInt) (e_p1 : (gi 69 25).toInt ≤ 8 * (gi 69 24).toInt) : x_Me X (d + 8) n_X12_aRule [.ref 69] (sh, gi, gl, gr) (t_PI wl_n_aRule sh gi gl gr 0 1 (Q_n_aRule gi gl gr)) := by
  have hX : t_X wl_n_aRule sh gi gl gr gi gl gr := t_X.rf
  refine me_i f_X12_aRule (hI.wf.s rfl) rfl rfl rfl ?_
  have hI1 := hI
  have hI2 := hI
  have hI3 := hI
  obtain ⟨l4, u4⟩ := hI.b (hI.wf.s (k := 69) rfl) (t_bdK rfl : t_bd 11 25 = some (0, 210))
  obtain ⟨l5, u5⟩ := hI.ab (by decide +kernel : t_abr 70 1403 1403 0 12 = true) (Nat.le_refl _) (Nat.le_refl _)
  refine ev_sp f_X12_aRule (nx := 3) (v := 1500) rfl (by decide) rfl ?_
  refine ev_ic f_X12_aRule (nx := 4) (v := 3) rfl (by decide) rfl ?_
  refine ev_loc f_X12_aRule (nx := 5) rfl rfl rfl rfl ?_
  refine ev_getR f_X12_aRule (nx := 8) rfl (hI.wf.s rfl) rfl rfl (hI.wf.r rfl) rfl rfl ?_
  refine ev_sp f_X12_aRule (nx := 11) (v := 1403) rfl (by decide) rfl ?_
  refine ev_ialdv f_X12_aRule (nx := 12) (w := (gi 70 1403)) rfl (hI.wf.s rfl) (by decide) (rfl : (1403 : Int32).toNatClampNeg = 1403) (by decide) rfl rfl ?_
  refine ev_mulL f_X12_aRule (nx := 13) (c := 3) (l := 0) (u := 36) rfl (by decide) (by decide) l5 u5 rfl rfl (by decide) (by decide) rfl (fun z7 e7 l7 u7 => ?_)
  refine ev_addK f_X12_aRule (nx := 14) (c := 1500) (l := 1500) (u := 1536) rfl (by decide) l7 u7 rfl rfl (by decide) (by decide) rfl (fun z8 e8 l8 u8 => ?_)
  refine ev_loc f_X12_aRule (nx := 15) (lo' := [(1, .int z8), (0, .ref 69)]) rfl rfl rfl rfl ?_
  refine ev_loc f_X12_aRule (nx := 16) rfl rfl rfl rfl ?_
  refine ev_heap f_X12_aRule (nx := 18) rfl rfl rfl rfl ?_
  refine ev_qI0 f_X12_aRule (nx := 21) (r := []) rfl rfl rfl rfl rfl rfl rfl (c_n_inWords hI ) rfl (fun w9 l9 u9 q9 => ?_)
  have q9 : (∀ (b : Nat → Int32) (n q : Nat), t_TM b n q gi → w9.toInt = s_mi (s_W b n q)) ∧ (0 ≤ w9.toInt → (gi 69 12).toInt = 2) := q9
  refine ev_bp f_X12_aRule (nx := 23) (v := 13) rfl (by decide) rfl ?_
  refine ev_if f_X12_aRule (t1 := 32) (t2 := 26) rfl rfl rfl (fun h10 => ?_) (fun h10 => ?_)
  · have u11 : w9.toInt ≤ 13 := t_equ h10 (by decide : (13:Int32).toInt ≤ (13:Int))
    have l12 : 13 ≤ w9.toInt := t_eql h10 (by decide : (13:Int) ≤ (13:Int32).toInt)
    refine ev_loc f_X12_aRule (nx := 33) rfl rfl rfl rfl ?_
    refine ev_getR f_X12_aRule (nx := 36) rfl (hI.wf.s rfl) rfl rfl (hI.wf.r rfl) rfl rfl ?_
    refine ev_sp f_X12_aRule (nx := 39) (v := 1403) rfl (by decide) rfl ?_
    refine ev_ialdv f_X12_aRule (nx := 40) (w := (gi 70 1403)) rfl (hI.wf.s rfl) (by decide) (rfl : (1403 : Int32).toNatClampNeg = 1403) (by decide) rfl rfl ?_
    refine ev_bp f_X12_aRule (nx := 42) (v := 12) rfl (by decide) rfl ?_
    refine ev_if f_X12_aRule (t1 := 45) (t2 := 52) rfl rfl rfl (fun h14 => ?_) (fun h14 => ?_)
    · have l15 : 12 ≤ (gi 70 1403).toInt := t_eql h14 (by decide : (12:Int) ≤ (12:Int32).toInt)
      refine ev_loc f_X12_aRule (nx := 46) rfl rfl rfl rfl ?_
      refine ev_bp f_X12_aRule (nx := 48) (v := 6) rfl (by decide) rfl ?_
      refine ev_qI f_X12_aRule (nx := 51) (r := []) rfl rfl rfl rfl rfl rfl rfl (c_n_fails hI (6) (Int.le_trans (by decide : (2:Int) ≤ 6) (by decide : (6:Int) ≤ (6:Int32).toInt)) (Int.le_trans (by decide : (6:Int32).toInt ≤ (6:Int)) (by decide : (6:Int) ≤ 7))) rfl hX rfl (fun w16 gi16 gl16 gr16 l16 u16 hI hX hC16 q16 => ?_)
      have q16 : (∀ (b : Nat → Int32) (n q : Nat), t_TM b n q gi → (gi 69 18).toInt = 0 → t_MF gi16 (s_fk b n q 6) (s_F b n q)) ∧ w16.toInt = 0 := q16
      exact ev_retZ f_X12_aRule rfl l16 (Int.le_trans u16 (by decide : (0:Int) ≤ 1)) ⟨_, _, _, rfl, hI, hX, ⟨_, rfl, l16, (Int.le_trans u16 (by decide : (0:Int) ≤ 1)), (show (∀ (b : Nat → Int32) (n q c r : Nat), t_TM b n q gi → t_MF gi 0 (-1) → n ≤ 300 → (gi 69 24).toInt = (c : Int) → (gi 70 1403).toInt = (r : Int) → s_K b n q ≠ 0 → (w16.toInt = 1 ∧ ∃ q2 c2 : Nat, (r < 12 ∧ ∀ m, s_rls b n (m + 1) q c r = s_rls b n m q2 c2 (r + 1)) ∧ t_TM b n q2 gi16 ∧ t_MF gi16 0 (-1) ∧ (gi16 69 24).toInt = (c2 : Int) ∧ (gi16 70 1403).toInt = (r : Int) + 1) ∨ (w16.toInt = 0 ∧ ∃ p x, x ≠ 0 ∧ (∀ m, s_rls b n (m + 1) q c r = ((s_qb b n p x).1, 0)) ∧ t_MF gi16 (s_fk b n p x) (s_F b n p))) from (fun b n q c r ht hf hn hc hr hK => (by
                                                            have hk := q9.1 b n _ ht
                                                            have hW : s_W b n q = some 13 := s_mi_i (by decide) (show s_mi (s_W b n q) = 13 by omega)
                                                            exact Or.inr ⟨q16.2, _, 6, by decide, fun m => s_rls_m hK hW (by omega), q16.1 b n _ ht hf.1⟩)))⟩⟩
    · have r17 : (gi 70 1403).toInt ≠ 12 := fun e => h14 (Int32.toInt_inj.mp (e.trans (by decide : (12:Int) = (12 : Int32).toInt)))
      have u18 : (gi 70 1403).toInt ≤ 11 := t_neu h14 u5 rfl rfl
      refine ev_loc f_X12_aRule (nx := 53) rfl rfl rfl rfl ?_
      refine ev_qN f_X12_aRule (nx := 56) (r := []) rfl rfl rfl rfl rfl rfl rfl (c_n_aheadB hI ) rfl hX rfl (fun gi19 gl19 gr19 hI hX hC19 q19 => ?_)
      have q19 : ((gi 69 14).toInt ≤ (gi19 69 14).toInt ∧ ((gi19 69 12).toInt ≠ 0 → (gi 69 14).toInt < (gi19 69 14).toInt) ∧ ((gi19 69 12).toInt = 3 → 0 ≤ (gi19 69 15).toInt)) ∧ (∀ (b : Nat → Int32) (n q : Nat), t_Sm b n q gi → t_TM b n q gi19) := q19
      refine ev_loc f_X12_aRule (nx := 57) rfl rfl rfl rfl ?_
      refine ev_getR f_X12_aRule (nx := 60) rfl (hI.wf.s rfl) rfl rfl (hI.wf.r rfl) rfl rfl ?_
      refine ev_loc f_X12_aRule (nx := 61) rfl rfl rfl rfl ?_
      refine ev_loc f_X12_aRule (nx := 62) rfl rfl rfl rfl ?_
      refine ev_gvI f_X12_aRule (nx := 65) (w := (gi 69 25)) rfl (hI.wf.s rfl) rfl rfl ((hC19.1 69 25 rfl).1.trans rfl) rfl ?_
      refine ev_iastT f_X12_aRule (nx := 66) rfl (hI.wf.s rfl) l8 (by decide) u8 (by decide) rfl (hI.astA (x := (gi 70 1403)) (hI.wf.s rfl) (by decide +kernel : t_abwa 70 1500 3 0 11 0 210 = true) (by omega) (by omega) (by omega) l4 u4 rfl) (hX.upI (t_inR (p := 1500) (m := 1536) rfl l8 (by decide) u8 (by decide) (by decide))) (fun g20 e20 hI hX => ?_)
      refine ev_loc f_X12_aRule (nx := 67) rfl rfl rfl rfl ?_
      refine ev_qI f_X12_aRule (nx := 70) (r := []) rfl rfl rfl rfl rfl rfl rfl (c_n_conditionsB hI  (b := g20 70) (by have ff22 : (g20 69 25).toInt = (gi 69 25).toInt := congrArg Int32.toInt ((by rw [e20]; exact x_up2_off (Or.inl (by decide)) : g20 69 25 = gi19 69 25).trans ((hC19.1 69 25 rfl).1.trans rfl)); have ff23 : (g20 69 24).toInt = (gi 69 24).toInt := congrArg Int32.toInt ((by rw [e20]; exact x_up2_off (Or.inl (by decide)) : g20 69 24 = gi19 69 24).trans ((hC19.1 69 24 rfl).1.trans rfl)); omega) rfl (by have ho := (t_onec (c := 70) (g := gi) (p := 1500 + 3 * (gi 70 1403).toInt.toNat) ((funext (fun j => (hC19.1 70 j rfl).1) : gi19 70 = gi 70)) e20 rfl (by have hc := t_clamp (i := z8) (by omega); omega)); unfold t_lo4; rw [ho.1 1403 (by omega), ho.2]; have ff24 : (g20 69 25).toInt = (gi 69 25).toInt := congrArg Int32.toInt ((by rw [e20]; exact x_up2_off (Or.inl (by decide)) : g20 69 25 = gi19 69 25).trans ((hC19.1 69 25 rfl).1.trans rfl)); omega)) rfl hX rfl (fun w21 gi21 gl21 gr21 l21 u21 hI hX hC21 q21 => ?_)
      have ff25 : (g20 69 24).toInt = (gi 69 24).toInt := congrArg Int32.toInt ((by rw [e20]; exact x_up2_off (Or.inl (by decide)) : g20 69 24 = gi19 69 24).trans ((hC19.1 69 24 rfl).1.trans rfl))
      have q21 : ((g20 69 14).toInt ≤ (gi21 69 14).toInt ∧ (w21.toInt = 1 → (gi21 69 12).toInt ≠ 0 → (g20 69 14).toInt < (gi21 69 14).toInt) ∧ (w21.toInt = 0 → (gi21 69 18).toInt ≠ 0) ∧ (w21.toInt = 1 → (t_em (gi21 70) (t_lo4 (g20 70)) (gi21 69 25).toInt.toNat 1 ∧ (∀ j : Nat, j < 1540 + t_lo4 (g20 70) → gi21 70 j = (g20 70) j) ∧ 0 ≤ (gi21 69 25).toInt ∧ (gi21 69 25).toInt ≤ 8 * (gi21 69 24).toInt))) ∧ ((∀ (b : Nat → Int32) (n q c : Nat), t_TM b n q g20 → t_MF g20 0 (-1) → n ≤ 300 → (g20 69 24).toInt = (c : Int) → (w21.toInt = 1 ∧ ∃ q2 c2 : Nat, s_Cnd b n false q c [] = s_qk q2 c2 ∧ q < q2 ∧ t_TM b n q2 gi21 ∧ t_MF gi21 0 (-1) ∧ (gi21 69 24).toInt = (c2 : Int)) ∨ (w21.toInt = 0 ∧ ∃ p x, x ≠ 0 ∧ s_Cnd b n false q c [] = s_qb b n p x ∧ t_MF gi21 (s_fk b n p x) (s_F b n p)))) := q21
      have hI26 := hI
      have hI27 := hI
      have hI28 := hI
      obtain ⟨l29, u29⟩ := hI.b (hI.wf.s (k := 69) rfl) (t_bdK rfl : t_bd 11 25 = some (0, 210))
      refine ev_if f_X12_aRule (t1 := 73) (t2 := 75) rfl rfl rfl (fun h30 => ?_) (fun h30 => ?_)
      · have u31 : w21.toInt ≤ 0 := t_equ h30 (by decide : (0:Int32).toInt ≤ (0:Int))
        refine ev_ic f_X12_aRule (nx := 74) (v := 0) rfl (by decide) rfl ?_
        exact ev_ret f_X12_aRule rfl rfl rfl ⟨_, _, _, rfl, hI, hX, ⟨_, rfl, (by decide : (0:Int) ≤ (0:Int32).toInt), (Int.le_trans (by decide : (0:Int32).toInt ≤ (0:Int)) (by decide : (0:Int) ≤ 1)), (show (∀ (b : Nat → Int32) (n q c r : Nat), t_TM b n q gi → t_MF gi 0 (-1) → n ≤ 300 → (gi 69 24).toInt = (c : Int) → (gi 70 1403).toInt = (r : Int) → s_K b n q ≠ 0 → ((0 : Int) = 1 ∧ ∃ q2 c2 : Nat, (r < 12 ∧ ∀ m, s_rls b n (m + 1) q c r = s_rls b n m q2 c2 (r + 1)) ∧ t_TM b n q2 gi21 ∧ t_MF gi21 0 (-1) ∧ (gi21 69 24).toInt = (c2 : Int) ∧ (gi21 70 1403).toInt = (r : Int) + 1) ∨ ((0 : Int) = 0 ∧ ∃ p x, x ≠ 0 ∧ (∀ m, s_rls b n (m + 1) q c r = ((s_qb b n p x).1, 0)) ∧ t_MF gi21 (s_fk b n p x) (s_F b n p))) from (fun b n q c r ht hf hn hc hr hK => (by
                                                            have hk := q9.1 b n _ ht
                                                            have hW : s_W b n q = some 13 := s_mi_i (by decide) (show s_mi (s_W b n q) = 13 by omega)
                                                            have hr12 : r ≠ 12 := by omega
                                                            have t1 := (q19.2 b n _ ht.S).fM (t_fM.rf.ux (by decide) e20)
                                                            have f1 := (hf.mf ⟨(hC19.1 69 18 rfl).1, (hC19.1 69 17 rfl).1⟩).fM (t_fM.rf.ux (by decide) e20)
                                                            have c1 : (g20 69 24).toInt = (c : Int) := (congrArg Int32.toInt (by rw [e20, x_up2_ne (by decide), (hC19.1 69 24 rfl).1])).trans hc
                                                            obtain ⟨_, p, x, hx, hX, h2⟩ := (q21.2 b n _ c t1 f1 hn c1).resolve_left (fun hh => absurd hh.1 (by omega))
                                                            exact Or.inr ⟨rfl, p, x, hx, fun m => s_rls_c hK hW hr12 hX hx, h2⟩)))⟩⟩
      · have r32 : w21.toInt ≠ 0 := fun e => h30 (Int32.toInt_inj.mp (e.trans (by decide : (0:Int) = (0 : Int32).toInt)))
        have l33 : 1 ≤ w21.toInt := t_nel h30 l21 rfl rfl
        refine ev_loc f_X12_aRule (nx := 76) rfl rfl rfl rfl ?_
        refine ev_getR f_X12_aRule (nx := 79) rfl (hI.wf.s rfl) rfl rfl (hI.wf.r rfl) rfl rfl ?_
        refine ev_loc f_X12_aRule (nx := 80) rfl rfl rfl rfl ?_
        refine ev_ic f_X12_aRule (nx := 81) (v := 1) rfl (by decide) rfl ?_
        refine ev_addC f_X12_aRule (nx := 82) (c := 1) (l := 1501) (u := 1537) rfl (by decide) l8 u8 rfl rfl (by decide) (by decide) rfl (fun z34 e34 l34 u34 => ?_)
        refine ev_loc f_X12_aRule (nx := 83) rfl rfl rfl rfl ?_
        refine ev_gvI f_X12_aRule (nx := 86) (w := (gi21 69 25)) rfl (hI.wf.s rfl) rfl rfl rfl rfl ?_
        refine ev_iastT f_X12_aRule (nx := 87) rfl (hI.wf.s rfl) l34 (by decide) u34 (by decide) rfl (hI.astA (x := (gi 70 1403)) (hI.wf.s rfl) (by decide +kernel : t_abwa 70 1501 3 0 11 0 210 = true) (by omega) (by omega) (by omega) l29 u29 rfl) (hX.upI (t_inR (p := 1501) (m := 1537) rfl l34 (by decide) u34 (by decide) (by decide))) (fun g35 e35 hI hX => ?_)
        refine ev_loc f_X12_aRule (nx := 88) rfl rfl rfl rfl ?_
        refine ev_heap f_X12_aRule (nx := 90) rfl rfl rfl rfl ?_
        refine ev_bp f_X12_aRule (nx := 92) (v := 14) rfl (by decide) rfl ?_
        refine ev_qI f_X12_aRule (nx := 95) (r := []) rfl rfl rfl rfl rfl rfl rfl (c_n_wantWord hI (14)) rfl hX rfl (fun w36 gi36 gl36 gr36 l36 u36 hI hX hC36 q36 => ?_)
        have q36 : ∀ (b : Nat → Int32) (n q : Nat), t_TM b n q g35 → (w36.toInt = 1 ∧ s_mi (s_W b n q) = 14 ∧ t_TM b n (s_E b n q) gi36 ∧ t_mf g35 gi36) ∨ (w36.toInt = 0 ∧ ¬ s_mi (s_W b n q) = 14 ∧ ((g35 69 18).toInt = 0 → t_MF gi36 (s_fk b n q 2) (s_F b n q))) := q36
        refine ev_if f_X12_aRule (t1 := 98) (t2 := 100) rfl rfl rfl (fun h37 => ?_) (fun h37 => ?_)
        · have u38 : w36.toInt ≤ 0 := t_equ h37 (by decide : (0:Int32).toInt ≤ (0:Int))
          refine ev_ic f_X12_aRule (nx := 99) (v := 0) rfl (by decide) rfl ?_
          exact ev_ret f_X12_aRule rfl rfl rfl ⟨_, _, _, rfl, hI, hX, ⟨_, rfl, (by decide : (0:Int) ≤ (0:Int32).toInt), (Int.le_trans (by decide : (0:Int32).toInt ≤ (0:Int)) (by decide : (0:Int) ≤ 1)), (show (∀ (b : Nat → Int32) (n q c r : Nat), t_TM b n q gi → t_MF gi 0 (-1) → n ≤ 300 → (gi 69 24).toInt = (c : Int) → (gi 70 1403).toInt = (r : Int) → s_K b n q ≠ 0 → ((0 : Int) = 1 ∧ ∃ q2 c2 : Nat, (r < 12 ∧ ∀ m, s_rls b n (m + 1) q c r = s_rls b n m q2 c2 (r + 1)) ∧ t_TM b n q2 gi36 ∧ t_MF gi36 0 (-1) ∧ (gi36 69 24).toInt = (c2 : Int) ∧ (gi36 70 1403).toInt = (r : Int) + 1) ∨ ((0 : Int) = 0 ∧ ∃ p x, x ≠ 0 ∧ (∀ m, s_rls b n (m + 1) q c r = ((s_qb b n p x).1, 0)) ∧ t_MF gi36 (s_fk b n p x) (s_F b n p))) from (fun b n q c r ht hf hn hc hr hK => (by
                                                            have hk := q9.1 b n _ ht
                                                            have hW : s_W b n q = some 13 := s_mi_i (by decide) (show s_mi (s_W b n q) = 13 by omega)
                                                            have hr12 : r ≠ 12 := by omega
                                                            have t1 := (q19.2 b n _ ht.S).fM (t_fM.rf.ux (by decide) e20)
                                                            have f1 := (hf.mf ⟨(hC19.1 69 18 rfl).1, (hC19.1 69 17 rfl).1⟩).fM (t_fM.rf.ux (by decide) e20)
                                                            have c1 : (g20 69 24).toInt = (c : Int) := (congrArg Int32.toInt (by rw [e20, x_up2_ne (by decide), (hC19.1 69 24 rfl).1])).trans hc
                                                            obtain ⟨_, q2, c2, hX, hlt, h2, h3, h4⟩ := (q21.2 b n _ c t1 f1 hn c1).resolve_right (fun hh => absurd hh.1 (by omega))
                                                            have hs := fun m => s_rls_k (m := m) hK hW hr12 hX
                                                            have t2 := h2.fM (t_fM.rf.ux (by decide) e35)
                                                            have f2 := h3.fM (t_fM.rf.ux (by decide) e35)
                                                            obtain ⟨_, hw, hF⟩ := (q36 b n _ t2).resolve_left (fun hh => absurd hh.1 (by omega))
                                                            exact Or.inr ⟨rfl, q2, 2, by decide, fun m => (hs m).trans (s_act_d (fun hh => hw ((s_mi_W (i := 14) (by decide)).mpr hh))), hF f2.1⟩)))⟩⟩
        · have r39 : w36.toInt ≠ 0 := fun e => h37 (Int32.toInt_inj.mp (e.trans (by decide : (0:Int) = (0 : Int32).toInt)))
          have l40 : 1 ≤ w36.toInt := t_nel h37 l36 rfl rfl
          refine ev_loc f_X12_aRule (nx := 101) rfl rfl rfl rfl ?_
          refine ev_heap f_X12_aRule (nx := 103) rfl rfl rfl rfl ?_
          refine ev_qI0 f_X12_aRule (nx := 106) (r := []) rfl rfl rfl rfl rfl rfl rfl (c_n_inWords hI ) rfl (fun w41 l41 u41 q41 => ?_)
          have q41 : (∀ (b : Nat → Int32) (n q : Nat), t_TM b n q gi36 → w41.toInt = s_mi (s_W b n q)) ∧ (0 ≤ w41.toInt → (gi36 69 12).toInt = 2) := q41
          refine ev_loc f_X12_aRule (nx := 107) (lo' := [(2, .int w41), (1, .int z8), (0, .ref 69)]) rfl rfl rfl rfl ?_
          refine ev_loc f_X12_aRule (nx := 108) rfl rfl rfl rfl ?_
          refine ev_bp f_X12_aRule (nx := 110) (v := 15) rfl (by decide) rfl ?_
          refine ev_if f_X12_aRule (t1 := 119) (t2 := 113) rfl rfl rfl (fun h42 => ?_) (fun h42 => ?_)
          · have u43 : w41.toInt ≤ 14 := t_ltu h42 (by decide : (15:Int32).toInt ≤ (15:Int)) rfl
            refine ev_loc f_X12_aRule (nx := 120) rfl rfl rfl rfl ?_
            refine ev_ic f_X12_aRule (nx := 121) (v := 2) rfl (by decide) rfl ?_
            refine ev_qI f_X12_aRule (nx := 124) (r := []) rfl rfl rfl rfl rfl rfl rfl (c_n_fails hI (2) (by decide : (2:Int) ≤ (2:Int32).toInt) (Int.le_trans (by decide : (2:Int32).toInt ≤ (2:Int)) (by decide : (2:Int) ≤ 7))) rfl hX rfl (fun w44 gi44 gl44 gr44 l44 u44 hI hX hC44 q44 => ?_)
            have q44 : (∀ (b : Nat → Int32) (n q : Nat), t_TM b n q gi36 → (gi36 69 18).toInt = 0 → t_MF gi44 (s_fk b n q 2) (s_F b n q)) ∧ w44.toInt = 0 := q44
            exact ev_retZ f_X12_aRule rfl l44 (Int.le_trans u44 (by decide : (0:Int) ≤ 1)) ⟨_, _, _, rfl, hI, hX, ⟨_, rfl, l44, (Int.le_trans u44 (by decide : (0:Int) ≤ 1)), (show (∀ (b : Nat → Int32) (n q c r : Nat), t_TM b n q gi → t_MF gi 0 (-1) → n ≤ 300 → (gi 69 24).toInt = (c : Int) → (gi 70 1403).toInt = (r : Int) → s_K b n q ≠ 0 → (w44.toInt = 1 ∧ ∃ q2 c2 : Nat, (r < 12 ∧ ∀ m, s_rls b n (m + 1) q c r = s_rls b n m q2 c2 (r + 1)) ∧ t_TM b n q2 gi44 ∧ t_MF gi44 0 (-1) ∧ (gi44 69 24).toInt = (c2 : Int) ∧ (gi44 70 1403).toInt = (r : Int) + 1) ∨ (w44.toInt = 0 ∧ ∃ p x, x ≠ 0 ∧ (∀ m, s_rls b n (m + 1) q c r = ((s_qb b n p x).1, 0)) ∧ t_MF gi44 (s_fk b n p x) (s_F b n p))) from (fun b n q c r ht hf hn hc hr hK => (by
                                                            have hk := q9.1 b n _ ht
                                                            have hW : s_W b n q = some 13 := s_mi_i (by decide) (show s_mi (s_W b n q) = 13 by omega)
                                                            have hr12 : r ≠ 12 := by omega
                                                            have t1 := (q19.2 b n _ ht.S).fM (t_fM.rf.ux (by decide) e20)
                                                            have f1 := (hf.mf ⟨(hC19.1 69 18 rfl).1, (hC19.1 69 17 rfl).1⟩).fM (t_fM.rf.ux (by decide) e20)
                                                            have c1 : (g20 69 24).toInt = (c : Int) := (congrArg Int32.toInt (by rw [e20, x_up2_ne (by decide), (hC19.1 69 24 rfl).1])).trans hc
                                                            obtain ⟨_, q2, c2, hX, hlt, h2, h3, h4⟩ := (q21.2 b n _ c t1 f1 hn c1).resolve_right (fun hh => absurd hh.1 (by omega))
                                                            have hs := fun m => s_rls_k (m := m) hK hW hr12 hX
                                                            have t2 := h2.fM (t_fM.rf.ux (by decide) e35)
                                                            have f2 := h3.fM (t_fM.rf.ux (by decide) e35)
                                                            obtain ⟨_, hw, t3, m3⟩ := (q36 b n _ t2).resolve_right (fun hh => absurd hh.1 (by omega))
                                                            have hD : s_W b n q2 = some 14 := (s_mi_W (i := 14) (by decide)).mp hw
                                                            have f3 := f2.mf m3
                                                            have hk2 := q41.1 b n _ t3
                                                            exact Or.inr ⟨q44.2, _, 2, by decide, fun m => (hs m).trans (s_act_a hD (fun hh => by have := s_act_mi.mp hh; omega)), q44.1 b n _ t3 f3.1⟩)))⟩⟩
          · have l45 : 15 ≤ w41.toInt := t_lel (t_nlt h42) (by decide : (15:Int) ≤ (15:Int32).toInt)
            refine ev_loc f_X12_aRule (nx := 114) rfl rfl rfl rfl ?_
            refine ev_bp f_X12_aRule (nx := 116) (v := 17) rfl (by decide) rfl ?_
            refine ev_if f_X12_aRule (t1 := 125) (t2 := 119) rfl rfl rfl (fun h46 => ?_) (fun h46 => ?_)
            · have u47 : w41.toInt ≤ 17 := t_leu h46 (by decide : (17:Int32).toInt ≤ (17:Int))
              refine ev_loc f_X12_aRule (nx := 126) rfl rfl rfl rfl ?_
              refine ev_getR f_X12_aRule (nx := 129) rfl (hI.wf.s rfl) rfl rfl (hI.wf.r rfl) rfl rfl ?_
              refine ev_loc f_X12_aRule (nx := 130) rfl rfl rfl rfl ?_
              refine ev_ic f_X12_aRule (nx := 131) (v := 2) rfl (by decide) rfl ?_
              refine ev_addC f_X12_aRule (nx := 132) (c := 2) (l := 1502) (u := 1538) rfl (by decide) l8 u8 rfl rfl (by decide) (by decide) rfl (fun z48 e48 l48 u48 => ?_)
              refine ev_loc f_X12_aRule (nx := 133) rfl rfl rfl rfl ?_
              refine ev_iastT f_X12_aRule (nx := 134) rfl (hI.wf.s rfl) l48 (by decide) u48 (by decide) rfl (hI.astA (x := (gi 70 1403)) (hI.wf.s rfl) (by decide +kernel : t_abwa 70 1502 3 0 11 15 17 = true) (by omega) (by omega) (by omega) l45 u47 rfl) (hX.upI (t_inR (p := 1502) (m := 1538) rfl l48 (by decide) u48 (by decide) (by decide))) (fun g49 e49 hI hX => ?_)
              refine ev_loc f_X12_aRule (nx := 135) rfl rfl rfl rfl ?_
              refine ev_qN f_X12_aRule (nx := 138) (r := []) rfl rfl rfl rfl rfl rfl rfl (c_n_aheadB hI ) rfl hX rfl (fun gi50 gl50 gr50 hI hX hC50 q50 => ?_)
              have q50 : ((g49 69 14).toInt ≤ (gi50 69 14).toInt ∧ ((gi50 69 12).toInt ≠ 0 → (g49 69 14).toInt < (gi50 69 14).toInt) ∧ ((gi50 69 12).toInt = 3 → 0 ≤ (gi50 69 15).toInt)) ∧ (∀ (b : Nat → Int32) (n q : Nat), t_Sm b n q g49 → t_TM b n q gi50) := q50
              refine ev_loc f_X12_aRule (nx := 139) rfl rfl rfl rfl ?_
              refine ev_getR f_X12_aRule (nx := 142) rfl (hI.wf.s rfl) rfl rfl (hI.wf.r rfl) rfl rfl ?_
              refine ev_sp f_X12_aRule (nx := 145) (v := 1403) rfl (by decide) rfl ?_
              refine ev_alu f_X12_aRule (nx := 146) rfl rfl rfl rfl ?_
              refine ev_ialdv f_X12_aRule (nx := 147) (w := (gi 70 1403)) rfl (hI.wf.s rfl) (by decide) (rfl : (1403 : Int32).toNatClampNeg = 1403) (by decide) ((hC50.1 70 1403 rfl).1.trans ((by rw [e49]; exact x_up2_off (Or.inr (t_neCl l48 (by decide))) : g49 70 1403 = gi36 70 1403).trans ((hC36.1 70 1403 rfl).1.trans ((by rw [e35]; exact x_up2_off (Or.inr (t_neCl l34 (by decide))) : g35 70 1403 = gi21 70 1403).trans ((hC21.1 70 1403 rfl).1.trans ((by rw [e20]; exact x_up2_off (Or.inr (t_neCl l8 (by decide))) : g20 70 1403 = gi19 70 1403).trans ((hC19.1 70 1403 rfl).1.trans rfl))))))) rfl ?_
              refine ev_ic f_X12_aRule (nx := 148) (v := 1) rfl (by decide) rfl ?_
              refine ev_addC f_X12_aRule (nx := 149) (c := 1) (l := 1) (u := 12) rfl (by decide) l5 u18 rfl rfl (by decide) (by decide) rfl (fun z52 e52 l52 u52 => ?_)
              refine ev_iastT f_X12_aRule (nx := 150) rfl (hI.wf.s rfl) (by decide : (1403:Int) ≤ (1403:Int32).toInt) (by decide) (by decide : (1403:Int32).toInt ≤ (1403:Int)) (by decide) rfl (hI.astL (hI.wf.s rfl) (by decide +kernel : t_abw 70 1403 1403 1 12 = true) (t_cl1 (by decide : (1403:Int) ≤ (1403:Int32).toInt) (by decide)) (t_cl2 (by decide : (1403:Int) ≤ (1403:Int32).toInt) (by decide : (1403:Int32).toInt ≤ (1403:Int)) (by decide) (by decide)) l52 u52 rfl) (hX.upI (t_inR (p := 1403) (m := 1403) rfl (by decide : (1403:Int) ≤ (1403:Int32).toInt) (by decide) (by decide : (1403:Int32).toInt ≤ (1403:Int)) (by decide) (by decide))) (fun g53 e53 hI hX => ?_)
              refine ev_loc f_X12_aRule (nx := 151) rfl rfl rfl rfl ?_
              refine ev_bp f_X12_aRule (nx := 153) (v := 59) rfl (by decide) rfl ?_
              refine ev_qI f_X12_aRule (nx := 156) (r := []) rfl rfl rfl rfl rfl rfl rfl (c_n_wantSign hI (59)) rfl hX rfl (fun w54 gi54 gl54 gr54 l54 u54 hI hX hC54 q54 => ?_)
              have q54 : ∀ (b : Nat → Int32) (n q : Nat), t_TM b n q g53 → (w54.toInt = 1 ∧ s_isS b n q 59 ∧ t_TM b n (s_E b n q) gi54 ∧ t_mf g53 gi54) ∨ (w54.toInt = 0 ∧ ¬ s_isS b n q 59 ∧ ((g53 69 18).toInt = 0 → t_MF gi54 (s_fk b n q 2) (s_F b n q))) := q54
              exact ev_retZ f_X12_aRule rfl l54 u54 ⟨_, _, _, rfl, hI, hX, ⟨_, rfl, l54, u54, (show (∀ (b : Nat → Int32) (n q c r : Nat), t_TM b n q gi → t_MF gi 0 (-1) → n ≤ 300 → (gi 69 24).toInt = (c : Int) → (gi 70 1403).toInt = (r : Int) → s_K b n q ≠ 0 → (w54.toInt = 1 ∧ ∃ q2 c2 : Nat, (r < 12 ∧ ∀ m, s_rls b n (m + 1) q c r = s_rls b n m q2 c2 (r + 1)) ∧ t_TM b n q2 gi54 ∧ t_MF gi54 0 (-1) ∧ (gi54 69 24).toInt = (c2 : Int) ∧ (gi54 70 1403).toInt = (r : Int) + 1) ∨ (w54.toInt = 0 ∧ ∃ p x, x ≠ 0 ∧ (∀ m, s_rls b n (m + 1) q c r = ((s_qb b n p x).1, 0)) ∧ t_MF gi54 (s_fk b n p x) (s_F b n p))) from (fun b n q c r ht hf hn hc hr hK => (by
                                                            have hk := q9.1 b n _ ht
                                                            have hW : s_W b n q = some 13 := s_mi_i (by decide) (show s_mi (s_W b n q) = 13 by omega)
                                                            have hr12 : r ≠ 12 := by omega
                                                            have t1 := (q19.2 b n _ ht.S).fM (t_fM.rf.ux (by decide) e20)
                                                            have f1 := (hf.mf ⟨(hC19.1 69 18 rfl).1, (hC19.1 69 17 rfl).1⟩).fM (t_fM.rf.ux (by decide) e20)
                                                            have c1 : (g20 69 24).toInt = (c : Int) := (congrArg Int32.toInt (by rw [e20, x_up2_ne (by decide), (hC19.1 69 24 rfl).1])).trans hc
                                                            obtain ⟨_, q2, c2, hX, hlt, h2, h3, h4⟩ := (q21.2 b n _ c t1 f1 hn c1).resolve_right (fun hh => absurd hh.1 (by omega))
                                                            have hs := fun m => s_rls_k (m := m) hK hW hr12 hX
                                                            have t2 := h2.fM (t_fM.rf.ux (by decide) e35)
                                                            have f2 := h3.fM (t_fM.rf.ux (by decide) e35)
                                                            obtain ⟨_, hw, t3, m3⟩ := (q36 b n _ t2).resolve_right (fun hh => absurd hh.1 (by omega))
                                                            have hD : s_W b n q2 = some 14 := (s_mi_W (i := 14) (by decide)).mp hw
                                                            have f3 := f2.mf m3
                                                            have hk2 := q41.1 b n _ t3
                                                            have hA := s_act_mi.mpr (show 15 ≤ s_mi (s_W b n (s_E b n q2)) ∧ s_mi (s_W b n (s_E b n q2)) ≤ 17 by omega)
                                                            have t4 := (q50.2 b n _ (t3.fM (t_fM.rf.ux (by decide) e49)).S).fM (t_fM.rf.ux (by decide) e53)
                                                            have f4 := ((f3.fM (t_fM.rf.ux (by decide) e49)).mf ⟨(hC50.1 69 18 rfl).1, (hC50.1 69 17 rfl).1⟩).fM (t_fM.rf.ux (by decide) e53)
                                                            rcases q54 b n _ t4 with ⟨hv, hS, t5, m5⟩ | ⟨hv, hS, hF⟩
                                                            · exact Or.inl ⟨hv, _, c2, ⟨by omega, fun m => (hs m).trans (s_act_k hD hA hS)⟩, t5, f4.mf m5, (congrArg Int32.toInt (by rw [(hC54.1 69 24 rfl).1, e53, x_up2_ne (by decide), (hC50.1 69 24 rfl).1, e49, x_up2_ne (by decide), (hC36.1 69 24 rfl).1, e35, x_up2_ne (by decide)])).trans h4, (congrArg Int32.toInt ((hC54.1 70 1403 rfl).1.trans ((congrFun (congrFun e53 70) 1403).trans (x_up2_at _ _ _ _)))).trans (by omega)⟩
                                                            · exact Or.inr ⟨hv, _, 2, by decide, fun m => (hs m).trans (s_act_s hD hA hS), hF f4.1⟩)))⟩⟩
            · have l55 : 18 ≤ w41.toInt := t_ltl (t_nle h46) (by decide : (17:Int) ≤ (17:Int32).toInt) rfl
              refine ev_loc f_X12_aRule (nx := 120) rfl rfl rfl rfl ?_
              refine ev_ic f_X12_aRule (nx := 121) (v := 2) rfl (by decide) rfl ?_
              refine ev_qI f_X12_aRule (nx := 124) (r := []) rfl rfl rfl rfl rfl rfl rfl (c_n_fails hI (2) (by decide : (2:Int) ≤ (2:Int32).toInt) (Int.le_trans (by decide : (2:Int32).toInt ≤ (2:Int)) (by decide : (2:Int) ≤ 7))) rfl hX rfl (fun w56 gi56 gl56 gr56 l56 u56 hI hX hC56 q56 => ?_)
              have q56 : (∀ (b : Nat → Int32) (n q : Nat), t_TM b n q gi36 → (gi36 69 18).toInt = 0 → t_MF gi56 (s_fk b n q 2) (s_F b n q)) ∧ w56.toInt = 0 := q56
              exact ev_retZ f_X12_aRule rfl l56 (Int.le_trans u56 (by decide : (0:Int) ≤ 1)) ⟨_, _, _, rfl, hI, hX, ⟨_, rfl, l56, (Int.le_trans u56 (by decide : (0:Int) ≤ 1)), (show (∀ (b : Nat → Int32) (n q c r : Nat), t_TM b n q gi → t_MF gi 0 (-1) → n ≤ 300 → (gi 69 24).toInt = (c : Int) → (gi 70 1403).toInt = (r : Int) → s_K b n q ≠ 0 → (w56.toInt = 1 ∧ ∃ q2 c2 : Nat, (r < 12 ∧ ∀ m, s_rls b n (m + 1) q c r = s_rls b n m q2 c2 (r + 1)) ∧ t_TM b n q2 gi56 ∧ t_MF gi56 0 (-1) ∧ (gi56 69 24).toInt = (c2 : Int) ∧ (gi56 70 1403).toInt = (r : Int) + 1) ∨ (w56.toInt = 0 ∧ ∃ p x, x ≠ 0 ∧ (∀ m, s_rls b n (m + 1) q c r = ((s_qb b n p x).1, 0)) ∧ t_MF gi56 (s_fk b n p x) (s_F b n p))) from (fun b n q c r ht hf hn hc hr hK => (by
                                                            have hk := q9.1 b n _ ht
                                                            have hW : s_W b n q = some 13 := s_mi_i (by decide) (show s_mi (s_W b n q) = 13 by omega)
                                                            have hr12 : r ≠ 12 := by omega
                                                            have t1 := (q19.2 b n _ ht.S).fM (t_fM.rf.ux (by decide) e20)
                                                            have f1 := (hf.mf ⟨(hC19.1 69 18 rfl).1, (hC19.1 69 17 rfl).1⟩).fM (t_fM.rf.ux (by decide) e20)
                                                            have c1 : (g20 69 24).toInt = (c : Int) := (congrArg Int32.toInt (by rw [e20, x_up2_ne (by decide), (hC19.1 69 24 rfl).1])).trans hc
                                                            obtain ⟨_, q2, c2, hX, hlt, h2, h3, h4⟩ := (q21.2 b n _ c t1 f1 hn c1).resolve_right (fun hh => absurd hh.1 (by omega))
                                                            have hs := fun m => s_rls_k (m := m) hK hW hr12 hX
                                                            have t2 := h2.fM (t_fM.rf.ux (by decide) e35)
                                                            have f2 := h3.fM (t_fM.rf.ux (by decide) e35)
                                                            obtain ⟨_, hw, t3, m3⟩ := (q36 b n _ t2).resolve_right (fun hh => absurd hh.1 (by omega))
                                                            have hD : s_W b n q2 = some 14 := (s_mi_W (i := 14) (by decide)).mp hw
                                                            have f3 := f2.mf m3
                                                            have hk2 := q41.1 b n _ t3
                                                            exact Or.inr ⟨q56.2, _, 2, by decide, fun m => (hs m).trans (s_act_a hD (fun hh => by have := s_act_mi.mp hh; omega)), q56.1 b n _ t3 f3.1⟩)))⟩⟩
  · have r57 : w9.toInt ≠ 13 := fun e => h10 (Int32.toInt_inj.mp (e.trans (by decide : (13:Int) = (13 : Int32).toInt)))
    refine ev_loc f_X12_aRule (nx := 27) rfl rfl rfl rfl ?_
    refine ev_ic f_X12_aRule (nx := 28) (v := 2) rfl (by decide) rfl ?_
    refine ev_qI f_X12_aRule (nx := 31) (r := []) rfl rfl rfl rfl rfl rfl rfl (c_n_fails hI (2) (by decide : (2:Int) ≤ (2:Int32).toInt) (Int.le_trans (by decide : (2:Int32).toInt ≤ (2:Int)) (by decide : (2:Int) ≤ 7))) rfl hX rfl (fun w58 gi58 gl58 gr58 l58 u58 hI hX hC58 q58 => ?_)
    have q58 : (∀ (b : Nat → Int32) (n q : Nat), t_TM b n q gi → (gi 69 18).toInt = 0 → t_MF gi58 (s_fk b n q 2) (s_F b n q)) ∧ w58.toInt = 0 := q58
    exact ev_retZ f_X12_aRule rfl l58 (Int.le_trans u58 (by decide : (0:Int) ≤ 1)) ⟨_, _, _, rfl, hI, hX, ⟨_, rfl, l58, (Int.le_trans u58 (by decide : (0:Int) ≤ 1)), (show (∀ (b : Nat → Int32) (n q c r : Nat), t_TM b n q gi → t_MF gi 0 (-1) → n ≤ 300 → (gi 69 24).toInt = (c : Int) → (gi 70 1403).toInt = (r : Int) → s_K b n q ≠ 0 → (w58.toInt = 1 ∧ ∃ q2 c2 : Nat, (r < 12 ∧ ∀ m, s_rls b n (m + 1) q c r = s_rls b n m q2 c2 (r + 1)) ∧ t_TM b n q2 gi58 ∧ t_MF gi58 0 (-1) ∧ (gi58 69 24).toInt = (c2 : Int) ∧ (gi58 70 1403).toInt = (r : Int) + 1) ∨ (w58.toInt = 0 ∧ ∃ p x, x ≠ 0 ∧ (∀ m, s_rls b n (m + 1) q c r = ((s_qb b n p x).1, 0)) ∧ t_MF gi58 (s_fk b n p x) (s_F b n p))) from (fun b n q c r ht hf hn hc hr hK => (by
                                                            have hk := q9.1 b n _ ht
                                                            exact Or.inr ⟨q58.2, _, 2, by decide, fun m => s_rls_i hK (fun hh => by have h1 := (s_mi_W (i := 13) (by decide)).mpr hh; have h2 : s_mil.getD 13 0 = 13 := rfl; omega), q58.1 b n _ ht hf.1⟩)))⟩⟩
noncomputable def Q_n_aRuleB (gi : Nat → Nat → Int32) (gl : Nat → Nat → Int64) (gr : Nat → Nat → Value) : Int32 → (Nat → Nat → Int32) → (Nat → Nat → Int64) → (Nat → Nat → Value) → Prop := fun (v : Int32) (gi2 : Nat → Nat → Int32) (gl2 : Nat → Nat → Int64) (gr2 : Nat → Nat → Value) => ((gi 69 14).toInt ≤ (gi2 69 14).toInt ∧ (v.toInt = 1 → (gi2 69 12).toInt ≠ 0 → (gi 69 14).toInt < (gi2 69 14).toInt) ∧ (v.toInt = 0 → (gi2 69 18).toInt ≠ 0) ∧ (v.toInt = 1 → (t_R4 (gi2 70) (gi2 69 25).toInt ∧ (gi2 69 25).toInt ≤ 8 * (gi2 69 24).toInt))) ∧ ((∀ (b : Nat → Int32) (n q c r : Nat), t_TM b n q gi → t_MF gi 0 (-1) → n ≤ 300 → (gi 69 24).toInt = (c : Int) → (gi 70 1403).toInt = (r : Int) → s_K b n q ≠ 0 → (v.toInt = 1 ∧ ∃ q2 c2 : Nat, (r < 12 ∧ ∀ m, s_rls b n (m + 1) q c r = s_rls b n m q2 c2 (r + 1)) ∧ t_TM b n q2 gi2 ∧ t_MF gi2 0 (-1) ∧ (gi2 69 24).toInt = (c2 : Int) ∧ (gi2 70 1403).toInt = (r : Int) + 1) ∨ (v.toInt = 0 ∧ ∃ p x, x ≠ 0 ∧ (∀ m, s_rls b n (m + 1) q c r = ((s_qb b n p x).1, 0)) ∧ t_MF gi2 (s_fk b n p x) (s_F b n p))))
theorem c_n_aRuleB {X : x_Ext} {d : Nat} {sh : List (Nat ⊕ (Nat × Nat))} {gi : Nat → Nat → Int32} {gl : Nat → Nat → Int64} {gr : Nat → Nat → Value} (hI : t_I sh gi gr) (e_p0 : t_R4 (gi 70) (gi 69 25).toInt) (e_p1 : (gi 69 25).toInt ≤ 8 * (gi 69 24).toInt) : x_Me X (d + 8) n_X12_aRule [.ref 69] (sh, gi, gl, gr) (t_PI wl_m_aRule sh gi gl gr 0 1 (Q_n_aRuleB gi gl gr)) := by
  refine ((x_Me.up (c_m_aRule (X := X) (d := d) (gl := gl) hI e_p0 e_p1) (by omega)).and (x_Me.up (c_n_aRule (X := X) (d := d) (gl := gl) hI e_p0 e_p1) (by omega))).mono ?_
  rintro v G' ⟨⟨g1, l1, r1, rfl, k1, k2, x, rfl, k3, k4, k5⟩, g2, l2, r2, e, _, _, x2, e2, _, _, q⟩
  cases e; cases e2
  exact ⟨g1, l1, r1, rfl, k1, k2, x, rfl, k3, k4, k5, q⟩
/-! ===== the other side's RULES, one by one ===== -/
/-- so far: the RULES read, or the FAULT -/
noncomputable def t_UR (b : Nat → Int32) (n : Nat) (v : Int32) (gi : Nat → Nat → Int32) : Prop := (v.toInt = 1 ∧ ∃ q c r : Nat, s_rls b n 301 0 0 0 = s_rls b n (301 - r) q c r ∧ r ≤ 12 ∧ n ≤ 300 ∧ t_TM b n q gi ∧ t_MF gi 0 (-1) ∧ (gi 69 24).toInt = (c : Int) ∧ (gi 70 1403).toInt = (r : Int)) ∨ (v.toInt = 0 ∧ ∃ p x, x ≠ 0 ∧ s_rls b n 301 0 0 0 = ((s_qb b n p x).1, 0) ∧ t_MF gi (s_fk b n p x) (s_F b n p))
/-- all are read -/
noncomputable def t_UV (b : Nat → Int32) (n : Nat) (gi : Nat → Nat → Int32) : Prop := ∃ r : Nat, s_rls b n 301 0 0 0 = ((0, 0), r) ∧ t_MF gi 0 (-1) ∧ (gi 70 3).toInt = (r : Int)
section TUR
variable {b : Nat → Int32} {n : Nat} {v w : Int32} {gi g1 : Nat → Nat → Int32}
theorem t_UR_s (h : t_UR b n v gi) (hv : v.toInt ≠ 0) (h12 : (gi 69 12).toInt ≠ 0) (hq : ∀ q c r : Nat, t_TM b n q gi → t_MF gi 0 (-1) → n ≤ 300 → (gi 69 24).toInt = (c : Int) → (gi 70 1403).toInt = (r : Int) → s_K b n q ≠ 0 → (w.toInt = 1 ∧ ∃ q2 c2 : Nat, (r < 12 ∧ ∀ m, s_rls b n (m + 1) q c r = s_rls b n m q2 c2 (r + 1)) ∧ t_TM b n q2 g1 ∧ t_MF g1 0 (-1) ∧ (g1 69 24).toInt = (c2 : Int) ∧ (g1 70 1403).toInt = (r : Int) + 1) ∨ (w.toInt = 0 ∧ ∃ p x, x ≠ 0 ∧ (∀ m, s_rls b n (m + 1) q c r = ((s_qb b n p x).1, 0)) ∧ t_MF g1 (s_fk b n p x) (s_F b n p))) : t_UR b n w g1 := by
  rcases h with ⟨h1, q, c, r, e, hr, hn, ht, hf, hc, h3⟩ | ⟨h1, _⟩
  · have hK : s_K b n q ≠ 0 := by have := ht.2.2.2.1; omega
    have e2 : 301 - r = (301 - (r + 1)) + 1 := by omega
    rw [e2] at e
    rcases hq q c r ht hf hn hc h3 hK with ⟨a, q2, c2, ⟨hr2, hs⟩, b1, b2, b3, b4⟩ | ⟨a, p, x, hx, hs, hm⟩
    · exact Or.inl ⟨a, q2, c2, r + 1, e.trans (hs _), by omega, hn, b1, b2, b3, by rw [b4]; omega⟩
    · exact Or.inr ⟨a, p, x, hx, e.trans (hs _), hm⟩
  · exact absurd h1 hv
theorem t_UV_0 (h : t_UR b n v gi) (h18 : (gi 69 18).toInt = 0) (hx : v.toInt = 0 ∨ (gi 69 12).toInt = 0) (f : t_fM gi g1) (e3 : g1 70 3 = w) (hw : w.toInt = (gi 70 1403).toInt) : t_UV b n g1 := by
  rcases h with ⟨h1, q, c, r, e, hr, hn, ht, hf, hc, h3⟩ | ⟨h1, p, x, hx2, e, hm⟩
  · have h12 := ht.2.2.2.1
    rw [show 301 - r = (300 - r) + 1 by omega] at e
    exact ⟨r, e.trans (s_rls_e (by omega)), hf.fM f, by rw [e3, hw]; exact h3⟩
  · exact absurd (hm.1.symm.trans h18) (s_fk_ne hx2)
theorem t_UV.eq (h : t_UV b n gi) (f : t_fM gi g1) (e : g1 70 3 = gi 70 3) : t_UV b n g1 := by
  obtain ⟨r, h1, h2, h3⟩ := h
  exact ⟨r, h1, h2.fM f, by rw [e]; exact h3⟩
end TUR
/-! ===== no kind below 0 ===== -/
section SPQ
variable {b : Nat → Int32} {n p : Nat} {x : Int}
theorem s_fk_nn (hx : 0 ≤ x) : 0 ≤ s_fk b n p x := by unfold s_fk; split <;> omega
theorem s_ifq_nn {c : Prop} {y z : s_Q} (hy : 0 ≤ y.1.1) (hz : 0 ≤ z.1.1) : 0 ≤ (s_if c y z).1.1 := by
  by_cases h : c
  · rw [s_ifT h]; exact hy
  · rw [s_ifF h]; exact hz
theorem s_ifa_nn {c : Prop} {y z : (Int × Int) × Nat} (hy : 0 ≤ y.1.1) (hz : 0 ≤ z.1.1) : 0 ≤ (s_if c y z).1.1 := by
  by_cases h : c
  · rw [s_ifT h]; exact hy
  · rw [s_ifF h]; exact hz
theorem s_qb_nn (hx : 0 ≤ x) : 0 ≤ (s_qb b n p x).1.1 := s_fk_nn hx
theorem s_cse_nn {k : Nat → s_Q} (hk : ∀ q, 0 ≤ (k q).1.1) : 0 ≤ (s_cse b n p k).1.1 := by
  unfold s_cse
  exact s_ifq_nn (hk _) (s_ifq_nn (s_ifq_nn (s_ifq_nn (hk _) (s_qb_nn (by decide))) (s_qb_nn (by decide))) (s_qb_nn (by decide)))
theorem s_cnd_nn : ∀ (m : Nat) (a : Bool) (p c : Nat) (T : List Int), 0 ≤ (s_cnd b n m a p c T).1.1
  | 0, _, _, _, _ => Int.le_refl 0
  | m + 1, false, p, c, T => by
    rw [s_cnd_f]
    exact s_ifq_nn (s_ifq_nn (s_qb_nn (by decide)) (s_cnd_nn m _ _ _ _)) (s_ifq_nn (s_ifq_nn (s_qb_nn (by decide)) (s_ifq_nn (s_qb_nn (by decide)) (s_cse_nn fun q => s_cnd_nn m _ _ _ _))) (s_qb_nn (by decide)))
  | m + 1, true, p, c, T => by
    rw [s_cnd_t]
    exact s_ifq_nn (s_cnd_nn m _ _ _ _) (s_ifq_nn (s_cnd_nn m _ _ _ _) (s_ifq_nn (s_qb_nn (by decide)) (Int.le_refl 0)))
theorem s_act_nn {k : Nat → (Int × Int) × Nat} (hk : ∀ q, 0 ≤ (k q).1.1) : 0 ≤ (s_act b n p k).1.1 := by
  unfold s_act
  exact s_ifa_nn (s_ifa_nn (s_ifa_nn (hk _) (s_qb_nn (by decide))) (s_qb_nn (by decide))) (s_qb_nn (by decide))
theorem s_rls_nn : ∀ (m p c r : Nat), 0 ≤ (s_rls b n m p c r).1.1
  | 0, _, _, _ => Int.le_refl 0
  | m + 1, p, c, r => by
    unfold s_rls
    exact s_ifa_nn (Int.le_refl 0) (s_ifa_nn (s_ifa_nn (s_qb_nn (by decide)) (s_ifa_nn (s_act_nn fun q => s_rls_nn m _ _ _) (s_cnd_nn _ _ _ _ _))) (s_qb_nn (by decide)))
theorem s_rls_bn {m c r : Nat} {q : Nat} {z : Int} (e : s_rls b n m q c r = ((s_qb b n p z).1, 0)) : 0 ≤ s_fk b n p z := by
  have h := s_rls_nn (b := b) (n := n) m q c r
  rw [e] at h; exact h
end SPQ
/-! ===== printed by riv.py: rules() of the other side ===== -/
noncomputable def wl_n_rules : List (Nat × Nat) := [(69, 2), (69, 10), (69, 11), (69, 12), (69, 13), (69, 14), (69, 15), (69, 16), (69, 17), (69, 18), (69, 19), (69, 22), (69, 23), (69, 24), (69, 25), (70, 310003), (70, 810008), (70, 10010349), (70, 140311403), (70, 150011536), (70, 150111537), (70, 150211538), (70, 154011750), (76, 9999), (77, 9999)]
noncomputable def Q_n_rules (gi : Nat → Nat → Int32) (gl : Nat → Nat → Int64) (gr : Nat → Nat → Value) (ar1 : Int32) : Int32 → (Nat → Nat → Int32) → (Nat → Nat → Int64) → (Nat → Nat → Value) → Prop := fun (v : Int32) (gi2 : Nat → Nat → Int32) (gl2 : Nat → Nat → Int64) (gr2 : Nat → Nat → Value) => ((0 ≤ ar1.toInt ∧ ar1.toInt ≤ (gi 69 10).toInt ∧ ar1.toInt ≤ 300) → ∀ (b : Nat → Int32) (n : Nat), (n : Int) = ar1.toInt → (∀ j : Nat, j < n → gi 75 j = b j) → t_by b n → (∃ r : Nat, s_rls b n 301 0 0 0 = ((0, 0), r) ∧ v.toInt = (r : Int) ∧ (gi2 70 3).toInt = (r : Int) ∧ (gi2 69 16).toInt = 0 ∧ (gi2 69 17).toInt = -1 ∧ (gi2 70 8).toInt = 1) ∨ (∃ p x, x ≠ 0 ∧ s_rls b n 301 0 0 0 = ((s_qb b n p x).1, 0) ∧ v.toInt = -1 ∧ (gi2 69 16).toInt = s_fk b n p x ∧ (gi2 69 17).toInt = (s_F b n p : Nat) ∧ gi2 70 3 = gi 70 3 ∧ gi2 70 8 = gi 70 8)) ∧ (¬ (0 ≤ ar1.toInt ∧ ar1.toInt ≤ (gi 69 10).toInt ∧ ar1.toInt ≤ 300) → v.toInt = -1 ∧ gi2 70 3 = gi 70 3 ∧ gi2 70 8 = gi 70 8)
set_option maxHeartbeats 40000000 in
theorem c_n_rules {X : x_Ext} {d : Nat} {sh : List (Nat ⊕ (Nat × Nat))} {gi : Nat → Nat → Int32} {gl : Nat → Nat → Int64} {gr : Nat → Nat → Value} (hI : t_I sh gi gr) (ar1 : Int32) : x_Me X (d + 9) n_X12_rules [.ref 69, .int ar1] (sh, gi, gl, gr) (t_PI wl_n_rules sh gi gl gr (-1) 12 (Q_n_rules gi gl gr ar1)) := by
  have hX : t_X wl_n_rules sh gi gl gr gi gl gr := t_X.rf
  refine me_i f_X12_rules (hI.wf.s rfl) rfl rfl rfl ?_
  obtain ⟨l1, u1⟩ := hI.b (hI.wf.s (k := 69) rfl) (t_bdK rfl : t_bd 11 10 = some (0, 900))
  obtain ⟨l2, u2⟩ := hI.b (hI.wf.s (k := 69) rfl) (t_bdK rfl : t_bd 11 12 = some (0, 4))
  obtain ⟨l3, u3⟩ := hI.b (hI.wf.s (k := 69) rfl) (t_bdK rfl : t_bd 11 14 = some (0, 900))
  obtain ⟨l7, u7⟩ := hI.b (hI.wf.s (k := 69) rfl) (t_bdK rfl : t_bd 11 24 = some (0, 24))
  obtain ⟨l8, u8⟩ := hI.b (hI.wf.s (k := 69) rfl) (t_bdK rfl : t_bd 11 25 = some (0, 210))
  obtain ⟨l9, u9⟩ := hI.ab (by decide +kernel : t_abr 70 3 3 0 12 = true) (Nat.le_refl _) (Nat.le_refl _)
  obtain ⟨l10, u10⟩ := hI.ab (by decide +kernel : t_abr 70 4 4 0 20 = true) (Nat.le_refl _) (Nat.le_refl _)
  obtain ⟨l11, u11⟩ := hI.ab (by decide +kernel : t_abr 70 8 8 0 1 = true) (Nat.le_refl _) (Nat.le_refl _)
  obtain ⟨l12, u12⟩ := hI.ab (by decide +kernel : t_abr 70 1403 1403 0 12 = true) (Nat.le_refl _) (Nat.le_refl _)
  refine ev_loc f_X12_rules (nx := 1) rfl rfl rfl rfl ?_
  refine ev_loc f_X12_rules (nx := 2) rfl rfl rfl rfl ?_
  refine ev_sp f_X12_rules (nx := 5) (v := 300) rfl (by decide) rfl ?_
  refine ev_qI f_X12_rules (nx := 8) (r := []) rfl rfl rfl rfl rfl rfl rfl (c_n_begins hI (ar1) (300)) rfl hX rfl (fun w13 gi13 gl13 gr13 l13 u13 hI hX hC13 q13 => ?_)
  have q13 : (∀ (b : Nat → Int32) (n : Nat), (n : Int) = ar1.toInt → (∀ j : Nat, j < n → gi 75 j = b j) → t_by b n → w13.toInt = 1 → t_TM b n 0 gi13 ∧ t_MF gi13 0 (-1)) ∧ (w13.toInt = 1 → (0 ≤ ar1.toInt ∧ ar1.toInt ≤ (gi 69 10).toInt ∧ ar1.toInt ≤ 300)) ∧ (w13.toInt = 0 → ¬ (0 ≤ ar1.toInt ∧ ar1.toInt ≤ (gi 69 10).toInt ∧ ar1.toInt ≤ 300)) := q13
  obtain ⟨l14, u14⟩ := hI.b (hI.wf.s (k := 69) rfl) (t_bdK rfl : t_bd 11 10 = some (0, 900))
  obtain ⟨l15, u15⟩ := hI.b (hI.wf.s (k := 69) rfl) (t_bdK rfl : t_bd 11 12 = some (0, 4))
  obtain ⟨l16, u16⟩ := hI.b (hI.wf.s (k := 69) rfl) (t_bdK rfl : t_bd 11 14 = some (0, 900))
  refine ev_if f_X12_rules (t1 := 11) (t2 := 17) rfl rfl rfl (fun h19 => ?_) (fun h19 => ?_)
  · have u20 : w13.toInt ≤ 0 := t_equ h19 (by decide : (0:Int32).toInt ≤ (0:Int))
    refine ev_loc f_X12_rules (nx := 12) rfl rfl rfl rfl ?_
    refine ev_ic f_X12_rules (nx := 13) (v := 1) rfl (by decide) rfl ?_
    refine ev_inV2 f_X12_rules (nx := 16) (lo2 := [(0, .ref 69), (1, .int 1)]) rfl rfl rfl rfl f_X12_refuse (hI.wf.s rfl) rfl rfl rfl rfl rfl ?_
    refine ev_loc f_X12_refuse (nx := 1) rfl rfl rfl rfl ?_
    refine ev_loc f_X12_refuse (nx := 2) rfl rfl rfl rfl ?_
    refine ev_putIT f_X12_refuse (nx := 5) rfl (hI.wf.s rfl) rfl rfl rfl (hI.put0 (hI.wf.s rfl) rfl rfl) (hX.upI rfl) (fun g21 e21 hI hX => ?_)
    refine ev_ic f_X12_refuse (nx := 6) (v := -1) rfl (by decide) rfl ?_
    refine ev_retK1 f_X12_refuse rfl rfl rfl ?_
    exact ev_ret f_X12_rules rfl rfl rfl ⟨_, _, _, rfl, hI, hX, ⟨_, rfl, (by decide : ((-1):Int) ≤ ((-1):Int32).toInt), (Int.le_trans (by decide : ((-1):Int32).toInt ≤ ((-1):Int)) (by decide : ((-1):Int) ≤ 12)), (show ((0 ≤ ar1.toInt ∧ ar1.toInt ≤ (gi 69 10).toInt ∧ ar1.toInt ≤ 300) → ∀ (b : Nat → Int32) (n : Nat), (n : Int) = ar1.toInt → (∀ j : Nat, j < n → gi 75 j = b j) → t_by b n → (∃ r : Nat, s_rls b n 301 0 0 0 = ((0, 0), r) ∧ ((-1) : Int) = (r : Int) ∧ (g21 70 3).toInt = (r : Int) ∧ (g21 69 16).toInt = 0 ∧ (g21 69 17).toInt = -1 ∧ (g21 70 8).toInt = 1) ∨ (∃ p x, x ≠ 0 ∧ s_rls b n 301 0 0 0 = ((s_qb b n p x).1, 0) ∧ ((-1) : Int) = -1 ∧ (g21 69 16).toInt = s_fk b n p x ∧ (g21 69 17).toInt = (s_F b n p : Nat) ∧ g21 70 3 = gi 70 3 ∧ g21 70 8 = gi 70 8)) ∧ (¬ (0 ≤ ar1.toInt ∧ ar1.toInt ≤ (gi 69 10).toInt ∧ ar1.toInt ≤ 300) → ((-1) : Int) = -1 ∧ g21 70 3 = gi 70 3 ∧ g21 70 8 = gi 70 8) from ⟨fun hi => absurd hi (by have k3 : (300 : Int32).toInt = 300 := rfl; have := q13.2.2 (by omega); omega), fun _ => ⟨rfl, (((by rw [e21]; exact x_up2_off (Or.inr (by decide)) : g21 70 3 = gi13 70 3).trans ((hC13.1 70 3 rfl).1.trans rfl)) : g21 70 3 = gi 70 3), (((by rw [e21]; exact x_up2_off (Or.inr (by decide)) : g21 70 8 = gi13 70 8).trans ((hC13.1 70 8 rfl).1.trans rfl)) : g21 70 8 = gi 70 8)⟩⟩)⟩⟩
  · have r22 : w13.toInt ≠ 0 := fun e => h19 (Int32.toInt_inj.mp (e.trans (by decide : (0:Int) = (0 : Int32).toInt)))
    have l23 : 1 ≤ w13.toInt := t_nel h19 l13 rfl rfl
    refine ev_loc f_X12_rules (nx := 18) rfl rfl rfl rfl ?_
    refine ev_getR f_X12_rules (nx := 21) rfl (hI.wf.s rfl) rfl rfl (hI.wf.r rfl) rfl rfl ?_
    refine ev_sp f_X12_rules (nx := 24) (v := 1403) rfl (by decide) rfl ?_
    refine ev_ic f_X12_rules (nx := 25) (v := 0) rfl (by decide) rfl ?_
    refine ev_iastT f_X12_rules (nx := 26) rfl (hI.wf.s rfl) (by decide : (1403:Int) ≤ (1403:Int32).toInt) (by decide) (by decide : (1403:Int32).toInt ≤ (1403:Int)) (by decide) rfl (hI.astL (hI.wf.s rfl) (by decide +kernel : t_abw 70 1403 1403 0 0 = true) (t_cl1 (by decide : (1403:Int) ≤ (1403:Int32).toInt) (by decide)) (t_cl2 (by decide : (1403:Int) ≤ (1403:Int32).toInt) (by decide : (1403:Int32).toInt ≤ (1403:Int)) (by decide) (by decide)) (by decide : (0:Int) ≤ (0:Int32).toInt) (by decide : (0:Int32).toInt ≤ (0:Int)) rfl) (hX.upI (t_inR (p := 1403) (m := 1403) rfl (by decide : (1403:Int) ≤ (1403:Int32).toInt) (by decide) (by decide : (1403:Int32).toInt ≤ (1403:Int)) (by decide) (by decide))) (fun g24 e24 hI hX => ?_)
    refine ev_loc f_X12_rules (nx := 27) rfl rfl rfl rfl ?_
    refine ev_ic f_X12_rules (nx := 28) (v := 0) rfl (by decide) rfl ?_
    refine ev_putIT f_X12_rules (nx := 31) rfl (hI.wf.s rfl) rfl rfl rfl (hI.putB (hI.wf.s rfl) rfl rfl (by decide : (0:Int) ≤ (0:Int32).toInt) (by decide) (by decide : (0:Int32).toInt ≤ (0:Int)) (by decide)) (hX.upI rfl) (fun g25 e25 hI hX => ?_)
    refine ev_loc f_X12_rules (nx := 32) rfl rfl rfl rfl ?_
    refine ev_ic f_X12_rules (nx := 33) (v := 0) rfl (by decide) rfl ?_
    refine ev_putIT f_X12_rules (nx := 36) rfl (hI.wf.s rfl) rfl rfl rfl (hI.putB (hI.wf.s rfl) rfl rfl (by decide : (0:Int) ≤ (0:Int32).toInt) (by decide) (by decide : (0:Int32).toInt ≤ (0:Int)) (by decide)) (hX.upI rfl) (fun g26 e26 hI hX => ?_)
    refine ev_ic f_X12_rules (nx := 37) (v := 1) rfl (by decide) rfl ?_
    refine ev_loc f_X12_rules (nx := 38) (lo' := [(2, .int 1), (0, .ref 69), (1, .int ar1)]) rfl rfl rfl rfl ?_
    have L27 : ∀ (m27 : Nat) (gi27 : Nat → Nat → Int32) (gl27 : Nat → Nat → Int64) (gr27 : Nat → Nat → Value) (y27_2 : Int32), t_I sh gi27 gr27 → t_X wl_n_rules sh gi gl gr gi27 gl27 gr27 → 0 ≤ y27_2.toInt → y27_2.toInt ≤ 1 → gi27 69 10 = (gi13 69 10) → gi27 69 16 = (gi 69 16) → gi27 70 3 = (gi 70 3) → gi27 70 4 = (gi 70 4) → gi27 70 8 = (gi 70 8) → (y27_2.toInt = 1 → (t_R4 (gi27 70) (gi27 69 25).toInt ∧ (gi27 69 25).toInt ≤ 8 * (gi27 69 24).toInt)) → (y27_2.toInt = 0 → (gi27 69 18).toInt ≠ 0) → (∀ (b : Nat → Int32) (n : Nat), (n : Int) = ar1.toInt → (∀ j : Nat, j < n → gi 75 j = b j) → t_by b n → t_UR b n y27_2 gi27) → (4 * (900 - (gi27 69 14).toInt) + 2 * min (gi27 69 12).toInt 1 + y27_2.toInt).toNat = m27 → x_Ev X (d + 9) n_X12_rules 38 [(2, .int y27_2), (0, .ref 69), (1, .int ar1)] [] (sh, gi27, gl27, gr27) (t_PI wl_n_rules sh gi gl gr (-1) 12 (Q_n_rules gi gl gr ar1)) := by
      intro m27
      induction m27 using Nat.strongRecOn with
      | _ m27 ih27 =>
      intro gi27 gl27 gr27 y27_2 hI hX l27_2 u27_2 c27_0 c27_1 c27_2 c27_3 c27_4 j27_0 j27_1 j27_2 hm27
      have cf27_0 : (gi27 69 10).toInt = (gi13 69 10).toInt := congrArg Int32.toInt c27_0
      have cf27_1 : (gi27 69 16).toInt = (gi 69 16).toInt := congrArg Int32.toInt c27_1
      have cf27_2 : (gi27 70 3).toInt = (gi 70 3).toInt := congrArg Int32.toInt c27_2
      have cf27_3 : (gi27 70 4).toInt = (gi 70 4).toInt := congrArg Int32.toInt c27_3
      have cf27_4 : (gi27 70 8).toInt = (gi 70 8).toInt := congrArg Int32.toInt c27_4
      obtain ⟨l28, u28⟩ := hI.b (hI.wf.s (k := 69) rfl) (t_bdK rfl : t_bd 11 12 = some (0, 4))
      obtain ⟨l29, u29⟩ := hI.b (hI.wf.s (k := 69) rfl) (t_bdK rfl : t_bd 11 14 = some (0, 900))
      obtain ⟨l32, u32⟩ := hI.b (hI.wf.s (k := 69) rfl) (t_bdK rfl : t_bd 11 24 = some (0, 24))
      obtain ⟨l33, u33⟩ := hI.b (hI.wf.s (k := 69) rfl) (t_bdK rfl : t_bd 11 25 = some (0, 210))
      obtain ⟨l34, u34⟩ := hI.ab (by decide +kernel : t_abr 70 1403 1403 0 12 = true) (Nat.le_refl _) (Nat.le_refl _)
      refine ev_loc f_X12_rules (nx := 39) rfl rfl rfl rfl ?_
      refine ev_if f_X12_rules (t1 := 57) (t2 := 42) rfl rfl rfl (fun h35 => ?_) (fun h35 => ?_)
      · have u36 : y27_2.toInt ≤ 0 := t_equ h35 (by decide : (0:Int32).toInt ≤ (0:Int))
        refine ev_loc f_X12_rules (nx := 58) rfl rfl rfl rfl ?_
        refine ev_gvI f_X12_rules (nx := 61) (w := (gi27 69 18)) rfl (hI.wf.s rfl) rfl rfl rfl rfl ?_
        refine ev_if f_X12_rules (t1 := 64) (t2 := 118) rfl rfl rfl (fun h37 => ?_) (fun h37 => ?_)
        · have u38 : (gi27 69 18).toInt ≤ 0 := t_equ h37 (by decide : (0:Int32).toInt ≤ (0:Int))
          have l39 : 0 ≤ (gi27 69 18).toInt := t_eql h37 (by decide : (0:Int) ≤ (0:Int32).toInt)
          refine ev_loc f_X12_rules (nx := 65) rfl rfl rfl rfl ?_
          refine ev_getR f_X12_rules (nx := 68) rfl (hI.wf.s rfl) rfl rfl (hI.wf.r rfl) rfl rfl ?_
          refine ev_ic f_X12_rules (nx := 69) (v := 3) rfl (by decide) rfl ?_
          refine ev_loc f_X12_rules (nx := 70) rfl rfl rfl rfl ?_
          refine ev_getR f_X12_rules (nx := 73) rfl (hI.wf.s rfl) rfl rfl (hI.wf.r rfl) rfl rfl ?_
          refine ev_sp f_X12_rules (nx := 76) (v := 1403) rfl (by decide) rfl ?_
          refine ev_ialdv f_X12_rules (nx := 77) (w := (gi27 70 1403)) rfl (hI.wf.s rfl) (by decide) (rfl : (1403 : Int32).toNatClampNeg = 1403) (by decide) rfl rfl ?_
          refine ev_iastT f_X12_rules (nx := 78) rfl (hI.wf.s rfl) (by decide : (3:Int) ≤ (3:Int32).toInt) (by decide) (by decide : (3:Int32).toInt ≤ (3:Int)) (by decide) rfl (hI.astL (hI.wf.s rfl) (by decide +kernel : t_abw 70 3 3 0 12 = true) (t_cl1 (by decide : (3:Int) ≤ (3:Int32).toInt) (by decide)) (t_cl2 (by decide : (3:Int) ≤ (3:Int32).toInt) (by decide : (3:Int32).toInt ≤ (3:Int)) (by decide) (by decide)) l34 u34 rfl) (hX.upI (t_inR (p := 3) (m := 3) rfl (by decide : (3:Int) ≤ (3:Int32).toInt) (by decide) (by decide : (3:Int32).toInt ≤ (3:Int)) (by decide) (by decide))) (fun g41 e41 hI hX => ?_)
          refine ev_loc f_X12_rules (nx := 79) rfl rfl rfl rfl ?_
          refine ev_getR f_X12_rules (nx := 82) rfl (hI.wf.s rfl) rfl rfl (hI.wf.r rfl) rfl rfl ?_
          refine ev_bp f_X12_rules (nx := 84) (v := 8) rfl (by decide) rfl ?_
          refine ev_ic f_X12_rules (nx := 85) (v := 1) rfl (by decide) rfl ?_
          refine ev_iastT f_X12_rules (nx := 86) rfl (hI.wf.s rfl) (by decide : (8:Int) ≤ (8:Int32).toInt) (by decide) (by decide : (8:Int32).toInt ≤ (8:Int)) (by decide) rfl (hI.astL (hI.wf.s rfl) (by decide +kernel : t_abw 70 8 8 1 1 = true) (t_cl1 (by decide : (8:Int) ≤ (8:Int32).toInt) (by decide)) (t_cl2 (by decide : (8:Int) ≤ (8:Int32).toInt) (by decide : (8:Int32).toInt ≤ (8:Int)) (by decide) (by decide)) (by decide : (1:Int) ≤ (1:Int32).toInt) (by decide : (1:Int32).toInt ≤ (1:Int)) rfl) (hX.upI (t_inR (p := 8) (m := 8) rfl (by decide : (8:Int) ≤ (8:Int32).toInt) (by decide) (by decide : (8:Int32).toInt ≤ (8:Int)) (by decide) (by decide))) (fun g42 e42 hI hX => ?_)
          refine ev_bp f_X12_rules (nx := 88) (v := 100) rfl (by decide) rfl ?_
          refine ev_loc f_X12_rules (nx := 89) (lo' := [(3, .int 100), (2, .int y27_2), (0, .ref 69), (1, .int ar1)]) rfl rfl rfl rfl ?_
          have L43 : ∀ (m43 : Nat) (gi43 : Nat → Nat → Int32) (gl43 : Nat → Nat → Int64) (gr43 : Nat → Nat → Value) (y43_3 : Int32), t_I sh gi43 gr43 → t_X wl_n_rules sh gi gl gr gi43 gl43 gr43 → 100 ≤ y43_3.toInt → y43_3.toInt ≤ 350 → gi43 69 10 = (gi13 69 10) → gi43 69 12 = (gi27 69 12) → gi43 69 14 = (gi27 69 14) → gi43 69 16 = (gi 69 16) → gi43 69 17 = (gi27 69 17) → gi43 69 18 = (gi27 69 18) → gi43 69 24 = (gi27 69 24) → gi43 69 25 = (gi27 69 25) → gi43 70 1403 = (gi27 70 1403) → gi43 70 3 = (gi27 70 1403) → gi43 70 4 = (gi 70 4) → gi43 70 8 = 1 → (∀ j : Nat, 100 ≤ j → (j : Int) < y43_3.toInt → gi43 70 j = gi43 70 (1400 + j)) → t_R4 (gi43 70) (gi43 69 25).toInt → gi43 70 3 = gi43 70 1403 → (∀ (b : Nat → Int32) (n : Nat), (n : Int) = ar1.toInt → (∀ j : Nat, j < n → gi 75 j = b j) → t_by b n → t_UV b n gi43) → gi43 70 8 = 1 → (350 - y43_3.toInt).toNat = m43 → x_Ev X (d + 9) n_X12_rules 89 [(3, .int y43_3), (2, .int y27_2), (0, .ref 69), (1, .int ar1)] [] (sh, gi43, gl43, gr43) (t_PI wl_n_rules sh gi gl gr (-1) 12 (Q_n_rules gi gl gr ar1)) := by
            intro m43
            induction m43 using Nat.strongRecOn with
            | _ m43 ih43 =>
            intro gi43 gl43 gr43 y43_3 hI hX l43_3 u43_3 c43_0 c43_1 c43_2 c43_3 c43_4 c43_5 c43_6 c43_7 c43_8 c43_9 c43_10 c43_11 j43_0 j43_1 j43_2 j43_3 j43_4 hm43
            have cf43_0 : (gi43 69 10).toInt = (gi13 69 10).toInt := congrArg Int32.toInt c43_0
            have cf43_1 : (gi43 69 12).toInt = (gi27 69 12).toInt := congrArg Int32.toInt c43_1
            have cf43_2 : (gi43 69 14).toInt = (gi27 69 14).toInt := congrArg Int32.toInt c43_2
            have cf43_3 : (gi43 69 16).toInt = (gi 69 16).toInt := congrArg Int32.toInt c43_3
            have cf43_4 : (gi43 69 17).toInt = (gi27 69 17).toInt := congrArg Int32.toInt c43_4
            have cf43_5 : (gi43 69 18).toInt = (gi27 69 18).toInt := congrArg Int32.toInt c43_5
            have cf43_6 : (gi43 69 24).toInt = (gi27 69 24).toInt := congrArg Int32.toInt c43_6
            have cf43_7 : (gi43 69 25).toInt = (gi27 69 25).toInt := congrArg Int32.toInt c43_7
            have cf43_8 : (gi43 70 1403).toInt = (gi27 70 1403).toInt := congrArg Int32.toInt c43_8
            have cf43_9 : (gi43 70 3).toInt = (gi27 70 1403).toInt := congrArg Int32.toInt c43_9
            have cf43_10 : (gi43 70 4).toInt = (gi 70 4).toInt := congrArg Int32.toInt c43_10
            have cf43_11 : (gi43 70 8).toInt = 1 := (congrArg Int32.toInt c43_11).trans (by decide)
            refine ev_loc f_X12_rules (nx := 90) rfl rfl rfl rfl ?_
            refine ev_sp f_X12_rules (nx := 93) (v := 350) rfl (by decide) rfl ?_
            refine ev_if f_X12_rules (t1 := 118) (t2 := 96) rfl rfl rfl (fun h44 => ?_) (fun h44 => ?_)
            · have l45 : 350 ≤ y43_3.toInt := t_lel h44 (by decide : (350:Int) ≤ (350:Int32).toInt)
              refine ev_loc f_X12_rules (nx := 119) rfl rfl rfl rfl ?_
              refine ev_loc f_X12_rules (nx := 120) rfl rfl rfl rfl ?_
              refine ev_getR f_X12_rules (nx := 123) rfl (hI.wf.s rfl) rfl rfl (hI.wf.r rfl) rfl rfl ?_
              refine ev_ic f_X12_rules (nx := 124) (v := 3) rfl (by decide) rfl ?_
              refine ev_ialdv f_X12_rules (nx := 125) (w := (gi27 70 1403)) rfl (hI.wf.s rfl) (by decide) (rfl : (3 : Int32).toNatClampNeg = 3) (by decide) c43_9 rfl ?_
              refine ev_inV2 f_X12_rules (nx := 128) (lo2 := [(0, .ref 69), (1, .int (gi27 70 1403))]) rfl rfl rfl rfl f_X12_taken (hI.wf.s rfl) rfl rfl rfl rfl rfl ?_
              refine ev_loc f_X12_taken (nx := 1) rfl rfl rfl rfl ?_
              refine ev_loc f_X12_taken (nx := 2) rfl rfl rfl rfl ?_
              refine ev_gvI f_X12_taken (nx := 5) (w := (gi27 69 18)) rfl (hI.wf.s rfl) rfl rfl c43_5 rfl ?_
              refine ev_putIT f_X12_taken (nx := 8) rfl (hI.wf.s rfl) rfl rfl rfl (hI.put0 (hI.wf.s rfl) rfl rfl) (hX.upI rfl) (fun g47 e47 hI hX => ?_)
              refine ev_loc f_X12_taken (nx := 9) rfl rfl rfl rfl ?_
              refine ev_gvI f_X12_taken (nx := 12) (w := (gi27 69 18)) rfl (hI.wf.s rfl) rfl rfl ((by rw [e47]; exact x_up2_off (Or.inr (by decide)) : g47 69 18 = gi43 69 18).trans c43_5) rfl ?_
              refine ev_t f_X12_taken (t1 := 24) (t2 := 15) rfl rfl rfl (t_leT u38 (by decide : (0:Int) ≤ (0:Int32).toInt) (by decide)) ?_
              refine ev_loc f_X12_taken (nx := 25) rfl rfl rfl rfl ?_
              refine ev_loc f_X12_taken (nx := 26) rfl rfl rfl rfl ?_
              refine ev_inV2 f_X12_taken (nx := 29) (lo2 := [(0, .ref 69), (1, .int (gi27 70 1403))]) rfl rfl rfl rfl f_X12_gives (hI.wf.s rfl) rfl rfl rfl rfl rfl ?_
              refine ev_loc f_X12_gives (nx := 1) rfl rfl rfl rfl ?_
              refine ev_ic f_X12_gives (nx := 2) (v := 0) rfl (by decide) rfl ?_
              refine ev_putIT f_X12_gives (nx := 5) rfl (hI.wf.s rfl) rfl rfl rfl (hI.put0 (hI.wf.s rfl) rfl rfl) (hX.upI rfl) (fun g48 e48 hI hX => ?_)
              refine ev_loc f_X12_gives (nx := 6) rfl rfl rfl rfl ?_
              refine ev_retK1 f_X12_gives rfl rfl rfl ?_
              refine ev_retK1 f_X12_taken rfl rfl rfl ?_
              exact ev_ret f_X12_rules rfl rfl rfl ⟨_, _, _, rfl, hI, hX, ⟨_, rfl, (Int.le_trans (by decide : ((-1):Int) ≤ 0) l34), u34, (show ((0 ≤ ar1.toInt ∧ ar1.toInt ≤ (gi 69 10).toInt ∧ ar1.toInt ≤ 300) → ∀ (b : Nat → Int32) (n : Nat), (n : Int) = ar1.toInt → (∀ j : Nat, j < n → gi 75 j = b j) → t_by b n → (∃ r : Nat, s_rls b n 301 0 0 0 = ((0, 0), r) ∧ (gi27 70 1403).toInt = (r : Int) ∧ (g48 70 3).toInt = (r : Int) ∧ (g48 69 16).toInt = 0 ∧ (g48 69 17).toInt = -1 ∧ (g48 70 8).toInt = 1) ∨ (∃ p x, x ≠ 0 ∧ s_rls b n 301 0 0 0 = ((s_qb b n p x).1, 0) ∧ (gi27 70 1403).toInt = -1 ∧ (g48 69 16).toInt = s_fk b n p x ∧ (g48 69 17).toInt = (s_F b n p : Nat) ∧ g48 70 3 = gi 70 3 ∧ g48 70 8 = gi 70 8)) ∧ (¬ (0 ≤ ar1.toInt ∧ ar1.toInt ≤ (gi 69 10).toInt ∧ ar1.toInt ≤ 300) → (gi27 70 1403).toInt = -1 ∧ g48 70 3 = gi 70 3 ∧ g48 70 8 = gi 70 8) from ⟨fun _ b n hn hb hy => (by
                                                            obtain ⟨r, h1, h2, h3⟩ := j43_3 b n hn hb hy
                                                            have h18 := h2.1
                                                            have h17 := h2.2
                                                            exact Or.inl ⟨r, h1, by omega, (by rw [e48, x_up2_ne (by decide), e47, x_up2_ne (by decide)]; exact h3), (by rw [e48, x_up2_off (Or.inr (by decide)), e47, x_up2_at]; omega), (by rw [e48, x_up2_off (Or.inr (by decide)), e47, x_up2_off (Or.inr (by decide))]; omega), (by rw [e48, x_up2_ne (by decide), e47, x_up2_ne (by decide)]; exact (congrArg Int32.toInt j43_4).trans rfl)⟩), fun hh => absurd (by omega) hh⟩)⟩⟩
            · have u49 : y43_3.toInt ≤ 349 := t_ltu (t_nle h44) (by decide : (350:Int32).toInt ≤ (350:Int)) rfl
              refine ev_loc f_X12_rules (nx := 97) rfl rfl rfl rfl ?_
              refine ev_getR f_X12_rules (nx := 100) rfl (hI.wf.s rfl) rfl rfl (hI.wf.r rfl) rfl rfl ?_
              refine ev_loc f_X12_rules (nx := 101) rfl rfl rfl rfl ?_
              refine ev_loc f_X12_rules (nx := 102) rfl rfl rfl rfl ?_
              refine ev_getR f_X12_rules (nx := 105) rfl (hI.wf.s rfl) rfl rfl (hI.wf.r rfl) rfl rfl ?_
              refine ev_sp f_X12_rules (nx := 108) (v := 1400) rfl (by decide) rfl ?_
              refine ev_loc f_X12_rules (nx := 109) rfl rfl rfl rfl ?_
              refine ev_addK f_X12_rules (nx := 110) (c := 1400) (l := 1500) (u := 1749) rfl (by decide) l43_3 u49 rfl rfl (by decide) (by decide) rfl (fun z50 e50 l50 u50 => ?_)
              refine ev_ialdT f_X12_rules (nx := 111) rfl (hI.wf.s rfl) l50 (by decide) u50 (by decide) rfl (fun w51 e51 => ?_)
              refine ev_iastT f_X12_rules (nx := 112) rfl (hI.wf.s rfl) l43_3 (by decide) u49 (by decide) rfl (hI.astS (a := 4) (b := 0) (k := y43_3.toInt.toNat) e51 (by omega) (by omega) (by omega) (by omega) (by omega)) (hX.upI (t_inR (p := 100) (m := 349) rfl l43_3 (by decide) u49 (by decide) (by decide))) (fun g52 e52 hI hX => ?_)
              refine ev_incR f_X12_rules (nx := 115) (c := 1) (l := 101) (u := 350) rfl rfl (by decide) (by decide) l43_3 u49 rfl rfl (by decide) (by decide) rfl (fun z53 e53 l53 u53 => ?_)
              refine ev_jmp f_X12_rules (nx := 89) rfl rfl rfl ?_
              refine ev_sub (lo := [(3, .int z53), (2, .int y27_2), (0, .ref 69), (1, .int ar1)]) rfl (t_sc rfl (t_sc rfl (t_sc rfl (t_sc rfl t_sn)))) ?_
              exact ih43 _ (by omega) g52 gl43 gr43 (z53) hI hX  (Int.le_trans (by decide : (100:Int) ≤ 101) l53) u53 ((by rw [e52]; exact x_up2_off (Or.inl (by decide)) : g52 69 10 = gi43 69 10).trans c43_0) ((by rw [e52]; exact x_up2_off (Or.inl (by decide)) : g52 69 12 = gi43 69 12).trans c43_1) ((by rw [e52]; exact x_up2_off (Or.inl (by decide)) : g52 69 14 = gi43 69 14).trans c43_2) ((by rw [e52]; exact x_up2_off (Or.inl (by decide)) : g52 69 16 = gi43 69 16).trans c43_3) ((by rw [e52]; exact x_up2_off (Or.inl (by decide)) : g52 69 17 = gi43 69 17).trans c43_4) ((by rw [e52]; exact x_up2_off (Or.inl (by decide)) : g52 69 18 = gi43 69 18).trans c43_5) ((by rw [e52]; exact x_up2_off (Or.inl (by decide)) : g52 69 24 = gi43 69 24).trans c43_6) ((by rw [e52]; exact x_up2_off (Or.inl (by decide)) : g52 69 25 = gi43 69 25).trans c43_7) ((by rw [e52]; exact x_up2_off (Or.inr (t_neCu l43_3 u49 (by decide) (by decide))) : g52 70 1403 = gi43 70 1403).trans c43_8) ((by rw [e52]; exact x_up2_off (Or.inr (t_neCl l43_3 (by decide))) : g52 70 3 = gi43 70 3).trans c43_9) ((by rw [e52]; exact x_up2_off (Or.inr (t_neCl l43_3 (by decide))) : g52 70 4 = gi43 70 4).trans c43_10) ((by rw [e52]; exact x_up2_off (Or.inr (t_neCl l43_3 (by decide))) : g52 70 8 = gi43 70 8).trans c43_11) (t_cp100 j43_0 e51 e52 (by have := t_clamp (i := y43_3) (by omega); omega) (by have := t_clamp (i := z50) (by omega); omega) (by omega) (by omega) (by omega)) (by have hr := t_R4_ext (g' := g52 70) j43_1 (fun j hj => (by rw [e52]; exact x_up2_off (Or.inr (by have hc := t_clamp (i := y43_3) (by omega); omega)) : g52 70 (j) = gi43 70 (j))); have ff54 : (g52 69 25).toInt = (gi27 69 25).toInt := congrArg Int32.toInt ((by rw [e52]; exact x_up2_off (Or.inl (by decide)) : g52 69 25 = gi43 69 25).trans c43_7); have e25 : (g52 69 25).toInt = (gi43 69 25).toInt := (by omega); rw [e25]; exact hr) ((((by rw [e52]; exact x_up2_off (Or.inr (t_neCl l43_3 (by decide))) : g52 70 3 = gi43 70 3).trans c43_9) : g52 70 3 = (gi27 70 1403)).trans (((by rw [e52]; exact x_up2_off (Or.inr (t_neCu l43_3 u49 (by decide) (by decide))) : g52 70 1403 = gi43 70 1403).trans c43_8) : g52 70 1403 = (gi27 70 1403)).symm) (fun b n hn hb hy => (j43_3 b n hn hb hy).eq (t_fM.rf.ux (by decide) e52) (by have hc := t_clamp (i := y43_3) (by omega); rw [e52, x_up2_off (Or.inr (by omega))])) (((by rw [e52]; exact x_up2_off (Or.inr (t_neCl l43_3 (by decide))) : g52 70 8 = gi43 70 8).trans c43_11) : g52 70 8 = 1) rfl
          refine ev_sub (lo := [(3, .int 100), (2, .int y27_2), (0, .ref 69), (1, .int ar1)]) rfl (t_sc rfl (t_sc rfl (t_sc rfl (t_sc rfl t_sn)))) ?_
          exact L43 _ g42 gl27 gr27 (100) hI hX  (by decide : (100:Int) ≤ (100:Int32).toInt) (Int.le_trans (by decide : (100:Int32).toInt ≤ (100:Int)) (by decide : (100:Int) ≤ 350)) ((by rw [e42]; exact x_up2_off (Or.inl (by decide)) : g42 69 10 = g41 69 10).trans ((by rw [e41]; exact x_up2_off (Or.inl (by decide)) : g41 69 10 = gi27 69 10).trans c27_0)) ((by rw [e42]; exact x_up2_off (Or.inl (by decide)) : g42 69 12 = g41 69 12).trans ((by rw [e41]; exact x_up2_off (Or.inl (by decide)) : g41 69 12 = gi27 69 12).trans rfl)) ((by rw [e42]; exact x_up2_off (Or.inl (by decide)) : g42 69 14 = g41 69 14).trans ((by rw [e41]; exact x_up2_off (Or.inl (by decide)) : g41 69 14 = gi27 69 14).trans rfl)) ((by rw [e42]; exact x_up2_off (Or.inl (by decide)) : g42 69 16 = g41 69 16).trans ((by rw [e41]; exact x_up2_off (Or.inl (by decide)) : g41 69 16 = gi27 69 16).trans c27_1)) ((by rw [e42]; exact x_up2_off (Or.inl (by decide)) : g42 69 17 = g41 69 17).trans ((by rw [e41]; exact x_up2_off (Or.inl (by decide)) : g41 69 17 = gi27 69 17).trans rfl)) ((by rw [e42]; exact x_up2_off (Or.inl (by decide)) : g42 69 18 = g41 69 18).trans ((by rw [e41]; exact x_up2_off (Or.inl (by decide)) : g41 69 18 = gi27 69 18).trans rfl)) ((by rw [e42]; exact x_up2_off (Or.inl (by decide)) : g42 69 24 = g41 69 24).trans ((by rw [e41]; exact x_up2_off (Or.inl (by decide)) : g41 69 24 = gi27 69 24).trans rfl)) ((by rw [e42]; exact x_up2_off (Or.inl (by decide)) : g42 69 25 = g41 69 25).trans ((by rw [e41]; exact x_up2_off (Or.inl (by decide)) : g41 69 25 = gi27 69 25).trans rfl)) ((by rw [e42]; exact x_up2_off (Or.inr (by decide)) : g42 70 1403 = g41 70 1403).trans ((by rw [e41]; exact x_up2_off (Or.inr (by decide)) : g41 70 1403 = gi27 70 1403).trans rfl)) ((by rw [e42]; exact x_up2_off (Or.inr (by decide)) : g42 70 3 = g41 70 3).trans (by rw [e41]; exact x_up2_at _ _ _ _ : g41 70 3 = (gi27 70 1403))) ((by rw [e42]; exact x_up2_off (Or.inr (by decide)) : g42 70 4 = g41 70 4).trans ((by rw [e41]; exact x_up2_off (Or.inr (by decide)) : g41 70 4 = gi27 70 4).trans c27_3)) (by rw [e42]; exact x_up2_at _ _ _ _ : g42 70 8 = 1) (fun j h1 h2 => absurd h2 (by have : (100 : Int32).toInt = 100 := rfl; omega)) (by have hr := t_R4_ext (g' := g42 70) (j27_0 (by omega)).1 (fun j hj => ((by rw [e42]; exact x_up2_off (Or.inr (by have hc : (8 : Int32).toNatClampNeg = 8 := rfl; omega)) : g42 70 (j) = g41 70 (j)).trans ((by rw [e41]; exact x_up2_off (Or.inr (by have hc : (3 : Int32).toNatClampNeg = 3 := rfl; omega)) : g41 70 (j) = gi27 70 (j))))); have ff55 : (g42 69 25).toInt = (gi27 69 25).toInt := congrArg Int32.toInt ((by rw [e42]; exact x_up2_off (Or.inl (by decide)) : g42 69 25 = g41 69 25).trans ((by rw [e41]; exact x_up2_off (Or.inl (by decide)) : g41 69 25 = gi27 69 25).trans rfl)); have e25 : (g42 69 25).toInt = (gi27 69 25).toInt := (by omega); rw [e25]; exact hr) ((((by rw [e42]; exact x_up2_off (Or.inr (by decide)) : g42 70 3 = g41 70 3).trans (by rw [e41]; exact x_up2_at _ _ _ _ : g41 70 3 = (gi27 70 1403))) : g42 70 3 = (gi27 70 1403)).trans (((by rw [e42]; exact x_up2_off (Or.inr (by decide)) : g42 70 1403 = g41 70 1403).trans ((by rw [e41]; exact x_up2_off (Or.inr (by decide)) : g41 70 1403 = gi27 70 1403).trans rfl)) : g42 70 1403 = (gi27 70 1403)).symm) (fun b n hn hb hy => t_UV_0 (g1 := g42) (w := (gi27 70 1403)) (j27_2 b n hn hb hy) (by omega) (by omega) ((t_fM.rf.ux (by decide) e41).ux (by decide) e42) (by rw [e42, x_up2_off (Or.inr (by decide))]; exact (congrFun (congrFun e41 70) 3).trans (x_up2_at _ _ _ _)) (by omega)) ((by rw [e42]; exact x_up2_at _ _ _ _ : g42 70 8 = 1) : g42 70 8 = 1) rfl
        · have r56 : (gi27 69 18).toInt ≠ 0 := fun e => h37 (Int32.toInt_inj.mp (e.trans (by decide : (0:Int) = (0 : Int32).toInt)))
          refine ev_loc f_X12_rules (nx := 119) rfl rfl rfl rfl ?_
          refine ev_loc f_X12_rules (nx := 120) rfl rfl rfl rfl ?_
          refine ev_getR f_X12_rules (nx := 123) rfl (hI.wf.s rfl) rfl rfl (hI.wf.r rfl) rfl rfl ?_
          refine ev_ic f_X12_rules (nx := 124) (v := 3) rfl (by decide) rfl ?_
          refine ev_ialdv f_X12_rules (nx := 125) (w := (gi 70 3)) rfl (hI.wf.s rfl) (by decide) (rfl : (3 : Int32).toNatClampNeg = 3) (by decide) c27_2 rfl ?_
          refine ev_inV2 f_X12_rules (nx := 128) (lo2 := [(0, .ref 69), (1, .int (gi 70 3))]) rfl rfl rfl rfl f_X12_taken (hI.wf.s rfl) rfl rfl rfl rfl rfl ?_
          refine ev_loc f_X12_taken (nx := 1) rfl rfl rfl rfl ?_
          refine ev_loc f_X12_taken (nx := 2) rfl rfl rfl rfl ?_
          refine ev_gvI f_X12_taken (nx := 5) (w := (gi27 69 18)) rfl (hI.wf.s rfl) rfl rfl rfl rfl ?_
          refine ev_putIT f_X12_taken (nx := 8) rfl (hI.wf.s rfl) rfl rfl rfl (hI.put0 (hI.wf.s rfl) rfl rfl) (hX.upI rfl) (fun g58 e58 hI hX => ?_)
          refine ev_loc f_X12_taken (nx := 9) rfl rfl rfl rfl ?_
          refine ev_gvI f_X12_taken (nx := 12) (w := (gi27 69 18)) rfl (hI.wf.s rfl) rfl rfl ((by rw [e58]; exact x_up2_off (Or.inr (by decide)) : g58 69 18 = gi27 69 18).trans rfl) rfl ?_
          refine ev_if f_X12_taken (t1 := 24) (t2 := 15) rfl rfl rfl (fun h59 => ?_) (fun h59 => ?_)
          · have u60 : (gi27 69 18).toInt ≤ 0 := t_leu h59 (by decide : (0:Int32).toInt ≤ (0:Int))
            refine ev_loc f_X12_taken (nx := 25) rfl rfl rfl rfl ?_
            refine ev_loc f_X12_taken (nx := 26) rfl rfl rfl rfl ?_
            refine ev_inV2 f_X12_taken (nx := 29) (lo2 := [(0, .ref 69), (1, .int (gi 70 3))]) rfl rfl rfl rfl f_X12_gives (hI.wf.s rfl) rfl rfl rfl rfl rfl ?_
            refine ev_loc f_X12_gives (nx := 1) rfl rfl rfl rfl ?_
            refine ev_ic f_X12_gives (nx := 2) (v := 0) rfl (by decide) rfl ?_
            refine ev_putIT f_X12_gives (nx := 5) rfl (hI.wf.s rfl) rfl rfl rfl (hI.put0 (hI.wf.s rfl) rfl rfl) (hX.upI rfl) (fun g61 e61 hI hX => ?_)
            refine ev_loc f_X12_gives (nx := 6) rfl rfl rfl rfl ?_
            refine ev_retK1 f_X12_gives rfl rfl rfl ?_
            refine ev_retK1 f_X12_taken rfl rfl rfl ?_
            exact ev_ret f_X12_rules rfl rfl rfl ⟨_, _, _, rfl, hI, hX, ⟨_, rfl, (Int.le_trans (by decide : ((-1):Int) ≤ 0) l9), u9, (show ((0 ≤ ar1.toInt ∧ ar1.toInt ≤ (gi 69 10).toInt ∧ ar1.toInt ≤ 300) → ∀ (b : Nat → Int32) (n : Nat), (n : Int) = ar1.toInt → (∀ j : Nat, j < n → gi 75 j = b j) → t_by b n → (∃ r : Nat, s_rls b n 301 0 0 0 = ((0, 0), r) ∧ (gi 70 3).toInt = (r : Int) ∧ (g61 70 3).toInt = (r : Int) ∧ (g61 69 16).toInt = 0 ∧ (g61 69 17).toInt = -1 ∧ (g61 70 8).toInt = 1) ∨ (∃ p x, x ≠ 0 ∧ s_rls b n 301 0 0 0 = ((s_qb b n p x).1, 0) ∧ (gi 70 3).toInt = -1 ∧ (g61 69 16).toInt = s_fk b n p x ∧ (g61 69 17).toInt = (s_F b n p : Nat) ∧ g61 70 3 = gi 70 3 ∧ g61 70 8 = gi 70 8)) ∧ (¬ (0 ≤ ar1.toInt ∧ ar1.toInt ≤ (gi 69 10).toInt ∧ ar1.toInt ≤ 300) → (gi 70 3).toInt = -1 ∧ g61 70 3 = gi 70 3 ∧ g61 70 8 = gi 70 8) from ⟨fun _ b n hn hb hy => (by
                                                            rcases j27_2 b n hn hb hy with ⟨h0, q, c, r, _, _, _, _, hf, _, _⟩ | ⟨h0, p, x, hx, h3, h4⟩
                                                            · have h5 := hf.1; exact absurd h5 (by omega)
                                                            · have h5 := h4.1; exact absurd h5 (by have h6 := s_fk_ne (b := b) (n := n) (p := p) hx; have h7 := s_rls_bn h3; omega)), fun hh => absurd (by omega) hh⟩)⟩⟩
          · have l62 : 1 ≤ (gi27 69 18).toInt := t_ltl (t_nle h59) (by decide : (0:Int) ≤ (0:Int32).toInt) rfl
            refine ev_loc f_X12_taken (nx := 16) rfl rfl rfl rfl ?_
            refine ev_bp f_X12_taken (nx := 18) (v := 9) rfl (by decide) rfl ?_
            refine ev_inV2 f_X12_taken (nx := 21) (lo2 := [(0, .ref 69), (1, .int 9)]) rfl rfl rfl rfl f_X12_refuse (hI.wf.s rfl) rfl rfl rfl rfl rfl ?_
            refine ev_loc f_X12_refuse (nx := 1) rfl rfl rfl rfl ?_
            refine ev_loc f_X12_refuse (nx := 2) rfl rfl rfl rfl ?_
            refine ev_putIT f_X12_refuse (nx := 5) rfl (hI.wf.s rfl) rfl rfl rfl (hI.put0 (hI.wf.s rfl) rfl rfl) (hX.upI rfl) (fun g63 e63 hI hX => ?_)
            refine ev_ic f_X12_refuse (nx := 6) (v := -1) rfl (by decide) rfl ?_
            refine ev_retK1 f_X12_refuse rfl rfl rfl ?_
            refine ev_jmp f_X12_taken (nx := 29) rfl rfl rfl ?_
            refine ev_retK1 f_X12_taken rfl rfl rfl ?_
            exact ev_ret f_X12_rules rfl rfl rfl ⟨_, _, _, rfl, hI, hX, ⟨_, rfl, (by decide : ((-1):Int) ≤ ((-1):Int32).toInt), (Int.le_trans (by decide : ((-1):Int32).toInt ≤ ((-1):Int)) (by decide : ((-1):Int) ≤ 12)), (show ((0 ≤ ar1.toInt ∧ ar1.toInt ≤ (gi 69 10).toInt ∧ ar1.toInt ≤ 300) → ∀ (b : Nat → Int32) (n : Nat), (n : Int) = ar1.toInt → (∀ j : Nat, j < n → gi 75 j = b j) → t_by b n → (∃ r : Nat, s_rls b n 301 0 0 0 = ((0, 0), r) ∧ ((-1) : Int) = (r : Int) ∧ (g63 70 3).toInt = (r : Int) ∧ (g63 69 16).toInt = 0 ∧ (g63 69 17).toInt = -1 ∧ (g63 70 8).toInt = 1) ∨ (∃ p x, x ≠ 0 ∧ s_rls b n 301 0 0 0 = ((s_qb b n p x).1, 0) ∧ ((-1) : Int) = -1 ∧ (g63 69 16).toInt = s_fk b n p x ∧ (g63 69 17).toInt = (s_F b n p : Nat) ∧ g63 70 3 = gi 70 3 ∧ g63 70 8 = gi 70 8)) ∧ (¬ (0 ≤ ar1.toInt ∧ ar1.toInt ≤ (gi 69 10).toInt ∧ ar1.toInt ≤ 300) → ((-1) : Int) = -1 ∧ g63 70 3 = gi 70 3 ∧ g63 70 8 = gi 70 8) from ⟨fun _ b n hn hb hy => (by
                                                            rcases j27_2 b n hn hb hy with ⟨h0, q, c, r, _, _, _, _, hf, _, _⟩ | ⟨h0, p, x, hx, h3, h4⟩
                                                            · have h5 := hf.1; exact absurd h5 (by omega)
                                                            · have h5 := h4.1; have h6 := h4.2; exact Or.inr ⟨p, x, hx, h3, rfl, (by rw [e63, x_up2_off (Or.inr (by decide)), e58, x_up2_at]; omega), (by rw [e63, x_up2_off (Or.inr (by decide)), e58, x_up2_off (Or.inr (by decide))]; omega), (((by rw [e63]; exact x_up2_off (Or.inr (by decide)) : g63 70 3 = g58 70 3).trans ((by rw [e58]; exact x_up2_off (Or.inr (by decide)) : g58 70 3 = gi27 70 3).trans c27_2)) : g63 70 3 = gi 70 3), (((by rw [e63]; exact x_up2_off (Or.inr (by decide)) : g63 70 8 = g58 70 8).trans ((by rw [e58]; exact x_up2_off (Or.inr (by decide)) : g58 70 8 = gi27 70 8).trans c27_4)) : g63 70 8 = gi 70 8)⟩), fun hh => absurd (by omega) hh⟩)⟩⟩
      · have r64 : y27_2.toInt ≠ 0 := fun e => h35 (Int32.toInt_inj.mp (e.trans (by decide : (0:Int) = (0 : Int32).toInt)))
        have l65 : 1 ≤ y27_2.toInt := t_nel h35 l27_2 rfl rfl
        refine ev_loc f_X12_rules (nx := 43) rfl rfl rfl rfl ?_
        refine ev_gvI f_X12_rules (nx := 46) (w := (gi27 69 12)) rfl (hI.wf.s rfl) rfl rfl rfl rfl ?_
        refine ev_if f_X12_rules (t1 := 57) (t2 := 49) rfl rfl rfl (fun h66 => ?_) (fun h66 => ?_)
        · have u67 : (gi27 69 12).toInt ≤ 0 := t_equ h66 (by decide : (0:Int32).toInt ≤ (0:Int))
          refine ev_loc f_X12_rules (nx := 58) rfl rfl rfl rfl ?_
          refine ev_gvI f_X12_rules (nx := 61) (w := (gi27 69 18)) rfl (hI.wf.s rfl) rfl rfl rfl rfl ?_
          refine ev_if f_X12_rules (t1 := 64) (t2 := 118) rfl rfl rfl (fun h68 => ?_) (fun h68 => ?_)
          · have u69 : (gi27 69 18).toInt ≤ 0 := t_equ h68 (by decide : (0:Int32).toInt ≤ (0:Int))
            have l70 : 0 ≤ (gi27 69 18).toInt := t_eql h68 (by decide : (0:Int) ≤ (0:Int32).toInt)
            refine ev_loc f_X12_rules (nx := 65) rfl rfl rfl rfl ?_
            refine ev_getR f_X12_rules (nx := 68) rfl (hI.wf.s rfl) rfl rfl (hI.wf.r rfl) rfl rfl ?_
            refine ev_ic f_X12_rules (nx := 69) (v := 3) rfl (by decide) rfl ?_
            refine ev_loc f_X12_rules (nx := 70) rfl rfl rfl rfl ?_
            refine ev_getR f_X12_rules (nx := 73) rfl (hI.wf.s rfl) rfl rfl (hI.wf.r rfl) rfl rfl ?_
            refine ev_sp f_X12_rules (nx := 76) (v := 1403) rfl (by decide) rfl ?_
            refine ev_ialdv f_X12_rules (nx := 77) (w := (gi27 70 1403)) rfl (hI.wf.s rfl) (by decide) (rfl : (1403 : Int32).toNatClampNeg = 1403) (by decide) rfl rfl ?_
            refine ev_iastT f_X12_rules (nx := 78) rfl (hI.wf.s rfl) (by decide : (3:Int) ≤ (3:Int32).toInt) (by decide) (by decide : (3:Int32).toInt ≤ (3:Int)) (by decide) rfl (hI.astL (hI.wf.s rfl) (by decide +kernel : t_abw 70 3 3 0 12 = true) (t_cl1 (by decide : (3:Int) ≤ (3:Int32).toInt) (by decide)) (t_cl2 (by decide : (3:Int) ≤ (3:Int32).toInt) (by decide : (3:Int32).toInt ≤ (3:Int)) (by decide) (by decide)) l34 u34 rfl) (hX.upI (t_inR (p := 3) (m := 3) rfl (by decide : (3:Int) ≤ (3:Int32).toInt) (by decide) (by decide : (3:Int32).toInt ≤ (3:Int)) (by decide) (by decide))) (fun g72 e72 hI hX => ?_)
            refine ev_loc f_X12_rules (nx := 79) rfl rfl rfl rfl ?_
            refine ev_getR f_X12_rules (nx := 82) rfl (hI.wf.s rfl) rfl rfl (hI.wf.r rfl) rfl rfl ?_
            refine ev_bp f_X12_rules (nx := 84) (v := 8) rfl (by decide) rfl ?_
            refine ev_ic f_X12_rules (nx := 85) (v := 1) rfl (by decide) rfl ?_
            refine ev_iastT f_X12_rules (nx := 86) rfl (hI.wf.s rfl) (by decide : (8:Int) ≤ (8:Int32).toInt) (by decide) (by decide : (8:Int32).toInt ≤ (8:Int)) (by decide) rfl (hI.astL (hI.wf.s rfl) (by decide +kernel : t_abw 70 8 8 1 1 = true) (t_cl1 (by decide : (8:Int) ≤ (8:Int32).toInt) (by decide)) (t_cl2 (by decide : (8:Int) ≤ (8:Int32).toInt) (by decide : (8:Int32).toInt ≤ (8:Int)) (by decide) (by decide)) (by decide : (1:Int) ≤ (1:Int32).toInt) (by decide : (1:Int32).toInt ≤ (1:Int)) rfl) (hX.upI (t_inR (p := 8) (m := 8) rfl (by decide : (8:Int) ≤ (8:Int32).toInt) (by decide) (by decide : (8:Int32).toInt ≤ (8:Int)) (by decide) (by decide))) (fun g73 e73 hI hX => ?_)
            refine ev_bp f_X12_rules (nx := 88) (v := 100) rfl (by decide) rfl ?_
            refine ev_loc f_X12_rules (nx := 89) (lo' := [(3, .int 100), (2, .int y27_2), (0, .ref 69), (1, .int ar1)]) rfl rfl rfl rfl ?_
            have L74 : ∀ (m74 : Nat) (gi74 : Nat → Nat → Int32) (gl74 : Nat → Nat → Int64) (gr74 : Nat → Nat → Value) (y74_3 : Int32), t_I sh gi74 gr74 → t_X wl_n_rules sh gi gl gr gi74 gl74 gr74 → 100 ≤ y74_3.toInt → y74_3.toInt ≤ 350 → gi74 69 10 = (gi13 69 10) → gi74 69 12 = (gi27 69 12) → gi74 69 14 = (gi27 69 14) → gi74 69 16 = (gi 69 16) → gi74 69 17 = (gi27 69 17) → gi74 69 18 = (gi27 69 18) → gi74 69 24 = (gi27 69 24) → gi74 69 25 = (gi27 69 25) → gi74 70 1403 = (gi27 70 1403) → gi74 70 3 = (gi27 70 1403) → gi74 70 4 = (gi 70 4) → gi74 70 8 = 1 → (∀ j : Nat, 100 ≤ j → (j : Int) < y74_3.toInt → gi74 70 j = gi74 70 (1400 + j)) → t_R4 (gi74 70) (gi74 69 25).toInt → gi74 70 3 = gi74 70 1403 → (∀ (b : Nat → Int32) (n : Nat), (n : Int) = ar1.toInt → (∀ j : Nat, j < n → gi 75 j = b j) → t_by b n → t_UV b n gi74) → gi74 70 8 = 1 → (350 - y74_3.toInt).toNat = m74 → x_Ev X (d + 9) n_X12_rules 89 [(3, .int y74_3), (2, .int y27_2), (0, .ref 69), (1, .int ar1)] [] (sh, gi74, gl74, gr74) (t_PI wl_n_rules sh gi gl gr (-1) 12 (Q_n_rules gi gl gr ar1)) := by
              intro m74
              induction m74 using Nat.strongRecOn with
              | _ m74 ih74 =>
              intro gi74 gl74 gr74 y74_3 hI hX l74_3 u74_3 c74_0 c74_1 c74_2 c74_3 c74_4 c74_5 c74_6 c74_7 c74_8 c74_9 c74_10 c74_11 j74_0 j74_1 j74_2 j74_3 j74_4 hm74
              have cf74_0 : (gi74 69 10).toInt = (gi13 69 10).toInt := congrArg Int32.toInt c74_0
              have cf74_1 : (gi74 69 12).toInt = (gi27 69 12).toInt := congrArg Int32.toInt c74_1
              have cf74_2 : (gi74 69 14).toInt = (gi27 69 14).toInt := congrArg Int32.toInt c74_2
              have cf74_3 : (gi74 69 16).toInt = (gi 69 16).toInt := congrArg Int32.toInt c74_3
              have cf74_4 : (gi74 69 17).toInt = (gi27 69 17).toInt := congrArg Int32.toInt c74_4
              have cf74_5 : (gi74 69 18).toInt = (gi27 69 18).toInt := congrArg Int32.toInt c74_5
              have cf74_6 : (gi74 69 24).toInt = (gi27 69 24).toInt := congrArg Int32.toInt c74_6
              have cf74_7 : (gi74 69 25).toInt = (gi27 69 25).toInt := congrArg Int32.toInt c74_7
              have cf74_8 : (gi74 70 1403).toInt = (gi27 70 1403).toInt := congrArg Int32.toInt c74_8
              have cf74_9 : (gi74 70 3).toInt = (gi27 70 1403).toInt := congrArg Int32.toInt c74_9
              have cf74_10 : (gi74 70 4).toInt = (gi 70 4).toInt := congrArg Int32.toInt c74_10
              have cf74_11 : (gi74 70 8).toInt = 1 := (congrArg Int32.toInt c74_11).trans (by decide)
              refine ev_loc f_X12_rules (nx := 90) rfl rfl rfl rfl ?_
              refine ev_sp f_X12_rules (nx := 93) (v := 350) rfl (by decide) rfl ?_
              refine ev_if f_X12_rules (t1 := 118) (t2 := 96) rfl rfl rfl (fun h75 => ?_) (fun h75 => ?_)
              · have l76 : 350 ≤ y74_3.toInt := t_lel h75 (by decide : (350:Int) ≤ (350:Int32).toInt)
                refine ev_loc f_X12_rules (nx := 119) rfl rfl rfl rfl ?_
                refine ev_loc f_X12_rules (nx := 120) rfl rfl rfl rfl ?_
                refine ev_getR f_X12_rules (nx := 123) rfl (hI.wf.s rfl) rfl rfl (hI.wf.r rfl) rfl rfl ?_
                refine ev_ic f_X12_rules (nx := 124) (v := 3) rfl (by decide) rfl ?_
                refine ev_ialdv f_X12_rules (nx := 125) (w := (gi27 70 1403)) rfl (hI.wf.s rfl) (by decide) (rfl : (3 : Int32).toNatClampNeg = 3) (by decide) c74_9 rfl ?_
                refine ev_inV2 f_X12_rules (nx := 128) (lo2 := [(0, .ref 69), (1, .int (gi27 70 1403))]) rfl rfl rfl rfl f_X12_taken (hI.wf.s rfl) rfl rfl rfl rfl rfl ?_
                refine ev_loc f_X12_taken (nx := 1) rfl rfl rfl rfl ?_
                refine ev_loc f_X12_taken (nx := 2) rfl rfl rfl rfl ?_
                refine ev_gvI f_X12_taken (nx := 5) (w := (gi27 69 18)) rfl (hI.wf.s rfl) rfl rfl c74_5 rfl ?_
                refine ev_putIT f_X12_taken (nx := 8) rfl (hI.wf.s rfl) rfl rfl rfl (hI.put0 (hI.wf.s rfl) rfl rfl) (hX.upI rfl) (fun g78 e78 hI hX => ?_)
                refine ev_loc f_X12_taken (nx := 9) rfl rfl rfl rfl ?_
                refine ev_gvI f_X12_taken (nx := 12) (w := (gi27 69 18)) rfl (hI.wf.s rfl) rfl rfl ((by rw [e78]; exact x_up2_off (Or.inr (by decide)) : g78 69 18 = gi74 69 18).trans c74_5) rfl ?_
                refine ev_t f_X12_taken (t1 := 24) (t2 := 15) rfl rfl rfl (t_leT u69 (by decide : (0:Int) ≤ (0:Int32).toInt) (by decide)) ?_
                refine ev_loc f_X12_taken (nx := 25) rfl rfl rfl rfl ?_
                refine ev_loc f_X12_taken (nx := 26) rfl rfl rfl rfl ?_
                refine ev_inV2 f_X12_taken (nx := 29) (lo2 := [(0, .ref 69), (1, .int (gi27 70 1403))]) rfl rfl rfl rfl f_X12_gives (hI.wf.s rfl) rfl rfl rfl rfl rfl ?_
                refine ev_loc f_X12_gives (nx := 1) rfl rfl rfl rfl ?_
                refine ev_ic f_X12_gives (nx := 2) (v := 0) rfl (by decide) rfl ?_
                refine ev_putIT f_X12_gives (nx := 5) rfl (hI.wf.s rfl) rfl rfl rfl (hI.put0 (hI.wf.s rfl) rfl rfl) (hX.upI rfl) (fun g79 e79 hI hX => ?_)
                refine ev_loc f_X12_gives (nx := 6) rfl rfl rfl rfl ?_
                refine ev_retK1 f_X12_gives rfl rfl rfl ?_
                refine ev_retK1 f_X12_taken rfl rfl rfl ?_
                exact ev_ret f_X12_rules rfl rfl rfl ⟨_, _, _, rfl, hI, hX, ⟨_, rfl, (Int.le_trans (by decide : ((-1):Int) ≤ 0) l34), u34, (show ((0 ≤ ar1.toInt ∧ ar1.toInt ≤ (gi 69 10).toInt ∧ ar1.toInt ≤ 300) → ∀ (b : Nat → Int32) (n : Nat), (n : Int) = ar1.toInt → (∀ j : Nat, j < n → gi 75 j = b j) → t_by b n → (∃ r : Nat, s_rls b n 301 0 0 0 = ((0, 0), r) ∧ (gi27 70 1403).toInt = (r : Int) ∧ (g79 70 3).toInt = (r : Int) ∧ (g79 69 16).toInt = 0 ∧ (g79 69 17).toInt = -1 ∧ (g79 70 8).toInt = 1) ∨ (∃ p x, x ≠ 0 ∧ s_rls b n 301 0 0 0 = ((s_qb b n p x).1, 0) ∧ (gi27 70 1403).toInt = -1 ∧ (g79 69 16).toInt = s_fk b n p x ∧ (g79 69 17).toInt = (s_F b n p : Nat) ∧ g79 70 3 = gi 70 3 ∧ g79 70 8 = gi 70 8)) ∧ (¬ (0 ≤ ar1.toInt ∧ ar1.toInt ≤ (gi 69 10).toInt ∧ ar1.toInt ≤ 300) → (gi27 70 1403).toInt = -1 ∧ g79 70 3 = gi 70 3 ∧ g79 70 8 = gi 70 8) from ⟨fun _ b n hn hb hy => (by
                                                            obtain ⟨r, h1, h2, h3⟩ := j74_3 b n hn hb hy
                                                            have h18 := h2.1
                                                            have h17 := h2.2
                                                            exact Or.inl ⟨r, h1, by omega, (by rw [e79, x_up2_ne (by decide), e78, x_up2_ne (by decide)]; exact h3), (by rw [e79, x_up2_off (Or.inr (by decide)), e78, x_up2_at]; omega), (by rw [e79, x_up2_off (Or.inr (by decide)), e78, x_up2_off (Or.inr (by decide))]; omega), (by rw [e79, x_up2_ne (by decide), e78, x_up2_ne (by decide)]; exact (congrArg Int32.toInt j74_4).trans rfl)⟩), fun hh => absurd (by omega) hh⟩)⟩⟩
              · have u80 : y74_3.toInt ≤ 349 := t_ltu (t_nle h75) (by decide : (350:Int32).toInt ≤ (350:Int)) rfl
                refine ev_loc f_X12_rules (nx := 97) rfl rfl rfl rfl ?_
                refine ev_getR f_X12_rules (nx := 100) rfl (hI.wf.s rfl) rfl rfl (hI.wf.r rfl) rfl rfl ?_
                refine ev_loc f_X12_rules (nx := 101) rfl rfl rfl rfl ?_
                refine ev_loc f_X12_rules (nx := 102) rfl rfl rfl rfl ?_
                refine ev_getR f_X12_rules (nx := 105) rfl (hI.wf.s rfl) rfl rfl (hI.wf.r rfl) rfl rfl ?_
                refine ev_sp f_X12_rules (nx := 108) (v := 1400) rfl (by decide) rfl ?_
                refine ev_loc f_X12_rules (nx := 109) rfl rfl rfl rfl ?_
                refine ev_addK f_X12_rules (nx := 110) (c := 1400) (l := 1500) (u := 1749) rfl (by decide) l74_3 u80 rfl rfl (by decide) (by decide) rfl (fun z81 e81 l81 u81 => ?_)
                refine ev_ialdT f_X12_rules (nx := 111) rfl (hI.wf.s rfl) l81 (by decide) u81 (by decide) rfl (fun w82 e82 => ?_)
                refine ev_iastT f_X12_rules (nx := 112) rfl (hI.wf.s rfl) l74_3 (by decide) u80 (by decide) rfl (hI.astS (a := 4) (b := 0) (k := y74_3.toInt.toNat) e82 (by omega) (by omega) (by omega) (by omega) (by omega)) (hX.upI (t_inR (p := 100) (m := 349) rfl l74_3 (by decide) u80 (by decide) (by decide))) (fun g83 e83 hI hX => ?_)
                refine ev_incR f_X12_rules (nx := 115) (c := 1) (l := 101) (u := 350) rfl rfl (by decide) (by decide) l74_3 u80 rfl rfl (by decide) (by decide) rfl (fun z84 e84 l84 u84 => ?_)
                refine ev_jmp f_X12_rules (nx := 89) rfl rfl rfl ?_
                refine ev_sub (lo := [(3, .int z84), (2, .int y27_2), (0, .ref 69), (1, .int ar1)]) rfl (t_sc rfl (t_sc rfl (t_sc rfl (t_sc rfl t_sn)))) ?_
                exact ih74 _ (by omega) g83 gl74 gr74 (z84) hI hX  (Int.le_trans (by decide : (100:Int) ≤ 101) l84) u84 ((by rw [e83]; exact x_up2_off (Or.inl (by decide)) : g83 69 10 = gi74 69 10).trans c74_0) ((by rw [e83]; exact x_up2_off (Or.inl (by decide)) : g83 69 12 = gi74 69 12).trans c74_1) ((by rw [e83]; exact x_up2_off (Or.inl (by decide)) : g83 69 14 = gi74 69 14).trans c74_2) ((by rw [e83]; exact x_up2_off (Or.inl (by decide)) : g83 69 16 = gi74 69 16).trans c74_3) ((by rw [e83]; exact x_up2_off (Or.inl (by decide)) : g83 69 17 = gi74 69 17).trans c74_4) ((by rw [e83]; exact x_up2_off (Or.inl (by decide)) : g83 69 18 = gi74 69 18).trans c74_5) ((by rw [e83]; exact x_up2_off (Or.inl (by decide)) : g83 69 24 = gi74 69 24).trans c74_6) ((by rw [e83]; exact x_up2_off (Or.inl (by decide)) : g83 69 25 = gi74 69 25).trans c74_7) ((by rw [e83]; exact x_up2_off (Or.inr (t_neCu l74_3 u80 (by decide) (by decide))) : g83 70 1403 = gi74 70 1403).trans c74_8) ((by rw [e83]; exact x_up2_off (Or.inr (t_neCl l74_3 (by decide))) : g83 70 3 = gi74 70 3).trans c74_9) ((by rw [e83]; exact x_up2_off (Or.inr (t_neCl l74_3 (by decide))) : g83 70 4 = gi74 70 4).trans c74_10) ((by rw [e83]; exact x_up2_off (Or.inr (t_neCl l74_3 (by decide))) : g83 70 8 = gi74 70 8).trans c74_11) (t_cp100 j74_0 e82 e83 (by have := t_clamp (i := y74_3) (by omega); omega) (by have := t_clamp (i := z81) (by omega); omega) (by omega) (by omega) (by omega)) (by have hr := t_R4_ext (g' := g83 70) j74_1 (fun j hj => (by rw [e83]; exact x_up2_off (Or.inr (by have hc := t_clamp (i := y74_3) (by omega); omega)) : g83 70 (j) = gi74 70 (j))); have ff85 : (g83 69 25).toInt = (gi27 69 25).toInt := congrArg Int32.toInt ((by rw [e83]; exact x_up2_off (Or.inl (by decide)) : g83 69 25 = gi74 69 25).trans c74_7); have e25 : (g83 69 25).toInt = (gi74 69 25).toInt := (by omega); rw [e25]; exact hr) ((((by rw [e83]; exact x_up2_off (Or.inr (t_neCl l74_3 (by decide))) : g83 70 3 = gi74 70 3).trans c74_9) : g83 70 3 = (gi27 70 1403)).trans (((by rw [e83]; exact x_up2_off (Or.inr (t_neCu l74_3 u80 (by decide) (by decide))) : g83 70 1403 = gi74 70 1403).trans c74_8) : g83 70 1403 = (gi27 70 1403)).symm) (fun b n hn hb hy => (j74_3 b n hn hb hy).eq (t_fM.rf.ux (by decide) e83) (by have hc := t_clamp (i := y74_3) (by omega); rw [e83, x_up2_off (Or.inr (by omega))])) (((by rw [e83]; exact x_up2_off (Or.inr (t_neCl l74_3 (by decide))) : g83 70 8 = gi74 70 8).trans c74_11) : g83 70 8 = 1) rfl
            refine ev_sub (lo := [(3, .int 100), (2, .int y27_2), (0, .ref 69), (1, .int ar1)]) rfl (t_sc rfl (t_sc rfl (t_sc rfl (t_sc rfl t_sn)))) ?_
            exact L74 _ g73 gl27 gr27 (100) hI hX  (by decide : (100:Int) ≤ (100:Int32).toInt) (Int.le_trans (by decide : (100:Int32).toInt ≤ (100:Int)) (by decide : (100:Int) ≤ 350)) ((by rw [e73]; exact x_up2_off (Or.inl (by decide)) : g73 69 10 = g72 69 10).trans ((by rw [e72]; exact x_up2_off (Or.inl (by decide)) : g72 69 10 = gi27 69 10).trans c27_0)) ((by rw [e73]; exact x_up2_off (Or.inl (by decide)) : g73 69 12 = g72 69 12).trans ((by rw [e72]; exact x_up2_off (Or.inl (by decide)) : g72 69 12 = gi27 69 12).trans rfl)) ((by rw [e73]; exact x_up2_off (Or.inl (by decide)) : g73 69 14 = g72 69 14).trans ((by rw [e72]; exact x_up2_off (Or.inl (by decide)) : g72 69 14 = gi27 69 14).trans rfl)) ((by rw [e73]; exact x_up2_off (Or.inl (by decide)) : g73 69 16 = g72 69 16).trans ((by rw [e72]; exact x_up2_off (Or.inl (by decide)) : g72 69 16 = gi27 69 16).trans c27_1)) ((by rw [e73]; exact x_up2_off (Or.inl (by decide)) : g73 69 17 = g72 69 17).trans ((by rw [e72]; exact x_up2_off (Or.inl (by decide)) : g72 69 17 = gi27 69 17).trans rfl)) ((by rw [e73]; exact x_up2_off (Or.inl (by decide)) : g73 69 18 = g72 69 18).trans ((by rw [e72]; exact x_up2_off (Or.inl (by decide)) : g72 69 18 = gi27 69 18).trans rfl)) ((by rw [e73]; exact x_up2_off (Or.inl (by decide)) : g73 69 24 = g72 69 24).trans ((by rw [e72]; exact x_up2_off (Or.inl (by decide)) : g72 69 24 = gi27 69 24).trans rfl)) ((by rw [e73]; exact x_up2_off (Or.inl (by decide)) : g73 69 25 = g72 69 25).trans ((by rw [e72]; exact x_up2_off (Or.inl (by decide)) : g72 69 25 = gi27 69 25).trans rfl)) ((by rw [e73]; exact x_up2_off (Or.inr (by decide)) : g73 70 1403 = g72 70 1403).trans ((by rw [e72]; exact x_up2_off (Or.inr (by decide)) : g72 70 1403 = gi27 70 1403).trans rfl)) ((by rw [e73]; exact x_up2_off (Or.inr (by decide)) : g73 70 3 = g72 70 3).trans (by rw [e72]; exact x_up2_at _ _ _ _ : g72 70 3 = (gi27 70 1403))) ((by rw [e73]; exact x_up2_off (Or.inr (by decide)) : g73 70 4 = g72 70 4).trans ((by rw [e72]; exact x_up2_off (Or.inr (by decide)) : g72 70 4 = gi27 70 4).trans c27_3)) (by rw [e73]; exact x_up2_at _ _ _ _ : g73 70 8 = 1) (fun j h1 h2 => absurd h2 (by have : (100 : Int32).toInt = 100 := rfl; omega)) (by have hr := t_R4_ext (g' := g73 70) (j27_0 (by omega)).1 (fun j hj => ((by rw [e73]; exact x_up2_off (Or.inr (by have hc : (8 : Int32).toNatClampNeg = 8 := rfl; omega)) : g73 70 (j) = g72 70 (j)).trans ((by rw [e72]; exact x_up2_off (Or.inr (by have hc : (3 : Int32).toNatClampNeg = 3 := rfl; omega)) : g72 70 (j) = gi27 70 (j))))); have ff86 : (g73 69 25).toInt = (gi27 69 25).toInt := congrArg Int32.toInt ((by rw [e73]; exact x_up2_off (Or.inl (by decide)) : g73 69 25 = g72 69 25).trans ((by rw [e72]; exact x_up2_off (Or.inl (by decide)) : g72 69 25 = gi27 69 25).trans rfl)); have e25 : (g73 69 25).toInt = (gi27 69 25).toInt := (by omega); rw [e25]; exact hr) ((((by rw [e73]; exact x_up2_off (Or.inr (by decide)) : g73 70 3 = g72 70 3).trans (by rw [e72]; exact x_up2_at _ _ _ _ : g72 70 3 = (gi27 70 1403))) : g73 70 3 = (gi27 70 1403)).trans (((by rw [e73]; exact x_up2_off (Or.inr (by decide)) : g73 70 1403 = g72 70 1403).trans ((by rw [e72]; exact x_up2_off (Or.inr (by decide)) : g72 70 1403 = gi27 70 1403).trans rfl)) : g73 70 1403 = (gi27 70 1403)).symm) (fun b n hn hb hy => t_UV_0 (g1 := g73) (w := (gi27 70 1403)) (j27_2 b n hn hb hy) (by omega) (by omega) ((t_fM.rf.ux (by decide) e72).ux (by decide) e73) (by rw [e73, x_up2_off (Or.inr (by decide))]; exact (congrFun (congrFun e72 70) 3).trans (x_up2_at _ _ _ _)) (by omega)) ((by rw [e73]; exact x_up2_at _ _ _ _ : g73 70 8 = 1) : g73 70 8 = 1) rfl
          · have r87 : (gi27 69 18).toInt ≠ 0 := fun e => h68 (Int32.toInt_inj.mp (e.trans (by decide : (0:Int) = (0 : Int32).toInt)))
            refine ev_loc f_X12_rules (nx := 119) rfl rfl rfl rfl ?_
            refine ev_loc f_X12_rules (nx := 120) rfl rfl rfl rfl ?_
            refine ev_getR f_X12_rules (nx := 123) rfl (hI.wf.s rfl) rfl rfl (hI.wf.r rfl) rfl rfl ?_
            refine ev_ic f_X12_rules (nx := 124) (v := 3) rfl (by decide) rfl ?_
            refine ev_ialdv f_X12_rules (nx := 125) (w := (gi 70 3)) rfl (hI.wf.s rfl) (by decide) (rfl : (3 : Int32).toNatClampNeg = 3) (by decide) c27_2 rfl ?_
            refine ev_inV2 f_X12_rules (nx := 128) (lo2 := [(0, .ref 69), (1, .int (gi 70 3))]) rfl rfl rfl rfl f_X12_taken (hI.wf.s rfl) rfl rfl rfl rfl rfl ?_
            refine ev_loc f_X12_taken (nx := 1) rfl rfl rfl rfl ?_
            refine ev_loc f_X12_taken (nx := 2) rfl rfl rfl rfl ?_
            refine ev_gvI f_X12_taken (nx := 5) (w := (gi27 69 18)) rfl (hI.wf.s rfl) rfl rfl rfl rfl ?_
            refine ev_putIT f_X12_taken (nx := 8) rfl (hI.wf.s rfl) rfl rfl rfl (hI.put0 (hI.wf.s rfl) rfl rfl) (hX.upI rfl) (fun g89 e89 hI hX => ?_)
            refine ev_loc f_X12_taken (nx := 9) rfl rfl rfl rfl ?_
            refine ev_gvI f_X12_taken (nx := 12) (w := (gi27 69 18)) rfl (hI.wf.s rfl) rfl rfl ((by rw [e89]; exact x_up2_off (Or.inr (by decide)) : g89 69 18 = gi27 69 18).trans rfl) rfl ?_
            refine ev_if f_X12_taken (t1 := 24) (t2 := 15) rfl rfl rfl (fun h90 => ?_) (fun h90 => ?_)
            · have u91 : (gi27 69 18).toInt ≤ 0 := t_leu h90 (by decide : (0:Int32).toInt ≤ (0:Int))
              refine ev_loc f_X12_taken (nx := 25) rfl rfl rfl rfl ?_
              refine ev_loc f_X12_taken (nx := 26) rfl rfl rfl rfl ?_
              refine ev_inV2 f_X12_taken (nx := 29) (lo2 := [(0, .ref 69), (1, .int (gi 70 3))]) rfl rfl rfl rfl f_X12_gives (hI.wf.s rfl) rfl rfl rfl rfl rfl ?_
              refine ev_loc f_X12_gives (nx := 1) rfl rfl rfl rfl ?_
              refine ev_ic f_X12_gives (nx := 2) (v := 0) rfl (by decide) rfl ?_
              refine ev_putIT f_X12_gives (nx := 5) rfl (hI.wf.s rfl) rfl rfl rfl (hI.put0 (hI.wf.s rfl) rfl rfl) (hX.upI rfl) (fun g92 e92 hI hX => ?_)
              refine ev_loc f_X12_gives (nx := 6) rfl rfl rfl rfl ?_
              refine ev_retK1 f_X12_gives rfl rfl rfl ?_
              refine ev_retK1 f_X12_taken rfl rfl rfl ?_
              exact ev_ret f_X12_rules rfl rfl rfl ⟨_, _, _, rfl, hI, hX, ⟨_, rfl, (Int.le_trans (by decide : ((-1):Int) ≤ 0) l9), u9, (show ((0 ≤ ar1.toInt ∧ ar1.toInt ≤ (gi 69 10).toInt ∧ ar1.toInt ≤ 300) → ∀ (b : Nat → Int32) (n : Nat), (n : Int) = ar1.toInt → (∀ j : Nat, j < n → gi 75 j = b j) → t_by b n → (∃ r : Nat, s_rls b n 301 0 0 0 = ((0, 0), r) ∧ (gi 70 3).toInt = (r : Int) ∧ (g92 70 3).toInt = (r : Int) ∧ (g92 69 16).toInt = 0 ∧ (g92 69 17).toInt = -1 ∧ (g92 70 8).toInt = 1) ∨ (∃ p x, x ≠ 0 ∧ s_rls b n 301 0 0 0 = ((s_qb b n p x).1, 0) ∧ (gi 70 3).toInt = -1 ∧ (g92 69 16).toInt = s_fk b n p x ∧ (g92 69 17).toInt = (s_F b n p : Nat) ∧ g92 70 3 = gi 70 3 ∧ g92 70 8 = gi 70 8)) ∧ (¬ (0 ≤ ar1.toInt ∧ ar1.toInt ≤ (gi 69 10).toInt ∧ ar1.toInt ≤ 300) → (gi 70 3).toInt = -1 ∧ g92 70 3 = gi 70 3 ∧ g92 70 8 = gi 70 8) from ⟨fun _ b n hn hb hy => (by
                                                            rcases j27_2 b n hn hb hy with ⟨h0, q, c, r, _, _, _, _, hf, _, _⟩ | ⟨h0, p, x, hx, h3, h4⟩
                                                            · have h5 := hf.1; exact absurd h5 (by omega)
                                                            · have h5 := h4.1; exact absurd h5 (by have h6 := s_fk_ne (b := b) (n := n) (p := p) hx; have h7 := s_rls_bn h3; omega)), fun hh => absurd (by omega) hh⟩)⟩⟩
            · have l93 : 1 ≤ (gi27 69 18).toInt := t_ltl (t_nle h90) (by decide : (0:Int) ≤ (0:Int32).toInt) rfl
              refine ev_loc f_X12_taken (nx := 16) rfl rfl rfl rfl ?_
              refine ev_bp f_X12_taken (nx := 18) (v := 9) rfl (by decide) rfl ?_
              refine ev_inV2 f_X12_taken (nx := 21) (lo2 := [(0, .ref 69), (1, .int 9)]) rfl rfl rfl rfl f_X12_refuse (hI.wf.s rfl) rfl rfl rfl rfl rfl ?_
              refine ev_loc f_X12_refuse (nx := 1) rfl rfl rfl rfl ?_
              refine ev_loc f_X12_refuse (nx := 2) rfl rfl rfl rfl ?_
              refine ev_putIT f_X12_refuse (nx := 5) rfl (hI.wf.s rfl) rfl rfl rfl (hI.put0 (hI.wf.s rfl) rfl rfl) (hX.upI rfl) (fun g94 e94 hI hX => ?_)
              refine ev_ic f_X12_refuse (nx := 6) (v := -1) rfl (by decide) rfl ?_
              refine ev_retK1 f_X12_refuse rfl rfl rfl ?_
              refine ev_jmp f_X12_taken (nx := 29) rfl rfl rfl ?_
              refine ev_retK1 f_X12_taken rfl rfl rfl ?_
              exact ev_ret f_X12_rules rfl rfl rfl ⟨_, _, _, rfl, hI, hX, ⟨_, rfl, (by decide : ((-1):Int) ≤ ((-1):Int32).toInt), (Int.le_trans (by decide : ((-1):Int32).toInt ≤ ((-1):Int)) (by decide : ((-1):Int) ≤ 12)), (show ((0 ≤ ar1.toInt ∧ ar1.toInt ≤ (gi 69 10).toInt ∧ ar1.toInt ≤ 300) → ∀ (b : Nat → Int32) (n : Nat), (n : Int) = ar1.toInt → (∀ j : Nat, j < n → gi 75 j = b j) → t_by b n → (∃ r : Nat, s_rls b n 301 0 0 0 = ((0, 0), r) ∧ ((-1) : Int) = (r : Int) ∧ (g94 70 3).toInt = (r : Int) ∧ (g94 69 16).toInt = 0 ∧ (g94 69 17).toInt = -1 ∧ (g94 70 8).toInt = 1) ∨ (∃ p x, x ≠ 0 ∧ s_rls b n 301 0 0 0 = ((s_qb b n p x).1, 0) ∧ ((-1) : Int) = -1 ∧ (g94 69 16).toInt = s_fk b n p x ∧ (g94 69 17).toInt = (s_F b n p : Nat) ∧ g94 70 3 = gi 70 3 ∧ g94 70 8 = gi 70 8)) ∧ (¬ (0 ≤ ar1.toInt ∧ ar1.toInt ≤ (gi 69 10).toInt ∧ ar1.toInt ≤ 300) → ((-1) : Int) = -1 ∧ g94 70 3 = gi 70 3 ∧ g94 70 8 = gi 70 8) from ⟨fun _ b n hn hb hy => (by
                                                            rcases j27_2 b n hn hb hy with ⟨h0, q, c, r, _, _, _, _, hf, _, _⟩ | ⟨h0, p, x, hx, h3, h4⟩
                                                            · have h5 := hf.1; exact absurd h5 (by omega)
                                                            · have h5 := h4.1; have h6 := h4.2; exact Or.inr ⟨p, x, hx, h3, rfl, (by rw [e94, x_up2_off (Or.inr (by decide)), e89, x_up2_at]; omega), (by rw [e94, x_up2_off (Or.inr (by decide)), e89, x_up2_off (Or.inr (by decide))]; omega), (((by rw [e94]; exact x_up2_off (Or.inr (by decide)) : g94 70 3 = g89 70 3).trans ((by rw [e89]; exact x_up2_off (Or.inr (by decide)) : g89 70 3 = gi27 70 3).trans c27_2)) : g94 70 3 = gi 70 3), (((by rw [e94]; exact x_up2_off (Or.inr (by decide)) : g94 70 8 = g89 70 8).trans ((by rw [e89]; exact x_up2_off (Or.inr (by decide)) : g89 70 8 = gi27 70 8).trans c27_4)) : g94 70 8 = gi 70 8)⟩), fun hh => absurd (by omega) hh⟩)⟩⟩
        · have r95 : (gi27 69 12).toInt ≠ 0 := fun e => h66 (Int32.toInt_inj.mp (e.trans (by decide : (0:Int) = (0 : Int32).toInt)))
          have l96 : 1 ≤ (gi27 69 12).toInt := t_nel h66 l28 rfl rfl
          refine ev_loc f_X12_rules (nx := 50) rfl rfl rfl rfl ?_
          refine ev_qI f_X12_rules (nx := 53) (r := []) rfl rfl rfl rfl rfl rfl rfl (c_n_aRuleB hI  (j27_0 (by omega)).1 (j27_0 (by omega)).2) rfl hX rfl (fun w97 gi97 gl97 gr97 l97 u97 hI hX hC97 q97 => ?_)
          have q97 : ((gi27 69 14).toInt ≤ (gi97 69 14).toInt ∧ (w97.toInt = 1 → (gi97 69 12).toInt ≠ 0 → (gi27 69 14).toInt < (gi97 69 14).toInt) ∧ (w97.toInt = 0 → (gi97 69 18).toInt ≠ 0) ∧ (w97.toInt = 1 → (t_R4 (gi97 70) (gi97 69 25).toInt ∧ (gi97 69 25).toInt ≤ 8 * (gi97 69 24).toInt))) ∧ ((∀ (b : Nat → Int32) (n q c r : Nat), t_TM b n q gi27 → t_MF gi27 0 (-1) → n ≤ 300 → (gi27 69 24).toInt = (c : Int) → (gi27 70 1403).toInt = (r : Int) → s_K b n q ≠ 0 → (w97.toInt = 1 ∧ ∃ q2 c2 : Nat, (r < 12 ∧ ∀ m, s_rls b n (m + 1) q c r = s_rls b n m q2 c2 (r + 1)) ∧ t_TM b n q2 gi97 ∧ t_MF gi97 0 (-1) ∧ (gi97 69 24).toInt = (c2 : Int) ∧ (gi97 70 1403).toInt = (r : Int) + 1) ∨ (w97.toInt = 0 ∧ ∃ p x, x ≠ 0 ∧ (∀ m, s_rls b n (m + 1) q c r = ((s_qb b n p x).1, 0)) ∧ t_MF gi97 (s_fk b n p x) (s_F b n p)))) := q97
          obtain ⟨l98, u98⟩ := hI.b (hI.wf.s (k := 69) rfl) (t_bdK rfl : t_bd 11 12 = some (0, 4))
          obtain ⟨l99, u99⟩ := hI.b (hI.wf.s (k := 69) rfl) (t_bdK rfl : t_bd 11 14 = some (0, 900))
          obtain ⟨l102, u102⟩ := hI.b (hI.wf.s (k := 69) rfl) (t_bdK rfl : t_bd 11 24 = some (0, 24))
          obtain ⟨l103, u103⟩ := hI.b (hI.wf.s (k := 69) rfl) (t_bdK rfl : t_bd 11 25 = some (0, 210))
          obtain ⟨l104, u104⟩ := hI.ab (by decide +kernel : t_abr 70 1403 1403 0 12 = true) (Nat.le_refl _) (Nat.le_refl _)
          refine ev_loc f_X12_rules (nx := 54) (lo' := [(2, .int w97), (0, .ref 69), (1, .int ar1)]) rfl rfl rfl rfl ?_
          refine ev_jmp f_X12_rules (nx := 38) rfl rfl rfl ?_
          refine ev_sub (lo := [(2, .int w97), (0, .ref 69), (1, .int ar1)]) rfl (t_sc rfl (t_sc rfl (t_sc rfl t_sn))) ?_
          exact ih27 _ (by omega) gi97 gl97 gr97 (w97) hI hX  l97 u97 ((hC97.1 69 10 rfl).1.trans c27_0) ((hC97.1 69 16 rfl).1.trans c27_1) ((hC97.1 70 3 rfl).1.trans c27_2) ((hC97.1 70 4 rfl).1.trans c27_3) ((hC97.1 70 8 rfl).1.trans c27_4) (fun h => (q97.1.2.2.2 (by omega))) (fun h => (q97.1.2.2.1 (by omega))) (fun b n hn hb hy => t_UR_s (j27_2 b n hn hb hy) (by omega) (by omega) (fun q c r h1 h2 h3 h4 h5 h6 => q97.2 b n q c r h1 h2 h3 h4 h5 h6)) rfl
    refine ev_sub (lo := [(2, .int 1), (0, .ref 69), (1, .int ar1)]) rfl (t_sc rfl (t_sc rfl (t_sc rfl t_sn))) ?_
    exact L27 _ g26 gl13 gr13 (1) hI hX  (Int.le_trans (by decide : (0:Int) ≤ 1) (by decide : (1:Int) ≤ (1:Int32).toInt)) (by decide : (1:Int32).toInt ≤ (1:Int)) ((by rw [e26]; exact x_up2_off (Or.inr (by decide)) : g26 69 10 = g25 69 10).trans ((by rw [e25]; exact x_up2_off (Or.inr (by decide)) : g25 69 10 = g24 69 10).trans ((by rw [e24]; exact x_up2_off (Or.inl (by decide)) : g24 69 10 = gi13 69 10).trans rfl))) ((by rw [e26]; exact x_up2_off (Or.inr (by decide)) : g26 69 16 = g25 69 16).trans ((by rw [e25]; exact x_up2_off (Or.inr (by decide)) : g25 69 16 = g24 69 16).trans ((by rw [e24]; exact x_up2_off (Or.inl (by decide)) : g24 69 16 = gi13 69 16).trans ((hC13.1 69 16 rfl).1.trans rfl)))) ((by rw [e26]; exact x_up2_off (Or.inr (by decide)) : g26 70 3 = g25 70 3).trans ((by rw [e25]; exact x_up2_off (Or.inr (by decide)) : g25 70 3 = g24 70 3).trans ((by rw [e24]; exact x_up2_off (Or.inr (by decide)) : g24 70 3 = gi13 70 3).trans ((hC13.1 70 3 rfl).1.trans rfl)))) ((by rw [e26]; exact x_up2_off (Or.inr (by decide)) : g26 70 4 = g25 70 4).trans ((by rw [e25]; exact x_up2_off (Or.inr (by decide)) : g25 70 4 = g24 70 4).trans ((by rw [e24]; exact x_up2_off (Or.inr (by decide)) : g24 70 4 = gi13 70 4).trans ((hC13.1 70 4 rfl).1.trans rfl)))) ((by rw [e26]; exact x_up2_off (Or.inr (by decide)) : g26 70 8 = g25 70 8).trans ((by rw [e25]; exact x_up2_off (Or.inr (by decide)) : g25 70 8 = g24 70 8).trans ((by rw [e24]; exact x_up2_off (Or.inr (by decide)) : g24 70 8 = gi13 70 8).trans ((hC13.1 70 8 rfl).1.trans rfl)))) (fun _ => ⟨t_R4_0 (by have ff105 : (g26 70 1403).toInt = 0 := (congrArg Int32.toInt ((by rw [e26]; exact x_up2_off (Or.inr (by decide)) : g26 70 1403 = g25 70 1403).trans ((by rw [e25]; exact x_up2_off (Or.inr (by decide)) : g25 70 1403 = g24 70 1403).trans (by rw [e24]; exact x_up2_at _ _ _ _ : g24 70 1403 = 0)))).trans (by decide); omega), (by have hb4 := hI.b (hI.wf.s (k := 69) rfl) (t_bdK rfl : t_bd 11 24 = some (0, 24)); have ff106 : (g26 69 24).toInt = 0 := (congrArg Int32.toInt ((by rw [e26]; exact x_up2_off (Or.inr (by decide)) : g26 69 24 = g25 69 24).trans (by rw [e25]; exact x_up2_at _ _ _ _ : g25 69 24 = 0))).trans (by decide); have ff107 : (g26 69 25).toInt = 0 := (congrArg Int32.toInt (by rw [e26]; exact x_up2_at _ _ _ _ : g26 69 25 = 0)).trans (by decide); omega)⟩) (fun h => absurd h (by decide)) (fun b n hn hb hy => (by
                                                            have h1 := q13.1 b n hn hb hy (by omega)
                                                            have h3 := q13.2.1 (by omega)
                                                            have k3 : (300 : Int32).toInt = 300 := rfl
                                                            refine Or.inl ⟨by decide, 0, 0, 0, rfl, Nat.zero_le _, by omega, h1.1.fM (((t_fM.rf.ux (by decide) e24).u9 (by decide) e25).u9 (by decide) e26), h1.2.fM (((t_fM.rf.ux (by decide) e24).u9 (by decide) e25).u9 (by decide) e26), ?_, ?_⟩
                                                            · rw [e26, x_up2_off (Or.inr (by decide)), e25, x_up2_at]; rfl
                                                            · rw [e26, x_up2_ne (by decide), e25, x_up2_ne (by decide)]; exact (congrArg Int32.toInt ((congrFun (congrFun e24 70) 1403).trans (x_up2_at _ _ _ _))).trans rfl)) rfl
/-! ===== what a RIVER holds, on both sides, through the law's loop ===== -/
noncomputable def t_ME (o : Nat) (gi : Nat → Nat → Int32) (D : s_D) : Prop := (((gi 70 o).toInt = D 0 ∧ (gi 70 (o + 1)).toInt = D 1 ∧ (gi 70 (o + 2)).toInt = D 2) ∧ (gi 70 (o + 4)).toInt = D 4 ∧ (gi 70 (o + 5)).toInt = D 5 ∧ (gi 70 (o + 6)).toInt = D 6 ∧ (gi 70 (o + 7)).toInt = D 7) ∧ (∀ i : Nat, (i : Int) < D 0 → t_prt (fun t => gi 70 (o + 10 + 7 * i + t)) (D (10 + i))) ∧ (∀ j : Nat, 52 ≤ j → (j : Int) < 52 + 5 * D 1 → (gi 70 (o + j)).toInt = D j) ∧ ∀ j : Nat, 82 ≤ j → (j : Int) < 82 + 3 * D 2 → (gi 70 (o + j)).toInt = D j
noncomputable def t_CV (gi : Nat → Nat → Int32) (gl : Nat → Nat → Int64) (v : Nat) (D : s_D) : Prop := ((gi v 0).toInt = D 0 ∧ ∀ i : Nat, (i : Int) < D 0 → (gl (v + 1) i).toInt = D (10 + i) ∧ gl (v + 2) i = s_snd (gl (v + 1) i)) ∧ ((gi v 3).toInt = D 4 ∧ (gi v 4).toInt = D 5 ∧ (gi v 5).toInt = D 6 ∧ (gi v 6).toInt = D 7) ∧ ((gi (v + 3) 0).toInt = D 1 ∧ ∀ s : Nat, (s : Int) < D 1 → (gi (v + 9) s).toInt = D (52 + 5 * s) ∧ (gi (v + 3 + 2) s).toInt = D (53 + 5 * s) ∧ (gi (v + 3 + 3) s).toInt = D (54 + 5 * s) ∧ (gi (v + 3 + 4) s).toInt = D (55 + 5 * s) ∧ (gi (v + 3 + 5) s).toInt = D (56 + 5 * s)) ∧ (gi (v + 10) 0).toInt = D 2 ∧ ∀ c : Nat, (c : Int) < D 2 → (gi (v + 10 + 2) c).toInt = D (82 + 3 * c) ∧ (gi (v + 10 + 3) c).toInt = D (83 + 3 * c) ∧ (gi (v + 10 + 4) c).toInt = D (84 + 3 * c) ∧ (gi (v + 10 + 5) c).toInt = 0
/-- the class's RIVER at v, of n cells, and the other side's slot at o hold the same -/
noncomputable def t_DS (n : Nat) (gi : Nat → Nat → Int32) (gl : Nat → Nat → Int64) (gr : Nat → Nat → Value) (v o : Nat) : Prop := ∃ D : s_D, t_Cb D ∧ ((v = 3 ∨ 102 ≤ v) ∧ v + 16 ≤ n) ∧ t_VL gr v ∧ t_CV gi gl v D ∧ t_ME o gi D
noncomputable def t_DR (n : Nat) (gi : Nat → Nat → Int32) (gl : Nat → Nat → Int64) (gr : Nat → Nat → Value) : Prop := (∃ v, gr 0 6 = .ref v ∧ t_DS n gi gl gr v 0) ∧ ∀ k : Nat, (k : Int) < (gi 0 12).toInt → ∃ v, gr 19 k = .ref v ∧ t_DS n gi gl gr v (350 * (k + 1))
noncomputable def t_ndB (wl : List (Nat × Nat)) : Bool := wl.all (fun q => Nat.blt q.1 102 && !(Nat.ble 3 q.1 && Nat.blt q.1 19))
section DREL
variable {sh sh2 : List (Nat ⊕ (Nat × Nat))} {gi g1 g2 : Nat → Nat → Int32} {gl l1 l2 : Nat → Nat → Int64} {gr r1 r2 : Nat → Nat → Value} {D : s_D} {w w1 w2 : List (Nat × Nat)} {n n' v o o' : Nat}
theorem t_MD.e (h : t_MD o gi D) : t_ME o gi D := ⟨h.1, h.2.1, h.2.2.1, h.2.2.2.1⟩
theorem t_ME.mv (h : t_ME o gi D) (hb : t_Cb D) (e : ∀ j, j < 100 → j ≠ 3 → j ≠ 8 → g1 70 (o' + j) = gi 70 (o + j)) : t_ME o' g1 D := by
  obtain ⟨⟨⟨a0, a1, a2⟩, a4, a5, a6, a7⟩, hp, hs, hc⟩ := h
  obtain ⟨⟨b1, b2⟩, ⟨b3, b4⟩, b5, b6⟩ := hb
  have e0 : g1 70 o' = gi 70 o := e 0 (by decide) (by decide) (by decide)
  refine ⟨⟨⟨by rw [e0]; exact a0, by rw [e 1 (by decide) (by decide) (by decide)]; exact a1, by rw [e 2 (by decide) (by decide) (by decide)]; exact a2⟩, by rw [e 4 (by decide) (by decide) (by decide)]; exact a4, by rw [e 5 (by decide) (by decide) (by decide)]; exact a5, by rw [e 6 (by decide) (by decide) (by decide)]; exact a6, by rw [e 7 (by decide) (by decide) (by decide)]; exact a7⟩, fun i hi => ?_, fun j hj hj2 => ?_, fun j hj hj2 => ?_⟩
  · refine t_prt_cg (hp i hi) (fun t ht => ?_)
    show g1 70 (o' + 10 + 7 * i + t) = gi 70 (o + 10 + 7 * i + t)
    have h1 := e (10 + 7 * i + t) (by omega) (by omega) (by omega)
    rw [show o' + 10 + 7 * i + t = o' + (10 + 7 * i + t) by omega, show o + 10 + 7 * i + t = o + (10 + 7 * i + t) by omega]
    exact h1
  · rw [e j (by omega) (by omega) (by omega)]; exact hs j hj hj2
  · rw [e j (by omega) (by omega) (by omega)]; exact hc j hj hj2
theorem t_CR.cv {r : Nat} {m : Int} {P : Int → Prop} (h : t_CR gi gl r D m P) : t_CV gi gl (r + 2) D := by
  obtain ⟨-, -, ⟨a0, a1⟩, ⟨b, -⟩, ⟨c0, c1⟩, d0, d1⟩ := h
  exact ⟨⟨a0, fun i hi => (a1 i hi).2⟩, b, ⟨c0, c1⟩, d0, d1⟩
theorem t_CV.fr (h : t_CV gi gl v D) (e : ∀ K, v ≤ K → K < v + 16 → g1 K = gi K ∧ l1 K = gl K ∧ r1 K = gr K) : t_CV g1 l1 v D := by
  unfold t_CV
  rw [(e v (by omega) (by omega)).1, (e (v + 1) (by omega) (by omega)).2.1, (e (v + 2) (by omega) (by omega)).2.1, (e (v + 3) (by omega) (by omega)).1, (e (v + 9) (by omega) (by omega)).1, (e (v + 3 + 2) (by omega) (by omega)).1, (e (v + 3 + 3) (by omega) (by omega)).1, (e (v + 3 + 4) (by omega) (by omega)).1, (e (v + 3 + 5) (by omega) (by omega)).1, (e (v + 10) (by omega) (by omega)).1, (e (v + 10 + 2) (by omega) (by omega)).1, (e (v + 10 + 3) (by omega) (by omega)).1, (e (v + 10 + 4) (by omega) (by omega)).1, (e (v + 10 + 5) (by omega) (by omega)).1]
  exact h
theorem t_VL.fr (h : t_VL gr v) (e : ∀ K, v ≤ K → K < v + 16 → g1 K = gi K ∧ l1 K = gl K ∧ r1 K = gr K) : t_VL r1 v := by
  unfold t_VL
  rw [(e v (by omega) (by omega)).2.2, (e (v + 3) (by omega) (by omega)).2.2, (e (v + 10) (by omega) (by omega)).2.2]
  exact h
theorem t_DS.fr (h : t_DS n gi gl gr v o) (hn : n ≤ n') (e : ∀ K, (3 ≤ K ∧ K < 19) ∨ (102 ≤ K ∧ K < n) → g1 K = gi K ∧ l1 K = gl K ∧ r1 K = gr K) (em : ∀ j, j < 100 → j ≠ 3 → j ≠ 8 → g1 70 (o' + j) = gi 70 (o + j)) : t_DS n' g1 l1 r1 v o' := by
  obtain ⟨D, hb, ⟨hv, hv2⟩, hl, hc, hm⟩ := h
  have e2 : ∀ K, v ≤ K → K < v + 16 → g1 K = gi K ∧ l1 K = gl K ∧ r1 K = gr K := fun K k1 k2 => e K (by omega)
  exact ⟨D, hb, ⟨hv, by omega⟩, hl.fr e2, hc.fr e2, hm.mv hb em⟩
theorem t_nd_fr (hX : t_X w sh gi gl gr g1 l1 r1) (h : t_ndB w = true) : ∀ K, (3 ≤ K ∧ K < 19) ∨ 102 ≤ K → g1 K = gi K ∧ l1 K = gl K ∧ r1 K = gr K := by
  intro K hK
  have hcd : (3 ≤ t_cd sh K ∧ t_cd sh K < 19) ∨ 102 ≤ t_cd sh K := by
    unfold t_cd
    by_cases h1 : K < 102
    · rw [if_pos h1]; omega
    · rw [if_neg h1]
      right
      split
      · rename_i s _
        cases s with
        | inl c => show 102 ≤ 110 + c; omega
        | inr q => show 102 ≤ 130 + q.1; omega
      · exact Nat.le_refl _
  have hin : ∀ j, t_in w (t_cd sh K) j = false := by
    intro j
    unfold t_in
    rw [List.any_eq_false]
    intro q hq hh
    have h1 := List.all_eq_true.mp h q hq
    rw [Bool.and_eq_true, Bool.not_eq_true'] at h1
    have h2 : q.1 < 102 := Nat.blt_eq.mp h1.1
    have h3 : q.1 = t_cd sh K := by have := ((Bool.and_eq_true _ _).mp hh).1; exact eq_of_beq this
    have h4 : (Nat.ble 3 q.1 && Nat.blt q.1 19) = true := by
      rw [Bool.and_eq_true]
      exact ⟨Nat.ble_eq.mpr (by omega), Nat.blt_eq.mpr (by omega)⟩
    rw [h1.2] at h4
    cases h4
  exact ⟨funext fun j => (hX.1 K j (hin j)).1, funext fun j => (hX.1 K j (hin j)).2.1, funext fun j => (hX.1 K j (hin j)).2.2⟩
theorem t_F_nr (f : t_F w gi gl gr g1 l1 r1) {c : Nat} (h : t_nc w c = true) (hc : c < 102) : r1 c = gr c := funext fun j => (f c j hc (t_nc_in h)).2.2
/-- no RIVER is touched, nor which is there, nor the MARKS -/
theorem t_DR_gen (hD : t_DR n gi gl gr) (hn : n ≤ n') (e : ∀ K, (3 ≤ K ∧ K < 19) ∨ (102 ≤ K ∧ K < n) → g2 K = gi K ∧ l2 K = gl K ∧ r2 K = gr K) (e6 : r2 0 6 = gr 0 6) (e12 : g2 0 12 = gi 0 12) (e19 : r2 19 = gr 19) (em : ∀ j, j < 1400 → j % 350 ≠ 3 → j % 350 ≠ 8 → j % 350 < 100 → g2 70 j = gi 70 j) (hm : (gi 0 12).toInt ≤ 3) : t_DR n' g2 l2 r2 := by
  obtain ⟨⟨v, h1, h2⟩, h3⟩ := hD
  refine ⟨⟨v, by rw [e6]; exact h1, h2.fr hn e (fun j a b c => em (0 + j) (by omega) (by omega) (by omega) (by omega))⟩, fun k hk => ?_⟩
  rw [e12] at hk
  obtain ⟨u, h4, h5⟩ := h3 k hk
  exact ⟨u, by rw [e19]; exact h4, h5.fr hn e (fun j a b c => em (350 * (k + 1) + j) (by omega) (by omega) (by omega) (by omega))⟩
noncomputable def t_dsB (w1 w2 : List (Nat × Nat)) : Bool := t_ndB w1 && (t_ndB w2 && (t_un w1 (0, 6) && (t_un w2 (0, 6) && (t_un w1 (0, 12) && (t_un w2 (0, 12) && (t_nc w1 19 && (t_nc w2 19 && t_nc w1 70)))))))
theorem t_DR_same (hD : t_DR sh.length gi gl gr) (x1 : t_X w1 sh gi gl gr g1 l1 r1) (x2 : t_X w2 sh g1 l1 r1 g2 l2 r2) (hw : t_dsB w1 w2 = true) (em : ∀ j, j < 1400 → g2 70 j = g1 70 j) (hm : (gi 0 12).toInt ≤ 3) : t_DR sh.length g2 l2 r2 := by
  unfold t_dsB at hw
  simp only [Bool.and_eq_true] at hw
  obtain ⟨a1, a2, a3, a4, a5, a6, a7, a8, a9⟩ := hw
  have f1 := t_F_X x1
  have f2 := t_F_X x2
  refine t_DR_gen hD (Nat.le_refl _) (fun K hK => ?_) ?_ ?_ ?_ (fun j hj _ _ _ => ?_) hm
  · have k1 := t_nd_fr x1 a1 K (by omega)
    have k2 := t_nd_fr x2 a2 K (by omega)
    exact ⟨k2.1.trans k1.1, k2.2.1.trans k1.2.1, k2.2.2.trans k1.2.2⟩
  · rw [(f2 0 6 (by decide) (t_un_ok a4)).2.2, (f1 0 6 (by decide) (t_un_ok a3)).2.2]
  · rw [(f2 0 12 (by decide) (t_un_ok a6)).1, (f1 0 12 (by decide) (t_un_ok a5)).1]
  · rw [t_F_nr f2 a8 (by decide), t_F_nr f1 a7 (by decide)]
  · rw [em j hj, t_F_nc f1 a9 (by decide)]
end DREL
/-! ===== printed by riv.py: MARKS ===== -/
noncomputable def wl_d_mark : List (Nat × Nat) := [(0, 0), (0, 12), (19, 9999), (20, 9999)]
noncomputable def Q_d_mark (gi : Nat → Nat → Int32) (gl : Nat → Nat → Int64) (gr : Nat → Nat → Value) : Int32 → (Nat → Nat → Int32) → (Nat → Nat → Int64) → (Nat → Nat → Value) → Prop := fun (v : Int32) (gi2 : Nat → Nat → Int32) (gl2 : Nat → Nat → Int64) (gr2 : Nat → Nat → Value) => ((gi 0 12).toInt ≠ 3 → (∀ j : Nat, gr2 19 j = if (j : Int) = (gi 0 12).toInt then gr 0 6 else gr 19 j) ∧ (∀ j : Nat, gr2 20 j = if (j : Int) = (gi 0 12).toInt then gr 0 7 else gr 20 j)) ∧ ((gi 0 12).toInt = 3 → (∀ j : Nat, gr2 19 j = gr 19 j) ∧ (∀ j : Nat, gr2 20 j = gr 20 j))
theorem c_d_mark {X : x_Ext} {d : Nat} {sh : List (Nat ⊕ (Nat × Nat))} {gi : Nat → Nat → Int32} {gl : Nat → Nat → Int64} {gr : Nat → Nat → Value} (hI : t_I sh gi gr) : x_Me X (d + 2) n_X11_mark [.ref 0] (sh, gi, gl, gr) (t_PI wl_d_mark sh gi gl gr (-1) 3 (Q_d_mark gi gl gr)) := by
  have hX : t_X wl_d_mark sh gi gl gr gi gl gr := t_X.rf
  refine me_i f_X11_mark (hI.wf.s rfl) rfl rfl rfl ?_
  obtain ⟨l1, u1⟩ := hI.b (hI.wf.s (k := 0) rfl) (t_bdK rfl : t_bd 10 12 = some (0, 3))
  refine ev_loc f_X11_mark (nx := 1) rfl rfl rfl rfl ?_
  refine ev_gvI f_X11_mark (nx := 4) (w := (gi 0 12)) rfl (hI.wf.s rfl) rfl rfl rfl rfl ?_
  refine ev_ic f_X11_mark (nx := 5) (v := 3) rfl (by decide) rfl ?_
  refine ev_if f_X11_mark (t1 := 14) (t2 := 8) rfl rfl rfl (fun h2 => ?_) (fun h2 => ?_)
  · have u3 : (gi 0 12).toInt ≤ 2 := t_ltu h2 (by decide : (3:Int32).toInt ≤ (3:Int)) rfl
    refine ev_loc f_X11_mark (nx := 15) rfl rfl rfl rfl ?_
    refine ev_getR f_X11_mark (nx := 18) rfl (hI.wf.s rfl) rfl rfl (hI.wf.r rfl) rfl rfl ?_
    refine ev_loc f_X11_mark (nx := 19) rfl rfl rfl rfl ?_
    refine ev_gvI f_X11_mark (nx := 22) (w := (gi 0 12)) rfl (hI.wf.s rfl) rfl rfl rfl rfl ?_
    refine ev_loc f_X11_mark (nx := 23) rfl rfl rfl rfl ?_
    obtain ⟨a4, e4, p4⟩ := hI.2.2.2.1.1
    refine ev_getR f_X11_mark (nx := 26) rfl (hI.wf.s rfl) rfl rfl e4 rfl rfl ?_
    have hE5 := t_eqf_upA (gr := gr) (j := ((gi 0 12) : Int32).toNatClampNeg) (v := .ref a4) (hI.wf.s (k := 19) rfl)
    have hT5 := t_mk19 hI (m := ((gi 0 12) : Int32).toNatClampNeg) (v := .ref a4) (Or.inr ⟨_, rfl, p4⟩)
    replace p4 := p4.ext hE5
    refine ev_aastT f_X11_mark (nx := 27) rfl (hI.wf.s rfl) rfl p4.1 l1 (by decide) u3 (by decide) rfl hT5 (hX.upR (t_inA_ok rfl) hE5) (fun g5 e5 hI hX => ?_)
    rw [← e5] at p4
    refine ev_loc f_X11_mark (nx := 28) rfl rfl rfl rfl ?_
    refine ev_getR f_X11_mark (nx := 31) rfl (hI.wf.s rfl) rfl rfl (hI.wf.r rfl) rfl rfl ?_
    refine ev_loc f_X11_mark (nx := 32) rfl rfl rfl rfl ?_
    refine ev_gvI f_X11_mark (nx := 35) (w := (gi 0 12)) rfl (hI.wf.s rfl) rfl rfl rfl rfl ?_
    refine ev_loc f_X11_mark (nx := 36) rfl rfl rfl rfl ?_
    rcases hI.2.2.2.1.2.1 with e6 | ⟨a6, e6, p6⟩
    · refine ev_getR f_X11_mark (nx := 39) rfl (hI.wf.s rfl) rfl rfl e6 rfl rfl ?_
      have hE7 := t_eqf_upA (gr := g5) (j := ((gi 0 12) : Int32).toNatClampNeg) (v := .null) (hI.wf.s (k := 20) rfl)
      have hT7 := t_mk20 hI (m := ((gi 0 12) : Int32).toNatClampNeg) (v := .null) (Or.inl rfl)
      replace p4 := p4.ext hE7
      refine ev_aastN f_X11_mark (nx := 40) rfl (hI.wf.s rfl) rfl l1 (by decide) u3 (by decide) rfl hT7 (hX.upR (t_inA_ok rfl) hE7) (fun g7 e7 hI hX => ?_)
      rw [← e7] at p4
      refine ev_loc f_X11_mark (nx := 41) rfl rfl rfl rfl ?_
      refine ev_alu f_X11_mark (nx := 42) rfl rfl rfl rfl ?_
      refine ev_gvI f_X11_mark (nx := 45) (w := (gi 0 12)) rfl (hI.wf.s rfl) rfl rfl rfl rfl ?_
      refine ev_ic f_X11_mark (nx := 46) (v := 1) rfl (by decide) rfl ?_
      refine ev_addC f_X11_mark (nx := 47) (c := 1) (l := 1) (u := 3) rfl (by decide) l1 u3 rfl rfl (by decide) (by decide) rfl (fun z8 e8 l8 u8 => ?_)
      refine ev_putIT f_X11_mark (nx := 50) rfl (hI.wf.s rfl) rfl rfl rfl (hI.putB (hI.wf.s rfl) rfl rfl l8 (by decide) u8 (by decide)) (hX.upI rfl) (fun g9 e9 hI hX => ?_)
      refine ev_loc f_X11_mark (nx := 51) rfl rfl rfl rfl ?_
      refine ev_loc f_X11_mark (nx := 52) rfl rfl rfl rfl ?_
      refine ev_gvI f_X11_mark (nx := 55) (w := z8) rfl (hI.wf.s rfl) rfl rfl (by rw [e9]; exact x_up2_at _ _ _ _ : g9 0 12 = z8) rfl ?_
      refine ev_inV2 f_X11_mark (nx := 58) (lo2 := [(0, .ref 0), (1, .int z8)]) rfl rfl rfl rfl f_X11_answer (hI.wf.s rfl) rfl rfl rfl rfl rfl ?_
      refine ev_loc f_X11_answer (nx := 1) rfl rfl rfl rfl ?_
      refine ev_ic f_X11_answer (nx := 2) (v := 0) rfl (by decide) rfl ?_
      refine ev_putIT f_X11_answer (nx := 5) rfl (hI.wf.s rfl) rfl rfl rfl (hI.put0 (hI.wf.s rfl) rfl rfl) (hX.upI rfl) (fun g10 e10 hI hX => ?_)
      refine ev_loc f_X11_answer (nx := 6) rfl rfl rfl rfl ?_
      refine ev_retK1 f_X11_answer rfl rfl rfl ?_
      exact ev_ret f_X11_mark rfl rfl rfl ⟨_, _, _, rfl, hI, hX, ⟨_, rfl, (Int.le_trans (by decide : ((-1):Int) ≤ 1) l8), u8, (show ((gi 0 12).toInt ≠ 3 → (∀ j : Nat, g7 19 j = if (j : Int) = (gi 0 12).toInt then gr 0 6 else gr 19 j) ∧ (∀ j : Nat, g7 20 j = if (j : Int) = (gi 0 12).toInt then gr 0 7 else gr 20 j)) ∧ ((gi 0 12).toInt = 3 → (∀ j : Nat, g7 19 j = gr 19 j) ∧ (∀ j : Nat, g7 20 j = gr 20 j)) from ⟨fun _ => ⟨(fun j => (by have hc := t_clamp (i := ((gi 0 12) : Int32)) (by omega); rw [e7, x_up2_off (Or.inl (by decide)), e5]; by_cases hj : j = ((gi 0 12) : Int32).toNatClampNeg; (rw [hj, x_up2_at, if_pos (by omega)]; exact ((hX.1 0 6 rfl).2.2.symm.trans ((by rw [e7]; exact x_up2_off (Or.inl (by decide)) : g7 0 6 = g5 0 6).trans ((by rw [e5]; exact x_up2_off (Or.inl (by decide)) : g5 0 6 = gr 0 6).trans e4))).symm); (rw [x_up2_off (Or.inr hj), if_neg (by omega)]))), (fun j => (by have hc := t_clamp (i := ((gi 0 12) : Int32)) (by omega); rw [e7]; by_cases hj : j = ((gi 0 12) : Int32).toNatClampNeg; (rw [hj, x_up2_at, if_pos (by omega)]; exact ((hX.1 0 7 rfl).2.2.symm.trans ((by rw [e7]; exact x_up2_off (Or.inl (by decide)) : g7 0 7 = g5 0 7).trans e6)).symm); (rw [x_up2_off (Or.inr hj), if_neg (by omega), e5, x_up2_off (Or.inl (by decide))])))⟩, fun h => absurd h (by omega)⟩)⟩⟩
    · refine ev_getR f_X11_mark (nx := 39) rfl (hI.wf.s rfl) rfl rfl e6 rfl rfl ?_
      have hE11 := t_eqf_upA (gr := g5) (j := ((gi 0 12) : Int32).toNatClampNeg) (v := .ref a6) (hI.wf.s (k := 20) rfl)
      have hT11 := t_mk20 hI (m := ((gi 0 12) : Int32).toNatClampNeg) (v := .ref a6) (Or.inr ⟨_, rfl, p6⟩)
      replace p4 := p4.ext hE11
      replace p6 := p6.ext hE11
      refine ev_aastT f_X11_mark (nx := 40) rfl (hI.wf.s rfl) rfl p6.1 l1 (by decide) u3 (by decide) rfl hT11 (hX.upR (t_inA_ok rfl) hE11) (fun g11 e11 hI hX => ?_)
      rw [← e11] at p4
      rw [← e11] at p6
      refine ev_loc f_X11_mark (nx := 41) rfl rfl rfl rfl ?_
      refine ev_alu f_X11_mark (nx := 42) rfl rfl rfl rfl ?_
      refine ev_gvI f_X11_mark (nx := 45) (w := (gi 0 12)) rfl (hI.wf.s rfl) rfl rfl rfl rfl ?_
      refine ev_ic f_X11_mark (nx := 46) (v := 1) rfl (by decide) rfl ?_
      refine ev_addC f_X11_mark (nx := 47) (c := 1) (l := 1) (u := 3) rfl (by decide) l1 u3 rfl rfl (by decide) (by decide) rfl (fun z12 e12 l12 u12 => ?_)
      refine ev_putIT f_X11_mark (nx := 50) rfl (hI.wf.s rfl) rfl rfl rfl (hI.putB (hI.wf.s rfl) rfl rfl l12 (by decide) u12 (by decide)) (hX.upI rfl) (fun g13 e13 hI hX => ?_)
      refine ev_loc f_X11_mark (nx := 51) rfl rfl rfl rfl ?_
      refine ev_loc f_X11_mark (nx := 52) rfl rfl rfl rfl ?_
      refine ev_gvI f_X11_mark (nx := 55) (w := z12) rfl (hI.wf.s rfl) rfl rfl (by rw [e13]; exact x_up2_at _ _ _ _ : g13 0 12 = z12) rfl ?_
      refine ev_inV2 f_X11_mark (nx := 58) (lo2 := [(0, .ref 0), (1, .int z12)]) rfl rfl rfl rfl f_X11_answer (hI.wf.s rfl) rfl rfl rfl rfl rfl ?_
      refine ev_loc f_X11_answer (nx := 1) rfl rfl rfl rfl ?_
      refine ev_ic f_X11_answer (nx := 2) (v := 0) rfl (by decide) rfl ?_
      refine ev_putIT f_X11_answer (nx := 5) rfl (hI.wf.s rfl) rfl rfl rfl (hI.put0 (hI.wf.s rfl) rfl rfl) (hX.upI rfl) (fun g14 e14 hI hX => ?_)
      refine ev_loc f_X11_answer (nx := 6) rfl rfl rfl rfl ?_
      refine ev_retK1 f_X11_answer rfl rfl rfl ?_
      exact ev_ret f_X11_mark rfl rfl rfl ⟨_, _, _, rfl, hI, hX, ⟨_, rfl, (Int.le_trans (by decide : ((-1):Int) ≤ 1) l12), u12, (show ((gi 0 12).toInt ≠ 3 → (∀ j : Nat, g11 19 j = if (j : Int) = (gi 0 12).toInt then gr 0 6 else gr 19 j) ∧ (∀ j : Nat, g11 20 j = if (j : Int) = (gi 0 12).toInt then gr 0 7 else gr 20 j)) ∧ ((gi 0 12).toInt = 3 → (∀ j : Nat, g11 19 j = gr 19 j) ∧ (∀ j : Nat, g11 20 j = gr 20 j)) from ⟨fun _ => ⟨(fun j => (by have hc := t_clamp (i := ((gi 0 12) : Int32)) (by omega); rw [e11, x_up2_off (Or.inl (by decide)), e5]; by_cases hj : j = ((gi 0 12) : Int32).toNatClampNeg; (rw [hj, x_up2_at, if_pos (by omega)]; exact ((hX.1 0 6 rfl).2.2.symm.trans ((by rw [e11]; exact x_up2_off (Or.inl (by decide)) : g11 0 6 = g5 0 6).trans ((by rw [e5]; exact x_up2_off (Or.inl (by decide)) : g5 0 6 = gr 0 6).trans e4))).symm); (rw [x_up2_off (Or.inr hj), if_neg (by omega)]))), (fun j => (by have hc := t_clamp (i := ((gi 0 12) : Int32)) (by omega); rw [e11]; by_cases hj : j = ((gi 0 12) : Int32).toNatClampNeg; (rw [hj, x_up2_at, if_pos (by omega)]; exact ((hX.1 0 7 rfl).2.2.symm.trans ((by rw [e11]; exact x_up2_off (Or.inl (by decide)) : g11 0 7 = g5 0 7).trans e6)).symm); (rw [x_up2_off (Or.inr hj), if_neg (by omega), e5, x_up2_off (Or.inl (by decide))])))⟩, fun h => absurd h (by omega)⟩)⟩⟩
  · have l15 : 3 ≤ (gi 0 12).toInt := t_lel (t_nlt h2) (by decide : (3:Int) ≤ (3:Int32).toInt)
    refine ev_loc f_X11_mark (nx := 9) rfl rfl rfl rfl ?_
    refine ev_ic f_X11_mark (nx := 10) (v := 4) rfl (by decide) rfl ?_
    refine ev_inV2 f_X11_mark (nx := 13) (lo2 := [(0, .ref 0), (1, .int 4)]) rfl rfl rfl rfl f_X11_refuse (hI.wf.s rfl) rfl rfl rfl rfl rfl ?_
    refine ev_loc f_X11_refuse (nx := 1) rfl rfl rfl rfl ?_
    refine ev_loc f_X11_refuse (nx := 2) rfl rfl rfl rfl ?_
    refine ev_putIT f_X11_refuse (nx := 5) rfl (hI.wf.s rfl) rfl rfl rfl (hI.put0 (hI.wf.s rfl) rfl rfl) (hX.upI rfl) (fun g16 e16 hI hX => ?_)
    refine ev_ic f_X11_refuse (nx := 6) (v := -1) rfl (by decide) rfl ?_
    refine ev_retK1 f_X11_refuse rfl rfl rfl ?_
    exact ev_ret f_X11_mark rfl rfl rfl ⟨_, _, _, rfl, hI, hX, ⟨_, rfl, (by decide : ((-1):Int) ≤ ((-1):Int32).toInt), (Int.le_trans (by decide : ((-1):Int32).toInt ≤ ((-1):Int)) (by decide : ((-1):Int) ≤ 3)), (show ((gi 0 12).toInt ≠ 3 → (∀ j : Nat, gr 19 j = if (j : Int) = (gi 0 12).toInt then gr 0 6 else gr 19 j) ∧ (∀ j : Nat, gr 20 j = if (j : Int) = (gi 0 12).toInt then gr 0 7 else gr 20 j)) ∧ ((gi 0 12).toInt = 3 → (∀ j : Nat, gr 19 j = gr 19 j) ∧ (∀ j : Nat, gr 20 j = gr 20 j)) from ⟨fun h => absurd h (by omega), fun _ => ⟨fun _ => rfl, fun _ => rfl⟩⟩)⟩⟩
noncomputable def wl_d_back : List (Nat × Nat) := [(0, 0), (0, 6), (0, 7), (0, 12)]
noncomputable def Q_d_back (gi : Nat → Nat → Int32) (gl : Nat → Nat → Int64) (gr : Nat → Nat → Value) : Int32 → (Nat → Nat → Int32) → (Nat → Nat → Int64) → (Nat → Nat → Value) → Prop := fun (v : Int32) (gi2 : Nat → Nat → Int32) (gl2 : Nat → Nat → Int64) (gr2 : Nat → Nat → Value) => ((gi 0 12).toInt = 0 → gr2 0 6 = gr 0 6 ∧ gr2 0 7 = gr 0 7) ∧ ((gi 0 12).toInt ≠ 0 → gr2 0 6 = gr 19 ((gi 0 12).toInt - 1).toNat ∧ gr2 0 7 = gr 20 ((gi 0 12).toInt - 1).toNat)
theorem c_d_back {X : x_Ext} {d : Nat} {sh : List (Nat ⊕ (Nat × Nat))} {gi : Nat → Nat → Int32} {gl : Nat → Nat → Int64} {gr : Nat → Nat → Value} (hI : t_I sh gi gr) (e_p0 : (∀ j : Nat, (j : Int) < (gi 0 12).toInt → gr 19 j ≠ .null)) : x_Me X (d + 2) n_X11_back [.ref 0] (sh, gi, gl, gr) (t_PI wl_d_back sh gi gl gr (-1) 2 (Q_d_back gi gl gr)) := by
  have hX : t_X wl_d_back sh gi gl gr gi gl gr := t_X.rf
  refine me_i f_X11_back (hI.wf.s rfl) rfl rfl rfl ?_
  obtain ⟨l1, u1⟩ := hI.b (hI.wf.s (k := 0) rfl) (t_bdK rfl : t_bd 10 12 = some (0, 3))
  refine ev_loc f_X11_back (nx := 1) rfl rfl rfl rfl ?_
  refine ev_gvI f_X11_back (nx := 4) (w := (gi 0 12)) rfl (hI.wf.s rfl) rfl rfl rfl rfl ?_
  refine ev_ic f_X11_back (nx := 5) (v := 1) rfl (by decide) rfl ?_
  refine ev_if f_X11_back (t1 := 22) (t2 := 8) rfl rfl rfl (fun h2 => ?_) (fun h2 => ?_)
  · have u3 : (gi 0 12).toInt ≤ 0 := t_ltu h2 (by decide : (1:Int32).toInt ≤ (1:Int)) rfl
    refine ev_loc f_X11_back (nx := 23) rfl rfl rfl rfl ?_
    refine ev_bp f_X11_back (nx := 25) (v := 6) rfl (by decide) rfl ?_
    refine ev_inV2 f_X11_back (nx := 28) (lo2 := [(0, .ref 0), (1, .int 6)]) rfl rfl rfl rfl f_X11_refuse (hI.wf.s rfl) rfl rfl rfl rfl rfl ?_
    refine ev_loc f_X11_refuse (nx := 1) rfl rfl rfl rfl ?_
    refine ev_loc f_X11_refuse (nx := 2) rfl rfl rfl rfl ?_
    refine ev_putIT f_X11_refuse (nx := 5) rfl (hI.wf.s rfl) rfl rfl rfl (hI.put0 (hI.wf.s rfl) rfl rfl) (hX.upI rfl) (fun g4 e4 hI hX => ?_)
    refine ev_ic f_X11_refuse (nx := 6) (v := -1) rfl (by decide) rfl ?_
    refine ev_retK1 f_X11_refuse rfl rfl rfl ?_
    exact ev_ret f_X11_back rfl rfl rfl ⟨_, _, _, rfl, hI, hX, ⟨_, rfl, (by decide : ((-1):Int) ≤ ((-1):Int32).toInt), (Int.le_trans (by decide : ((-1):Int32).toInt ≤ ((-1):Int)) (by decide : ((-1):Int) ≤ 2)), (show ((gi 0 12).toInt = 0 → gr 0 6 = gr 0 6 ∧ gr 0 7 = gr 0 7) ∧ ((gi 0 12).toInt ≠ 0 → gr 0 6 = gr 19 ((gi 0 12).toInt - 1).toNat ∧ gr 0 7 = gr 20 ((gi 0 12).toInt - 1).toNat) from ⟨fun _ => ⟨rfl, rfl⟩, fun h => absurd h (by omega)⟩)⟩⟩
  · have l5 : 1 ≤ (gi 0 12).toInt := t_lel (t_nlt h2) (by decide : (1:Int) ≤ (1:Int32).toInt)
    refine ev_loc f_X11_back (nx := 9) rfl rfl rfl rfl ?_
    refine ev_getR f_X11_back (nx := 12) rfl (hI.wf.s rfl) rfl rfl (hI.wf.r rfl) rfl rfl ?_
    refine ev_loc f_X11_back (nx := 13) rfl rfl rfl rfl ?_
    refine ev_gvI f_X11_back (nx := 16) (w := (gi 0 12)) rfl (hI.wf.s rfl) rfl rfl rfl rfl ?_
    refine ev_ic f_X11_back (nx := 17) (v := 1) rfl (by decide) rfl ?_
    refine ev_subC f_X11_back (nx := 18) (c := 1) (l := 0) (u := 2) rfl (by decide) l5 u1 rfl rfl (by decide) (by decide) rfl (fun z6 e6 l6 u6 => ?_)
    rcases hI.2.2.2.1.2.2.1 z6.toNatClampNeg (t_idx (n := 3) l6 (by decide) u6 (by decide)).2 with e7 | ⟨a7, e7, p7⟩
    · refine ev_aald f_X11_back (nx := 19) rfl (hI.wf.s rfl) rfl (t_idx (n := 3) l6 (by decide) u6 (by decide)).1 (t_idx (n := 3) l6 (by decide) u6 (by decide)).2 e7 rfl rfl ?_
      refine ev_jmp f_X11_back (nx := 22) rfl rfl rfl ?_
      refine ev_loc f_X11_back (nx := 23) rfl rfl rfl rfl ?_
      refine ev_bp f_X11_back (nx := 25) (v := 6) rfl (by decide) rfl ?_
      refine ev_inV2 f_X11_back (nx := 28) (lo2 := [(0, .ref 0), (1, .int 6)]) rfl rfl rfl rfl f_X11_refuse (hI.wf.s rfl) rfl rfl rfl rfl rfl ?_
      refine ev_loc f_X11_refuse (nx := 1) rfl rfl rfl rfl ?_
      refine ev_loc f_X11_refuse (nx := 2) rfl rfl rfl rfl ?_
      refine ev_putIT f_X11_refuse (nx := 5) rfl (hI.wf.s rfl) rfl rfl rfl (hI.put0 (hI.wf.s rfl) rfl rfl) (hX.upI rfl) (fun g8 e8 hI hX => ?_)
      refine ev_ic f_X11_refuse (nx := 6) (v := -1) rfl (by decide) rfl ?_
      refine ev_retK1 f_X11_refuse rfl rfl rfl ?_
      exact ev_ret f_X11_back rfl rfl rfl ⟨_, _, _, rfl, hI, hX, ⟨_, rfl, (by decide : ((-1):Int) ≤ ((-1):Int32).toInt), (Int.le_trans (by decide : ((-1):Int32).toInt ≤ ((-1):Int)) (by decide : ((-1):Int) ≤ 2)), (show ((gi 0 12).toInt = 0 → gr 0 6 = gr 0 6 ∧ gr 0 7 = gr 0 7) ∧ ((gi 0 12).toInt ≠ 0 → gr 0 6 = gr 19 ((gi 0 12).toInt - 1).toNat ∧ gr 0 7 = gr 20 ((gi 0 12).toInt - 1).toNat) from (by exfalso; have hc := t_clamp (i := z6) (by omega); exact e_p0 _ (by omega) e7))⟩⟩
    · refine ev_aald f_X11_back (nx := 19) rfl (hI.wf.s rfl) rfl (t_idx (n := 3) l6 (by decide) u6 (by decide)).1 (t_idx (n := 3) l6 (by decide) u6 (by decide)).2 e7 rfl rfl ?_
      refine ev_jmp f_X11_back (nx := 29) rfl rfl rfl ?_
      refine ev_loc f_X11_back (nx := 30) rfl rfl rfl rfl ?_
      refine ev_alu f_X11_back (nx := 31) rfl rfl rfl rfl ?_
      refine ev_gvI f_X11_back (nx := 34) (w := (gi 0 12)) rfl (hI.wf.s rfl) rfl rfl rfl rfl ?_
      refine ev_ic f_X11_back (nx := 35) (v := 1) rfl (by decide) rfl ?_
      refine ev_subC f_X11_back (nx := 36) (c := 1) (l := 0) (u := 2) rfl (by decide) l5 u1 rfl rfl (by decide) (by decide) rfl (fun z9 e9 l9 u9 => ?_)
      refine ev_putIT f_X11_back (nx := 39) rfl (hI.wf.s rfl) rfl rfl rfl (hI.putB (hI.wf.s rfl) rfl rfl l9 (by decide) u9 (by decide)) (hX.upI rfl) (fun g10 e10 hI hX => ?_)
      refine ev_loc f_X11_back (nx := 40) rfl rfl rfl rfl ?_
      refine ev_loc f_X11_back (nx := 41) rfl rfl rfl rfl ?_
      refine ev_getR f_X11_back (nx := 44) rfl (hI.wf.s rfl) rfl rfl (hI.wf.r rfl) rfl rfl ?_
      refine ev_loc f_X11_back (nx := 45) rfl rfl rfl rfl ?_
      refine ev_gvI f_X11_back (nx := 48) (w := z9) rfl (hI.wf.s rfl) rfl rfl (by rw [e10]; exact x_up2_at _ _ _ _ : g10 0 12 = z9) rfl ?_
      refine ev_aald f_X11_back (nx := 49) (v := .ref a7) rfl (hI.wf.s rfl) rfl (t_idx (n := 3) l9 (by decide) u9 (by decide)).1 (t_idx (n := 3) l9 (by decide) u9 (by decide)).2 (by rw [t_ceq (by omega : z9.toInt = z6.toInt)]; exact e7) rfl rfl ?_
      have hE12 := t_eqf_up (gr := gr) (j := 6) (v := .ref a7) (hI.wf.s (k := 0) rfl) rfl
      have hT12 := t_putRiver hI p7
      replace p7 := p7.ext hE12
      refine ev_putRT f_X11_back (nx := 52) rfl (hI.wf.s rfl) rfl rfl rfl rfl hT12 (hX.upR rfl hE12) (fun g12 e12 hI hX => ?_)
      rw [← e12] at p7
      refine ev_loc f_X11_back (nx := 53) rfl rfl rfl rfl ?_
      refine ev_loc f_X11_back (nx := 54) rfl rfl rfl rfl ?_
      refine ev_getR f_X11_back (nx := 57) rfl (hI.wf.s rfl) rfl rfl (hI.wf.r rfl) rfl rfl ?_
      refine ev_loc f_X11_back (nx := 58) rfl rfl rfl rfl ?_
      refine ev_gvI f_X11_back (nx := 61) (w := z9) rfl (hI.wf.s rfl) rfl rfl (by rw [e10]; exact x_up2_at _ _ _ _ : g10 0 12 = z9) rfl ?_
      rcases hI.2.2.2.1.2.2.2.1 z9.toNatClampNeg (t_idx (n := 3) l9 (by decide) u9 (by decide)).2 with e13 | ⟨a13, e13, p13⟩
      · refine ev_aald f_X11_back (nx := 62) rfl (hI.wf.s rfl) rfl (t_idx (n := 3) l9 (by decide) u9 (by decide)).1 (t_idx (n := 3) l9 (by decide) u9 (by decide)).2 e13 rfl rfl ?_
        have hE14 := t_eqf_up (gr := g12) (j := 7) (v := .null) (hI.wf.s (k := 0) rfl) rfl
        have hT14 := t_putRules hI (v := .null) (Or.inl rfl)
        replace p7 := p7.ext hE14
        refine ev_putRT f_X11_back (nx := 65) rfl (hI.wf.s rfl) rfl rfl rfl rfl hT14 (hX.upR rfl hE14) (fun g14 e14 hI hX => ?_)
        rw [← e14] at p7
        refine ev_loc f_X11_back (nx := 66) rfl rfl rfl rfl ?_
        refine ev_loc f_X11_back (nx := 67) rfl rfl rfl rfl ?_
        refine ev_gvI f_X11_back (nx := 70) (w := z9) rfl (hI.wf.s rfl) rfl rfl (by rw [e10]; exact x_up2_at _ _ _ _ : g10 0 12 = z9) rfl ?_
        refine ev_inV2 f_X11_back (nx := 73) (lo2 := [(0, .ref 0), (1, .int z9)]) rfl rfl rfl rfl f_X11_answer (hI.wf.s rfl) rfl rfl rfl rfl rfl ?_
        refine ev_loc f_X11_answer (nx := 1) rfl rfl rfl rfl ?_
        refine ev_ic f_X11_answer (nx := 2) (v := 0) rfl (by decide) rfl ?_
        refine ev_putIT f_X11_answer (nx := 5) rfl (hI.wf.s rfl) rfl rfl rfl (hI.put0 (hI.wf.s rfl) rfl rfl) (hX.upI rfl) (fun g15 e15 hI hX => ?_)
        refine ev_loc f_X11_answer (nx := 6) rfl rfl rfl rfl ?_
        refine ev_retK1 f_X11_answer rfl rfl rfl ?_
        exact ev_ret f_X11_back rfl rfl rfl ⟨_, _, _, rfl, hI, hX, ⟨_, rfl, (Int.le_trans (by decide : ((-1):Int) ≤ 0) l9), u9, (show ((gi 0 12).toInt = 0 → g14 0 6 = gr 0 6 ∧ g14 0 7 = gr 0 7) ∧ ((gi 0 12).toInt ≠ 0 → g14 0 6 = gr 19 ((gi 0 12).toInt - 1).toNat ∧ g14 0 7 = gr 20 ((gi 0 12).toInt - 1).toNat) from ⟨fun h => absurd h (by omega), fun _ => ⟨(by have h := ((by rw [e14]; exact x_up2_off (Or.inr (by decide)) : g14 0 6 = g12 0 6).trans (by rw [e12]; exact x_up2_at _ _ _ _ : g12 0 6 = .ref a7)); have he := e7; have hc := t_clamp (i := z6) (by omega); rw [show ((gi 0 12).toInt - 1).toNat = z6.toNatClampNeg by omega]; exact h.trans he.symm), (by have h := (by rw [e14]; exact x_up2_at _ _ _ _ : g14 0 7 = .null); have he := e13; rw [e12, x_up2_off (Or.inl (by decide))] at he; have hc := t_clamp (i := z9) (by omega); rw [show ((gi 0 12).toInt - 1).toNat = z9.toNatClampNeg by omega]; exact h.trans he.symm)⟩⟩)⟩⟩
      · refine ev_aald f_X11_back (nx := 62) rfl (hI.wf.s rfl) rfl (t_idx (n := 3) l9 (by decide) u9 (by decide)).1 (t_idx (n := 3) l9 (by decide) u9 (by decide)).2 e13 rfl rfl ?_
        have hE16 := t_eqf_up (gr := g12) (j := 7) (v := .ref a13) (hI.wf.s (k := 0) rfl) rfl
        have hT16 := t_putRules hI (v := .ref a13) (Or.inr ⟨_, rfl, p13⟩)
        replace p7 := p7.ext hE16
        replace p13 := p13.ext hE16
        refine ev_putRT f_X11_back (nx := 65) rfl (hI.wf.s rfl) rfl rfl rfl rfl hT16 (hX.upR rfl hE16) (fun g16 e16 hI hX => ?_)
        rw [← e16] at p7
        rw [← e16] at p13
        refine ev_loc f_X11_back (nx := 66) rfl rfl rfl rfl ?_
        refine ev_loc f_X11_back (nx := 67) rfl rfl rfl rfl ?_
        refine ev_gvI f_X11_back (nx := 70) (w := z9) rfl (hI.wf.s rfl) rfl rfl (by rw [e10]; exact x_up2_at _ _ _ _ : g10 0 12 = z9) rfl ?_
        refine ev_inV2 f_X11_back (nx := 73) (lo2 := [(0, .ref 0), (1, .int z9)]) rfl rfl rfl rfl f_X11_answer (hI.wf.s rfl) rfl rfl rfl rfl rfl ?_
        refine ev_loc f_X11_answer (nx := 1) rfl rfl rfl rfl ?_
        refine ev_ic f_X11_answer (nx := 2) (v := 0) rfl (by decide) rfl ?_
        refine ev_putIT f_X11_answer (nx := 5) rfl (hI.wf.s rfl) rfl rfl rfl (hI.put0 (hI.wf.s rfl) rfl rfl) (hX.upI rfl) (fun g17 e17 hI hX => ?_)
        refine ev_loc f_X11_answer (nx := 6) rfl rfl rfl rfl ?_
        refine ev_retK1 f_X11_answer rfl rfl rfl ?_
        exact ev_ret f_X11_back rfl rfl rfl ⟨_, _, _, rfl, hI, hX, ⟨_, rfl, (Int.le_trans (by decide : ((-1):Int) ≤ 0) l9), u9, (show ((gi 0 12).toInt = 0 → g16 0 6 = gr 0 6 ∧ g16 0 7 = gr 0 7) ∧ ((gi 0 12).toInt ≠ 0 → g16 0 6 = gr 19 ((gi 0 12).toInt - 1).toNat ∧ g16 0 7 = gr 20 ((gi 0 12).toInt - 1).toNat) from ⟨fun h => absurd h (by omega), fun _ => ⟨(by have h := ((by rw [e16]; exact x_up2_off (Or.inr (by decide)) : g16 0 6 = g12 0 6).trans (by rw [e12]; exact x_up2_at _ _ _ _ : g12 0 6 = .ref a7)); have he := e7; have hc := t_clamp (i := z6) (by omega); rw [show ((gi 0 12).toInt - 1).toNat = z6.toNatClampNeg by omega]; exact h.trans he.symm), (by have h := (by rw [e16]; exact x_up2_at _ _ _ _ : g16 0 7 = .ref a13); have he := e13; rw [e12, x_up2_off (Or.inl (by decide))] at he; have hc := t_clamp (i := z9) (by omega); rw [show ((gi 0 12).toInt - 1).toNat = z9.toNatClampNeg by omega]; exact h.trans he.symm)⟩⟩)⟩⟩
