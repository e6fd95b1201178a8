/-! ===== printed by riv.py: the steps of the other side ===== -/
noncomputable def Q_o_aCaseB (gi : Nat → Nat → Int32) (gl : Nat → Nat → Int64) (gr : Nat → Nat → Value) (b : Nat → Int32) (ar1 : Int32) : Int32 → (Nat → Nat → Int32) → (Nat → Nat → Int64) → (Nat → Nat → Value) → Prop := fun (v : Int32) (gi2 : Nat → Nat → Int32) (gl2 : Nat → Nat → Int64) (gr2 : Nat → Nat → Value) => ((gi 69 14).toInt ≤ (gi2 69 14).toInt ∧ (v.toInt = 1 → (gi2 69 12).toInt ≠ 0 → (gi 69 14).toInt < (gi2 69 14).toInt) ∧ (v.toInt = 0 → (gi2 69 18).toInt ≠ 0) ∧ (v.toInt = 1 → t_K b gi2 1)) ∧ ((∀ (b : Nat → Int32) (n q : Nat) (K E : List Int), t_OM b n q K E gi → s_fct b n q → ¬ s_nst b n q → s_mi (s_W b n q) = ar1.toInt → v.toInt = 1 → s_cok b n q ∧ t_OM b n (s_cx b n q) K (E ++ [s_ccd b n q]) gi2))
theorem c_o_aCaseB {X : x_Ext} {d : Nat} {sh : List (Nat ⊕ (Nat × Nat))} {gi : Nat → Nat → Int32} {gl : Nat → Nat → Int64} {gr : Nat → Nat → Value} (hI : t_I sh gi gr) (ar1 : Int32) (l_a1 : 15 ≤ ar1.toInt) (u_a1 : ar1.toInt ≤ 26) {b : Nat → Int32} (e_p0 : t_K b gi 0) (e_p1 : (ar1.toInt = 15 ∨ ar1.toInt = 16 ∨ 22 ≤ ar1.toInt)) : x_Me X (d + 3) n_X12_aCase [.ref 69, .int ar1] (sh, gi, gl, gr) (t_PI wl_m_aCase sh gi gl gr 0 1 (Q_o_aCaseB gi gl gr b ar1)) := by
  refine ((x_Me.up (c_m_aCase (X := X) (d := d) (gl := gl) (b := b) hI ar1 l_a1 u_a1 e_p0 e_p1) (by omega)).and (x_Me.up (c_o_aCase (X := X) (d := d) (gl := gl) (b := b) hI ar1 l_a1 u_a1 e_p0 e_p1) (by omega))).mono ?_
  rintro v G' ⟨⟨g1, l1, r1, rfl, k1, k2, x, rfl, k3, k4, k5⟩, g2, l2, r2, e, _, _, x2, e2, _, _, q⟩
  cases e; cases e2
  exact ⟨g1, l1, r1, rfl, k1, k2, x, rfl, k3, k4, k5, q⟩
noncomputable def wl_o_aOne : List (Nat × Nat) := [(69, 12), (69, 13), (69, 14), (69, 15), (69, 17), (69, 18), (69, 22), (69, 23), (69, 24), (69, 25), (70, 154011750), (77, 9999)]
noncomputable def Q_o_aOne (gi : Nat → Nat → Int32) (gl : Nat → Nat → Int64) (gr : Nat → Nat → Value) (b : Nat → Int32) : Int32 → (Nat → Nat → Int32) → (Nat → Nat → Int64) → (Nat → Nat → Value) → Prop := fun (v : Int32) (gi2 : Nat → Nat → Int32) (gl2 : Nat → Nat → Int64) (gr2 : Nat → Nat → Value) => (∀ (b : Nat → Int32) (n q : Nat) (K E : List Int), t_OM b n q K E gi → v.toInt = 1 → ∃ q2 K2 E2, s_Em b n false q K E = s_Em b n true q2 K2 E2 ∧ ¬ (s_isS b n q2 41 ∧ 40 ∈ K2) ∧ t_OM b n q2 K2 E2 gi2)
theorem c_o_aOne {X : x_Ext} {d : Nat} {sh : List (Nat ⊕ (Nat × Nat))} {gi : Nat → Nat → Int32} {gl : Nat → Nat → Int64} {gr : Nat → Nat → Value} (hI : t_I sh gi gr) {b : Nat → Int32} (e_p0 : t_K b gi 0) : x_Me X (d + 6) n_X12_aOne [.ref 69] (sh, gi, gl, gr) (t_PI wl_o_aOne sh gi gl gr 0 1 (Q_o_aOne gi gl gr b)) := by
  have hX : t_X wl_o_aOne sh gi gl gr gi gl gr := t_X.rf
  refine me_i f_X12_aOne (hI.wf.s rfl) rfl rfl rfl ?_
  obtain ⟨l1, u1⟩ := hI.b (hI.wf.s (k := 69) rfl) (t_bdK rfl : t_bd 11 12 = some (0, 4))
  obtain ⟨l2, u2⟩ := hI.b (hI.wf.s (k := 69) rfl) (t_bdK rfl : t_bd 11 14 = some (0, 900))
  obtain ⟨l3, u3⟩ := hI.b (hI.wf.s (k := 69) rfl) (t_bdK rfl : t_bd 11 22 = some (0, 60))
  obtain ⟨l4, u4⟩ := hI.b (hI.wf.s (k := 69) rfl) (t_bdK rfl : t_bd 11 23 = some (0, 6))
  obtain ⟨l5, u5⟩ := hI.b (hI.wf.s (k := 69) rfl) (t_bdK rfl : t_bd 11 24 = some (0, 24))
  obtain ⟨l6, u6⟩ := hI.b (hI.wf.s (k := 69) rfl) (t_bdK rfl : t_bd 11 25 = some (0, 210))
  have L7 : ∀ (m7 : Nat) (gi7 : Nat → Nat → Int32) (gl7 : Nat → Nat → Int64) (gr7 : Nat → Nat → Value), t_I sh gi7 gr7 → t_X wl_o_aOne sh gi gl gr gi7 gl7 gr7 → gi7 69 24 = (gi 69 24) → gi7 69 25 = (gi 69 25) → t_K b gi7 0 → (gi 69 14).toInt ≤ (gi7 69 14).toInt → (∀ (b : Nat → Int32) (n q : Nat) (K E : List Int), t_OM b n q K E gi → ∃ q2 K2 E2, s_Em b n false q K E = s_Em b n false q2 K2 E2 ∧ t_OM b n q2 K2 E2 gi7) → (2 * (900 - (gi7 69 14).toInt) + min (gi7 69 12).toInt 1).toNat = m7 → x_Ev X (d + 6) n_X12_aOne 0 [(0, .ref 69)] [] (sh, gi7, gl7, gr7) (t_PI wl_o_aOne sh gi gl gr 0 1 (Q_o_aOne gi gl gr b)) := by
    intro m7
    induction m7 using Nat.strongRecOn with
    | _ m7 ih7 =>
    intro gi7 gl7 gr7 hI hX c7_0 c7_1 j7_0 j7_1 j7_2 hm7
    have cf7_0 : (gi7 69 24).toInt = (gi 69 24).toInt := congrArg Int32.toInt c7_0
    have cf7_1 : (gi7 69 25).toInt = (gi 69 25).toInt := congrArg Int32.toInt c7_1
    obtain ⟨l8, u8⟩ := hI.b (hI.wf.s (k := 69) rfl) (t_bdK rfl : t_bd 11 12 = some (0, 4))
    obtain ⟨l9, u9⟩ := hI.b (hI.wf.s (k := 69) rfl) (t_bdK rfl : t_bd 11 14 = some (0, 900))
    obtain ⟨l10, u10⟩ := hI.b (hI.wf.s (k := 69) rfl) (t_bdK rfl : t_bd 11 22 = some (0, 60))
    obtain ⟨l11, u11⟩ := hI.b (hI.wf.s (k := 69) rfl) (t_bdK rfl : t_bd 11 23 = some (0, 6))
    refine ev_loc f_X12_aOne (nx := 1) rfl rfl rfl rfl ?_
    refine ev_heap f_X12_aOne (nx := 3) rfl rfl rfl rfl ?_
    refine ev_qI0 f_X12_aOne (nx := 6) (r := []) rfl rfl rfl rfl rfl rfl rfl (c_n_inWords hI ) rfl (fun w12 l12 u12 q12 => ?_)
    have q12 : (∀ (b : Nat → Int32) (n q : Nat), t_TM b n q gi7 → w12.toInt = s_mi (s_W b n q)) ∧ (0 ≤ w12.toInt → (gi7 69 12).toInt = 2) := q12
    refine ev_bp f_X12_aOne (nx := 8) (v := 20) rfl (by decide) rfl ?_
    refine ev_if f_X12_aOne (t1 := 20) (t2 := 11) rfl rfl rfl (fun h13 => ?_) (fun h13 => ?_)
    · have u14 : w12.toInt ≤ 20 := t_equ h13 (by decide : (20:Int32).toInt ≤ (20:Int))
      have l15 : 20 ≤ w12.toInt := t_eql h13 (by decide : (20:Int) ≤ (20:Int32).toInt)
      refine ev_loc f_X12_aOne (nx := 21) rfl rfl rfl rfl ?_
      refine ev_gvI f_X12_aOne (nx := 24) (w := (gi7 69 23)) rfl (hI.wf.s rfl) rfl rfl rfl rfl ?_
      refine ev_bp f_X12_aOne (nx := 26) (v := 6) rfl (by decide) rfl ?_
      refine ev_if f_X12_aOne (t1 := 29) (t2 := 36) rfl rfl rfl (fun h16 => ?_) (fun h16 => ?_)
      · have l17 : 6 ≤ (gi7 69 23).toInt := t_eql h16 (by decide : (6:Int) ≤ (6:Int32).toInt)
        refine ev_loc f_X12_aOne (nx := 30) rfl rfl rfl rfl ?_
        refine ev_bp f_X12_aOne (nx := 32) (v := 7) rfl (by decide) rfl ?_
        refine ev_qI f_X12_aOne (nx := 35) (r := []) rfl rfl rfl rfl rfl rfl rfl (c_n_fails hI (7) (Int.le_trans (by decide : (2:Int) ≤ 7) (by decide : (7:Int) ≤ (7:Int32).toInt)) (by decide : (7:Int32).toInt ≤ (7:Int))) rfl hX rfl (fun w18 gi18 gl18 gr18 l18 u18 hI hX hC18 q18 => ?_)
        have q18 : (∀ (b : Nat → Int32) (n q : Nat), t_TM b n q gi7 → (gi7 69 18).toInt = 0 → t_MF gi18 (s_fk b n q 7) (s_F b n q)) ∧ w18.toInt = 0 := q18
        exact ev_retZ f_X12_aOne rfl l18 (Int.le_trans u18 (by decide : (0:Int) ≤ 1)) ⟨_, _, _, rfl, hI, hX, ⟨_, rfl, l18, (Int.le_trans u18 (by decide : (0:Int) ≤ 1)), (show (∀ (b : Nat → Int32) (n q : Nat) (K E : List Int), t_OM b n q K E gi → w18.toInt = 1 → ∃ q2 K2 E2, s_Em b n false q K E = s_Em b n true q2 K2 E2 ∧ ¬ (s_isS b n q2 41 ∧ 40 ∈ K2) ∧ t_OM b n q2 K2 E2 gi18) from (fun b n q K E h hv => absurd hv (by have := q18.2; omega)))⟩⟩
      · have r19 : (gi7 69 23).toInt ≠ 6 := fun e => h16 (Int32.toInt_inj.mp (e.trans (by decide : (6:Int) = (6 : Int32).toInt)))
        have u20 : (gi7 69 23).toInt ≤ 5 := t_neu h16 u11 rfl rfl
        refine ev_loc f_X12_aOne (nx := 37) rfl rfl rfl rfl ?_
        refine ev_alu f_X12_aOne (nx := 38) rfl rfl rfl rfl ?_
        refine ev_gvI f_X12_aOne (nx := 41) (w := (gi7 69 23)) rfl (hI.wf.s rfl) rfl rfl rfl rfl ?_
        refine ev_ic f_X12_aOne (nx := 42) (v := 1) rfl (by decide) rfl ?_
        refine ev_addC f_X12_aOne (nx := 43) (c := 1) (l := 1) (u := 6) rfl (by decide) l11 u20 rfl rfl (by decide) (by decide) rfl (fun z21 e21 l21 u21 => ?_)
        refine ev_putIT f_X12_aOne (nx := 46) rfl (hI.wf.s rfl) rfl rfl rfl (hI.putB (hI.wf.s rfl) rfl rfl l21 (by decide) u21 (by decide)) (hX.upI rfl) (fun g22 e22 hI hX => ?_)
        refine ev_loc f_X12_aOne (nx := 47) rfl rfl rfl rfl ?_
        refine ev_loc f_X12_aOne (nx := 48) rfl rfl rfl rfl ?_
        refine ev_bp f_X12_aOne (nx := 50) (v := 40) rfl (by decide) rfl ?_
        refine ev_qI0 f_X12_aOne (nx := 53) (r := [.ref 69]) rfl rfl rfl rfl rfl rfl rfl (c_n_isSignB hI (40)) rfl (fun w23 l23 u23 q23 => ?_)
        have ff24 : (g22 69 12).toInt = (gi7 69 12).toInt := congrArg Int32.toInt ((by rw [e22]; exact x_up2_off (Or.inr (by decide)) : g22 69 12 = gi7 69 12).trans rfl)
        have q23 : (∀ (b : Nat → Int32) (n q : Nat), t_TM b n q g22 → (w23.toInt = 1 ↔ s_isS b n q 40)) ∧ (w23.toInt = 1 → (g22 69 12).toInt = 4) := q23
        refine ev_if f_X12_aOne (t1 := 61) (t2 := 56) rfl rfl rfl (fun h25 => ?_) (fun h25 => ?_)
        · have u26 : w23.toInt ≤ 0 := t_equ h25 (by decide : (0:Int32).toInt ≤ (0:Int))
          refine ev_bp f_X12_aOne (nx := 63) (v := 20) rfl (by decide) rfl ?_
          refine ev_inV2 f_X12_aOne (nx := 66) (lo2 := [(0, .ref 69), (1, .int 20)]) rfl rfl rfl rfl f_X12_does (hI.wf.s rfl) rfl rfl rfl rfl rfl ?_
          have kn27 := t_K_num j7_0
          refine ev_loc f_X12_does (nx := 1) rfl rfl rfl rfl ?_
          refine ev_getR f_X12_does (nx := 4) rfl (hI.wf.s rfl) rfl rfl (hI.wf.r rfl) rfl rfl ?_
          refine ev_loc f_X12_does (nx := 5) rfl rfl rfl rfl ?_
          refine ev_gvI f_X12_does (nx := 8) (w := (gi7 69 22)) rfl (hI.wf.s rfl) rfl rfl ((by rw [e22]; exact x_up2_off (Or.inr (by decide)) : g22 69 22 = gi7 69 22).trans rfl) rfl ?_
          refine ev_loc f_X12_does (nx := 9) rfl rfl rfl rfl ?_
          have u29 : (gi7 69 22).toInt ≤ (59:Int) := (by omega)
          refine ev_iastT f_X12_does (nx := 10) rfl (hI.wf.s rfl) l10 (by decide) u29 (by decide) rfl (hI.astG (hI.wf.s rfl) (fun lo hi e => absurd e (t_nob (by decide +kernel) _)) (fun k hk e => by have := hk.2.1; omega)) (hX.upI (t_inA_ok rfl)) (fun g28 e28 hI hX => ?_)
          refine ev_loc f_X12_does (nx := 11) rfl rfl rfl rfl ?_
          refine ev_alu f_X12_does (nx := 12) rfl rfl rfl rfl ?_
          refine ev_gvI f_X12_does (nx := 15) (w := (gi7 69 22)) rfl (hI.wf.s rfl) rfl rfl ((by rw [e28]; exact x_up2_off (Or.inl (by decide)) : g28 69 22 = g22 69 22).trans ((by rw [e22]; exact x_up2_off (Or.inr (by decide)) : g22 69 22 = gi7 69 22).trans rfl)) rfl ?_
          refine ev_ic f_X12_does (nx := 16) (v := 1) rfl (by decide) rfl ?_
          refine ev_addC f_X12_does (nx := 17) (c := 1) (l := 1) (u := 60) rfl (by decide) l10 u29 rfl rfl (by decide) (by decide) rfl (fun z30 e30 l30 u30 => ?_)
          refine ev_putIT f_X12_does (nx := 20) rfl (hI.wf.s rfl) rfl rfl rfl (hI.putB (hI.wf.s rfl) rfl rfl l30 (by decide) u30 (by decide)) (hX.upI rfl) (fun g31 e31 hI hX => ?_)
          refine ev_retK0 f_X12_does rfl rfl rfl ?_
          refine ev_loc f_X12_aOne (nx := 67) rfl rfl rfl rfl ?_
          refine ev_qN f_X12_aOne (nx := 70) (r := []) rfl rfl rfl rfl rfl rfl rfl (c_n_aheadB hI ) rfl hX rfl (fun gi32 gl32 gr32 hI hX hC32 q32 => ?_)
          have ff33 : (g31 69 14).toInt = (gi7 69 14).toInt := congrArg Int32.toInt ((by rw [e31]; exact x_up2_off (Or.inr (by decide)) : g31 69 14 = g28 69 14).trans ((by rw [e28]; exact x_up2_off (Or.inl (by decide)) : g28 69 14 = g22 69 14).trans ((by rw [e22]; exact x_up2_off (Or.inr (by decide)) : g22 69 14 = gi7 69 14).trans rfl)))
          have q32 : ((g31 69 14).toInt ≤ (gi32 69 14).toInt ∧ ((gi32 69 12).toInt ≠ 0 → (g31 69 14).toInt < (gi32 69 14).toInt) ∧ ((gi32 69 12).toInt = 3 → 0 ≤ (gi32 69 15).toInt)) ∧ (∀ (b : Nat → Int32) (n q : Nat), t_Sm b n q g31 → t_TM b n q gi32) := q32
          obtain ⟨l34, u34⟩ := hI.b (hI.wf.s (k := 69) rfl) (t_bdK rfl : t_bd 11 12 = some (0, 4))
          obtain ⟨l35, u35⟩ := hI.b (hI.wf.s (k := 69) rfl) (t_bdK rfl : t_bd 11 14 = some (0, 900))
          refine ev_jmp f_X12_aOne (nx := 0) rfl rfl rfl ?_
          refine ev_sub (lo := [(0, .ref 69)]) rfl (t_sc rfl t_sn) ?_
          exact ih7 _ (by omega) gi32 gl32 gr32  hI hX  ((hC32.1 69 24 rfl).1.trans ((by rw [e31]; exact x_up2_off (Or.inr (by decide)) : g31 69 24 = g28 69 24).trans ((by rw [e28]; exact x_up2_off (Or.inl (by decide)) : g28 69 24 = g22 69 24).trans ((by rw [e22]; exact x_up2_off (Or.inr (by decide)) : g22 69 24 = gi7 69 24).trans c7_0)))) ((hC32.1 69 25 rfl).1.trans ((by rw [e31]; exact x_up2_off (Or.inr (by decide)) : g31 69 25 = g28 69 25).trans ((by rw [e28]; exact x_up2_off (Or.inl (by decide)) : g28 69 25 = g22 69 25).trans ((by rw [e22]; exact x_up2_off (Or.inr (by decide)) : g22 69 25 = gi7 69 25).trans c7_1)))) (by have ho := (t_onec (p := (gi7 69 22).toInt.toNat) ((by rw [e22]; exact x_up2_ne (by decide) : g22 77 = gi7 77)) e28 ((funext (fun j => (hC32.1 77 j rfl).1) : gi32 77 = g31 77).trans ((by rw [e31]; exact x_up2_ne (by decide) : g31 77 = g28 77))) (by have hc := t_clamp (i := (gi7 69 22)) (by omega); omega)); exact t_K_does j7_0 (by omega) (by decide) (show (gi32 69 22).toInt = (gi7 69 22).toInt + 1 from (by have ff36 : (gi32 69 22).toInt = z30.toInt := congrArg Int32.toInt ((hC32.1 69 22 rfl).1.trans (by rw [e31]; exact x_up2_at _ _ _ _ : g31 69 22 = z30)); omega)) (show (gi32 69 23).toInt = (gi7 69 23).toInt + 1 from (by have ff37 : (gi32 69 23).toInt = z21.toInt := congrArg Int32.toInt ((hC32.1 69 23 rfl).1.trans ((by rw [e31]; exact x_up2_off (Or.inr (by decide)) : g31 69 23 = g28 69 23).trans ((by rw [e28]; exact x_up2_off (Or.inl (by decide)) : g28 69 23 = g22 69 23).trans (by rw [e22]; exact x_up2_at _ _ _ _ : g22 69 23 = z21)))); omega)) (show (gi32 69 24).toInt = (gi7 69 24).toInt from (by have ff38 : (gi32 69 24).toInt = (gi 69 24).toInt := congrArg Int32.toInt ((hC32.1 69 24 rfl).1.trans ((by rw [e31]; exact x_up2_off (Or.inr (by decide)) : g31 69 24 = g28 69 24).trans ((by rw [e28]; exact x_up2_off (Or.inl (by decide)) : g28 69 24 = g22 69 24).trans ((by rw [e22]; exact x_up2_off (Or.inr (by decide)) : g22 69 24 = gi7 69 24).trans c7_0)))); omega)) (show (gi32 69 25).toInt = (gi7 69 25).toInt from (by have ff39 : (gi32 69 25).toInt = (gi 69 25).toInt := congrArg Int32.toInt ((hC32.1 69 25 rfl).1.trans ((by rw [e31]; exact x_up2_off (Or.inr (by decide)) : g31 69 25 = g28 69 25).trans ((by rw [e28]; exact x_up2_off (Or.inl (by decide)) : g28 69 25 = g22 69 25).trans ((by rw [e22]; exact x_up2_off (Or.inr (by decide)) : g22 69 25 = gi7 69 25).trans c7_1)))); omega)) ((funext (fun j => (hC32.1 70 j rfl).1) : gi32 70 = g31 70).trans ((by rw [e31]; exact x_up2_ne (by decide) : g31 70 = g28 70).trans ((by rw [e28]; exact x_up2_ne (by decide) : g28 70 = g22 70).trans ((by rw [e22]; exact x_up2_ne (by decide) : g22 70 = gi7 70))))) ho.1 ho.2) (by omega) (fun b n q K E h => (by
                                                            obtain ⟨q2, K2, E2, hX, hm⟩ := j7_2 b n q K E h
                                                            have hk := q12.1 b n _ hm.1
                                                            have hN := s_nst_mi.mpr (Or.inl (hk.symm.trans (by omega)))
                                                            have hB := s_Em_n (K := K2) (F := E2) hm.qn hN
                                                            have hS : ¬ s_isS b n q2 40 := fun hh => absurd ((q23.1 b n _ (hm.1.fM (t_fM.rf.u9 (by decide) e22))).mpr hh) (by omega)
                                                            rw [s_brk20 (hN.resolve_right hS)] at hB
                                                            have h1 : t_OM b n q2 (20 :: K2) E2 g31 := hm.pu (v := (20 : Int32)) (((t_fM.rf.u9 (by decide) e22).ux (by decide) e28).u9 (by decide) e31) (by omega) (by rw [e31, x_up2_at]; exact Int.le_antisymm (by omega) (by omega)) (congrArg Int32.toInt (by rw [e31, x_up2_off (Or.inr (by decide)), e28, x_up2_ne (by decide), e22, x_up2_off (Or.inr (by decide))])) ⟨fun j hj => (by have hc := t_clamp (i := (gi7 69 22)) (by omega); rw [e31, x_up2_ne (by decide), e28, x_up2_off (Or.inr (by omega)), e22, x_up2_ne (by decide)]), by have hc := t_clamp (i := (gi7 69 22)) (by omega); rw [show (gi7 69 22).toInt.toNat = (gi7 69 22).toNatClampNeg by omega, e31, x_up2_ne (by decide), e28]; exact x_up2_at _ _ _ _⟩ (funext fun j => (by rw [e31, x_up2_ne (by decide), e28, x_up2_ne (by decide), e22, x_up2_ne (by decide)]))
                                                            have h2 := h1.ah (q32.2 b n _ h1.1.S) (congrArg Int32.toInt (hC32.1 69 22 rfl).1) (congrArg Int32.toInt (hC32.1 69 25 rfl).1) (funext fun j => (hC32.1 77 j rfl).1) (funext fun j => (hC32.1 70 j rfl).1)
                                                            exact ⟨_, _, _, hX.trans hB, h2⟩)) rfl
        · have r40 : w23.toInt ≠ 0 := fun e => h25 (Int32.toInt_inj.mp (e.trans (by decide : (0:Int) = (0 : Int32).toInt)))
          have l41 : 1 ≤ w23.toInt := t_nel h25 l23 rfl rfl
          refine ev_bp f_X12_aOne (nx := 58) (v := 40) rfl (by decide) rfl ?_
          refine ev_jmp f_X12_aOne (nx := 63) rfl rfl rfl ?_
          refine ev_inV2 f_X12_aOne (nx := 66) (lo2 := [(0, .ref 69), (1, .int 40)]) rfl rfl rfl rfl f_X12_does (hI.wf.s rfl) rfl rfl rfl rfl rfl ?_
          have kn42 := t_K_num j7_0
          refine ev_loc f_X12_does (nx := 1) rfl rfl rfl rfl ?_
          refine ev_getR f_X12_does (nx := 4) rfl (hI.wf.s rfl) rfl rfl (hI.wf.r rfl) rfl rfl ?_
          refine ev_loc f_X12_does (nx := 5) rfl rfl rfl rfl ?_
          refine ev_gvI f_X12_does (nx := 8) (w := (gi7 69 22)) rfl (hI.wf.s rfl) rfl rfl ((by rw [e22]; exact x_up2_off (Or.inr (by decide)) : g22 69 22 = gi7 69 22).trans rfl) rfl ?_
          refine ev_loc f_X12_does (nx := 9) rfl rfl rfl rfl ?_
          have u44 : (gi7 69 22).toInt ≤ (59:Int) := (by omega)
          refine ev_iastT f_X12_does (nx := 10) rfl (hI.wf.s rfl) l10 (by decide) u44 (by decide) rfl (hI.astG (hI.wf.s rfl) (fun lo hi e => absurd e (t_nob (by decide +kernel) _)) (fun k hk e => by have := hk.2.1; omega)) (hX.upI (t_inA_ok rfl)) (fun g43 e43 hI hX => ?_)
          refine ev_loc f_X12_does (nx := 11) rfl rfl rfl rfl ?_
          refine ev_alu f_X12_does (nx := 12) rfl rfl rfl rfl ?_
          refine ev_gvI f_X12_does (nx := 15) (w := (gi7 69 22)) rfl (hI.wf.s rfl) rfl rfl ((by rw [e43]; exact x_up2_off (Or.inl (by decide)) : g43 69 22 = g22 69 22).trans ((by rw [e22]; exact x_up2_off (Or.inr (by decide)) : g22 69 22 = gi7 69 22).trans rfl)) rfl ?_
          refine ev_ic f_X12_does (nx := 16) (v := 1) rfl (by decide) rfl ?_
          refine ev_addC f_X12_does (nx := 17) (c := 1) (l := 1) (u := 60) rfl (by decide) l10 u44 rfl rfl (by decide) (by decide) rfl (fun z45 e45 l45 u45 => ?_)
          refine ev_putIT f_X12_does (nx := 20) rfl (hI.wf.s rfl) rfl rfl rfl (hI.putB (hI.wf.s rfl) rfl rfl l45 (by decide) u45 (by decide)) (hX.upI rfl) (fun g46 e46 hI hX => ?_)
          refine ev_retK0 f_X12_does rfl rfl rfl ?_
          refine ev_loc f_X12_aOne (nx := 67) rfl rfl rfl rfl ?_
          refine ev_qN f_X12_aOne (nx := 70) (r := []) rfl rfl rfl rfl rfl rfl rfl (c_n_aheadB hI ) rfl hX rfl (fun gi47 gl47 gr47 hI hX hC47 q47 => ?_)
          have ff48 : (g46 69 14).toInt = (gi7 69 14).toInt := congrArg Int32.toInt ((by rw [e46]; exact x_up2_off (Or.inr (by decide)) : g46 69 14 = g43 69 14).trans ((by rw [e43]; exact x_up2_off (Or.inl (by decide)) : g43 69 14 = g22 69 14).trans ((by rw [e22]; exact x_up2_off (Or.inr (by decide)) : g22 69 14 = gi7 69 14).trans rfl)))
          have q47 : ((g46 69 14).toInt ≤ (gi47 69 14).toInt ∧ ((gi47 69 12).toInt ≠ 0 → (g46 69 14).toInt < (gi47 69 14).toInt) ∧ ((gi47 69 12).toInt = 3 → 0 ≤ (gi47 69 15).toInt)) ∧ (∀ (b : Nat → Int32) (n q : Nat), t_Sm b n q g46 → t_TM b n q gi47) := q47
          obtain ⟨l49, u49⟩ := hI.b (hI.wf.s (k := 69) rfl) (t_bdK rfl : t_bd 11 12 = some (0, 4))
          obtain ⟨l50, u50⟩ := hI.b (hI.wf.s (k := 69) rfl) (t_bdK rfl : t_bd 11 14 = some (0, 900))
          refine ev_jmp f_X12_aOne (nx := 0) rfl rfl rfl ?_
          refine ev_sub (lo := [(0, .ref 69)]) rfl (t_sc rfl t_sn) ?_
          exact ih7 _ (by omega) gi47 gl47 gr47  hI hX  ((hC47.1 69 24 rfl).1.trans ((by rw [e46]; exact x_up2_off (Or.inr (by decide)) : g46 69 24 = g43 69 24).trans ((by rw [e43]; exact x_up2_off (Or.inl (by decide)) : g43 69 24 = g22 69 24).trans ((by rw [e22]; exact x_up2_off (Or.inr (by decide)) : g22 69 24 = gi7 69 24).trans c7_0)))) ((hC47.1 69 25 rfl).1.trans ((by rw [e46]; exact x_up2_off (Or.inr (by decide)) : g46 69 25 = g43 69 25).trans ((by rw [e43]; exact x_up2_off (Or.inl (by decide)) : g43 69 25 = g22 69 25).trans ((by rw [e22]; exact x_up2_off (Or.inr (by decide)) : g22 69 25 = gi7 69 25).trans c7_1)))) (by have ho := (t_onec (p := (gi7 69 22).toInt.toNat) ((by rw [e22]; exact x_up2_ne (by decide) : g22 77 = gi7 77)) e43 ((funext (fun j => (hC47.1 77 j rfl).1) : gi47 77 = g46 77).trans ((by rw [e46]; exact x_up2_ne (by decide) : g46 77 = g43 77))) (by have hc := t_clamp (i := (gi7 69 22)) (by omega); omega)); exact t_K_does j7_0 (by omega) (by decide) (show (gi47 69 22).toInt = (gi7 69 22).toInt + 1 from (by have ff51 : (gi47 69 22).toInt = z45.toInt := congrArg Int32.toInt ((hC47.1 69 22 rfl).1.trans (by rw [e46]; exact x_up2_at _ _ _ _ : g46 69 22 = z45)); omega)) (show (gi47 69 23).toInt = (gi7 69 23).toInt + 1 from (by have ff52 : (gi47 69 23).toInt = z21.toInt := congrArg Int32.toInt ((hC47.1 69 23 rfl).1.trans ((by rw [e46]; exact x_up2_off (Or.inr (by decide)) : g46 69 23 = g43 69 23).trans ((by rw [e43]; exact x_up2_off (Or.inl (by decide)) : g43 69 23 = g22 69 23).trans (by rw [e22]; exact x_up2_at _ _ _ _ : g22 69 23 = z21)))); omega)) (show (gi47 69 24).toInt = (gi7 69 24).toInt from (by have ff53 : (gi47 69 24).toInt = (gi 69 24).toInt := congrArg Int32.toInt ((hC47.1 69 24 rfl).1.trans ((by rw [e46]; exact x_up2_off (Or.inr (by decide)) : g46 69 24 = g43 69 24).trans ((by rw [e43]; exact x_up2_off (Or.inl (by decide)) : g43 69 24 = g22 69 24).trans ((by rw [e22]; exact x_up2_off (Or.inr (by decide)) : g22 69 24 = gi7 69 24).trans c7_0)))); omega)) (show (gi47 69 25).toInt = (gi7 69 25).toInt from (by have ff54 : (gi47 69 25).toInt = (gi 69 25).toInt := congrArg Int32.toInt ((hC47.1 69 25 rfl).1.trans ((by rw [e46]; exact x_up2_off (Or.inr (by decide)) : g46 69 25 = g43 69 25).trans ((by rw [e43]; exact x_up2_off (Or.inl (by decide)) : g43 69 25 = g22 69 25).trans ((by rw [e22]; exact x_up2_off (Or.inr (by decide)) : g22 69 25 = gi7 69 25).trans c7_1)))); omega)) ((funext (fun j => (hC47.1 70 j rfl).1) : gi47 70 = g46 70).trans ((by rw [e46]; exact x_up2_ne (by decide) : g46 70 = g43 70).trans ((by rw [e43]; exact x_up2_ne (by decide) : g43 70 = g22 70).trans ((by rw [e22]; exact x_up2_ne (by decide) : g22 70 = gi7 70))))) ho.1 ho.2) (by omega) (fun b n q K E h => (by
                                                            obtain ⟨q2, K2, E2, hX, hm⟩ := j7_2 b n q K E h
                                                            have hk := q12.1 b n _ hm.1
                                                            have hN := s_nst_mi.mpr (Or.inl (hk.symm.trans (by omega)))
                                                            have hB := s_Em_n (K := K2) (F := E2) hm.qn hN
                                                            have hS : s_isS b n q2 40 := (q23.1 b n _ (hm.1.fM (t_fM.rf.u9 (by decide) e22))).mp (by omega)
                                                            rw [s_brk40 hS] at hB
                                                            have h1 : t_OM b n q2 (40 :: K2) E2 g46 := hm.pu (v := (40 : Int32)) (((t_fM.rf.u9 (by decide) e22).ux (by decide) e43).u9 (by decide) e46) (by omega) (by rw [e46, x_up2_at]; exact Int.le_antisymm (by omega) (by omega)) (congrArg Int32.toInt (by rw [e46, x_up2_off (Or.inr (by decide)), e43, x_up2_ne (by decide), e22, x_up2_off (Or.inr (by decide))])) ⟨fun j hj => (by have hc := t_clamp (i := (gi7 69 22)) (by omega); rw [e46, x_up2_ne (by decide), e43, x_up2_off (Or.inr (by omega)), e22, x_up2_ne (by decide)]), by have hc := t_clamp (i := (gi7 69 22)) (by omega); rw [show (gi7 69 22).toInt.toNat = (gi7 69 22).toNatClampNeg by omega, e46, x_up2_ne (by decide), e43]; exact x_up2_at _ _ _ _⟩ (funext fun j => (by rw [e46, x_up2_ne (by decide), e43, x_up2_ne (by decide), e22, x_up2_ne (by decide)]))
                                                            have h2 := h1.ah (q47.2 b n _ h1.1.S) (congrArg Int32.toInt (hC47.1 69 22 rfl).1) (congrArg Int32.toInt (hC47.1 69 25 rfl).1) (funext fun j => (hC47.1 77 j rfl).1) (funext fun j => (hC47.1 70 j rfl).1)
                                                            exact ⟨_, _, _, hX.trans hB, h2⟩)) rfl
    · have r55 : w12.toInt ≠ 20 := fun e => h13 (Int32.toInt_inj.mp (e.trans (by decide : (20:Int) = (20 : Int32).toInt)))
      refine ev_loc f_X12_aOne (nx := 12) rfl rfl rfl rfl ?_
      refine ev_bp f_X12_aOne (nx := 14) (v := 40) rfl (by decide) rfl ?_
      refine ev_qI0 f_X12_aOne (nx := 17) (r := []) rfl rfl rfl rfl rfl rfl rfl (c_n_isSignB hI (40)) rfl (fun w56 l56 u56 q56 => ?_)
      have q56 : (∀ (b : Nat → Int32) (n q : Nat), t_TM b n q gi7 → (w56.toInt = 1 ↔ s_isS b n q 40)) ∧ (w56.toInt = 1 → (gi7 69 12).toInt = 4) := q56
      refine ev_if f_X12_aOne (t1 := 73) (t2 := 20) rfl rfl rfl (fun h57 => ?_) (fun h57 => ?_)
      · have u58 : w56.toInt ≤ 0 := t_equ h57 (by decide : (0:Int32).toInt ≤ (0:Int))
        refine ev_loc f_X12_aOne (nx := 74) rfl rfl rfl rfl ?_
        refine ev_heap f_X12_aOne (nx := 76) rfl rfl rfl rfl ?_
        refine ev_qI0 f_X12_aOne (nx := 79) (r := []) rfl rfl rfl rfl rfl rfl rfl (c_n_inWords hI ) rfl (fun w59 l59 u59 q59 => ?_)
        have q59 : (∀ (b : Nat → Int32) (n q : Nat), t_TM b n q gi7 → w59.toInt = s_mi (s_W b n q)) ∧ (0 ≤ w59.toInt → (gi7 69 12).toInt = 2) := q59
        refine ev_loc f_X12_aOne (nx := 80) (lo' := [(1, .int w59), (0, .ref 69)]) rfl rfl rfl rfl ?_
        refine ev_loc f_X12_aOne (nx := 81) rfl rfl rfl rfl ?_
        refine ev_bp f_X12_aOne (nx := 83) (v := 15) rfl (by decide) rfl ?_
        refine ev_if f_X12_aOne (t1 := 110) (t2 := 86) rfl rfl rfl (fun h60 => ?_) (fun h60 => ?_)
        · have u61 : w59.toInt ≤ 15 := t_equ h60 (by decide : (15:Int32).toInt ≤ (15:Int))
          have l62 : 15 ≤ w59.toInt := t_eql h60 (by decide : (15:Int) ≤ (15:Int32).toInt)
          refine ev_loc f_X12_aOne (nx := 111) rfl rfl rfl rfl ?_
          refine ev_loc f_X12_aOne (nx := 112) rfl rfl rfl rfl ?_
          refine ev_qI f_X12_aOne (nx := 115) (r := []) rfl rfl rfl rfl rfl rfl rfl (c_o_aCaseB hI (w59) l62 (Int.le_trans u61 (by decide : (15:Int) ≤ 26)) (b := b) j7_0 (by omega)) rfl hX rfl (fun w63 gi63 gl63 gr63 l63 u63 hI hX hC63 q63 => ?_)
          have q63 : ((gi7 69 14).toInt ≤ (gi63 69 14).toInt ∧ (w63.toInt = 1 → (gi63 69 12).toInt ≠ 0 → (gi7 69 14).toInt < (gi63 69 14).toInt) ∧ (w63.toInt = 0 → (gi63 69 18).toInt ≠ 0) ∧ (w63.toInt = 1 → t_K (b) gi63 1)) ∧ ((∀ (b : Nat → Int32) (n q : Nat) (K E : List Int), t_OM b n q K E gi7 → s_fct b n q → ¬ s_nst b n q → s_mi (s_W b n q) = w59.toInt → w63.toInt = 1 → s_cok b n q ∧ t_OM b n (s_cx b n q) K (E ++ [s_ccd b n q]) gi63)) := q63
          obtain ⟨l64, u64⟩ := hI.b (hI.wf.s (k := 69) rfl) (t_bdK rfl : t_bd 11 12 = some (0, 4))
          obtain ⟨l65, u65⟩ := hI.b (hI.wf.s (k := 69) rfl) (t_bdK rfl : t_bd 11 14 = some (0, 900))
          obtain ⟨l66, u66⟩ := hI.b (hI.wf.s (k := 69) rfl) (t_bdK rfl : t_bd 11 24 = some (0, 24))
          obtain ⟨l67, u67⟩ := hI.b (hI.wf.s (k := 69) rfl) (t_bdK rfl : t_bd 11 25 = some (0, 210))
          refine ev_if f_X12_aOne (t1 := 118) (t2 := 120) rfl rfl rfl (fun h68 => ?_) (fun h68 => ?_)
          · have u69 : w63.toInt ≤ 0 := t_equ h68 (by decide : (0:Int32).toInt ≤ (0:Int))
            refine ev_ic f_X12_aOne (nx := 119) (v := 0) rfl (by decide) rfl ?_
            exact ev_ret f_X12_aOne rfl rfl rfl ⟨_, _, _, rfl, hI, hX, ⟨_, rfl, (by decide : (0:Int) ≤ (0:Int32).toInt), (Int.le_trans (by decide : (0:Int32).toInt ≤ (0:Int)) (by decide : (0:Int) ≤ 1)), (show (∀ (b : Nat → Int32) (n q : Nat) (K E : List Int), t_OM b n q K E gi → (0 : Int) = 1 → ∃ q2 K2 E2, s_Em b n false q K E = s_Em b n true q2 K2 E2 ∧ ¬ (s_isS b n q2 41 ∧ 40 ∈ K2) ∧ t_OM b n q2 K2 E2 gi63) from (fun b n q K E h hv => absurd hv (by decide)))⟩⟩
          · have r70 : w63.toInt ≠ 0 := fun e => h68 (Int32.toInt_inj.mp (e.trans (by decide : (0:Int) = (0 : Int32).toInt)))
            have l71 : 1 ≤ w63.toInt := t_nel h68 l63 rfl rfl
            refine ev_loc f_X12_aOne (nx := 121) rfl rfl rfl rfl ?_
            refine ev_qN f_X12_aOne (nx := 124) (r := []) rfl rfl rfl rfl rfl rfl rfl (c_o_turnsRoundB hI  (b := b) (q63.1.2.2.2 (by omega))) rfl hX rfl (fun gi72 gl72 gr72 hI hX hC72 q72 => ?_)
            have q72 : (t_K (b) gi72 2) ∧ ((∀ (b : Nat → Int32) (n q : Nat) (K E : List Int), t_OM b n q K E gi63 → t_OM b n q (s_pp K E).1 (s_pp K E).2 gi72)) := q72
            obtain ⟨l73, u73⟩ := hI.b (hI.wf.s (k := 69) rfl) (t_bdK rfl : t_bd 11 22 = some (0, 60))
            obtain ⟨l74, u74⟩ := hI.b (hI.wf.s (k := 69) rfl) (t_bdK rfl : t_bd 11 23 = some (0, 6))
            obtain ⟨l75, u75⟩ := hI.b (hI.wf.s (k := 69) rfl) (t_bdK rfl : t_bd 11 25 = some (0, 210))
            have L76 : ∀ (m76 : Nat) (gi76 : Nat → Nat → Int32) (gl76 : Nat → Nat → Int64) (gr76 : Nat → Nat → Value), t_I sh gi76 gr76 → t_X wl_o_aOne sh gi gl gr gi76 gl76 gr76 → t_K b gi76 2 → (gi 69 14).toInt ≤ (gi76 69 14).toInt → ((gi76 69 12).toInt ≠ 0 → (gi 69 14).toInt < (gi76 69 14).toInt) → (∀ (b : Nat → Int32) (n q : Nat) (K E : List Int), t_OM b n q K E gi → ∃ q2 K2 E2, s_Em b n false q K E = s_Em b n true q2 K2 E2 ∧ t_OM b n q2 K2 E2 gi76) → (2 * (900 - (gi76 69 14).toInt) + min (gi76 69 12).toInt 1).toNat = m76 → x_Ev X (d + 6) n_X12_aOne 124 [(1, .int w59), (0, .ref 69)] [] (sh, gi76, gl76, gr76) (t_PI wl_o_aOne sh gi gl gr 0 1 (Q_o_aOne gi gl gr b)) := by
              intro m76
              induction m76 using Nat.strongRecOn with
              | _ m76 ih76 =>
              intro gi76 gl76 gr76 hI hX j76_0 j76_1 j76_2 j76_3 hm76
              obtain ⟨l77, u77⟩ := hI.b (hI.wf.s (k := 69) rfl) (t_bdK rfl : t_bd 11 12 = some (0, 4))
              obtain ⟨l78, u78⟩ := hI.b (hI.wf.s (k := 69) rfl) (t_bdK rfl : t_bd 11 14 = some (0, 900))
              obtain ⟨l79, u79⟩ := hI.b (hI.wf.s (k := 69) rfl) (t_bdK rfl : t_bd 11 22 = some (0, 60))
              obtain ⟨l80, u80⟩ := hI.b (hI.wf.s (k := 69) rfl) (t_bdK rfl : t_bd 11 23 = some (0, 6))
              obtain ⟨l81, u81⟩ := hI.b (hI.wf.s (k := 69) rfl) (t_bdK rfl : t_bd 11 24 = some (0, 24))
              obtain ⟨l82, u82⟩ := hI.b (hI.wf.s (k := 69) rfl) (t_bdK rfl : t_bd 11 25 = some (0, 210))
              refine ev_loc f_X12_aOne (nx := 125) rfl rfl rfl rfl ?_
              refine ev_bp f_X12_aOne (nx := 127) (v := 41) rfl (by decide) rfl ?_
              refine ev_qI0 f_X12_aOne (nx := 130) (r := []) rfl rfl rfl rfl rfl rfl rfl (c_n_isSignB hI (41)) rfl (fun w83 l83 u83 q83 => ?_)
              have q83 : (∀ (b : Nat → Int32) (n q : Nat), t_TM b n q gi76 → (w83.toInt = 1 ↔ s_isS b n q 41)) ∧ (w83.toInt = 1 → (gi76 69 12).toInt = 4) := q83
              refine ev_if f_X12_aOne (t1 := 187) (t2 := 133) rfl rfl rfl (fun h84 => ?_) (fun h84 => ?_)
              · have u85 : w83.toInt ≤ 0 := t_equ h84 (by decide : (0:Int32).toInt ≤ (0:Int))
                refine ev_ic f_X12_aOne (nx := 188) (v := 1) rfl (by decide) rfl ?_
                exact ev_ret f_X12_aOne rfl rfl rfl ⟨_, _, _, rfl, hI, hX, ⟨_, rfl, (Int.le_trans (by decide : (0:Int) ≤ 1) (by decide : (1:Int) ≤ (1:Int32).toInt)), (by decide : (1:Int32).toInt ≤ (1:Int)), (show (∀ (b : Nat → Int32) (n q : Nat) (K E : List Int), t_OM b n q K E gi → (1 : Int) = 1 → ∃ q2 K2 E2, s_Em b n false q K E = s_Em b n true q2 K2 E2 ∧ ¬ (s_isS b n q2 41 ∧ 40 ∈ K2) ∧ t_OM b n q2 K2 E2 gi76) from (fun b n q K E h hv => (by
                                                            obtain ⟨q2, K2, E2, hX, hm⟩ := j76_3 b n q K E h
                                                            exact ⟨q2, K2, E2, hX, (fun hh => absurd ((q83.1 b n _ hm.1).mpr hh.1) (by omega)), hm⟩)))⟩⟩
              · have r86 : w83.toInt ≠ 0 := fun e => h84 (Int32.toInt_inj.mp (e.trans (by decide : (0:Int) = (0 : Int32).toInt)))
                have l87 : 1 ≤ w83.toInt := t_nel h84 l83 rfl rfl
                refine ev_loc f_X12_aOne (nx := 134) rfl rfl rfl rfl ?_
                refine ev_qI0 f_X12_aOne (nx := 137) (r := []) rfl rfl rfl rfl rfl rfl rfl (c_m_isWithin hI ) rfl (fun w88 l88 u88 q88 => ?_)
                have q88 : (w88.toInt = 1 → t_ex gi76) ∧ (w88.toInt = 0 → t_n40 gi76) := q88
                refine ev_if f_X12_aOne (t1 := 187) (t2 := 140) rfl rfl rfl (fun h89 => ?_) (fun h89 => ?_)
                · have u90 : w88.toInt ≤ 0 := t_equ h89 (by decide : (0:Int32).toInt ≤ (0:Int))
                  refine ev_ic f_X12_aOne (nx := 188) (v := 1) rfl (by decide) rfl ?_
                  exact ev_ret f_X12_aOne rfl rfl rfl ⟨_, _, _, rfl, hI, hX, ⟨_, rfl, (Int.le_trans (by decide : (0:Int) ≤ 1) (by decide : (1:Int) ≤ (1:Int32).toInt)), (by decide : (1:Int32).toInt ≤ (1:Int)), (show (∀ (b : Nat → Int32) (n q : Nat) (K E : List Int), t_OM b n q K E gi → (1 : Int) = 1 → ∃ q2 K2 E2, s_Em b n false q K E = s_Em b n true q2 K2 E2 ∧ ¬ (s_isS b n q2 41 ∧ 40 ∈ K2) ∧ t_OM b n q2 K2 E2 gi76) from (fun b n q K E h hv => (by
                                                            obtain ⟨q2, K2, E2, hX, hm⟩ := j76_3 b n q K E h
                                                            exact ⟨q2, K2, E2, hX, (fun hh => hm.nx (q88.2 (by omega)) hh.2), hm⟩)))⟩⟩
                · have r91 : w88.toInt ≠ 0 := fun e => h89 (Int32.toInt_inj.mp (e.trans (by decide : (0:Int) = (0 : Int32).toInt)))
                  have l92 : 1 ≤ w88.toInt := t_nel h89 l88 rfl rfl
                  have L93 : ∀ (m93 : Nat) (gi93 : Nat → Nat → Int32) (gl93 : Nat → Nat → Int64) (gr93 : Nat → Nat → Value), t_I sh gi93 gr93 → t_X wl_o_aOne sh gi gl gr gi93 gl93 gr93 → gi93 69 12 = (gi76 69 12) → gi93 69 14 = (gi76 69 14) → gi93 69 23 = (gi76 69 23) → gi93 69 24 = (gi76 69 24) → t_K b gi93 2 → t_ex gi93 → (gi 69 14).toInt ≤ (gi93 69 14).toInt → ((gi93 69 12).toInt ≠ 0 → (gi 69 14).toInt < (gi93 69 14).toInt) → (∀ (b : Nat → Int32) (n q : Nat) (K E : List Int), t_OM b n q K E gi → ∃ q2 K2 E2, s_Em b n false q K E = s_Tr b n (s_E b n q2) (s_pp (s_pkb K2 E2).1 (s_pkb K2 E2).2) ∧ s_isS b n q2 41 ∧ t_OM b n q2 K2 E2 gi93) → (gi93 69 22).toInt.toNat = m93 → x_Ev X (d + 6) n_X12_aOne 140 [(1, .int w59), (0, .ref 69)] [] (sh, gi93, gl93, gr93) (t_PI wl_o_aOne sh gi gl gr 0 1 (Q_o_aOne gi gl gr b)) := by
                    intro m93
                    induction m93 using Nat.strongRecOn with
                    | _ m93 ih93 =>
                    intro gi93 gl93 gr93 hI hX c93_0 c93_1 c93_2 c93_3 j93_0 j93_1 j93_2 j93_3 j93_4 hm93
                    have cf93_0 : (gi93 69 12).toInt = (gi76 69 12).toInt := congrArg Int32.toInt c93_0
                    have cf93_1 : (gi93 69 14).toInt = (gi76 69 14).toInt := congrArg Int32.toInt c93_1
                    have cf93_2 : (gi93 69 23).toInt = (gi76 69 23).toInt := congrArg Int32.toInt c93_2
                    have cf93_3 : (gi93 69 24).toInt = (gi76 69 24).toInt := congrArg Int32.toInt c93_3
                    obtain ⟨l94, u94⟩ := hI.b (hI.wf.s (k := 69) rfl) (t_bdK rfl : t_bd 11 22 = some (0, 60))
                    obtain ⟨l95, u95⟩ := hI.b (hI.wf.s (k := 69) rfl) (t_bdK rfl : t_bd 11 25 = some (0, 210))
                    have l96 : (1:Int) ≤ (gi93 69 22).toInt := by obtain ⟨j, hj, _⟩ := j93_1; omega
                    refine ev_loc f_X12_aOne (nx := 141) rfl rfl rfl rfl ?_
                    refine ev_bp f_X12_aOne (nx := 143) (v := 40) rfl (by decide) rfl ?_
                    refine ev_inV2 f_X12_aOne (nx := 146) (lo2 := [(0, .ref 69), (1, .int 40)]) rfl rfl rfl rfl f_X12_isDoing (hI.wf.s rfl) rfl rfl rfl rfl rfl ?_
                    refine ev_loc f_X12_isDoing (nx := 1) rfl rfl rfl rfl ?_
                    refine ev_gvI f_X12_isDoing (nx := 4) (w := (gi93 69 22)) rfl (hI.wf.s rfl) rfl rfl rfl rfl ?_
                    refine ev_f f_X12_isDoing (t1 := 26) (t2 := 7) rfl rfl rfl (t_leF (by decide : (0:Int32).toInt ≤ (0:Int)) l96 (by decide)) ?_
                    refine ev_loc f_X12_isDoing (nx := 8) rfl rfl rfl rfl ?_
                    refine ev_getR f_X12_isDoing (nx := 11) rfl (hI.wf.s rfl) rfl rfl (hI.wf.r rfl) rfl rfl ?_
                    refine ev_loc f_X12_isDoing (nx := 12) rfl rfl rfl rfl ?_
                    refine ev_gvI f_X12_isDoing (nx := 15) (w := (gi93 69 22)) rfl (hI.wf.s rfl) rfl rfl rfl rfl ?_
                    refine ev_ic f_X12_isDoing (nx := 16) (v := 1) rfl (by decide) rfl ?_
                    refine ev_subC f_X12_isDoing (nx := 17) (c := 1) (l := 0) (u := 59) rfl (by decide) l96 u94 rfl rfl (by decide) (by decide) rfl (fun z97 e97 l97 u97 => ?_)
                    refine ev_ialdT f_X12_isDoing (nx := 18) rfl (hI.wf.s rfl) l97 (by decide) u97 (by decide) rfl (fun w98 e98 => ?_)
                    refine ev_loc f_X12_isDoing (nx := 19) rfl rfl rfl rfl ?_
                    refine ev_if f_X12_isDoing (t1 := 22) (t2 := 26) rfl rfl rfl (fun h99 => ?_) (fun h99 => ?_)
                    · have u100 : w98.toInt ≤ 40 := t_equ h99 (by decide : (40:Int32).toInt ≤ (40:Int))
                      have l101 : 40 ≤ w98.toInt := t_eql h99 (by decide : (40:Int) ≤ (40:Int32).toInt)
                      refine ev_ic f_X12_isDoing (nx := 23) (v := 1) rfl (by decide) rfl ?_
                      refine ev_jmp f_X12_isDoing (nx := 27) rfl rfl rfl ?_
                      refine ev_retK1 f_X12_isDoing rfl rfl rfl ?_
                      refine ev_f f_X12_aOne (t1 := 149) (t2 := 156) rfl rfl rfl (by decide) ?_
                      refine ev_loc f_X12_aOne (nx := 157) rfl rfl rfl rfl ?_
                      refine ev_alu f_X12_aOne (nx := 158) rfl rfl rfl rfl ?_
                      refine ev_gvI f_X12_aOne (nx := 161) (w := (gi93 69 22)) rfl (hI.wf.s rfl) rfl rfl rfl rfl ?_
                      refine ev_ic f_X12_aOne (nx := 162) (v := 1) rfl (by decide) rfl ?_
                      refine ev_subC f_X12_aOne (nx := 163) (c := 1) (l := 0) (u := 59) rfl (by decide) l96 u94 rfl rfl (by decide) (by decide) rfl (fun z102 e102 l102 u102 => ?_)
                      refine ev_putIT f_X12_aOne (nx := 166) rfl (hI.wf.s rfl) rfl rfl rfl (hI.putB (hI.wf.s rfl) rfl rfl l102 (by decide) u102 (by decide)) (hX.upI rfl) (fun g103 e103 hI hX => ?_)
                      refine ev_loc f_X12_aOne (nx := 167) rfl rfl rfl rfl ?_
                      refine ev_alu f_X12_aOne (nx := 168) rfl rfl rfl rfl ?_
                      refine ev_gvI f_X12_aOne (nx := 171) (w := (gi76 69 23)) rfl (hI.wf.s rfl) rfl rfl ((by rw [e103]; exact x_up2_off (Or.inr (by decide)) : g103 69 23 = gi93 69 23).trans c93_2) rfl ?_
                      refine ev_ic f_X12_aOne (nx := 172) (v := 1) rfl (by decide) rfl ?_
                      refine ev_subC f_X12_aOne (nx := 173) (c := 1) (l := (-1)) (u := 5) rfl (by decide) l80 u80 rfl rfl (by decide) (by decide) rfl (fun z104 e104 l104 u104 => ?_)
                      have l106 : (0:Int) ≤ z104.toInt := (by have hw := t_K_w j93_0 (by omega) (by rw [← (by rw [e98]; have hc := t_clamp (i := z97) (by omega); have hx : z97.toNatClampNeg = (gi93 69 22).toInt.toNat - 1 := (by omega); rw [hx] : w98 = gi93 77 ((gi93 69 22).toInt.toNat - 1))]; omega); omega)
                      refine ev_putIT f_X12_aOne (nx := 176) rfl (hI.wf.s rfl) rfl rfl rfl (hI.putB (hI.wf.s rfl) rfl rfl l106 (by decide) u104 (by decide)) (hX.upI rfl) (fun g105 e105 hI hX => ?_)
                      refine ev_loc f_X12_aOne (nx := 177) rfl rfl rfl rfl ?_
                      refine ev_qN f_X12_aOne (nx := 180) (r := []) rfl rfl rfl rfl rfl rfl rfl (c_n_aheadB hI ) rfl hX rfl (fun gi107 gl107 gr107 hI hX hC107 q107 => ?_)
                      have ff108 : (g105 69 14).toInt = (gi76 69 14).toInt := congrArg Int32.toInt ((by rw [e105]; exact x_up2_off (Or.inr (by decide)) : g105 69 14 = g103 69 14).trans ((by rw [e103]; exact x_up2_off (Or.inr (by decide)) : g103 69 14 = gi93 69 14).trans c93_1))
                      have q107 : ((g105 69 14).toInt ≤ (gi107 69 14).toInt ∧ ((gi107 69 12).toInt ≠ 0 → (g105 69 14).toInt < (gi107 69 14).toInt) ∧ ((gi107 69 12).toInt = 3 → 0 ≤ (gi107 69 15).toInt)) ∧ (∀ (b : Nat → Int32) (n q : Nat), t_Sm b n q g105 → t_TM b n q gi107) := q107
                      obtain ⟨l109, u109⟩ := hI.b (hI.wf.s (k := 69) rfl) (t_bdK rfl : t_bd 11 12 = some (0, 4))
                      obtain ⟨l110, u110⟩ := hI.b (hI.wf.s (k := 69) rfl) (t_bdK rfl : t_bd 11 14 = some (0, 900))
                      refine ev_loc f_X12_aOne (nx := 181) rfl rfl rfl rfl ?_
                      refine ev_qN f_X12_aOne (nx := 184) (r := []) rfl rfl rfl rfl rfl rfl rfl (c_o_turnsRoundB hI  (b := b) (t_K_par j93_0 (by omega) (by rw [← (by rw [e98]; have hc := t_clamp (i := z97) (by omega); have hx : z97.toNatClampNeg = (gi93 69 22).toInt.toNat - 1 := (by omega); rw [hx] : w98 = gi93 77 ((gi93 69 22).toInt.toNat - 1))]; omega) (show (gi107 69 22).toInt = (gi93 69 22).toInt - 1 from (by have ff112 : (gi107 69 22).toInt = z102.toInt := congrArg Int32.toInt ((hC107.1 69 22 rfl).1.trans ((by rw [e105]; exact x_up2_off (Or.inr (by decide)) : g105 69 22 = g103 69 22).trans (by rw [e103]; exact x_up2_at _ _ _ _ : g103 69 22 = z102))); omega)) (show (gi107 69 23).toInt = (gi93 69 23).toInt - 1 from (by have ff113 : (gi107 69 23).toInt = z104.toInt := congrArg Int32.toInt ((hC107.1 69 23 rfl).1.trans (by rw [e105]; exact x_up2_at _ _ _ _ : g105 69 23 = z104)); omega)) (show (gi107 69 24).toInt = (gi93 69 24).toInt from (by have ff114 : (gi107 69 24).toInt = (gi76 69 24).toInt := congrArg Int32.toInt ((hC107.1 69 24 rfl).1.trans ((by rw [e105]; exact x_up2_off (Or.inr (by decide)) : g105 69 24 = g103 69 24).trans ((by rw [e103]; exact x_up2_off (Or.inr (by decide)) : g103 69 24 = gi93 69 24).trans c93_3))); omega)) (show (gi107 69 25).toInt = (gi93 69 25).toInt from (by have ff115 : (gi107 69 25).toInt = (gi93 69 25).toInt := congrArg Int32.toInt ((hC107.1 69 25 rfl).1.trans ((by rw [e105]; exact x_up2_off (Or.inr (by decide)) : g105 69 25 = g103 69 25).trans ((by rw [e103]; exact x_up2_off (Or.inr (by decide)) : g103 69 25 = gi93 69 25).trans rfl))); omega)) ((funext (fun j => (hC107.1 77 j rfl).1) : gi107 77 = g105 77).trans ((by rw [e105]; exact x_up2_ne (by decide) : g105 77 = g103 77).trans ((by rw [e103]; exact x_up2_ne (by decide) : g103 77 = gi93 77)))) ((funext (fun j => (hC107.1 70 j rfl).1) : gi107 70 = g105 70).trans ((by rw [e105]; exact x_up2_ne (by decide) : g105 70 = g103 70).trans ((by rw [e103]; exact x_up2_ne (by decide) : g103 70 = gi93 70)))))) rfl hX rfl (fun gi111 gl111 gr111 hI hX hC111 q111 => ?_)
                      have q111 : (t_K (b) gi111 2) ∧ ((∀ (b : Nat → Int32) (n q : Nat) (K E : List Int), t_OM b n q K E gi107 → t_OM b n q (s_pp K E).1 (s_pp K E).2 gi111)) := q111
                      obtain ⟨l116, u116⟩ := hI.b (hI.wf.s (k := 69) rfl) (t_bdK rfl : t_bd 11 22 = some (0, 60))
                      obtain ⟨l117, u117⟩ := hI.b (hI.wf.s (k := 69) rfl) (t_bdK rfl : t_bd 11 23 = some (0, 6))
                      obtain ⟨l118, u118⟩ := hI.b (hI.wf.s (k := 69) rfl) (t_bdK rfl : t_bd 11 25 = some (0, 210))
                      refine ev_jmp f_X12_aOne (nx := 124) rfl rfl rfl ?_
                      refine ev_sub (lo := [(1, .int w59), (0, .ref 69)]) rfl (t_sc rfl (t_sc rfl t_sn)) ?_
                      exact ih76 _ (by have ff122 : (gi111 69 14).toInt = (gi107 69 14).toInt := congrArg Int32.toInt ((hC111.1 69 14 rfl).1.trans rfl); have ff123 : (gi111 69 12).toInt = (gi107 69 12).toInt := congrArg Int32.toInt ((hC111.1 69 12 rfl).1.trans rfl); omega) gi111 gl111 gr111  hI hX  q111.1 (by have ff119 : (gi111 69 14).toInt = (gi107 69 14).toInt := congrArg Int32.toInt ((hC111.1 69 14 rfl).1.trans rfl); omega) (by have ff120 : (gi111 69 12).toInt = (gi107 69 12).toInt := congrArg Int32.toInt ((hC111.1 69 12 rfl).1.trans rfl); have ff121 : (gi111 69 14).toInt = (gi107 69 14).toInt := congrArg Int32.toInt ((hC111.1 69 14 rfl).1.trans rfl); omega) (fun b n q K E h => (by
                                                            obtain ⟨q2, K2, E2, hX, hS, hm⟩ := j93_4 b n q K E h
                                                            obtain ⟨K3, eK, h1⟩ := hm.po (g1 := g105) (w := w98) ((t_fM.rf.u9 (by decide) e103).u9 (by decide) e105) (by omega) (by rw [e98]; have hc := t_clamp (i := z97) (by omega); have hx : z97.toNatClampNeg = (gi93 69 22).toInt.toNat - 1 := (Nat.le_antisymm (by omega) (by omega)); rw [hx] : w98 = gi93 77 ((gi93 69 22).toInt.toNat - 1)) (by rw [e105, x_up2_off (Or.inr (by decide)), e103, x_up2_at]; exact Int.le_antisymm (by omega) (by omega)) (congrArg Int32.toInt (by rw [e105, x_up2_off (Or.inr (by decide)), e103, x_up2_off (Or.inr (by decide))])) (funext fun j => (by rw [e105, x_up2_ne (by decide), e103, x_up2_ne (by decide)])) (funext fun j => (by rw [e105, x_up2_ne (by decide), e103, x_up2_ne (by decide)]))
                                                            have h40 : w98.toInt = 40 := by omega
                                                            rw [eK, h40, s_pk_z] at hX
                                                            have h2 := h1.ah (q107.2 b n _ h1.1.S) (congrArg Int32.toInt (hC107.1 69 22 rfl).1) (congrArg Int32.toInt (hC107.1 69 25 rfl).1) (funext fun j => (hC107.1 77 j rfl).1) (funext fun j => (hC107.1 70 j rfl).1)
                                                            exact ⟨_, _, _, hX, q111.2 b n _ _ _ h2⟩)) rfl
                    · have r124 : w98.toInt ≠ 40 := fun e => h99 (Int32.toInt_inj.mp (e.trans (by decide : (40:Int) = (40 : Int32).toInt)))
                      refine ev_ic f_X12_isDoing (nx := 27) (v := 0) rfl (by decide) rfl ?_
                      refine ev_retK1 f_X12_isDoing rfl rfl rfl ?_
                      refine ev_t f_X12_aOne (t1 := 149) (t2 := 156) rfl rfl rfl (by decide) ?_
                      refine ev_loc f_X12_aOne (nx := 150) rfl rfl rfl rfl ?_
                      refine ev_inV1 f_X12_aOne (nx := 153) (lo2 := [(0, .ref 69)]) rfl rfl rfl rfl f_X12_joins (hI.wf.s rfl) rfl rfl rfl rfl rfl ?_
                      have kn125 := t_K_num j93_0
                      refine ev_loc f_X12_joins (nx := 1) rfl rfl rfl rfl ?_
                      refine ev_alu f_X12_joins (nx := 2) rfl rfl rfl rfl ?_
                      refine ev_gvI f_X12_joins (nx := 5) (w := (gi93 69 22)) rfl (hI.wf.s rfl) rfl rfl rfl rfl ?_
                      refine ev_ic f_X12_joins (nx := 6) (v := 1) rfl (by decide) rfl ?_
                      refine ev_subC f_X12_joins (nx := 7) (c := 1) (l := 0) (u := 59) rfl (by decide) l96 u94 rfl rfl (by decide) (by decide) rfl (fun z126 e126 l126 u126 => ?_)
                      refine ev_putIT f_X12_joins (nx := 10) rfl (hI.wf.s rfl) rfl rfl rfl (hI.putB (hI.wf.s rfl) rfl rfl l126 (by decide) u126 (by decide)) (hX.upI rfl) (fun g127 e127 hI hX => ?_)
                      refine ev_loc f_X12_joins (nx := 11) rfl rfl rfl rfl ?_
                      refine ev_loc f_X12_joins (nx := 12) rfl rfl rfl rfl ?_
                      refine ev_getR f_X12_joins (nx := 15) rfl (hI.wf.s rfl) rfl rfl (hI.wf.r rfl) rfl rfl ?_
                      refine ev_loc f_X12_joins (nx := 16) rfl rfl rfl rfl ?_
                      refine ev_gvI f_X12_joins (nx := 19) (w := z126) rfl (hI.wf.s rfl) rfl rfl (by rw [e127]; exact x_up2_at _ _ _ _ : g127 69 22 = z126) rfl ?_
                      refine ev_ialdT f_X12_joins (nx := 20) rfl (hI.wf.s rfl) l126 (by decide) u126 (by decide) rfl (fun w128 e128 => ?_)
                      refine ev_inV2 f_X12_joins (nx := 23) (lo2 := [(0, .ref 69), (1, .int w128)]) rfl rfl rfl rfl f_X12_asksAlso (hI.wf.s rfl) rfl rfl rfl rfl rfl ?_
                      have kn129 := t_K_num j93_0
                      refine ev_loc f_X12_asksAlso (nx := 1) rfl rfl rfl rfl ?_
                      refine ev_getR f_X12_asksAlso (nx := 4) rfl (hI.wf.s rfl) rfl rfl (hI.wf.r rfl) rfl rfl ?_
                      refine ev_sp f_X12_asksAlso (nx := 7) (v := 1540) rfl (by decide) rfl ?_
                      refine ev_loc f_X12_asksAlso (nx := 8) rfl rfl rfl rfl ?_
                      refine ev_gvI f_X12_asksAlso (nx := 11) (w := (gi93 69 25)) rfl (hI.wf.s rfl) rfl rfl ((by rw [e127]; exact x_up2_off (Or.inr (by decide)) : g127 69 25 = gi93 69 25).trans rfl) rfl ?_
                      refine ev_addK f_X12_asksAlso (nx := 12) (c := 1540) (l := 1540) (u := 1750) rfl (by decide) l95 u95 rfl rfl (by decide) (by decide) rfl (fun z130 e130 l130 u130 => ?_)
                      refine ev_loc f_X12_asksAlso (nx := 13) rfl rfl rfl rfl ?_
                      refine ev_iastT f_X12_asksAlso (nx := 14) rfl (hI.wf.s rfl) l130 (by decide) u130 (by decide) rfl (hI.astL (hI.wf.s rfl) (by decide +kernel : t_abw 70 1540 1750 (-2147483648) 2147483647 = true) (t_cl1 l130 (by decide)) (t_cl2 l130 u130 (by decide) (by decide)) (t_lo w128) (t_hi w128) rfl) (hX.upI (t_inR (p := 1540) (m := 1750) rfl l130 (by decide) u130 (by decide) (by decide))) (fun g131 e131 hI hX => ?_)
                      refine ev_loc f_X12_asksAlso (nx := 15) rfl rfl rfl rfl ?_
                      refine ev_alu f_X12_asksAlso (nx := 16) rfl rfl rfl rfl ?_
                      refine ev_gvI f_X12_asksAlso (nx := 19) (w := (gi93 69 25)) rfl (hI.wf.s rfl) rfl rfl ((by rw [e131]; exact x_up2_off (Or.inl (by decide)) : g131 69 25 = g127 69 25).trans ((by rw [e127]; exact x_up2_off (Or.inr (by decide)) : g127 69 25 = gi93 69 25).trans rfl)) rfl ?_
                      refine ev_ic f_X12_asksAlso (nx := 20) (v := 1) rfl (by decide) rfl ?_
                      refine ev_addC f_X12_asksAlso (nx := 21) (c := 1) (l := 1) (u := 211) rfl (by decide) l95 u95 rfl rfl (by decide) (by decide) rfl (fun z132 e132 l132 u132 => ?_)
                      have u134 : z132.toInt ≤ (210:Int) := (by omega)
                      refine ev_putIT f_X12_asksAlso (nx := 24) rfl (hI.wf.s rfl) rfl rfl rfl (hI.putB (hI.wf.s rfl) rfl rfl l132 (by decide) u134 (by decide)) (hX.upI rfl) (fun g133 e133 hI hX => ?_)
                      refine ev_retK0 f_X12_asksAlso rfl rfl rfl ?_
                      refine ev_retK0 f_X12_joins rfl rfl rfl ?_
                      refine ev_jmp f_X12_aOne (nx := 140) rfl rfl rfl ?_
                      refine ev_sub (lo := [(1, .int w59), (0, .ref 69)]) rfl (t_sc rfl (t_sc rfl t_sn)) ?_
                      exact ih93 _ (by have ff145 : (g133 69 22).toInt = z126.toInt := congrArg Int32.toInt ((by rw [e133]; exact x_up2_off (Or.inr (by decide)) : g133 69 22 = g131 69 22).trans ((by rw [e131]; exact x_up2_off (Or.inl (by decide)) : g131 69 22 = g127 69 22).trans (by rw [e127]; exact x_up2_at _ _ _ _ : g127 69 22 = z126))); omega) g133 gl93 gr93  hI hX  ((by rw [e133]; exact x_up2_off (Or.inr (by decide)) : g133 69 12 = g131 69 12).trans ((by rw [e131]; exact x_up2_off (Or.inl (by decide)) : g131 69 12 = g127 69 12).trans ((by rw [e127]; exact x_up2_off (Or.inr (by decide)) : g127 69 12 = gi93 69 12).trans c93_0))) ((by rw [e133]; exact x_up2_off (Or.inr (by decide)) : g133 69 14 = g131 69 14).trans ((by rw [e131]; exact x_up2_off (Or.inl (by decide)) : g131 69 14 = g127 69 14).trans ((by rw [e127]; exact x_up2_off (Or.inr (by decide)) : g127 69 14 = gi93 69 14).trans c93_1))) ((by rw [e133]; exact x_up2_off (Or.inr (by decide)) : g133 69 23 = g131 69 23).trans ((by rw [e131]; exact x_up2_off (Or.inl (by decide)) : g131 69 23 = g127 69 23).trans ((by rw [e127]; exact x_up2_off (Or.inr (by decide)) : g127 69 23 = gi93 69 23).trans c93_2))) ((by rw [e133]; exact x_up2_off (Or.inr (by decide)) : g133 69 24 = g131 69 24).trans ((by rw [e131]; exact x_up2_off (Or.inl (by decide)) : g131 69 24 = g127 69 24).trans ((by rw [e127]; exact x_up2_off (Or.inr (by decide)) : g127 69 24 = gi93 69 24).trans c93_3))) (by have ht := (by rw [e128]; have hc := t_clamp (i := z126) (by omega); have hx : z126.toNatClampNeg = (gi93 69 22).toInt.toNat - 1 := (by omega); rw [hx]; exact congrFun (((by rw [e127]; exact x_up2_ne (by decide) : g127 77 = gi93 77))) _ : w128 = gi93 77 ((gi93 69 22).toInt.toNat - 1)); have ho := (t_one (p := 1540 + (gi93 69 25).toInt.toNat) ((by rw [e127]; exact x_up2_ne (by decide) : g127 70 = gi93 70)) e131 ((by rw [e133]; exact x_up2_ne (by decide) : g133 70 = g131 70)) (by have hc := t_clamp (i := z130) (by omega); omega)); exact t_K_bin j93_0 (by omega) (t_K_top j93_0 (by omega) (by rw [← (by rw [e98]; have hc := t_clamp (i := z97) (by omega); have hx : z97.toNatClampNeg = (gi93 69 22).toInt.toNat - 1 := (by omega); rw [hx] : w98 = gi93 77 ((gi93 69 22).toInt.toNat - 1))]; omega)) (show (g133 69 22).toInt = (gi93 69 22).toInt - 1 from (by have ff135 : (g133 69 22).toInt = z126.toInt := congrArg Int32.toInt ((by rw [e133]; exact x_up2_off (Or.inr (by decide)) : g133 69 22 = g131 69 22).trans ((by rw [e131]; exact x_up2_off (Or.inl (by decide)) : g131 69 22 = g127 69 22).trans (by rw [e127]; exact x_up2_at _ _ _ _ : g127 69 22 = z126))); omega)) (show (g133 69 23).toInt = (gi93 69 23).toInt from (by have ff136 : (g133 69 23).toInt = (gi76 69 23).toInt := congrArg Int32.toInt ((by rw [e133]; exact x_up2_off (Or.inr (by decide)) : g133 69 23 = g131 69 23).trans ((by rw [e131]; exact x_up2_off (Or.inl (by decide)) : g131 69 23 = g127 69 23).trans ((by rw [e127]; exact x_up2_off (Or.inr (by decide)) : g127 69 23 = gi93 69 23).trans c93_2))); omega)) (show (g133 69 24).toInt = (gi93 69 24).toInt from (by have ff137 : (g133 69 24).toInt = (gi76 69 24).toInt := congrArg Int32.toInt ((by rw [e133]; exact x_up2_off (Or.inr (by decide)) : g133 69 24 = g131 69 24).trans ((by rw [e131]; exact x_up2_off (Or.inl (by decide)) : g131 69 24 = g127 69 24).trans ((by rw [e127]; exact x_up2_off (Or.inr (by decide)) : g127 69 24 = gi93 69 24).trans c93_3))); omega)) (show (g133 69 25).toInt = (gi93 69 25).toInt + 1 from (by have ff138 : (g133 69 25).toInt = z132.toInt := congrArg Int32.toInt (by rw [e133]; exact x_up2_at _ _ _ _ : g133 69 25 = z132); omega)) ((by rw [e133]; exact x_up2_ne (by decide) : g133 77 = g131 77).trans ((by rw [e131]; exact x_up2_ne (by decide) : g131 77 = g127 77).trans ((by rw [e127]; exact x_up2_ne (by decide) : g127 77 = gi93 77)))) ho.1 (ho.2.trans ht)) (by obtain ⟨j, hj, hv⟩ := j93_1; have ht := (by rw [e98]; have hc := t_clamp (i := z97) (by omega); have hx : z97.toNatClampNeg = (gi93 69 22).toInt.toNat - 1 := (by omega); rw [hx] : w98 = gi93 77 ((gi93 69 22).toInt.toNat - 1)); have ff139 : (g133 69 22).toInt = z126.toInt := congrArg Int32.toInt ((by rw [e133]; exact x_up2_off (Or.inr (by decide)) : g133 69 22 = g131 69 22).trans ((by rw [e131]; exact x_up2_off (Or.inl (by decide)) : g131 69 22 = g127 69 22).trans (by rw [e127]; exact x_up2_at _ _ _ _ : g127 69 22 = z126))); refine ⟨j, ?_, (congrArg Int32.toInt (congrFun ((by rw [e133]; exact x_up2_ne (by decide) : g133 77 = g131 77).trans ((by rw [e131]; exact x_up2_ne (by decide) : g131 77 = g127 77).trans ((by rw [e127]; exact x_up2_ne (by decide) : g127 77 = gi93 77)))) j)).trans hv⟩; have hne : j ≠ (gi93 69 22).toInt.toNat - 1 := (fun e => by rw [e, ← ht] at hv; omega); omega) (by have ff140 : (g133 69 14).toInt = (gi76 69 14).toInt := congrArg Int32.toInt ((by rw [e133]; exact x_up2_off (Or.inr (by decide)) : g133 69 14 = g131 69 14).trans ((by rw [e131]; exact x_up2_off (Or.inl (by decide)) : g131 69 14 = g127 69 14).trans ((by rw [e127]; exact x_up2_off (Or.inr (by decide)) : g127 69 14 = gi93 69 14).trans c93_1))); omega) (by have ff141 : (g133 69 12).toInt = (gi76 69 12).toInt := congrArg Int32.toInt ((by rw [e133]; exact x_up2_off (Or.inr (by decide)) : g133 69 12 = g131 69 12).trans ((by rw [e131]; exact x_up2_off (Or.inl (by decide)) : g131 69 12 = g127 69 12).trans ((by rw [e127]; exact x_up2_off (Or.inr (by decide)) : g127 69 12 = gi93 69 12).trans c93_0))); have ff142 : (g133 69 14).toInt = (gi76 69 14).toInt := congrArg Int32.toInt ((by rw [e133]; exact x_up2_off (Or.inr (by decide)) : g133 69 14 = g131 69 14).trans ((by rw [e131]; exact x_up2_off (Or.inl (by decide)) : g131 69 14 = g127 69 14).trans ((by rw [e127]; exact x_up2_off (Or.inr (by decide)) : g127 69 14 = gi93 69 14).trans c93_1))); omega) (fun b n q K E h => (by
                                                            obtain ⟨q2, K2, E2, hX, hS, hm⟩ := j93_4 b n q K E h
                                                            have e1 := (by rw [e128]; have hc := t_clamp (i := z126) (by omega); have hx : z126.toNatClampNeg = (gi93 69 22).toInt.toNat - 1 := (by omega); rw [hx]; exact congrFun (((by rw [e127]; exact x_up2_ne (by decide) : g127 77 = gi93 77))) _ : w128 = gi93 77 ((gi93 69 22).toInt.toNat - 1))
                                                            obtain ⟨K3, eK, h1⟩ := hm.pe (g1 := g133) (w := w128) (((t_fM.rf.u9 (by decide) e127).ux (by decide) e131).u9 (by decide) e133) (by omega) e1 (show (g133 69 22).toInt = (gi93 69 22).toInt - 1 from (by have ff143 : (g133 69 22).toInt = z126.toInt := congrArg Int32.toInt ((by rw [e133]; exact x_up2_off (Or.inr (by decide)) : g133 69 22 = g131 69 22).trans ((by rw [e131]; exact x_up2_off (Or.inl (by decide)) : g131 69 22 = g127 69 22).trans (by rw [e127]; exact x_up2_at _ _ _ _ : g127 69 22 = z126))); omega)) (show (g133 69 25).toInt = (gi93 69 25).toInt + 1 from (by have ff144 : (g133 69 25).toInt = z132.toInt := congrArg Int32.toInt (by rw [e133]; exact x_up2_at _ _ _ _ : g133 69 25 = z132); omega)) ((by rw [e133]; exact x_up2_ne (by decide) : g133 77 = g131 77).trans ((by rw [e131]; exact x_up2_ne (by decide) : g131 77 = g127 77).trans ((by rw [e127]; exact x_up2_ne (by decide) : g127 77 = gi93 77)))) (t_one (p := 1540 + (gi93 69 25).toInt.toNat) ((by rw [e127]; exact x_up2_ne (by decide) : g127 70 = gi93 70)) e131 ((by rw [e133]; exact x_up2_ne (by decide) : g133 70 = g131 70)) (by have hc := t_clamp (i := z130) (by omega); omega))
                                                            have e2 := (by rw [e98]; have hc := t_clamp (i := z97) (by omega); have hx : z97.toNatClampNeg = (gi93 69 22).toInt.toNat - 1 := (by omega); rw [hx] : w98 = gi93 77 ((gi93 69 22).toInt.toNat - 1))
                                                            have hne : w128.toInt ≠ 40 := by rw [e1, ← e2]; omega
                                                            rw [eK, s_pk_c hne] at hX
                                                            exact ⟨q2, K3, _, hX, hS, h1⟩)) rfl
                  refine ev_sub (lo := [(1, .int w59), (0, .ref 69)]) rfl (t_sc rfl (t_sc rfl t_sn)) ?_
                  exact L93 _ gi76 gl76 gr76  hI hX  rfl rfl rfl rfl j76_0 (q88.1 (by omega)) (by omega) (by omega) (fun b n q K E h => (by
                                                            obtain ⟨q2, K2, E2, hX, hm⟩ := j76_3 b n q K E h
                                                            have hS := (q83.1 b n _ hm.1).mp (by omega)
                                                            exact ⟨q2, K2, E2, hX.trans (s_Em_b hm.qn hS (hm.ex (q88.1 (by omega)))), hS, hm⟩)) rfl
            refine ev_sub (lo := [(1, .int w59), (0, .ref 69)]) rfl (t_sc rfl (t_sc rfl t_sn)) ?_
            exact L76 _ gi72 gl72 gr72  hI hX  q72.1 (by have ff146 : (gi72 69 14).toInt = (gi63 69 14).toInt := congrArg Int32.toInt ((hC72.1 69 14 rfl).1.trans rfl); omega) (by have ff147 : (gi72 69 12).toInt = (gi63 69 12).toInt := congrArg Int32.toInt ((hC72.1 69 12 rfl).1.trans rfl); have ff148 : (gi72 69 14).toInt = (gi63 69 14).toInt := congrArg Int32.toInt ((hC72.1 69 14 rfl).1.trans rfl); omega) (fun b n q K E h => (by
                                                            obtain ⟨q2, K2, E2, hX, hm⟩ := j7_2 b n q K E h
                                                            have hk := q12.1 b n _ hm.1
                                                            have hN : ¬ s_nst b n q2 := fun hh => (s_nst_mi.mp hh).elim (fun x => by omega) (fun x => absurd ((q56.1 b n _ hm.1).mpr x) (by omega))
                                                            have hk2 := q59.1 b n _ hm.1
                                                            have hf : s_fct b n q2 := s_fct_mi.mpr (by omega)
                                                            obtain ⟨hc, h2⟩ := q63.2 b n q2 K2 E2 hm hf hN hk2.symm (by omega)
                                                            exact ⟨_, _, _, hX.trans (s_Em_c hm.qn hN hc), q72.2 b n _ _ _ h2⟩)) rfl
        · have r149 : w59.toInt ≠ 15 := fun e => h60 (Int32.toInt_inj.mp (e.trans (by decide : (15:Int) = (15 : Int32).toInt)))
          refine ev_loc f_X12_aOne (nx := 87) rfl rfl rfl rfl ?_
          refine ev_bp f_X12_aOne (nx := 89) (v := 16) rfl (by decide) rfl ?_
          refine ev_if f_X12_aOne (t1 := 110) (t2 := 92) rfl rfl rfl (fun h150 => ?_) (fun h150 => ?_)
          · have u151 : w59.toInt ≤ 16 := t_equ h150 (by decide : (16:Int32).toInt ≤ (16:Int))
            have l152 : 16 ≤ w59.toInt := t_eql h150 (by decide : (16:Int) ≤ (16:Int32).toInt)
            refine ev_loc f_X12_aOne (nx := 111) rfl rfl rfl rfl ?_
            refine ev_loc f_X12_aOne (nx := 112) rfl rfl rfl rfl ?_
            refine ev_qI f_X12_aOne (nx := 115) (r := []) rfl rfl rfl rfl rfl rfl rfl (c_o_aCaseB hI (w59) (Int.le_trans (by decide : (15:Int) ≤ 16) l152) (Int.le_trans u151 (by decide : (16:Int) ≤ 26)) (b := b) j7_0 (by omega)) rfl hX rfl (fun w153 gi153 gl153 gr153 l153 u153 hI hX hC153 q153 => ?_)
            have q153 : ((gi7 69 14).toInt ≤ (gi153 69 14).toInt ∧ (w153.toInt = 1 → (gi153 69 12).toInt ≠ 0 → (gi7 69 14).toInt < (gi153 69 14).toInt) ∧ (w153.toInt = 0 → (gi153 69 18).toInt ≠ 0) ∧ (w153.toInt = 1 → t_K (b) gi153 1)) ∧ ((∀ (b : Nat → Int32) (n q : Nat) (K E : List Int), t_OM b n q K E gi7 → s_fct b n q → ¬ s_nst b n q → s_mi (s_W b n q) = w59.toInt → w153.toInt = 1 → s_cok b n q ∧ t_OM b n (s_cx b n q) K (E ++ [s_ccd b n q]) gi153)) := q153
            obtain ⟨l154, u154⟩ := hI.b (hI.wf.s (k := 69) rfl) (t_bdK rfl : t_bd 11 12 = some (0, 4))
            obtain ⟨l155, u155⟩ := hI.b (hI.wf.s (k := 69) rfl) (t_bdK rfl : t_bd 11 14 = some (0, 900))
            obtain ⟨l156, u156⟩ := hI.b (hI.wf.s (k := 69) rfl) (t_bdK rfl : t_bd 11 24 = some (0, 24))
            obtain ⟨l157, u157⟩ := hI.b (hI.wf.s (k := 69) rfl) (t_bdK rfl : t_bd 11 25 = some (0, 210))
            refine ev_if f_X12_aOne (t1 := 118) (t2 := 120) rfl rfl rfl (fun h158 => ?_) (fun h158 => ?_)
            · have u159 : w153.toInt ≤ 0 := t_equ h158 (by decide : (0:Int32).toInt ≤ (0:Int))
              refine ev_ic f_X12_aOne (nx := 119) (v := 0) rfl (by decide) rfl ?_
              exact ev_ret f_X12_aOne rfl rfl rfl ⟨_, _, _, rfl, hI, hX, ⟨_, rfl, (by decide : (0:Int) ≤ (0:Int32).toInt), (Int.le_trans (by decide : (0:Int32).toInt ≤ (0:Int)) (by decide : (0:Int) ≤ 1)), (show (∀ (b : Nat → Int32) (n q : Nat) (K E : List Int), t_OM b n q K E gi → (0 : Int) = 1 → ∃ q2 K2 E2, s_Em b n false q K E = s_Em b n true q2 K2 E2 ∧ ¬ (s_isS b n q2 41 ∧ 40 ∈ K2) ∧ t_OM b n q2 K2 E2 gi153) from (fun b n q K E h hv => absurd hv (by decide)))⟩⟩
            · have r160 : w153.toInt ≠ 0 := fun e => h158 (Int32.toInt_inj.mp (e.trans (by decide : (0:Int) = (0 : Int32).toInt)))
              have l161 : 1 ≤ w153.toInt := t_nel h158 l153 rfl rfl
              refine ev_loc f_X12_aOne (nx := 121) rfl rfl rfl rfl ?_
              refine ev_qN f_X12_aOne (nx := 124) (r := []) rfl rfl rfl rfl rfl rfl rfl (c_o_turnsRoundB hI  (b := b) (q153.1.2.2.2 (by omega))) rfl hX rfl (fun gi162 gl162 gr162 hI hX hC162 q162 => ?_)
              have q162 : (t_K (b) gi162 2) ∧ ((∀ (b : Nat → Int32) (n q : Nat) (K E : List Int), t_OM b n q K E gi153 → t_OM b n q (s_pp K E).1 (s_pp K E).2 gi162)) := q162
              obtain ⟨l163, u163⟩ := hI.b (hI.wf.s (k := 69) rfl) (t_bdK rfl : t_bd 11 22 = some (0, 60))
              obtain ⟨l164, u164⟩ := hI.b (hI.wf.s (k := 69) rfl) (t_bdK rfl : t_bd 11 23 = some (0, 6))
              obtain ⟨l165, u165⟩ := hI.b (hI.wf.s (k := 69) rfl) (t_bdK rfl : t_bd 11 25 = some (0, 210))
              have L166 : ∀ (m166 : Nat) (gi166 : Nat → Nat → Int32) (gl166 : Nat → Nat → Int64) (gr166 : Nat → Nat → Value), t_I sh gi166 gr166 → t_X wl_o_aOne sh gi gl gr gi166 gl166 gr166 → t_K b gi166 2 → (gi 69 14).toInt ≤ (gi166 69 14).toInt → ((gi166 69 12).toInt ≠ 0 → (gi 69 14).toInt < (gi166 69 14).toInt) → (∀ (b : Nat → Int32) (n q : Nat) (K E : List Int), t_OM b n q K E gi → ∃ q2 K2 E2, s_Em b n false q K E = s_Em b n true q2 K2 E2 ∧ t_OM b n q2 K2 E2 gi166) → (2 * (900 - (gi166 69 14).toInt) + min (gi166 69 12).toInt 1).toNat = m166 → x_Ev X (d + 6) n_X12_aOne 124 [(1, .int w59), (0, .ref 69)] [] (sh, gi166, gl166, gr166) (t_PI wl_o_aOne sh gi gl gr 0 1 (Q_o_aOne gi gl gr b)) := by
                intro m166
                induction m166 using Nat.strongRecOn with
                | _ m166 ih166 =>
                intro gi166 gl166 gr166 hI hX j166_0 j166_1 j166_2 j166_3 hm166
                obtain ⟨l167, u167⟩ := hI.b (hI.wf.s (k := 69) rfl) (t_bdK rfl : t_bd 11 12 = some (0, 4))
                obtain ⟨l168, u168⟩ := hI.b (hI.wf.s (k := 69) rfl) (t_bdK rfl : t_bd 11 14 = some (0, 900))
                obtain ⟨l169, u169⟩ := hI.b (hI.wf.s (k := 69) rfl) (t_bdK rfl : t_bd 11 22 = some (0, 60))
                obtain ⟨l170, u170⟩ := hI.b (hI.wf.s (k := 69) rfl) (t_bdK rfl : t_bd 11 23 = some (0, 6))
                obtain ⟨l171, u171⟩ := hI.b (hI.wf.s (k := 69) rfl) (t_bdK rfl : t_bd 11 24 = some (0, 24))
                obtain ⟨l172, u172⟩ := hI.b (hI.wf.s (k := 69) rfl) (t_bdK rfl : t_bd 11 25 = some (0, 210))
                refine ev_loc f_X12_aOne (nx := 125) rfl rfl rfl rfl ?_
                refine ev_bp f_X12_aOne (nx := 127) (v := 41) rfl (by decide) rfl ?_
                refine ev_qI0 f_X12_aOne (nx := 130) (r := []) rfl rfl rfl rfl rfl rfl rfl (c_n_isSignB hI (41)) rfl (fun w173 l173 u173 q173 => ?_)
                have q173 : (∀ (b : Nat → Int32) (n q : Nat), t_TM b n q gi166 → (w173.toInt = 1 ↔ s_isS b n q 41)) ∧ (w173.toInt = 1 → (gi166 69 12).toInt = 4) := q173
                refine ev_if f_X12_aOne (t1 := 187) (t2 := 133) rfl rfl rfl (fun h174 => ?_) (fun h174 => ?_)
                · have u175 : w173.toInt ≤ 0 := t_equ h174 (by decide : (0:Int32).toInt ≤ (0:Int))
                  refine ev_ic f_X12_aOne (nx := 188) (v := 1) rfl (by decide) rfl ?_
                  exact ev_ret f_X12_aOne rfl rfl rfl ⟨_, _, _, rfl, hI, hX, ⟨_, rfl, (Int.le_trans (by decide : (0:Int) ≤ 1) (by decide : (1:Int) ≤ (1:Int32).toInt)), (by decide : (1:Int32).toInt ≤ (1:Int)), (show (∀ (b : Nat → Int32) (n q : Nat) (K E : List Int), t_OM b n q K E gi → (1 : Int) = 1 → ∃ q2 K2 E2, s_Em b n false q K E = s_Em b n true q2 K2 E2 ∧ ¬ (s_isS b n q2 41 ∧ 40 ∈ K2) ∧ t_OM b n q2 K2 E2 gi166) from (fun b n q K E h hv => (by
                                                            obtain ⟨q2, K2, E2, hX, hm⟩ := j166_3 b n q K E h
                                                            exact ⟨q2, K2, E2, hX, (fun hh => absurd ((q173.1 b n _ hm.1).mpr hh.1) (by omega)), hm⟩)))⟩⟩
                · have r176 : w173.toInt ≠ 0 := fun e => h174 (Int32.toInt_inj.mp (e.trans (by decide : (0:Int) = (0 : Int32).toInt)))
                  have l177 : 1 ≤ w173.toInt := t_nel h174 l173 rfl rfl
                  refine ev_loc f_X12_aOne (nx := 134) rfl rfl rfl rfl ?_
                  refine ev_qI0 f_X12_aOne (nx := 137) (r := []) rfl rfl rfl rfl rfl rfl rfl (c_m_isWithin hI ) rfl (fun w178 l178 u178 q178 => ?_)
                  have q178 : (w178.toInt = 1 → t_ex gi166) ∧ (w178.toInt = 0 → t_n40 gi166) := q178
                  refine ev_if f_X12_aOne (t1 := 187) (t2 := 140) rfl rfl rfl (fun h179 => ?_) (fun h179 => ?_)
                  · have u180 : w178.toInt ≤ 0 := t_equ h179 (by decide : (0:Int32).toInt ≤ (0:Int))
                    refine ev_ic f_X12_aOne (nx := 188) (v := 1) rfl (by decide) rfl ?_
                    exact ev_ret f_X12_aOne rfl rfl rfl ⟨_, _, _, rfl, hI, hX, ⟨_, rfl, (Int.le_trans (by decide : (0:Int) ≤ 1) (by decide : (1:Int) ≤ (1:Int32).toInt)), (by decide : (1:Int32).toInt ≤ (1:Int)), (show (∀ (b : Nat → Int32) (n q : Nat) (K E : List Int), t_OM b n q K E gi → (1 : Int) = 1 → ∃ q2 K2 E2, s_Em b n false q K E = s_Em b n true q2 K2 E2 ∧ ¬ (s_isS b n q2 41 ∧ 40 ∈ K2) ∧ t_OM b n q2 K2 E2 gi166) from (fun b n q K E h hv => (by
                                                            obtain ⟨q2, K2, E2, hX, hm⟩ := j166_3 b n q K E h
                                                            exact ⟨q2, K2, E2, hX, (fun hh => hm.nx (q178.2 (by omega)) hh.2), hm⟩)))⟩⟩
                  · have r181 : w178.toInt ≠ 0 := fun e => h179 (Int32.toInt_inj.mp (e.trans (by decide : (0:Int) = (0 : Int32).toInt)))
                    have l182 : 1 ≤ w178.toInt := t_nel h179 l178 rfl rfl
                    have L183 : ∀ (m183 : Nat) (gi183 : Nat → Nat → Int32) (gl183 : Nat → Nat → Int64) (gr183 : Nat → Nat → Value), t_I sh gi183 gr183 → t_X wl_o_aOne sh gi gl gr gi183 gl183 gr183 → gi183 69 12 = (gi166 69 12) → gi183 69 14 = (gi166 69 14) → gi183 69 23 = (gi166 69 23) → gi183 69 24 = (gi166 69 24) → t_K b gi183 2 → t_ex gi183 → (gi 69 14).toInt ≤ (gi183 69 14).toInt → ((gi183 69 12).toInt ≠ 0 → (gi 69 14).toInt < (gi183 69 14).toInt) → (∀ (b : Nat → Int32) (n q : Nat) (K E : List Int), t_OM b n q K E gi → ∃ q2 K2 E2, s_Em b n false q K E = s_Tr b n (s_E b n q2) (s_pp (s_pkb K2 E2).1 (s_pkb K2 E2).2) ∧ s_isS b n q2 41 ∧ t_OM b n q2 K2 E2 gi183) → (gi183 69 22).toInt.toNat = m183 → x_Ev X (d + 6) n_X12_aOne 140 [(1, .int w59), (0, .ref 69)] [] (sh, gi183, gl183, gr183) (t_PI wl_o_aOne sh gi gl gr 0 1 (Q_o_aOne gi gl gr b)) := by
                      intro m183
                      induction m183 using Nat.strongRecOn with
                      | _ m183 ih183 =>
                      intro gi183 gl183 gr183 hI hX c183_0 c183_1 c183_2 c183_3 j183_0 j183_1 j183_2 j183_3 j183_4 hm183
                      have cf183_0 : (gi183 69 12).toInt = (gi166 69 12).toInt := congrArg Int32.toInt c183_0
                      have cf183_1 : (gi183 69 14).toInt = (gi166 69 14).toInt := congrArg Int32.toInt c183_1
                      have cf183_2 : (gi183 69 23).toInt = (gi166 69 23).toInt := congrArg Int32.toInt c183_2
                      have cf183_3 : (gi183 69 24).toInt = (gi166 69 24).toInt := congrArg Int32.toInt c183_3
                      obtain ⟨l184, u184⟩ := hI.b (hI.wf.s (k := 69) rfl) (t_bdK rfl : t_bd 11 22 = some (0, 60))
                      obtain ⟨l185, u185⟩ := hI.b (hI.wf.s (k := 69) rfl) (t_bdK rfl : t_bd 11 25 = some (0, 210))
                      have l186 : (1:Int) ≤ (gi183 69 22).toInt := by obtain ⟨j, hj, _⟩ := j183_1; omega
                      refine ev_loc f_X12_aOne (nx := 141) rfl rfl rfl rfl ?_
                      refine ev_bp f_X12_aOne (nx := 143) (v := 40) rfl (by decide) rfl ?_
                      refine ev_inV2 f_X12_aOne (nx := 146) (lo2 := [(0, .ref 69), (1, .int 40)]) rfl rfl rfl rfl f_X12_isDoing (hI.wf.s rfl) rfl rfl rfl rfl rfl ?_
                      refine ev_loc f_X12_isDoing (nx := 1) rfl rfl rfl rfl ?_
                      refine ev_gvI f_X12_isDoing (nx := 4) (w := (gi183 69 22)) rfl (hI.wf.s rfl) rfl rfl rfl rfl ?_
                      refine ev_f f_X12_isDoing (t1 := 26) (t2 := 7) rfl rfl rfl (t_leF (by decide : (0:Int32).toInt ≤ (0:Int)) l186 (by decide)) ?_
                      refine ev_loc f_X12_isDoing (nx := 8) rfl rfl rfl rfl ?_
                      refine ev_getR f_X12_isDoing (nx := 11) rfl (hI.wf.s rfl) rfl rfl (hI.wf.r rfl) rfl rfl ?_
                      refine ev_loc f_X12_isDoing (nx := 12) rfl rfl rfl rfl ?_
                      refine ev_gvI f_X12_isDoing (nx := 15) (w := (gi183 69 22)) rfl (hI.wf.s rfl) rfl rfl rfl rfl ?_
                      refine ev_ic f_X12_isDoing (nx := 16) (v := 1) rfl (by decide) rfl ?_
                      refine ev_subC f_X12_isDoing (nx := 17) (c := 1) (l := 0) (u := 59) rfl (by decide) l186 u184 rfl rfl (by decide) (by decide) rfl (fun z187 e187 l187 u187 => ?_)
                      refine ev_ialdT f_X12_isDoing (nx := 18) rfl (hI.wf.s rfl) l187 (by decide) u187 (by decide) rfl (fun w188 e188 => ?_)
                      refine ev_loc f_X12_isDoing (nx := 19) rfl rfl rfl rfl ?_
                      refine ev_if f_X12_isDoing (t1 := 22) (t2 := 26) rfl rfl rfl (fun h189 => ?_) (fun h189 => ?_)
                      · have u190 : w188.toInt ≤ 40 := t_equ h189 (by decide : (40:Int32).toInt ≤ (40:Int))
                        have l191 : 40 ≤ w188.toInt := t_eql h189 (by decide : (40:Int) ≤ (40:Int32).toInt)
                        refine ev_ic f_X12_isDoing (nx := 23) (v := 1) rfl (by decide) rfl ?_
                        refine ev_jmp f_X12_isDoing (nx := 27) rfl rfl rfl ?_
                        refine ev_retK1 f_X12_isDoing rfl rfl rfl ?_
                        refine ev_f f_X12_aOne (t1 := 149) (t2 := 156) rfl rfl rfl (by decide) ?_
                        refine ev_loc f_X12_aOne (nx := 157) rfl rfl rfl rfl ?_
                        refine ev_alu f_X12_aOne (nx := 158) rfl rfl rfl rfl ?_
                        refine ev_gvI f_X12_aOne (nx := 161) (w := (gi183 69 22)) rfl (hI.wf.s rfl) rfl rfl rfl rfl ?_
                        refine ev_ic f_X12_aOne (nx := 162) (v := 1) rfl (by decide) rfl ?_
                        refine ev_subC f_X12_aOne (nx := 163) (c := 1) (l := 0) (u := 59) rfl (by decide) l186 u184 rfl rfl (by decide) (by decide) rfl (fun z192 e192 l192 u192 => ?_)
                        refine ev_putIT f_X12_aOne (nx := 166) rfl (hI.wf.s rfl) rfl rfl rfl (hI.putB (hI.wf.s rfl) rfl rfl l192 (by decide) u192 (by decide)) (hX.upI rfl) (fun g193 e193 hI hX => ?_)
                        refine ev_loc f_X12_aOne (nx := 167) rfl rfl rfl rfl ?_
                        refine ev_alu f_X12_aOne (nx := 168) rfl rfl rfl rfl ?_
                        refine ev_gvI f_X12_aOne (nx := 171) (w := (gi166 69 23)) rfl (hI.wf.s rfl) rfl rfl ((by rw [e193]; exact x_up2_off (Or.inr (by decide)) : g193 69 23 = gi183 69 23).trans c183_2) rfl ?_
                        refine ev_ic f_X12_aOne (nx := 172) (v := 1) rfl (by decide) rfl ?_
                        refine ev_subC f_X12_aOne (nx := 173) (c := 1) (l := (-1)) (u := 5) rfl (by decide) l170 u170 rfl rfl (by decide) (by decide) rfl (fun z194 e194 l194 u194 => ?_)
                        have l196 : (0:Int) ≤ z194.toInt := (by have hw := t_K_w j183_0 (by omega) (by rw [← (by rw [e188]; have hc := t_clamp (i := z187) (by omega); have hx : z187.toNatClampNeg = (gi183 69 22).toInt.toNat - 1 := (by omega); rw [hx] : w188 = gi183 77 ((gi183 69 22).toInt.toNat - 1))]; omega); omega)
                        refine ev_putIT f_X12_aOne (nx := 176) rfl (hI.wf.s rfl) rfl rfl rfl (hI.putB (hI.wf.s rfl) rfl rfl l196 (by decide) u194 (by decide)) (hX.upI rfl) (fun g195 e195 hI hX => ?_)
                        refine ev_loc f_X12_aOne (nx := 177) rfl rfl rfl rfl ?_
                        refine ev_qN f_X12_aOne (nx := 180) (r := []) rfl rfl rfl rfl rfl rfl rfl (c_n_aheadB hI ) rfl hX rfl (fun gi197 gl197 gr197 hI hX hC197 q197 => ?_)
                        have ff198 : (g195 69 14).toInt = (gi166 69 14).toInt := congrArg Int32.toInt ((by rw [e195]; exact x_up2_off (Or.inr (by decide)) : g195 69 14 = g193 69 14).trans ((by rw [e193]; exact x_up2_off (Or.inr (by decide)) : g193 69 14 = gi183 69 14).trans c183_1))
                        have q197 : ((g195 69 14).toInt ≤ (gi197 69 14).toInt ∧ ((gi197 69 12).toInt ≠ 0 → (g195 69 14).toInt < (gi197 69 14).toInt) ∧ ((gi197 69 12).toInt = 3 → 0 ≤ (gi197 69 15).toInt)) ∧ (∀ (b : Nat → Int32) (n q : Nat), t_Sm b n q g195 → t_TM b n q gi197) := q197
                        obtain ⟨l199, u199⟩ := hI.b (hI.wf.s (k := 69) rfl) (t_bdK rfl : t_bd 11 12 = some (0, 4))
                        obtain ⟨l200, u200⟩ := hI.b (hI.wf.s (k := 69) rfl) (t_bdK rfl : t_bd 11 14 = some (0, 900))
                        refine ev_loc f_X12_aOne (nx := 181) rfl rfl rfl rfl ?_
                        refine ev_qN f_X12_aOne (nx := 184) (r := []) rfl rfl rfl rfl rfl rfl rfl (c_o_turnsRoundB hI  (b := b) (t_K_par j183_0 (by omega) (by rw [← (by rw [e188]; have hc := t_clamp (i := z187) (by omega); have hx : z187.toNatClampNeg = (gi183 69 22).toInt.toNat - 1 := (by omega); rw [hx] : w188 = gi183 77 ((gi183 69 22).toInt.toNat - 1))]; omega) (show (gi197 69 22).toInt = (gi183 69 22).toInt - 1 from (by have ff202 : (gi197 69 22).toInt = z192.toInt := congrArg Int32.toInt ((hC197.1 69 22 rfl).1.trans ((by rw [e195]; exact x_up2_off (Or.inr (by decide)) : g195 69 22 = g193 69 22).trans (by rw [e193]; exact x_up2_at _ _ _ _ : g193 69 22 = z192))); omega)) (show (gi197 69 23).toInt = (gi183 69 23).toInt - 1 from (by have ff203 : (gi197 69 23).toInt = z194.toInt := congrArg Int32.toInt ((hC197.1 69 23 rfl).1.trans (by rw [e195]; exact x_up2_at _ _ _ _ : g195 69 23 = z194)); omega)) (show (gi197 69 24).toInt = (gi183 69 24).toInt from (by have ff204 : (gi197 69 24).toInt = (gi166 69 24).toInt := congrArg Int32.toInt ((hC197.1 69 24 rfl).1.trans ((by rw [e195]; exact x_up2_off (Or.inr (by decide)) : g195 69 24 = g193 69 24).trans ((by rw [e193]; exact x_up2_off (Or.inr (by decide)) : g193 69 24 = gi183 69 24).trans c183_3))); omega)) (show (gi197 69 25).toInt = (gi183 69 25).toInt from (by have ff205 : (gi197 69 25).toInt = (gi183 69 25).toInt := congrArg Int32.toInt ((hC197.1 69 25 rfl).1.trans ((by rw [e195]; exact x_up2_off (Or.inr (by decide)) : g195 69 25 = g193 69 25).trans ((by rw [e193]; exact x_up2_off (Or.inr (by decide)) : g193 69 25 = gi183 69 25).trans rfl))); omega)) ((funext (fun j => (hC197.1 77 j rfl).1) : gi197 77 = g195 77).trans ((by rw [e195]; exact x_up2_ne (by decide) : g195 77 = g193 77).trans ((by rw [e193]; exact x_up2_ne (by decide) : g193 77 = gi183 77)))) ((funext (fun j => (hC197.1 70 j rfl).1) : gi197 70 = g195 70).trans ((by rw [e195]; exact x_up2_ne (by decide) : g195 70 = g193 70).trans ((by rw [e193]; exact x_up2_ne (by decide) : g193 70 = gi183 70)))))) rfl hX rfl (fun gi201 gl201 gr201 hI hX hC201 q201 => ?_)
                        have q201 : (t_K (b) gi201 2) ∧ ((∀ (b : Nat → Int32) (n q : Nat) (K E : List Int), t_OM b n q K E gi197 → t_OM b n q (s_pp K E).1 (s_pp K E).2 gi201)) := q201
                        obtain ⟨l206, u206⟩ := hI.b (hI.wf.s (k := 69) rfl) (t_bdK rfl : t_bd 11 22 = some (0, 60))
                        obtain ⟨l207, u207⟩ := hI.b (hI.wf.s (k := 69) rfl) (t_bdK rfl : t_bd 11 23 = some (0, 6))
                        obtain ⟨l208, u208⟩ := hI.b (hI.wf.s (k := 69) rfl) (t_bdK rfl : t_bd 11 25 = some (0, 210))
                        refine ev_jmp f_X12_aOne (nx := 124) rfl rfl rfl ?_
                        refine ev_sub (lo := [(1, .int w59), (0, .ref 69)]) rfl (t_sc rfl (t_sc rfl t_sn)) ?_
                        exact ih166 _ (by have ff212 : (gi201 69 14).toInt = (gi197 69 14).toInt := congrArg Int32.toInt ((hC201.1 69 14 rfl).1.trans rfl); have ff213 : (gi201 69 12).toInt = (gi197 69 12).toInt := congrArg Int32.toInt ((hC201.1 69 12 rfl).1.trans rfl); omega) gi201 gl201 gr201  hI hX  q201.1 (by have ff209 : (gi201 69 14).toInt = (gi197 69 14).toInt := congrArg Int32.toInt ((hC201.1 69 14 rfl).1.trans rfl); omega) (by have ff210 : (gi201 69 12).toInt = (gi197 69 12).toInt := congrArg Int32.toInt ((hC201.1 69 12 rfl).1.trans rfl); have ff211 : (gi201 69 14).toInt = (gi197 69 14).toInt := congrArg Int32.toInt ((hC201.1 69 14 rfl).1.trans rfl); omega) (fun b n q K E h => (by
                                                            obtain ⟨q2, K2, E2, hX, hS, hm⟩ := j183_4 b n q K E h
                                                            obtain ⟨K3, eK, h1⟩ := hm.po (g1 := g195) (w := w188) ((t_fM.rf.u9 (by decide) e193).u9 (by decide) e195) (by omega) (by rw [e188]; have hc := t_clamp (i := z187) (by omega); have hx : z187.toNatClampNeg = (gi183 69 22).toInt.toNat - 1 := (Nat.le_antisymm (by omega) (by omega)); rw [hx] : w188 = gi183 77 ((gi183 69 22).toInt.toNat - 1)) (by rw [e195, x_up2_off (Or.inr (by decide)), e193, x_up2_at]; exact Int.le_antisymm (by omega) (by omega)) (congrArg Int32.toInt (by rw [e195, x_up2_off (Or.inr (by decide)), e193, x_up2_off (Or.inr (by decide))])) (funext fun j => (by rw [e195, x_up2_ne (by decide), e193, x_up2_ne (by decide)])) (funext fun j => (by rw [e195, x_up2_ne (by decide), e193, x_up2_ne (by decide)]))
                                                            have h40 : w188.toInt = 40 := by omega
                                                            rw [eK, h40, s_pk_z] at hX
                                                            have h2 := h1.ah (q197.2 b n _ h1.1.S) (congrArg Int32.toInt (hC197.1 69 22 rfl).1) (congrArg Int32.toInt (hC197.1 69 25 rfl).1) (funext fun j => (hC197.1 77 j rfl).1) (funext fun j => (hC197.1 70 j rfl).1)
                                                            exact ⟨_, _, _, hX, q201.2 b n _ _ _ h2⟩)) rfl
                      · have r214 : w188.toInt ≠ 40 := fun e => h189 (Int32.toInt_inj.mp (e.trans (by decide : (40:Int) = (40 : Int32).toInt)))
                        refine ev_ic f_X12_isDoing (nx := 27) (v := 0) rfl (by decide) rfl ?_
                        refine ev_retK1 f_X12_isDoing rfl rfl rfl ?_
                        refine ev_t f_X12_aOne (t1 := 149) (t2 := 156) rfl rfl rfl (by decide) ?_
                        refine ev_loc f_X12_aOne (nx := 150) rfl rfl rfl rfl ?_
                        refine ev_inV1 f_X12_aOne (nx := 153) (lo2 := [(0, .ref 69)]) rfl rfl rfl rfl f_X12_joins (hI.wf.s rfl) rfl rfl rfl rfl rfl ?_
                        have kn215 := t_K_num j183_0
                        refine ev_loc f_X12_joins (nx := 1) rfl rfl rfl rfl ?_
                        refine ev_alu f_X12_joins (nx := 2) rfl rfl rfl rfl ?_
                        refine ev_gvI f_X12_joins (nx := 5) (w := (gi183 69 22)) rfl (hI.wf.s rfl) rfl rfl rfl rfl ?_
                        refine ev_ic f_X12_joins (nx := 6) (v := 1) rfl (by decide) rfl ?_
                        refine ev_subC f_X12_joins (nx := 7) (c := 1) (l := 0) (u := 59) rfl (by decide) l186 u184 rfl rfl (by decide) (by decide) rfl (fun z216 e216 l216 u216 => ?_)
                        refine ev_putIT f_X12_joins (nx := 10) rfl (hI.wf.s rfl) rfl rfl rfl (hI.putB (hI.wf.s rfl) rfl rfl l216 (by decide) u216 (by decide)) (hX.upI rfl) (fun g217 e217 hI hX => ?_)
                        refine ev_loc f_X12_joins (nx := 11) rfl rfl rfl rfl ?_
                        refine ev_loc f_X12_joins (nx := 12) rfl rfl rfl rfl ?_
                        refine ev_getR f_X12_joins (nx := 15) rfl (hI.wf.s rfl) rfl rfl (hI.wf.r rfl) rfl rfl ?_
                        refine ev_loc f_X12_joins (nx := 16) rfl rfl rfl rfl ?_
                        refine ev_gvI f_X12_joins (nx := 19) (w := z216) rfl (hI.wf.s rfl) rfl rfl (by rw [e217]; exact x_up2_at _ _ _ _ : g217 69 22 = z216) rfl ?_
                        refine ev_ialdT f_X12_joins (nx := 20) rfl (hI.wf.s rfl) l216 (by decide) u216 (by decide) rfl (fun w218 e218 => ?_)
                        refine ev_inV2 f_X12_joins (nx := 23) (lo2 := [(0, .ref 69), (1, .int w218)]) rfl rfl rfl rfl f_X12_asksAlso (hI.wf.s rfl) rfl rfl rfl rfl rfl ?_
                        have kn219 := t_K_num j183_0
                        refine ev_loc f_X12_asksAlso (nx := 1) rfl rfl rfl rfl ?_
                        refine ev_getR f_X12_asksAlso (nx := 4) rfl (hI.wf.s rfl) rfl rfl (hI.wf.r rfl) rfl rfl ?_
                        refine ev_sp f_X12_asksAlso (nx := 7) (v := 1540) rfl (by decide) rfl ?_
                        refine ev_loc f_X12_asksAlso (nx := 8) rfl rfl rfl rfl ?_
                        refine ev_gvI f_X12_asksAlso (nx := 11) (w := (gi183 69 25)) rfl (hI.wf.s rfl) rfl rfl ((by rw [e217]; exact x_up2_off (Or.inr (by decide)) : g217 69 25 = gi183 69 25).trans rfl) rfl ?_
                        refine ev_addK f_X12_asksAlso (nx := 12) (c := 1540) (l := 1540) (u := 1750) rfl (by decide) l185 u185 rfl rfl (by decide) (by decide) rfl (fun z220 e220 l220 u220 => ?_)
                        refine ev_loc f_X12_asksAlso (nx := 13) rfl rfl rfl rfl ?_
                        refine ev_iastT f_X12_asksAlso (nx := 14) rfl (hI.wf.s rfl) l220 (by decide) u220 (by decide) rfl (hI.astL (hI.wf.s rfl) (by decide +kernel : t_abw 70 1540 1750 (-2147483648) 2147483647 = true) (t_cl1 l220 (by decide)) (t_cl2 l220 u220 (by decide) (by decide)) (t_lo w218) (t_hi w218) rfl) (hX.upI (t_inR (p := 1540) (m := 1750) rfl l220 (by decide) u220 (by decide) (by decide))) (fun g221 e221 hI hX => ?_)
                        refine ev_loc f_X12_asksAlso (nx := 15) rfl rfl rfl rfl ?_
                        refine ev_alu f_X12_asksAlso (nx := 16) rfl rfl rfl rfl ?_
                        refine ev_gvI f_X12_asksAlso (nx := 19) (w := (gi183 69 25)) rfl (hI.wf.s rfl) rfl rfl ((by rw [e221]; exact x_up2_off (Or.inl (by decide)) : g221 69 25 = g217 69 25).trans ((by rw [e217]; exact x_up2_off (Or.inr (by decide)) : g217 69 25 = gi183 69 25).trans rfl)) rfl ?_
                        refine ev_ic f_X12_asksAlso (nx := 20) (v := 1) rfl (by decide) rfl ?_
                        refine ev_addC f_X12_asksAlso (nx := 21) (c := 1) (l := 1) (u := 211) rfl (by decide) l185 u185 rfl rfl (by decide) (by decide) rfl (fun z222 e222 l222 u222 => ?_)
                        have u224 : z222.toInt ≤ (210:Int) := (by omega)
                        refine ev_putIT f_X12_asksAlso (nx := 24) rfl (hI.wf.s rfl) rfl rfl rfl (hI.putB (hI.wf.s rfl) rfl rfl l222 (by decide) u224 (by decide)) (hX.upI rfl) (fun g223 e223 hI hX => ?_)
                        refine ev_retK0 f_X12_asksAlso rfl rfl rfl ?_
                        refine ev_retK0 f_X12_joins rfl rfl rfl ?_
                        refine ev_jmp f_X12_aOne (nx := 140) rfl rfl rfl ?_
                        refine ev_sub (lo := [(1, .int w59), (0, .ref 69)]) rfl (t_sc rfl (t_sc rfl t_sn)) ?_
                        exact ih183 _ (by have ff235 : (g223 69 22).toInt = z216.toInt := congrArg Int32.toInt ((by rw [e223]; exact x_up2_off (Or.inr (by decide)) : g223 69 22 = g221 69 22).trans ((by rw [e221]; exact x_up2_off (Or.inl (by decide)) : g221 69 22 = g217 69 22).trans (by rw [e217]; exact x_up2_at _ _ _ _ : g217 69 22 = z216))); omega) g223 gl183 gr183  hI hX  ((by rw [e223]; exact x_up2_off (Or.inr (by decide)) : g223 69 12 = g221 69 12).trans ((by rw [e221]; exact x_up2_off (Or.inl (by decide)) : g221 69 12 = g217 69 12).trans ((by rw [e217]; exact x_up2_off (Or.inr (by decide)) : g217 69 12 = gi183 69 12).trans c183_0))) ((by rw [e223]; exact x_up2_off (Or.inr (by decide)) : g223 69 14 = g221 69 14).trans ((by rw [e221]; exact x_up2_off (Or.inl (by decide)) : g221 69 14 = g217 69 14).trans ((by rw [e217]; exact x_up2_off (Or.inr (by decide)) : g217 69 14 = gi183 69 14).trans c183_1))) ((by rw [e223]; exact x_up2_off (Or.inr (by decide)) : g223 69 23 = g221 69 23).trans ((by rw [e221]; exact x_up2_off (Or.inl (by decide)) : g221 69 23 = g217 69 23).trans ((by rw [e217]; exact x_up2_off (Or.inr (by decide)) : g217 69 23 = gi183 69 23).trans c183_2))) ((by rw [e223]; exact x_up2_off (Or.inr (by decide)) : g223 69 24 = g221 69 24).trans ((by rw [e221]; exact x_up2_off (Or.inl (by decide)) : g221 69 24 = g217 69 24).trans ((by rw [e217]; exact x_up2_off (Or.inr (by decide)) : g217 69 24 = gi183 69 24).trans c183_3))) (by have ht := (by rw [e218]; have hc := t_clamp (i := z216) (by omega); have hx : z216.toNatClampNeg = (gi183 69 22).toInt.toNat - 1 := (by omega); rw [hx]; exact congrFun (((by rw [e217]; exact x_up2_ne (by decide) : g217 77 = gi183 77))) _ : w218 = gi183 77 ((gi183 69 22).toInt.toNat - 1)); have ho := (t_one (p := 1540 + (gi183 69 25).toInt.toNat) ((by rw [e217]; exact x_up2_ne (by decide) : g217 70 = gi183 70)) e221 ((by rw [e223]; exact x_up2_ne (by decide) : g223 70 = g221 70)) (by have hc := t_clamp (i := z220) (by omega); omega)); exact t_K_bin j183_0 (by omega) (t_K_top j183_0 (by omega) (by rw [← (by rw [e188]; have hc := t_clamp (i := z187) (by omega); have hx : z187.toNatClampNeg = (gi183 69 22).toInt.toNat - 1 := (by omega); rw [hx] : w188 = gi183 77 ((gi183 69 22).toInt.toNat - 1))]; omega)) (show (g223 69 22).toInt = (gi183 69 22).toInt - 1 from (by have ff225 : (g223 69 22).toInt = z216.toInt := congrArg Int32.toInt ((by rw [e223]; exact x_up2_off (Or.inr (by decide)) : g223 69 22 = g221 69 22).trans ((by rw [e221]; exact x_up2_off (Or.inl (by decide)) : g221 69 22 = g217 69 22).trans (by rw [e217]; exact x_up2_at _ _ _ _ : g217 69 22 = z216))); omega)) (show (g223 69 23).toInt = (gi183 69 23).toInt from (by have ff226 : (g223 69 23).toInt = (gi166 69 23).toInt := congrArg Int32.toInt ((by rw [e223]; exact x_up2_off (Or.inr (by decide)) : g223 69 23 = g221 69 23).trans ((by rw [e221]; exact x_up2_off (Or.inl (by decide)) : g221 69 23 = g217 69 23).trans ((by rw [e217]; exact x_up2_off (Or.inr (by decide)) : g217 69 23 = gi183 69 23).trans c183_2))); omega)) (show (g223 69 24).toInt = (gi183 69 24).toInt from (by have ff227 : (g223 69 24).toInt = (gi166 69 24).toInt := congrArg Int32.toInt ((by rw [e223]; exact x_up2_off (Or.inr (by decide)) : g223 69 24 = g221 69 24).trans ((by rw [e221]; exact x_up2_off (Or.inl (by decide)) : g221 69 24 = g217 69 24).trans ((by rw [e217]; exact x_up2_off (Or.inr (by decide)) : g217 69 24 = gi183 69 24).trans c183_3))); omega)) (show (g223 69 25).toInt = (gi183 69 25).toInt + 1 from (by have ff228 : (g223 69 25).toInt = z222.toInt := congrArg Int32.toInt (by rw [e223]; exact x_up2_at _ _ _ _ : g223 69 25 = z222); omega)) ((by rw [e223]; exact x_up2_ne (by decide) : g223 77 = g221 77).trans ((by rw [e221]; exact x_up2_ne (by decide) : g221 77 = g217 77).trans ((by rw [e217]; exact x_up2_ne (by decide) : g217 77 = gi183 77)))) ho.1 (ho.2.trans ht)) (by obtain ⟨j, hj, hv⟩ := j183_1; have ht := (by rw [e188]; have hc := t_clamp (i := z187) (by omega); have hx : z187.toNatClampNeg = (gi183 69 22).toInt.toNat - 1 := (by omega); rw [hx] : w188 = gi183 77 ((gi183 69 22).toInt.toNat - 1)); have ff229 : (g223 69 22).toInt = z216.toInt := congrArg Int32.toInt ((by rw [e223]; exact x_up2_off (Or.inr (by decide)) : g223 69 22 = g221 69 22).trans ((by rw [e221]; exact x_up2_off (Or.inl (by decide)) : g221 69 22 = g217 69 22).trans (by rw [e217]; exact x_up2_at _ _ _ _ : g217 69 22 = z216))); refine ⟨j, ?_, (congrArg Int32.toInt (congrFun ((by rw [e223]; exact x_up2_ne (by decide) : g223 77 = g221 77).trans ((by rw [e221]; exact x_up2_ne (by decide) : g221 77 = g217 77).trans ((by rw [e217]; exact x_up2_ne (by decide) : g217 77 = gi183 77)))) j)).trans hv⟩; have hne : j ≠ (gi183 69 22).toInt.toNat - 1 := (fun e => by rw [e, ← ht] at hv; omega); omega) (by have ff230 : (g223 69 14).toInt = (gi166 69 14).toInt := congrArg Int32.toInt ((by rw [e223]; exact x_up2_off (Or.inr (by decide)) : g223 69 14 = g221 69 14).trans ((by rw [e221]; exact x_up2_off (Or.inl (by decide)) : g221 69 14 = g217 69 14).trans ((by rw [e217]; exact x_up2_off (Or.inr (by decide)) : g217 69 14 = gi183 69 14).trans c183_1))); omega) (by have ff231 : (g223 69 12).toInt = (gi166 69 12).toInt := congrArg Int32.toInt ((by rw [e223]; exact x_up2_off (Or.inr (by decide)) : g223 69 12 = g221 69 12).trans ((by rw [e221]; exact x_up2_off (Or.inl (by decide)) : g221 69 12 = g217 69 12).trans ((by rw [e217]; exact x_up2_off (Or.inr (by decide)) : g217 69 12 = gi183 69 12).trans c183_0))); have ff232 : (g223 69 14).toInt = (gi166 69 14).toInt := congrArg Int32.toInt ((by rw [e223]; exact x_up2_off (Or.inr (by decide)) : g223 69 14 = g221 69 14).trans ((by rw [e221]; exact x_up2_off (Or.inl (by decide)) : g221 69 14 = g217 69 14).trans ((by rw [e217]; exact x_up2_off (Or.inr (by decide)) : g217 69 14 = gi183 69 14).trans c183_1))); omega) (fun b n q K E h => (by
                                                            obtain ⟨q2, K2, E2, hX, hS, hm⟩ := j183_4 b n q K E h
                                                            have e1 := (by rw [e218]; have hc := t_clamp (i := z216) (by omega); have hx : z216.toNatClampNeg = (gi183 69 22).toInt.toNat - 1 := (by omega); rw [hx]; exact congrFun (((by rw [e217]; exact x_up2_ne (by decide) : g217 77 = gi183 77))) _ : w218 = gi183 77 ((gi183 69 22).toInt.toNat - 1))
                                                            obtain ⟨K3, eK, h1⟩ := hm.pe (g1 := g223) (w := w218) (((t_fM.rf.u9 (by decide) e217).ux (by decide) e221).u9 (by decide) e223) (by omega) e1 (show (g223 69 22).toInt = (gi183 69 22).toInt - 1 from (by have ff233 : (g223 69 22).toInt = z216.toInt := congrArg Int32.toInt ((by rw [e223]; exact x_up2_off (Or.inr (by decide)) : g223 69 22 = g221 69 22).trans ((by rw [e221]; exact x_up2_off (Or.inl (by decide)) : g221 69 22 = g217 69 22).trans (by rw [e217]; exact x_up2_at _ _ _ _ : g217 69 22 = z216))); omega)) (show (g223 69 25).toInt = (gi183 69 25).toInt + 1 from (by have ff234 : (g223 69 25).toInt = z222.toInt := congrArg Int32.toInt (by rw [e223]; exact x_up2_at _ _ _ _ : g223 69 25 = z222); omega)) ((by rw [e223]; exact x_up2_ne (by decide) : g223 77 = g221 77).trans ((by rw [e221]; exact x_up2_ne (by decide) : g221 77 = g217 77).trans ((by rw [e217]; exact x_up2_ne (by decide) : g217 77 = gi183 77)))) (t_one (p := 1540 + (gi183 69 25).toInt.toNat) ((by rw [e217]; exact x_up2_ne (by decide) : g217 70 = gi183 70)) e221 ((by rw [e223]; exact x_up2_ne (by decide) : g223 70 = g221 70)) (by have hc := t_clamp (i := z220) (by omega); omega))
                                                            have e2 := (by rw [e188]; have hc := t_clamp (i := z187) (by omega); have hx : z187.toNatClampNeg = (gi183 69 22).toInt.toNat - 1 := (by omega); rw [hx] : w188 = gi183 77 ((gi183 69 22).toInt.toNat - 1))
                                                            have hne : w218.toInt ≠ 40 := by rw [e1, ← e2]; omega
                                                            rw [eK, s_pk_c hne] at hX
                                                            exact ⟨q2, K3, _, hX, hS, h1⟩)) rfl
                    refine ev_sub (lo := [(1, .int w59), (0, .ref 69)]) rfl (t_sc rfl (t_sc rfl t_sn)) ?_
                    exact L183 _ gi166 gl166 gr166  hI hX  rfl rfl rfl rfl j166_0 (q178.1 (by omega)) (by omega) (by omega) (fun b n q K E h => (by
                                                            obtain ⟨q2, K2, E2, hX, hm⟩ := j166_3 b n q K E h
                                                            have hS := (q173.1 b n _ hm.1).mp (by omega)
                                                            exact ⟨q2, K2, E2, hX.trans (s_Em_b hm.qn hS (hm.ex (q178.1 (by omega)))), hS, hm⟩)) rfl
              refine ev_sub (lo := [(1, .int w59), (0, .ref 69)]) rfl (t_sc rfl (t_sc rfl t_sn)) ?_
              exact L166 _ gi162 gl162 gr162  hI hX  q162.1 (by have ff236 : (gi162 69 14).toInt = (gi153 69 14).toInt := congrArg Int32.toInt ((hC162.1 69 14 rfl).1.trans rfl); omega) (by have ff237 : (gi162 69 12).toInt = (gi153 69 12).toInt := congrArg Int32.toInt ((hC162.1 69 12 rfl).1.trans rfl); have ff238 : (gi162 69 14).toInt = (gi153 69 14).toInt := congrArg Int32.toInt ((hC162.1 69 14 rfl).1.trans rfl); omega) (fun b n q K E h => (by
                                                            obtain ⟨q2, K2, E2, hX, hm⟩ := j7_2 b n q K E h
                                                            have hk := q12.1 b n _ hm.1
                                                            have hN : ¬ s_nst b n q2 := fun hh => (s_nst_mi.mp hh).elim (fun x => by omega) (fun x => absurd ((q56.1 b n _ hm.1).mpr x) (by omega))
                                                            have hk2 := q59.1 b n _ hm.1
                                                            have hf : s_fct b n q2 := s_fct_mi.mpr (by omega)
                                                            obtain ⟨hc, h2⟩ := q153.2 b n q2 K2 E2 hm hf hN hk2.symm (by omega)
                                                            exact ⟨_, _, _, hX.trans (s_Em_c hm.qn hN hc), q162.2 b n _ _ _ h2⟩)) rfl
          · have r239 : w59.toInt ≠ 16 := fun e => h150 (Int32.toInt_inj.mp (e.trans (by decide : (16:Int) = (16 : Int32).toInt)))
            refine ev_loc f_X12_aOne (nx := 93) rfl rfl rfl rfl ?_
            refine ev_bp f_X12_aOne (nx := 95) (v := 22) rfl (by decide) rfl ?_
            refine ev_if f_X12_aOne (t1 := 104) (t2 := 98) rfl rfl rfl (fun h240 => ?_) (fun h240 => ?_)
            · have u241 : w59.toInt ≤ 21 := t_ltu h240 (by decide : (22:Int32).toInt ≤ (22:Int)) rfl
              refine ev_loc f_X12_aOne (nx := 105) rfl rfl rfl rfl ?_
              refine ev_ic f_X12_aOne (nx := 106) (v := 2) rfl (by decide) rfl ?_
              refine ev_qI f_X12_aOne (nx := 109) (r := []) rfl rfl rfl rfl rfl rfl rfl (c_n_fails hI (2) (by decide : (2:Int) ≤ (2:Int32).toInt) (Int.le_trans (by decide : (2:Int32).toInt ≤ (2:Int)) (by decide : (2:Int) ≤ 7))) rfl hX rfl (fun w242 gi242 gl242 gr242 l242 u242 hI hX hC242 q242 => ?_)
              have q242 : (∀ (b : Nat → Int32) (n q : Nat), t_TM b n q gi7 → (gi7 69 18).toInt = 0 → t_MF gi242 (s_fk b n q 2) (s_F b n q)) ∧ w242.toInt = 0 := q242
              exact ev_retZ f_X12_aOne rfl l242 (Int.le_trans u242 (by decide : (0:Int) ≤ 1)) ⟨_, _, _, rfl, hI, hX, ⟨_, rfl, l242, (Int.le_trans u242 (by decide : (0:Int) ≤ 1)), (show (∀ (b : Nat → Int32) (n q : Nat) (K E : List Int), t_OM b n q K E gi → w242.toInt = 1 → ∃ q2 K2 E2, s_Em b n false q K E = s_Em b n true q2 K2 E2 ∧ ¬ (s_isS b n q2 41 ∧ 40 ∈ K2) ∧ t_OM b n q2 K2 E2 gi242) from (fun b n q K E h hv => absurd hv (by have := q242.2; omega)))⟩⟩
            · have l243 : 22 ≤ w59.toInt := t_lel (t_nlt h240) (by decide : (22:Int) ≤ (22:Int32).toInt)
              refine ev_loc f_X12_aOne (nx := 99) rfl rfl rfl rfl ?_
              refine ev_bp f_X12_aOne (nx := 101) (v := 26) rfl (by decide) rfl ?_
              refine ev_if f_X12_aOne (t1 := 110) (t2 := 104) rfl rfl rfl (fun h244 => ?_) (fun h244 => ?_)
              · have u245 : w59.toInt ≤ 26 := t_leu h244 (by decide : (26:Int32).toInt ≤ (26:Int))
                refine ev_loc f_X12_aOne (nx := 111) rfl rfl rfl rfl ?_
                refine ev_loc f_X12_aOne (nx := 112) rfl rfl rfl rfl ?_
                refine ev_qI f_X12_aOne (nx := 115) (r := []) rfl rfl rfl rfl rfl rfl rfl (c_o_aCaseB hI (w59) (Int.le_trans (by decide : (15:Int) ≤ 22) l243) u245 (b := b) j7_0 (by omega)) rfl hX rfl (fun w246 gi246 gl246 gr246 l246 u246 hI hX hC246 q246 => ?_)
                have q246 : ((gi7 69 14).toInt ≤ (gi246 69 14).toInt ∧ (w246.toInt = 1 → (gi246 69 12).toInt ≠ 0 → (gi7 69 14).toInt < (gi246 69 14).toInt) ∧ (w246.toInt = 0 → (gi246 69 18).toInt ≠ 0) ∧ (w246.toInt = 1 → t_K (b) gi246 1)) ∧ ((∀ (b : Nat → Int32) (n q : Nat) (K E : List Int), t_OM b n q K E gi7 → s_fct b n q → ¬ s_nst b n q → s_mi (s_W b n q) = w59.toInt → w246.toInt = 1 → s_cok b n q ∧ t_OM b n (s_cx b n q) K (E ++ [s_ccd b n q]) gi246)) := q246
                obtain ⟨l247, u247⟩ := hI.b (hI.wf.s (k := 69) rfl) (t_bdK rfl : t_bd 11 12 = some (0, 4))
                obtain ⟨l248, u248⟩ := hI.b (hI.wf.s (k := 69) rfl) (t_bdK rfl : t_bd 11 14 = some (0, 900))
                obtain ⟨l249, u249⟩ := hI.b (hI.wf.s (k := 69) rfl) (t_bdK rfl : t_bd 11 24 = some (0, 24))
                obtain ⟨l250, u250⟩ := hI.b (hI.wf.s (k := 69) rfl) (t_bdK rfl : t_bd 11 25 = some (0, 210))
                refine ev_if f_X12_aOne (t1 := 118) (t2 := 120) rfl rfl rfl (fun h251 => ?_) (fun h251 => ?_)
                · have u252 : w246.toInt ≤ 0 := t_equ h251 (by decide : (0:Int32).toInt ≤ (0:Int))
                  refine ev_ic f_X12_aOne (nx := 119) (v := 0) rfl (by decide) rfl ?_
                  exact ev_ret f_X12_aOne rfl rfl rfl ⟨_, _, _, rfl, hI, hX, ⟨_, rfl, (by decide : (0:Int) ≤ (0:Int32).toInt), (Int.le_trans (by decide : (0:Int32).toInt ≤ (0:Int)) (by decide : (0:Int) ≤ 1)), (show (∀ (b : Nat → Int32) (n q : Nat) (K E : List Int), t_OM b n q K E gi → (0 : Int) = 1 → ∃ q2 K2 E2, s_Em b n false q K E = s_Em b n true q2 K2 E2 ∧ ¬ (s_isS b n q2 41 ∧ 40 ∈ K2) ∧ t_OM b n q2 K2 E2 gi246) from (fun b n q K E h hv => absurd hv (by decide)))⟩⟩
                · have r253 : w246.toInt ≠ 0 := fun e => h251 (Int32.toInt_inj.mp (e.trans (by decide : (0:Int) = (0 : Int32).toInt)))
                  have l254 : 1 ≤ w246.toInt := t_nel h251 l246 rfl rfl
                  refine ev_loc f_X12_aOne (nx := 121) rfl rfl rfl rfl ?_
                  refine ev_qN f_X12_aOne (nx := 124) (r := []) rfl rfl rfl rfl rfl rfl rfl (c_o_turnsRoundB hI  (b := b) (q246.1.2.2.2 (by omega))) rfl hX rfl (fun gi255 gl255 gr255 hI hX hC255 q255 => ?_)
                  have q255 : (t_K (b) gi255 2) ∧ ((∀ (b : Nat → Int32) (n q : Nat) (K E : List Int), t_OM b n q K E gi246 → t_OM b n q (s_pp K E).1 (s_pp K E).2 gi255)) := q255
                  obtain ⟨l256, u256⟩ := hI.b (hI.wf.s (k := 69) rfl) (t_bdK rfl : t_bd 11 22 = some (0, 60))
                  obtain ⟨l257, u257⟩ := hI.b (hI.wf.s (k := 69) rfl) (t_bdK rfl : t_bd 11 23 = some (0, 6))
                  obtain ⟨l258, u258⟩ := hI.b (hI.wf.s (k := 69) rfl) (t_bdK rfl : t_bd 11 25 = some (0, 210))
                  have L259 : ∀ (m259 : Nat) (gi259 : Nat → Nat → Int32) (gl259 : Nat → Nat → Int64) (gr259 : Nat → Nat → Value), t_I sh gi259 gr259 → t_X wl_o_aOne sh gi gl gr gi259 gl259 gr259 → t_K b gi259 2 → (gi 69 14).toInt ≤ (gi259 69 14).toInt → ((gi259 69 12).toInt ≠ 0 → (gi 69 14).toInt < (gi259 69 14).toInt) → (∀ (b : Nat → Int32) (n q : Nat) (K E : List Int), t_OM b n q K E gi → ∃ q2 K2 E2, s_Em b n false q K E = s_Em b n true q2 K2 E2 ∧ t_OM b n q2 K2 E2 gi259) → (2 * (900 - (gi259 69 14).toInt) + min (gi259 69 12).toInt 1).toNat = m259 → x_Ev X (d + 6) n_X12_aOne 124 [(1, .int w59), (0, .ref 69)] [] (sh, gi259, gl259, gr259) (t_PI wl_o_aOne sh gi gl gr 0 1 (Q_o_aOne gi gl gr b)) := by
                    intro m259
                    induction m259 using Nat.strongRecOn with
                    | _ m259 ih259 =>
                    intro gi259 gl259 gr259 hI hX j259_0 j259_1 j259_2 j259_3 hm259
                    obtain ⟨l260, u260⟩ := hI.b (hI.wf.s (k := 69) rfl) (t_bdK rfl : t_bd 11 12 = some (0, 4))
                    obtain ⟨l261, u261⟩ := hI.b (hI.wf.s (k := 69) rfl) (t_bdK rfl : t_bd 11 14 = some (0, 900))
                    obtain ⟨l262, u262⟩ := hI.b (hI.wf.s (k := 69) rfl) (t_bdK rfl : t_bd 11 22 = some (0, 60))
                    obtain ⟨l263, u263⟩ := hI.b (hI.wf.s (k := 69) rfl) (t_bdK rfl : t_bd 11 23 = some (0, 6))
                    obtain ⟨l264, u264⟩ := hI.b (hI.wf.s (k := 69) rfl) (t_bdK rfl : t_bd 11 24 = some (0, 24))
                    obtain ⟨l265, u265⟩ := hI.b (hI.wf.s (k := 69) rfl) (t_bdK rfl : t_bd 11 25 = some (0, 210))
                    refine ev_loc f_X12_aOne (nx := 125) rfl rfl rfl rfl ?_
                    refine ev_bp f_X12_aOne (nx := 127) (v := 41) rfl (by decide) rfl ?_
                    refine ev_qI0 f_X12_aOne (nx := 130) (r := []) rfl rfl rfl rfl rfl rfl rfl (c_n_isSignB hI (41)) rfl (fun w266 l266 u266 q266 => ?_)
                    have q266 : (∀ (b : Nat → Int32) (n q : Nat), t_TM b n q gi259 → (w266.toInt = 1 ↔ s_isS b n q 41)) ∧ (w266.toInt = 1 → (gi259 69 12).toInt = 4) := q266
                    refine ev_if f_X12_aOne (t1 := 187) (t2 := 133) rfl rfl rfl (fun h267 => ?_) (fun h267 => ?_)
                    · have u268 : w266.toInt ≤ 0 := t_equ h267 (by decide : (0:Int32).toInt ≤ (0:Int))
                      refine ev_ic f_X12_aOne (nx := 188) (v := 1) rfl (by decide) rfl ?_
                      exact ev_ret f_X12_aOne rfl rfl rfl ⟨_, _, _, rfl, hI, hX, ⟨_, rfl, (Int.le_trans (by decide : (0:Int) ≤ 1) (by decide : (1:Int) ≤ (1:Int32).toInt)), (by decide : (1:Int32).toInt ≤ (1:Int)), (show (∀ (b : Nat → Int32) (n q : Nat) (K E : List Int), t_OM b n q K E gi → (1 : Int) = 1 → ∃ q2 K2 E2, s_Em b n false q K E = s_Em b n true q2 K2 E2 ∧ ¬ (s_isS b n q2 41 ∧ 40 ∈ K2) ∧ t_OM b n q2 K2 E2 gi259) from (fun b n q K E h hv => (by
                                                            obtain ⟨q2, K2, E2, hX, hm⟩ := j259_3 b n q K E h
                                                            exact ⟨q2, K2, E2, hX, (fun hh => absurd ((q266.1 b n _ hm.1).mpr hh.1) (by omega)), hm⟩)))⟩⟩
                    · have r269 : w266.toInt ≠ 0 := fun e => h267 (Int32.toInt_inj.mp (e.trans (by decide : (0:Int) = (0 : Int32).toInt)))
                      have l270 : 1 ≤ w266.toInt := t_nel h267 l266 rfl rfl
                      refine ev_loc f_X12_aOne (nx := 134) rfl rfl rfl rfl ?_
                      refine ev_qI0 f_X12_aOne (nx := 137) (r := []) rfl rfl rfl rfl rfl rfl rfl (c_m_isWithin hI ) rfl (fun w271 l271 u271 q271 => ?_)
                      have q271 : (w271.toInt = 1 → t_ex gi259) ∧ (w271.toInt = 0 → t_n40 gi259) := q271
                      refine ev_if f_X12_aOne (t1 := 187) (t2 := 140) rfl rfl rfl (fun h272 => ?_) (fun h272 => ?_)
                      · have u273 : w271.toInt ≤ 0 := t_equ h272 (by decide : (0:Int32).toInt ≤ (0:Int))
                        refine ev_ic f_X12_aOne (nx := 188) (v := 1) rfl (by decide) rfl ?_
                        exact ev_ret f_X12_aOne rfl rfl rfl ⟨_, _, _, rfl, hI, hX, ⟨_, rfl, (Int.le_trans (by decide : (0:Int) ≤ 1) (by decide : (1:Int) ≤ (1:Int32).toInt)), (by decide : (1:Int32).toInt ≤ (1:Int)), (show (∀ (b : Nat → Int32) (n q : Nat) (K E : List Int), t_OM b n q K E gi → (1 : Int) = 1 → ∃ q2 K2 E2, s_Em b n false q K E = s_Em b n true q2 K2 E2 ∧ ¬ (s_isS b n q2 41 ∧ 40 ∈ K2) ∧ t_OM b n q2 K2 E2 gi259) from (fun b n q K E h hv => (by
                                                            obtain ⟨q2, K2, E2, hX, hm⟩ := j259_3 b n q K E h
                                                            exact ⟨q2, K2, E2, hX, (fun hh => hm.nx (q271.2 (by omega)) hh.2), hm⟩)))⟩⟩
                      · have r274 : w271.toInt ≠ 0 := fun e => h272 (Int32.toInt_inj.mp (e.trans (by decide : (0:Int) = (0 : Int32).toInt)))
                        have l275 : 1 ≤ w271.toInt := t_nel h272 l271 rfl rfl
                        have L276 : ∀ (m276 : Nat) (gi276 : Nat → Nat → Int32) (gl276 : Nat → Nat → Int64) (gr276 : Nat → Nat → Value), t_I sh gi276 gr276 → t_X wl_o_aOne sh gi gl gr gi276 gl276 gr276 → gi276 69 12 = (gi259 69 12) → gi276 69 14 = (gi259 69 14) → gi276 69 23 = (gi259 69 23) → gi276 69 24 = (gi259 69 24) → t_K b gi276 2 → t_ex gi276 → (gi 69 14).toInt ≤ (gi276 69 14).toInt → ((gi276 69 12).toInt ≠ 0 → (gi 69 14).toInt < (gi276 69 14).toInt) → (∀ (b : Nat → Int32) (n q : Nat) (K E : List Int), t_OM b n q K E gi → ∃ q2 K2 E2, s_Em b n false q K E = s_Tr b n (s_E b n q2) (s_pp (s_pkb K2 E2).1 (s_pkb K2 E2).2) ∧ s_isS b n q2 41 ∧ t_OM b n q2 K2 E2 gi276) → (gi276 69 22).toInt.toNat = m276 → x_Ev X (d + 6) n_X12_aOne 140 [(1, .int w59), (0, .ref 69)] [] (sh, gi276, gl276, gr276) (t_PI wl_o_aOne sh gi gl gr 0 1 (Q_o_aOne gi gl gr b)) := by
                          intro m276
                          induction m276 using Nat.strongRecOn with
                          | _ m276 ih276 =>
                          intro gi276 gl276 gr276 hI hX c276_0 c276_1 c276_2 c276_3 j276_0 j276_1 j276_2 j276_3 j276_4 hm276
                          have cf276_0 : (gi276 69 12).toInt = (gi259 69 12).toInt := congrArg Int32.toInt c276_0
                          have cf276_1 : (gi276 69 14).toInt = (gi259 69 14).toInt := congrArg Int32.toInt c276_1
                          have cf276_2 : (gi276 69 23).toInt = (gi259 69 23).toInt := congrArg Int32.toInt c276_2
                          have cf276_3 : (gi276 69 24).toInt = (gi259 69 24).toInt := congrArg Int32.toInt c276_3
                          obtain ⟨l277, u277⟩ := hI.b (hI.wf.s (k := 69) rfl) (t_bdK rfl : t_bd 11 22 = some (0, 60))
                          obtain ⟨l278, u278⟩ := hI.b (hI.wf.s (k := 69) rfl) (t_bdK rfl : t_bd 11 25 = some (0, 210))
                          have l279 : (1:Int) ≤ (gi276 69 22).toInt := by obtain ⟨j, hj, _⟩ := j276_1; omega
                          refine ev_loc f_X12_aOne (nx := 141) rfl rfl rfl rfl ?_
                          refine ev_bp f_X12_aOne (nx := 143) (v := 40) rfl (by decide) rfl ?_
                          refine ev_inV2 f_X12_aOne (nx := 146) (lo2 := [(0, .ref 69), (1, .int 40)]) rfl rfl rfl rfl f_X12_isDoing (hI.wf.s rfl) rfl rfl rfl rfl rfl ?_
                          refine ev_loc f_X12_isDoing (nx := 1) rfl rfl rfl rfl ?_
                          refine ev_gvI f_X12_isDoing (nx := 4) (w := (gi276 69 22)) rfl (hI.wf.s rfl) rfl rfl rfl rfl ?_
                          refine ev_f f_X12_isDoing (t1 := 26) (t2 := 7) rfl rfl rfl (t_leF (by decide : (0:Int32).toInt ≤ (0:Int)) l279 (by decide)) ?_
                          refine ev_loc f_X12_isDoing (nx := 8) rfl rfl rfl rfl ?_
                          refine ev_getR f_X12_isDoing (nx := 11) rfl (hI.wf.s rfl) rfl rfl (hI.wf.r rfl) rfl rfl ?_
                          refine ev_loc f_X12_isDoing (nx := 12) rfl rfl rfl rfl ?_
                          refine ev_gvI f_X12_isDoing (nx := 15) (w := (gi276 69 22)) rfl (hI.wf.s rfl) rfl rfl rfl rfl ?_
                          refine ev_ic f_X12_isDoing (nx := 16) (v := 1) rfl (by decide) rfl ?_
                          refine ev_subC f_X12_isDoing (nx := 17) (c := 1) (l := 0) (u := 59) rfl (by decide) l279 u277 rfl rfl (by decide) (by decide) rfl (fun z280 e280 l280 u280 => ?_)
                          refine ev_ialdT f_X12_isDoing (nx := 18) rfl (hI.wf.s rfl) l280 (by decide) u280 (by decide) rfl (fun w281 e281 => ?_)
                          refine ev_loc f_X12_isDoing (nx := 19) rfl rfl rfl rfl ?_
                          refine ev_if f_X12_isDoing (t1 := 22) (t2 := 26) rfl rfl rfl (fun h282 => ?_) (fun h282 => ?_)
                          · have u283 : w281.toInt ≤ 40 := t_equ h282 (by decide : (40:Int32).toInt ≤ (40:Int))
                            have l284 : 40 ≤ w281.toInt := t_eql h282 (by decide : (40:Int) ≤ (40:Int32).toInt)
                            refine ev_ic f_X12_isDoing (nx := 23) (v := 1) rfl (by decide) rfl ?_
                            refine ev_jmp f_X12_isDoing (nx := 27) rfl rfl rfl ?_
                            refine ev_retK1 f_X12_isDoing rfl rfl rfl ?_
                            refine ev_f f_X12_aOne (t1 := 149) (t2 := 156) rfl rfl rfl (by decide) ?_
                            refine ev_loc f_X12_aOne (nx := 157) rfl rfl rfl rfl ?_
                            refine ev_alu f_X12_aOne (nx := 158) rfl rfl rfl rfl ?_
                            refine ev_gvI f_X12_aOne (nx := 161) (w := (gi276 69 22)) rfl (hI.wf.s rfl) rfl rfl rfl rfl ?_
                            refine ev_ic f_X12_aOne (nx := 162) (v := 1) rfl (by decide) rfl ?_
                            refine ev_subC f_X12_aOne (nx := 163) (c := 1) (l := 0) (u := 59) rfl (by decide) l279 u277 rfl rfl (by decide) (by decide) rfl (fun z285 e285 l285 u285 => ?_)
                            refine ev_putIT f_X12_aOne (nx := 166) rfl (hI.wf.s rfl) rfl rfl rfl (hI.putB (hI.wf.s rfl) rfl rfl l285 (by decide) u285 (by decide)) (hX.upI rfl) (fun g286 e286 hI hX => ?_)
                            refine ev_loc f_X12_aOne (nx := 167) rfl rfl rfl rfl ?_
                            refine ev_alu f_X12_aOne (nx := 168) rfl rfl rfl rfl ?_
                            refine ev_gvI f_X12_aOne (nx := 171) (w := (gi259 69 23)) rfl (hI.wf.s rfl) rfl rfl ((by rw [e286]; exact x_up2_off (Or.inr (by decide)) : g286 69 23 = gi276 69 23).trans c276_2) rfl ?_
                            refine ev_ic f_X12_aOne (nx := 172) (v := 1) rfl (by decide) rfl ?_
                            refine ev_subC f_X12_aOne (nx := 173) (c := 1) (l := (-1)) (u := 5) rfl (by decide) l263 u263 rfl rfl (by decide) (by decide) rfl (fun z287 e287 l287 u287 => ?_)
                            have l289 : (0:Int) ≤ z287.toInt := (by have hw := t_K_w j276_0 (by omega) (by rw [← (by rw [e281]; have hc := t_clamp (i := z280) (by omega); have hx : z280.toNatClampNeg = (gi276 69 22).toInt.toNat - 1 := (by omega); rw [hx] : w281 = gi276 77 ((gi276 69 22).toInt.toNat - 1))]; omega); omega)
                            refine ev_putIT f_X12_aOne (nx := 176) rfl (hI.wf.s rfl) rfl rfl rfl (hI.putB (hI.wf.s rfl) rfl rfl l289 (by decide) u287 (by decide)) (hX.upI rfl) (fun g288 e288 hI hX => ?_)
                            refine ev_loc f_X12_aOne (nx := 177) rfl rfl rfl rfl ?_
                            refine ev_qN f_X12_aOne (nx := 180) (r := []) rfl rfl rfl rfl rfl rfl rfl (c_n_aheadB hI ) rfl hX rfl (fun gi290 gl290 gr290 hI hX hC290 q290 => ?_)
                            have ff291 : (g288 69 14).toInt = (gi259 69 14).toInt := congrArg Int32.toInt ((by rw [e288]; exact x_up2_off (Or.inr (by decide)) : g288 69 14 = g286 69 14).trans ((by rw [e286]; exact x_up2_off (Or.inr (by decide)) : g286 69 14 = gi276 69 14).trans c276_1))
                            have q290 : ((g288 69 14).toInt ≤ (gi290 69 14).toInt ∧ ((gi290 69 12).toInt ≠ 0 → (g288 69 14).toInt < (gi290 69 14).toInt) ∧ ((gi290 69 12).toInt = 3 → 0 ≤ (gi290 69 15).toInt)) ∧ (∀ (b : Nat → Int32) (n q : Nat), t_Sm b n q g288 → t_TM b n q gi290) := q290
                            obtain ⟨l292, u292⟩ := hI.b (hI.wf.s (k := 69) rfl) (t_bdK rfl : t_bd 11 12 = some (0, 4))
                            obtain ⟨l293, u293⟩ := hI.b (hI.wf.s (k := 69) rfl) (t_bdK rfl : t_bd 11 14 = some (0, 900))
                            refine ev_loc f_X12_aOne (nx := 181) rfl rfl rfl rfl ?_
                            refine ev_qN f_X12_aOne (nx := 184) (r := []) rfl rfl rfl rfl rfl rfl rfl (c_o_turnsRoundB hI  (b := b) (t_K_par j276_0 (by omega) (by rw [← (by rw [e281]; have hc := t_clamp (i := z280) (by omega); have hx : z280.toNatClampNeg = (gi276 69 22).toInt.toNat - 1 := (by omega); rw [hx] : w281 = gi276 77 ((gi276 69 22).toInt.toNat - 1))]; omega) (show (gi290 69 22).toInt = (gi276 69 22).toInt - 1 from (by have ff295 : (gi290 69 22).toInt = z285.toInt := congrArg Int32.toInt ((hC290.1 69 22 rfl).1.trans ((by rw [e288]; exact x_up2_off (Or.inr (by decide)) : g288 69 22 = g286 69 22).trans (by rw [e286]; exact x_up2_at _ _ _ _ : g286 69 22 = z285))); omega)) (show (gi290 69 23).toInt = (gi276 69 23).toInt - 1 from (by have ff296 : (gi290 69 23).toInt = z287.toInt := congrArg Int32.toInt ((hC290.1 69 23 rfl).1.trans (by rw [e288]; exact x_up2_at _ _ _ _ : g288 69 23 = z287)); omega)) (show (gi290 69 24).toInt = (gi276 69 24).toInt from (by have ff297 : (gi290 69 24).toInt = (gi259 69 24).toInt := congrArg Int32.toInt ((hC290.1 69 24 rfl).1.trans ((by rw [e288]; exact x_up2_off (Or.inr (by decide)) : g288 69 24 = g286 69 24).trans ((by rw [e286]; exact x_up2_off (Or.inr (by decide)) : g286 69 24 = gi276 69 24).trans c276_3))); omega)) (show (gi290 69 25).toInt = (gi276 69 25).toInt from (by have ff298 : (gi290 69 25).toInt = (gi276 69 25).toInt := congrArg Int32.toInt ((hC290.1 69 25 rfl).1.trans ((by rw [e288]; exact x_up2_off (Or.inr (by decide)) : g288 69 25 = g286 69 25).trans ((by rw [e286]; exact x_up2_off (Or.inr (by decide)) : g286 69 25 = gi276 69 25).trans rfl))); omega)) ((funext (fun j => (hC290.1 77 j rfl).1) : gi290 77 = g288 77).trans ((by rw [e288]; exact x_up2_ne (by decide) : g288 77 = g286 77).trans ((by rw [e286]; exact x_up2_ne (by decide) : g286 77 = gi276 77)))) ((funext (fun j => (hC290.1 70 j rfl).1) : gi290 70 = g288 70).trans ((by rw [e288]; exact x_up2_ne (by decide) : g288 70 = g286 70).trans ((by rw [e286]; exact x_up2_ne (by decide) : g286 70 = gi276 70)))))) rfl hX rfl (fun gi294 gl294 gr294 hI hX hC294 q294 => ?_)
                            have q294 : (t_K (b) gi294 2) ∧ ((∀ (b : Nat → Int32) (n q : Nat) (K E : List Int), t_OM b n q K E gi290 → t_OM b n q (s_pp K E).1 (s_pp K E).2 gi294)) := q294
                            obtain ⟨l299, u299⟩ := hI.b (hI.wf.s (k := 69) rfl) (t_bdK rfl : t_bd 11 22 = some (0, 60))
                            obtain ⟨l300, u300⟩ := hI.b (hI.wf.s (k := 69) rfl) (t_bdK rfl : t_bd 11 23 = some (0, 6))
                            obtain ⟨l301, u301⟩ := hI.b (hI.wf.s (k := 69) rfl) (t_bdK rfl : t_bd 11 25 = some (0, 210))
                            refine ev_jmp f_X12_aOne (nx := 124) rfl rfl rfl ?_
                            refine ev_sub (lo := [(1, .int w59), (0, .ref 69)]) rfl (t_sc rfl (t_sc rfl t_sn)) ?_
                            exact ih259 _ (by have ff305 : (gi294 69 14).toInt = (gi290 69 14).toInt := congrArg Int32.toInt ((hC294.1 69 14 rfl).1.trans rfl); have ff306 : (gi294 69 12).toInt = (gi290 69 12).toInt := congrArg Int32.toInt ((hC294.1 69 12 rfl).1.trans rfl); omega) gi294 gl294 gr294  hI hX  q294.1 (by have ff302 : (gi294 69 14).toInt = (gi290 69 14).toInt := congrArg Int32.toInt ((hC294.1 69 14 rfl).1.trans rfl); omega) (by have ff303 : (gi294 69 12).toInt = (gi290 69 12).toInt := congrArg Int32.toInt ((hC294.1 69 12 rfl).1.trans rfl); have ff304 : (gi294 69 14).toInt = (gi290 69 14).toInt := congrArg Int32.toInt ((hC294.1 69 14 rfl).1.trans rfl); omega) (fun b n q K E h => (by
                                                            obtain ⟨q2, K2, E2, hX, hS, hm⟩ := j276_4 b n q K E h
                                                            obtain ⟨K3, eK, h1⟩ := hm.po (g1 := g288) (w := w281) ((t_fM.rf.u9 (by decide) e286).u9 (by decide) e288) (by omega) (by rw [e281]; have hc := t_clamp (i := z280) (by omega); have hx : z280.toNatClampNeg = (gi276 69 22).toInt.toNat - 1 := (Nat.le_antisymm (by omega) (by omega)); rw [hx] : w281 = gi276 77 ((gi276 69 22).toInt.toNat - 1)) (by rw [e288, x_up2_off (Or.inr (by decide)), e286, x_up2_at]; exact Int.le_antisymm (by omega) (by omega)) (congrArg Int32.toInt (by rw [e288, x_up2_off (Or.inr (by decide)), e286, x_up2_off (Or.inr (by decide))])) (funext fun j => (by rw [e288, x_up2_ne (by decide), e286, x_up2_ne (by decide)])) (funext fun j => (by rw [e288, x_up2_ne (by decide), e286, x_up2_ne (by decide)]))
                                                            have h40 : w281.toInt = 40 := by omega
                                                            rw [eK, h40, s_pk_z] at hX
                                                            have h2 := h1.ah (q290.2 b n _ h1.1.S) (congrArg Int32.toInt (hC290.1 69 22 rfl).1) (congrArg Int32.toInt (hC290.1 69 25 rfl).1) (funext fun j => (hC290.1 77 j rfl).1) (funext fun j => (hC290.1 70 j rfl).1)
                                                            exact ⟨_, _, _, hX, q294.2 b n _ _ _ h2⟩)) rfl
                          · have r307 : w281.toInt ≠ 40 := fun e => h282 (Int32.toInt_inj.mp (e.trans (by decide : (40:Int) = (40 : Int32).toInt)))
                            refine ev_ic f_X12_isDoing (nx := 27) (v := 0) rfl (by decide) rfl ?_
                            refine ev_retK1 f_X12_isDoing rfl rfl rfl ?_
                            refine ev_t f_X12_aOne (t1 := 149) (t2 := 156) rfl rfl rfl (by decide) ?_
                            refine ev_loc f_X12_aOne (nx := 150) rfl rfl rfl rfl ?_
                            refine ev_inV1 f_X12_aOne (nx := 153) (lo2 := [(0, .ref 69)]) rfl rfl rfl rfl f_X12_joins (hI.wf.s rfl) rfl rfl rfl rfl rfl ?_
                            have kn308 := t_K_num j276_0
                            refine ev_loc f_X12_joins (nx := 1) rfl rfl rfl rfl ?_
                            refine ev_alu f_X12_joins (nx := 2) rfl rfl rfl rfl ?_
                            refine ev_gvI f_X12_joins (nx := 5) (w := (gi276 69 22)) rfl (hI.wf.s rfl) rfl rfl rfl rfl ?_
                            refine ev_ic f_X12_joins (nx := 6) (v := 1) rfl (by decide) rfl ?_
                            refine ev_subC f_X12_joins (nx := 7) (c := 1) (l := 0) (u := 59) rfl (by decide) l279 u277 rfl rfl (by decide) (by decide) rfl (fun z309 e309 l309 u309 => ?_)
                            refine ev_putIT f_X12_joins (nx := 10) rfl (hI.wf.s rfl) rfl rfl rfl (hI.putB (hI.wf.s rfl) rfl rfl l309 (by decide) u309 (by decide)) (hX.upI rfl) (fun g310 e310 hI hX => ?_)
                            refine ev_loc f_X12_joins (nx := 11) rfl rfl rfl rfl ?_
                            refine ev_loc f_X12_joins (nx := 12) rfl rfl rfl rfl ?_
                            refine ev_getR f_X12_joins (nx := 15) rfl (hI.wf.s rfl) rfl rfl (hI.wf.r rfl) rfl rfl ?_
                            refine ev_loc f_X12_joins (nx := 16) rfl rfl rfl rfl ?_
                            refine ev_gvI f_X12_joins (nx := 19) (w := z309) rfl (hI.wf.s rfl) rfl rfl (by rw [e310]; exact x_up2_at _ _ _ _ : g310 69 22 = z309) rfl ?_
                            refine ev_ialdT f_X12_joins (nx := 20) rfl (hI.wf.s rfl) l309 (by decide) u309 (by decide) rfl (fun w311 e311 => ?_)
                            refine ev_inV2 f_X12_joins (nx := 23) (lo2 := [(0, .ref 69), (1, .int w311)]) rfl rfl rfl rfl f_X12_asksAlso (hI.wf.s rfl) rfl rfl rfl rfl rfl ?_
                            have kn312 := t_K_num j276_0
                            refine ev_loc f_X12_asksAlso (nx := 1) rfl rfl rfl rfl ?_
                            refine ev_getR f_X12_asksAlso (nx := 4) rfl (hI.wf.s rfl) rfl rfl (hI.wf.r rfl) rfl rfl ?_
                            refine ev_sp f_X12_asksAlso (nx := 7) (v := 1540) rfl (by decide) rfl ?_
                            refine ev_loc f_X12_asksAlso (nx := 8) rfl rfl rfl rfl ?_
                            refine ev_gvI f_X12_asksAlso (nx := 11) (w := (gi276 69 25)) rfl (hI.wf.s rfl) rfl rfl ((by rw [e310]; exact x_up2_off (Or.inr (by decide)) : g310 69 25 = gi276 69 25).trans rfl) rfl ?_
                            refine ev_addK f_X12_asksAlso (nx := 12) (c := 1540) (l := 1540) (u := 1750) rfl (by decide) l278 u278 rfl rfl (by decide) (by decide) rfl (fun z313 e313 l313 u313 => ?_)
                            refine ev_loc f_X12_asksAlso (nx := 13) rfl rfl rfl rfl ?_
                            refine ev_iastT f_X12_asksAlso (nx := 14) rfl (hI.wf.s rfl) l313 (by decide) u313 (by decide) rfl (hI.astL (hI.wf.s rfl) (by decide +kernel : t_abw 70 1540 1750 (-2147483648) 2147483647 = true) (t_cl1 l313 (by decide)) (t_cl2 l313 u313 (by decide) (by decide)) (t_lo w311) (t_hi w311) rfl) (hX.upI (t_inR (p := 1540) (m := 1750) rfl l313 (by decide) u313 (by decide) (by decide))) (fun g314 e314 hI hX => ?_)
                            refine ev_loc f_X12_asksAlso (nx := 15) rfl rfl rfl rfl ?_
                            refine ev_alu f_X12_asksAlso (nx := 16) rfl rfl rfl rfl ?_
                            refine ev_gvI f_X12_asksAlso (nx := 19) (w := (gi276 69 25)) rfl (hI.wf.s rfl) rfl rfl ((by rw [e314]; exact x_up2_off (Or.inl (by decide)) : g314 69 25 = g310 69 25).trans ((by rw [e310]; exact x_up2_off (Or.inr (by decide)) : g310 69 25 = gi276 69 25).trans rfl)) rfl ?_
                            refine ev_ic f_X12_asksAlso (nx := 20) (v := 1) rfl (by decide) rfl ?_
                            refine ev_addC f_X12_asksAlso (nx := 21) (c := 1) (l := 1) (u := 211) rfl (by decide) l278 u278 rfl rfl (by decide) (by decide) rfl (fun z315 e315 l315 u315 => ?_)
                            have u317 : z315.toInt ≤ (210:Int) := (by omega)
                            refine ev_putIT f_X12_asksAlso (nx := 24) rfl (hI.wf.s rfl) rfl rfl rfl (hI.putB (hI.wf.s rfl) rfl rfl l315 (by decide) u317 (by decide)) (hX.upI rfl) (fun g316 e316 hI hX => ?_)
                            refine ev_retK0 f_X12_asksAlso rfl rfl rfl ?_
                            refine ev_retK0 f_X12_joins rfl rfl rfl ?_
                            refine ev_jmp f_X12_aOne (nx := 140) rfl rfl rfl ?_
                            refine ev_sub (lo := [(1, .int w59), (0, .ref 69)]) rfl (t_sc rfl (t_sc rfl t_sn)) ?_
                            exact ih276 _ (by have ff328 : (g316 69 22).toInt = z309.toInt := congrArg Int32.toInt ((by rw [e316]; exact x_up2_off (Or.inr (by decide)) : g316 69 22 = g314 69 22).trans ((by rw [e314]; exact x_up2_off (Or.inl (by decide)) : g314 69 22 = g310 69 22).trans (by rw [e310]; exact x_up2_at _ _ _ _ : g310 69 22 = z309))); omega) g316 gl276 gr276  hI hX  ((by rw [e316]; exact x_up2_off (Or.inr (by decide)) : g316 69 12 = g314 69 12).trans ((by rw [e314]; exact x_up2_off (Or.inl (by decide)) : g314 69 12 = g310 69 12).trans ((by rw [e310]; exact x_up2_off (Or.inr (by decide)) : g310 69 12 = gi276 69 12).trans c276_0))) ((by rw [e316]; exact x_up2_off (Or.inr (by decide)) : g316 69 14 = g314 69 14).trans ((by rw [e314]; exact x_up2_off (Or.inl (by decide)) : g314 69 14 = g310 69 14).trans ((by rw [e310]; exact x_up2_off (Or.inr (by decide)) : g310 69 14 = gi276 69 14).trans c276_1))) ((by rw [e316]; exact x_up2_off (Or.inr (by decide)) : g316 69 23 = g314 69 23).trans ((by rw [e314]; exact x_up2_off (Or.inl (by decide)) : g314 69 23 = g310 69 23).trans ((by rw [e310]; exact x_up2_off (Or.inr (by decide)) : g310 69 23 = gi276 69 23).trans c276_2))) ((by rw [e316]; exact x_up2_off (Or.inr (by decide)) : g316 69 24 = g314 69 24).trans ((by rw [e314]; exact x_up2_off (Or.inl (by decide)) : g314 69 24 = g310 69 24).trans ((by rw [e310]; exact x_up2_off (Or.inr (by decide)) : g310 69 24 = gi276 69 24).trans c276_3))) (by have ht := (by rw [e311]; have hc := t_clamp (i := z309) (by omega); have hx : z309.toNatClampNeg = (gi276 69 22).toInt.toNat - 1 := (by omega); rw [hx]; exact congrFun (((by rw [e310]; exact x_up2_ne (by decide) : g310 77 = gi276 77))) _ : w311 = gi276 77 ((gi276 69 22).toInt.toNat - 1)); have ho := (t_one (p := 1540 + (gi276 69 25).toInt.toNat) ((by rw [e310]; exact x_up2_ne (by decide) : g310 70 = gi276 70)) e314 ((by rw [e316]; exact x_up2_ne (by decide) : g316 70 = g314 70)) (by have hc := t_clamp (i := z313) (by omega); omega)); exact t_K_bin j276_0 (by omega) (t_K_top j276_0 (by omega) (by rw [← (by rw [e281]; have hc := t_clamp (i := z280) (by omega); have hx : z280.toNatClampNeg = (gi276 69 22).toInt.toNat - 1 := (by omega); rw [hx] : w281 = gi276 77 ((gi276 69 22).toInt.toNat - 1))]; omega)) (show (g316 69 22).toInt = (gi276 69 22).toInt - 1 from (by have ff318 : (g316 69 22).toInt = z309.toInt := congrArg Int32.toInt ((by rw [e316]; exact x_up2_off (Or.inr (by decide)) : g316 69 22 = g314 69 22).trans ((by rw [e314]; exact x_up2_off (Or.inl (by decide)) : g314 69 22 = g310 69 22).trans (by rw [e310]; exact x_up2_at _ _ _ _ : g310 69 22 = z309))); omega)) (show (g316 69 23).toInt = (gi276 69 23).toInt from (by have ff319 : (g316 69 23).toInt = (gi259 69 23).toInt := congrArg Int32.toInt ((by rw [e316]; exact x_up2_off (Or.inr (by decide)) : g316 69 23 = g314 69 23).trans ((by rw [e314]; exact x_up2_off (Or.inl (by decide)) : g314 69 23 = g310 69 23).trans ((by rw [e310]; exact x_up2_off (Or.inr (by decide)) : g310 69 23 = gi276 69 23).trans c276_2))); omega)) (show (g316 69 24).toInt = (gi276 69 24).toInt from (by have ff320 : (g316 69 24).toInt = (gi259 69 24).toInt := congrArg Int32.toInt ((by rw [e316]; exact x_up2_off (Or.inr (by decide)) : g316 69 24 = g314 69 24).trans ((by rw [e314]; exact x_up2_off (Or.inl (by decide)) : g314 69 24 = g310 69 24).trans ((by rw [e310]; exact x_up2_off (Or.inr (by decide)) : g310 69 24 = gi276 69 24).trans c276_3))); omega)) (show (g316 69 25).toInt = (gi276 69 25).toInt + 1 from (by have ff321 : (g316 69 25).toInt = z315.toInt := congrArg Int32.toInt (by rw [e316]; exact x_up2_at _ _ _ _ : g316 69 25 = z315); omega)) ((by rw [e316]; exact x_up2_ne (by decide) : g316 77 = g314 77).trans ((by rw [e314]; exact x_up2_ne (by decide) : g314 77 = g310 77).trans ((by rw [e310]; exact x_up2_ne (by decide) : g310 77 = gi276 77)))) ho.1 (ho.2.trans ht)) (by obtain ⟨j, hj, hv⟩ := j276_1; have ht := (by rw [e281]; have hc := t_clamp (i := z280) (by omega); have hx : z280.toNatClampNeg = (gi276 69 22).toInt.toNat - 1 := (by omega); rw [hx] : w281 = gi276 77 ((gi276 69 22).toInt.toNat - 1)); have ff322 : (g316 69 22).toInt = z309.toInt := congrArg Int32.toInt ((by rw [e316]; exact x_up2_off (Or.inr (by decide)) : g316 69 22 = g314 69 22).trans ((by rw [e314]; exact x_up2_off (Or.inl (by decide)) : g314 69 22 = g310 69 22).trans (by rw [e310]; exact x_up2_at _ _ _ _ : g310 69 22 = z309))); refine ⟨j, ?_, (congrArg Int32.toInt (congrFun ((by rw [e316]; exact x_up2_ne (by decide) : g316 77 = g314 77).trans ((by rw [e314]; exact x_up2_ne (by decide) : g314 77 = g310 77).trans ((by rw [e310]; exact x_up2_ne (by decide) : g310 77 = gi276 77)))) j)).trans hv⟩; have hne : j ≠ (gi276 69 22).toInt.toNat - 1 := (fun e => by rw [e, ← ht] at hv; omega); omega) (by have ff323 : (g316 69 14).toInt = (gi259 69 14).toInt := congrArg Int32.toInt ((by rw [e316]; exact x_up2_off (Or.inr (by decide)) : g316 69 14 = g314 69 14).trans ((by rw [e314]; exact x_up2_off (Or.inl (by decide)) : g314 69 14 = g310 69 14).trans ((by rw [e310]; exact x_up2_off (Or.inr (by decide)) : g310 69 14 = gi276 69 14).trans c276_1))); omega) (by have ff324 : (g316 69 12).toInt = (gi259 69 12).toInt := congrArg Int32.toInt ((by rw [e316]; exact x_up2_off (Or.inr (by decide)) : g316 69 12 = g314 69 12).trans ((by rw [e314]; exact x_up2_off (Or.inl (by decide)) : g314 69 12 = g310 69 12).trans ((by rw [e310]; exact x_up2_off (Or.inr (by decide)) : g310 69 12 = gi276 69 12).trans c276_0))); have ff325 : (g316 69 14).toInt = (gi259 69 14).toInt := congrArg Int32.toInt ((by rw [e316]; exact x_up2_off (Or.inr (by decide)) : g316 69 14 = g314 69 14).trans ((by rw [e314]; exact x_up2_off (Or.inl (by decide)) : g314 69 14 = g310 69 14).trans ((by rw [e310]; exact x_up2_off (Or.inr (by decide)) : g310 69 14 = gi276 69 14).trans c276_1))); omega) (fun b n q K E h => (by
                                                            obtain ⟨q2, K2, E2, hX, hS, hm⟩ := j276_4 b n q K E h
                                                            have e1 := (by rw [e311]; have hc := t_clamp (i := z309) (by omega); have hx : z309.toNatClampNeg = (gi276 69 22).toInt.toNat - 1 := (by omega); rw [hx]; exact congrFun (((by rw [e310]; exact x_up2_ne (by decide) : g310 77 = gi276 77))) _ : w311 = gi276 77 ((gi276 69 22).toInt.toNat - 1))
                                                            obtain ⟨K3, eK, h1⟩ := hm.pe (g1 := g316) (w := w311) (((t_fM.rf.u9 (by decide) e310).ux (by decide) e314).u9 (by decide) e316) (by omega) e1 (show (g316 69 22).toInt = (gi276 69 22).toInt - 1 from (by have ff326 : (g316 69 22).toInt = z309.toInt := congrArg Int32.toInt ((by rw [e316]; exact x_up2_off (Or.inr (by decide)) : g316 69 22 = g314 69 22).trans ((by rw [e314]; exact x_up2_off (Or.inl (by decide)) : g314 69 22 = g310 69 22).trans (by rw [e310]; exact x_up2_at _ _ _ _ : g310 69 22 = z309))); omega)) (show (g316 69 25).toInt = (gi276 69 25).toInt + 1 from (by have ff327 : (g316 69 25).toInt = z315.toInt := congrArg Int32.toInt (by rw [e316]; exact x_up2_at _ _ _ _ : g316 69 25 = z315); omega)) ((by rw [e316]; exact x_up2_ne (by decide) : g316 77 = g314 77).trans ((by rw [e314]; exact x_up2_ne (by decide) : g314 77 = g310 77).trans ((by rw [e310]; exact x_up2_ne (by decide) : g310 77 = gi276 77)))) (t_one (p := 1540 + (gi276 69 25).toInt.toNat) ((by rw [e310]; exact x_up2_ne (by decide) : g310 70 = gi276 70)) e314 ((by rw [e316]; exact x_up2_ne (by decide) : g316 70 = g314 70)) (by have hc := t_clamp (i := z313) (by omega); omega))
                                                            have e2 := (by rw [e281]; have hc := t_clamp (i := z280) (by omega); have hx : z280.toNatClampNeg = (gi276 69 22).toInt.toNat - 1 := (by omega); rw [hx] : w281 = gi276 77 ((gi276 69 22).toInt.toNat - 1))
                                                            have hne : w311.toInt ≠ 40 := by rw [e1, ← e2]; omega
                                                            rw [eK, s_pk_c hne] at hX
                                                            exact ⟨q2, K3, _, hX, hS, h1⟩)) rfl
                        refine ev_sub (lo := [(1, .int w59), (0, .ref 69)]) rfl (t_sc rfl (t_sc rfl t_sn)) ?_
                        exact L276 _ gi259 gl259 gr259  hI hX  rfl rfl rfl rfl j259_0 (q271.1 (by omega)) (by omega) (by omega) (fun b n q K E h => (by
                                                            obtain ⟨q2, K2, E2, hX, hm⟩ := j259_3 b n q K E h
                                                            have hS := (q266.1 b n _ hm.1).mp (by omega)
                                                            exact ⟨q2, K2, E2, hX.trans (s_Em_b hm.qn hS (hm.ex (q271.1 (by omega)))), hS, hm⟩)) rfl
                  refine ev_sub (lo := [(1, .int w59), (0, .ref 69)]) rfl (t_sc rfl (t_sc rfl t_sn)) ?_
                  exact L259 _ gi255 gl255 gr255  hI hX  q255.1 (by have ff329 : (gi255 69 14).toInt = (gi246 69 14).toInt := congrArg Int32.toInt ((hC255.1 69 14 rfl).1.trans rfl); omega) (by have ff330 : (gi255 69 12).toInt = (gi246 69 12).toInt := congrArg Int32.toInt ((hC255.1 69 12 rfl).1.trans rfl); have ff331 : (gi255 69 14).toInt = (gi246 69 14).toInt := congrArg Int32.toInt ((hC255.1 69 14 rfl).1.trans rfl); omega) (fun b n q K E h => (by
                                                            obtain ⟨q2, K2, E2, hX, hm⟩ := j7_2 b n q K E h
                                                            have hk := q12.1 b n _ hm.1
                                                            have hN : ¬ s_nst b n q2 := fun hh => (s_nst_mi.mp hh).elim (fun x => by omega) (fun x => absurd ((q56.1 b n _ hm.1).mpr x) (by omega))
                                                            have hk2 := q59.1 b n _ hm.1
                                                            have hf : s_fct b n q2 := s_fct_mi.mpr (by omega)
                                                            obtain ⟨hc, h2⟩ := q246.2 b n q2 K2 E2 hm hf hN hk2.symm (by omega)
                                                            exact ⟨_, _, _, hX.trans (s_Em_c hm.qn hN hc), q255.2 b n _ _ _ h2⟩)) rfl
              · have l332 : 27 ≤ w59.toInt := t_ltl (t_nle h244) (by decide : (26:Int) ≤ (26:Int32).toInt) rfl
                refine ev_loc f_X12_aOne (nx := 105) rfl rfl rfl rfl ?_
                refine ev_ic f_X12_aOne (nx := 106) (v := 2) rfl (by decide) rfl ?_
                refine ev_qI f_X12_aOne (nx := 109) (r := []) rfl rfl rfl rfl rfl rfl rfl (c_n_fails hI (2) (by decide : (2:Int) ≤ (2:Int32).toInt) (Int.le_trans (by decide : (2:Int32).toInt ≤ (2:Int)) (by decide : (2:Int) ≤ 7))) rfl hX rfl (fun w333 gi333 gl333 gr333 l333 u333 hI hX hC333 q333 => ?_)
                have q333 : (∀ (b : Nat → Int32) (n q : Nat), t_TM b n q gi7 → (gi7 69 18).toInt = 0 → t_MF gi333 (s_fk b n q 2) (s_F b n q)) ∧ w333.toInt = 0 := q333
                exact ev_retZ f_X12_aOne rfl l333 (Int.le_trans u333 (by decide : (0:Int) ≤ 1)) ⟨_, _, _, rfl, hI, hX, ⟨_, rfl, l333, (Int.le_trans u333 (by decide : (0:Int) ≤ 1)), (show (∀ (b : Nat → Int32) (n q : Nat) (K E : List Int), t_OM b n q K E gi → w333.toInt = 1 → ∃ q2 K2 E2, s_Em b n false q K E = s_Em b n true q2 K2 E2 ∧ ¬ (s_isS b n q2 41 ∧ 40 ∈ K2) ∧ t_OM b n q2 K2 E2 gi333) from (fun b n q K E h hv => absurd hv (by have := q333.2; omega)))⟩⟩
      · have r334 : w56.toInt ≠ 0 := fun e => h57 (Int32.toInt_inj.mp (e.trans (by decide : (0:Int) = (0 : Int32).toInt)))
        have l335 : 1 ≤ w56.toInt := t_nel h57 l56 rfl rfl
        refine ev_loc f_X12_aOne (nx := 21) rfl rfl rfl rfl ?_
        refine ev_gvI f_X12_aOne (nx := 24) (w := (gi7 69 23)) rfl (hI.wf.s rfl) rfl rfl rfl rfl ?_
        refine ev_bp f_X12_aOne (nx := 26) (v := 6) rfl (by decide) rfl ?_
        refine ev_if f_X12_aOne (t1 := 29) (t2 := 36) rfl rfl rfl (fun h336 => ?_) (fun h336 => ?_)
        · have l337 : 6 ≤ (gi7 69 23).toInt := t_eql h336 (by decide : (6:Int) ≤ (6:Int32).toInt)
          refine ev_loc f_X12_aOne (nx := 30) rfl rfl rfl rfl ?_
          refine ev_bp f_X12_aOne (nx := 32) (v := 7) rfl (by decide) rfl ?_
          refine ev_qI f_X12_aOne (nx := 35) (r := []) rfl rfl rfl rfl rfl rfl rfl (c_n_fails hI (7) (Int.le_trans (by decide : (2:Int) ≤ 7) (by decide : (7:Int) ≤ (7:Int32).toInt)) (by decide : (7:Int32).toInt ≤ (7:Int))) rfl hX rfl (fun w338 gi338 gl338 gr338 l338 u338 hI hX hC338 q338 => ?_)
          have q338 : (∀ (b : Nat → Int32) (n q : Nat), t_TM b n q gi7 → (gi7 69 18).toInt = 0 → t_MF gi338 (s_fk b n q 7) (s_F b n q)) ∧ w338.toInt = 0 := q338
          exact ev_retZ f_X12_aOne rfl l338 (Int.le_trans u338 (by decide : (0:Int) ≤ 1)) ⟨_, _, _, rfl, hI, hX, ⟨_, rfl, l338, (Int.le_trans u338 (by decide : (0:Int) ≤ 1)), (show (∀ (b : Nat → Int32) (n q : Nat) (K E : List Int), t_OM b n q K E gi → w338.toInt = 1 → ∃ q2 K2 E2, s_Em b n false q K E = s_Em b n true q2 K2 E2 ∧ ¬ (s_isS b n q2 41 ∧ 40 ∈ K2) ∧ t_OM b n q2 K2 E2 gi338) from (fun b n q K E h hv => absurd hv (by have := q338.2; omega)))⟩⟩
        · have r339 : (gi7 69 23).toInt ≠ 6 := fun e => h336 (Int32.toInt_inj.mp (e.trans (by decide : (6:Int) = (6 : Int32).toInt)))
          have u340 : (gi7 69 23).toInt ≤ 5 := t_neu h336 u11 rfl rfl
          refine ev_loc f_X12_aOne (nx := 37) rfl rfl rfl rfl ?_
          refine ev_alu f_X12_aOne (nx := 38) rfl rfl rfl rfl ?_
          refine ev_gvI f_X12_aOne (nx := 41) (w := (gi7 69 23)) rfl (hI.wf.s rfl) rfl rfl rfl rfl ?_
          refine ev_ic f_X12_aOne (nx := 42) (v := 1) rfl (by decide) rfl ?_
          refine ev_addC f_X12_aOne (nx := 43) (c := 1) (l := 1) (u := 6) rfl (by decide) l11 u340 rfl rfl (by decide) (by decide) rfl (fun z341 e341 l341 u341 => ?_)
          refine ev_putIT f_X12_aOne (nx := 46) rfl (hI.wf.s rfl) rfl rfl rfl (hI.putB (hI.wf.s rfl) rfl rfl l341 (by decide) u341 (by decide)) (hX.upI rfl) (fun g342 e342 hI hX => ?_)
          refine ev_loc f_X12_aOne (nx := 47) rfl rfl rfl rfl ?_
          refine ev_loc f_X12_aOne (nx := 48) rfl rfl rfl rfl ?_
          refine ev_bp f_X12_aOne (nx := 50) (v := 40) rfl (by decide) rfl ?_
          refine ev_qI0 f_X12_aOne (nx := 53) (r := [.ref 69]) rfl rfl rfl rfl rfl rfl rfl (c_n_isSignB hI (40)) rfl (fun w343 l343 u343 q343 => ?_)
          have ff344 : (g342 69 12).toInt = (gi7 69 12).toInt := congrArg Int32.toInt ((by rw [e342]; exact x_up2_off (Or.inr (by decide)) : g342 69 12 = gi7 69 12).trans rfl)
          have q343 : (∀ (b : Nat → Int32) (n q : Nat), t_TM b n q g342 → (w343.toInt = 1 ↔ s_isS b n q 40)) ∧ (w343.toInt = 1 → (g342 69 12).toInt = 4) := q343
          refine ev_if f_X12_aOne (t1 := 61) (t2 := 56) rfl rfl rfl (fun h345 => ?_) (fun h345 => ?_)
          · have u346 : w343.toInt ≤ 0 := t_equ h345 (by decide : (0:Int32).toInt ≤ (0:Int))
            refine ev_bp f_X12_aOne (nx := 63) (v := 20) rfl (by decide) rfl ?_
            refine ev_inV2 f_X12_aOne (nx := 66) (lo2 := [(0, .ref 69), (1, .int 20)]) rfl rfl rfl rfl f_X12_does (hI.wf.s rfl) rfl rfl rfl rfl rfl ?_
            have kn347 := t_K_num j7_0
            refine ev_loc f_X12_does (nx := 1) rfl rfl rfl rfl ?_
            refine ev_getR f_X12_does (nx := 4) rfl (hI.wf.s rfl) rfl rfl (hI.wf.r rfl) rfl rfl ?_
            refine ev_loc f_X12_does (nx := 5) rfl rfl rfl rfl ?_
            refine ev_gvI f_X12_does (nx := 8) (w := (gi7 69 22)) rfl (hI.wf.s rfl) rfl rfl ((by rw [e342]; exact x_up2_off (Or.inr (by decide)) : g342 69 22 = gi7 69 22).trans rfl) rfl ?_
            refine ev_loc f_X12_does (nx := 9) rfl rfl rfl rfl ?_
            have u349 : (gi7 69 22).toInt ≤ (59:Int) := (by omega)
            refine ev_iastT f_X12_does (nx := 10) rfl (hI.wf.s rfl) l10 (by decide) u349 (by decide) rfl (hI.astG (hI.wf.s rfl) (fun lo hi e => absurd e (t_nob (by decide +kernel) _)) (fun k hk e => by have := hk.2.1; omega)) (hX.upI (t_inA_ok rfl)) (fun g348 e348 hI hX => ?_)
            refine ev_loc f_X12_does (nx := 11) rfl rfl rfl rfl ?_
            refine ev_alu f_X12_does (nx := 12) rfl rfl rfl rfl ?_
            refine ev_gvI f_X12_does (nx := 15) (w := (gi7 69 22)) rfl (hI.wf.s rfl) rfl rfl ((by rw [e348]; exact x_up2_off (Or.inl (by decide)) : g348 69 22 = g342 69 22).trans ((by rw [e342]; exact x_up2_off (Or.inr (by decide)) : g342 69 22 = gi7 69 22).trans rfl)) rfl ?_
            refine ev_ic f_X12_does (nx := 16) (v := 1) rfl (by decide) rfl ?_
            refine ev_addC f_X12_does (nx := 17) (c := 1) (l := 1) (u := 60) rfl (by decide) l10 u349 rfl rfl (by decide) (by decide) rfl (fun z350 e350 l350 u350 => ?_)
            refine ev_putIT f_X12_does (nx := 20) rfl (hI.wf.s rfl) rfl rfl rfl (hI.putB (hI.wf.s rfl) rfl rfl l350 (by decide) u350 (by decide)) (hX.upI rfl) (fun g351 e351 hI hX => ?_)
            refine ev_retK0 f_X12_does rfl rfl rfl ?_
            refine ev_loc f_X12_aOne (nx := 67) rfl rfl rfl rfl ?_
            refine ev_qN f_X12_aOne (nx := 70) (r := []) rfl rfl rfl rfl rfl rfl rfl (c_n_aheadB hI ) rfl hX rfl (fun gi352 gl352 gr352 hI hX hC352 q352 => ?_)
            have ff353 : (g351 69 14).toInt = (gi7 69 14).toInt := congrArg Int32.toInt ((by rw [e351]; exact x_up2_off (Or.inr (by decide)) : g351 69 14 = g348 69 14).trans ((by rw [e348]; exact x_up2_off (Or.inl (by decide)) : g348 69 14 = g342 69 14).trans ((by rw [e342]; exact x_up2_off (Or.inr (by decide)) : g342 69 14 = gi7 69 14).trans rfl)))
            have q352 : ((g351 69 14).toInt ≤ (gi352 69 14).toInt ∧ ((gi352 69 12).toInt ≠ 0 → (g351 69 14).toInt < (gi352 69 14).toInt) ∧ ((gi352 69 12).toInt = 3 → 0 ≤ (gi352 69 15).toInt)) ∧ (∀ (b : Nat → Int32) (n q : Nat), t_Sm b n q g351 → t_TM b n q gi352) := q352
            obtain ⟨l354, u354⟩ := hI.b (hI.wf.s (k := 69) rfl) (t_bdK rfl : t_bd 11 12 = some (0, 4))
            obtain ⟨l355, u355⟩ := hI.b (hI.wf.s (k := 69) rfl) (t_bdK rfl : t_bd 11 14 = some (0, 900))
            refine ev_jmp f_X12_aOne (nx := 0) rfl rfl rfl ?_
            refine ev_sub (lo := [(0, .ref 69)]) rfl (t_sc rfl t_sn) ?_
            exact ih7 _ (by omega) gi352 gl352 gr352  hI hX  ((hC352.1 69 24 rfl).1.trans ((by rw [e351]; exact x_up2_off (Or.inr (by decide)) : g351 69 24 = g348 69 24).trans ((by rw [e348]; exact x_up2_off (Or.inl (by decide)) : g348 69 24 = g342 69 24).trans ((by rw [e342]; exact x_up2_off (Or.inr (by decide)) : g342 69 24 = gi7 69 24).trans c7_0)))) ((hC352.1 69 25 rfl).1.trans ((by rw [e351]; exact x_up2_off (Or.inr (by decide)) : g351 69 25 = g348 69 25).trans ((by rw [e348]; exact x_up2_off (Or.inl (by decide)) : g348 69 25 = g342 69 25).trans ((by rw [e342]; exact x_up2_off (Or.inr (by decide)) : g342 69 25 = gi7 69 25).trans c7_1)))) (by have ho := (t_onec (p := (gi7 69 22).toInt.toNat) ((by rw [e342]; exact x_up2_ne (by decide) : g342 77 = gi7 77)) e348 ((funext (fun j => (hC352.1 77 j rfl).1) : gi352 77 = g351 77).trans ((by rw [e351]; exact x_up2_ne (by decide) : g351 77 = g348 77))) (by have hc := t_clamp (i := (gi7 69 22)) (by omega); omega)); exact t_K_does j7_0 (by omega) (by decide) (show (gi352 69 22).toInt = (gi7 69 22).toInt + 1 from (by have ff356 : (gi352 69 22).toInt = z350.toInt := congrArg Int32.toInt ((hC352.1 69 22 rfl).1.trans (by rw [e351]; exact x_up2_at _ _ _ _ : g351 69 22 = z350)); omega)) (show (gi352 69 23).toInt = (gi7 69 23).toInt + 1 from (by have ff357 : (gi352 69 23).toInt = z341.toInt := congrArg Int32.toInt ((hC352.1 69 23 rfl).1.trans ((by rw [e351]; exact x_up2_off (Or.inr (by decide)) : g351 69 23 = g348 69 23).trans ((by rw [e348]; exact x_up2_off (Or.inl (by decide)) : g348 69 23 = g342 69 23).trans (by rw [e342]; exact x_up2_at _ _ _ _ : g342 69 23 = z341)))); omega)) (show (gi352 69 24).toInt = (gi7 69 24).toInt from (by have ff358 : (gi352 69 24).toInt = (gi 69 24).toInt := congrArg Int32.toInt ((hC352.1 69 24 rfl).1.trans ((by rw [e351]; exact x_up2_off (Or.inr (by decide)) : g351 69 24 = g348 69 24).trans ((by rw [e348]; exact x_up2_off (Or.inl (by decide)) : g348 69 24 = g342 69 24).trans ((by rw [e342]; exact x_up2_off (Or.inr (by decide)) : g342 69 24 = gi7 69 24).trans c7_0)))); omega)) (show (gi352 69 25).toInt = (gi7 69 25).toInt from (by have ff359 : (gi352 69 25).toInt = (gi 69 25).toInt := congrArg Int32.toInt ((hC352.1 69 25 rfl).1.trans ((by rw [e351]; exact x_up2_off (Or.inr (by decide)) : g351 69 25 = g348 69 25).trans ((by rw [e348]; exact x_up2_off (Or.inl (by decide)) : g348 69 25 = g342 69 25).trans ((by rw [e342]; exact x_up2_off (Or.inr (by decide)) : g342 69 25 = gi7 69 25).trans c7_1)))); omega)) ((funext (fun j => (hC352.1 70 j rfl).1) : gi352 70 = g351 70).trans ((by rw [e351]; exact x_up2_ne (by decide) : g351 70 = g348 70).trans ((by rw [e348]; exact x_up2_ne (by decide) : g348 70 = g342 70).trans ((by rw [e342]; exact x_up2_ne (by decide) : g342 70 = gi7 70))))) ho.1 ho.2) (by omega) (fun b n q K E h => (by
                                                            obtain ⟨q2, K2, E2, hX, hm⟩ := j7_2 b n q K E h
                                                            have hk := q12.1 b n _ hm.1
                                                            have hN : s_nst b n q2 := Or.inr ((q56.1 b n _ hm.1).mp (by omega))
                                                            have hB := s_Em_n (K := K2) (F := E2) hm.qn hN
                                                            have hS : ¬ s_isS b n q2 40 := fun hh => absurd ((q343.1 b n _ (hm.1.fM (t_fM.rf.u9 (by decide) e342))).mpr hh) (by omega)
                                                            rw [s_brk20 (hN.resolve_right hS)] at hB
                                                            have h1 : t_OM b n q2 (20 :: K2) E2 g351 := hm.pu (v := (20 : Int32)) (((t_fM.rf.u9 (by decide) e342).ux (by decide) e348).u9 (by decide) e351) (by omega) (by rw [e351, x_up2_at]; exact Int.le_antisymm (by omega) (by omega)) (congrArg Int32.toInt (by rw [e351, x_up2_off (Or.inr (by decide)), e348, x_up2_ne (by decide), e342, x_up2_off (Or.inr (by decide))])) ⟨fun j hj => (by have hc := t_clamp (i := (gi7 69 22)) (by omega); rw [e351, x_up2_ne (by decide), e348, x_up2_off (Or.inr (by omega)), e342, x_up2_ne (by decide)]), by have hc := t_clamp (i := (gi7 69 22)) (by omega); rw [show (gi7 69 22).toInt.toNat = (gi7 69 22).toNatClampNeg by omega, e351, x_up2_ne (by decide), e348]; exact x_up2_at _ _ _ _⟩ (funext fun j => (by rw [e351, x_up2_ne (by decide), e348, x_up2_ne (by decide), e342, x_up2_ne (by decide)]))
                                                            have h2 := h1.ah (q352.2 b n _ h1.1.S) (congrArg Int32.toInt (hC352.1 69 22 rfl).1) (congrArg Int32.toInt (hC352.1 69 25 rfl).1) (funext fun j => (hC352.1 77 j rfl).1) (funext fun j => (hC352.1 70 j rfl).1)
                                                            exact ⟨_, _, _, hX.trans hB, h2⟩)) rfl
          · have r360 : w343.toInt ≠ 0 := fun e => h345 (Int32.toInt_inj.mp (e.trans (by decide : (0:Int) = (0 : Int32).toInt)))
            have l361 : 1 ≤ w343.toInt := t_nel h345 l343 rfl rfl
            refine ev_bp f_X12_aOne (nx := 58) (v := 40) rfl (by decide) rfl ?_
            refine ev_jmp f_X12_aOne (nx := 63) rfl rfl rfl ?_
            refine ev_inV2 f_X12_aOne (nx := 66) (lo2 := [(0, .ref 69), (1, .int 40)]) rfl rfl rfl rfl f_X12_does (hI.wf.s rfl) rfl rfl rfl rfl rfl ?_
            have kn362 := t_K_num j7_0
            refine ev_loc f_X12_does (nx := 1) rfl rfl rfl rfl ?_
            refine ev_getR f_X12_does (nx := 4) rfl (hI.wf.s rfl) rfl rfl (hI.wf.r rfl) rfl rfl ?_
            refine ev_loc f_X12_does (nx := 5) rfl rfl rfl rfl ?_
            refine ev_gvI f_X12_does (nx := 8) (w := (gi7 69 22)) rfl (hI.wf.s rfl) rfl rfl ((by rw [e342]; exact x_up2_off (Or.inr (by decide)) : g342 69 22 = gi7 69 22).trans rfl) rfl ?_
            refine ev_loc f_X12_does (nx := 9) rfl rfl rfl rfl ?_
            have u364 : (gi7 69 22).toInt ≤ (59:Int) := (by omega)
            refine ev_iastT f_X12_does (nx := 10) rfl (hI.wf.s rfl) l10 (by decide) u364 (by decide) rfl (hI.astG (hI.wf.s rfl) (fun lo hi e => absurd e (t_nob (by decide +kernel) _)) (fun k hk e => by have := hk.2.1; omega)) (hX.upI (t_inA_ok rfl)) (fun g363 e363 hI hX => ?_)
            refine ev_loc f_X12_does (nx := 11) rfl rfl rfl rfl ?_
            refine ev_alu f_X12_does (nx := 12) rfl rfl rfl rfl ?_
            refine ev_gvI f_X12_does (nx := 15) (w := (gi7 69 22)) rfl (hI.wf.s rfl) rfl rfl ((by rw [e363]; exact x_up2_off (Or.inl (by decide)) : g363 69 22 = g342 69 22).trans ((by rw [e342]; exact x_up2_off (Or.inr (by decide)) : g342 69 22 = gi7 69 22).trans rfl)) rfl ?_
            refine ev_ic f_X12_does (nx := 16) (v := 1) rfl (by decide) rfl ?_
            refine ev_addC f_X12_does (nx := 17) (c := 1) (l := 1) (u := 60) rfl (by decide) l10 u364 rfl rfl (by decide) (by decide) rfl (fun z365 e365 l365 u365 => ?_)
            refine ev_putIT f_X12_does (nx := 20) rfl (hI.wf.s rfl) rfl rfl rfl (hI.putB (hI.wf.s rfl) rfl rfl l365 (by decide) u365 (by decide)) (hX.upI rfl) (fun g366 e366 hI hX => ?_)
            refine ev_retK0 f_X12_does rfl rfl rfl ?_
            refine ev_loc f_X12_aOne (nx := 67) rfl rfl rfl rfl ?_
            refine ev_qN f_X12_aOne (nx := 70) (r := []) rfl rfl rfl rfl rfl rfl rfl (c_n_aheadB hI ) rfl hX rfl (fun gi367 gl367 gr367 hI hX hC367 q367 => ?_)
            have ff368 : (g366 69 14).toInt = (gi7 69 14).toInt := congrArg Int32.toInt ((by rw [e366]; exact x_up2_off (Or.inr (by decide)) : g366 69 14 = g363 69 14).trans ((by rw [e363]; exact x_up2_off (Or.inl (by decide)) : g363 69 14 = g342 69 14).trans ((by rw [e342]; exact x_up2_off (Or.inr (by decide)) : g342 69 14 = gi7 69 14).trans rfl)))
            have q367 : ((g366 69 14).toInt ≤ (gi367 69 14).toInt ∧ ((gi367 69 12).toInt ≠ 0 → (g366 69 14).toInt < (gi367 69 14).toInt) ∧ ((gi367 69 12).toInt = 3 → 0 ≤ (gi367 69 15).toInt)) ∧ (∀ (b : Nat → Int32) (n q : Nat), t_Sm b n q g366 → t_TM b n q gi367) := q367
            obtain ⟨l369, u369⟩ := hI.b (hI.wf.s (k := 69) rfl) (t_bdK rfl : t_bd 11 12 = some (0, 4))
            obtain ⟨l370, u370⟩ := hI.b (hI.wf.s (k := 69) rfl) (t_bdK rfl : t_bd 11 14 = some (0, 900))
            refine ev_jmp f_X12_aOne (nx := 0) rfl rfl rfl ?_
            refine ev_sub (lo := [(0, .ref 69)]) rfl (t_sc rfl t_sn) ?_
            exact ih7 _ (by omega) gi367 gl367 gr367  hI hX  ((hC367.1 69 24 rfl).1.trans ((by rw [e366]; exact x_up2_off (Or.inr (by decide)) : g366 69 24 = g363 69 24).trans ((by rw [e363]; exact x_up2_off (Or.inl (by decide)) : g363 69 24 = g342 69 24).trans ((by rw [e342]; exact x_up2_off (Or.inr (by decide)) : g342 69 24 = gi7 69 24).trans c7_0)))) ((hC367.1 69 25 rfl).1.trans ((by rw [e366]; exact x_up2_off (Or.inr (by decide)) : g366 69 25 = g363 69 25).trans ((by rw [e363]; exact x_up2_off (Or.inl (by decide)) : g363 69 25 = g342 69 25).trans ((by rw [e342]; exact x_up2_off (Or.inr (by decide)) : g342 69 25 = gi7 69 25).trans c7_1)))) (by have ho := (t_onec (p := (gi7 69 22).toInt.toNat) ((by rw [e342]; exact x_up2_ne (by decide) : g342 77 = gi7 77)) e363 ((funext (fun j => (hC367.1 77 j rfl).1) : gi367 77 = g366 77).trans ((by rw [e366]; exact x_up2_ne (by decide) : g366 77 = g363 77))) (by have hc := t_clamp (i := (gi7 69 22)) (by omega); omega)); exact t_K_does j7_0 (by omega) (by decide) (show (gi367 69 22).toInt = (gi7 69 22).toInt + 1 from (by have ff371 : (gi367 69 22).toInt = z365.toInt := congrArg Int32.toInt ((hC367.1 69 22 rfl).1.trans (by rw [e366]; exact x_up2_at _ _ _ _ : g366 69 22 = z365)); omega)) (show (gi367 69 23).toInt = (gi7 69 23).toInt + 1 from (by have ff372 : (gi367 69 23).toInt = z341.toInt := congrArg Int32.toInt ((hC367.1 69 23 rfl).1.trans ((by rw [e366]; exact x_up2_off (Or.inr (by decide)) : g366 69 23 = g363 69 23).trans ((by rw [e363]; exact x_up2_off (Or.inl (by decide)) : g363 69 23 = g342 69 23).trans (by rw [e342]; exact x_up2_at _ _ _ _ : g342 69 23 = z341)))); omega)) (show (gi367 69 24).toInt = (gi7 69 24).toInt from (by have ff373 : (gi367 69 24).toInt = (gi 69 24).toInt := congrArg Int32.toInt ((hC367.1 69 24 rfl).1.trans ((by rw [e366]; exact x_up2_off (Or.inr (by decide)) : g366 69 24 = g363 69 24).trans ((by rw [e363]; exact x_up2_off (Or.inl (by decide)) : g363 69 24 = g342 69 24).trans ((by rw [e342]; exact x_up2_off (Or.inr (by decide)) : g342 69 24 = gi7 69 24).trans c7_0)))); omega)) (show (gi367 69 25).toInt = (gi7 69 25).toInt from (by have ff374 : (gi367 69 25).toInt = (gi 69 25).toInt := congrArg Int32.toInt ((hC367.1 69 25 rfl).1.trans ((by rw [e366]; exact x_up2_off (Or.inr (by decide)) : g366 69 25 = g363 69 25).trans ((by rw [e363]; exact x_up2_off (Or.inl (by decide)) : g363 69 25 = g342 69 25).trans ((by rw [e342]; exact x_up2_off (Or.inr (by decide)) : g342 69 25 = gi7 69 25).trans c7_1)))); omega)) ((funext (fun j => (hC367.1 70 j rfl).1) : gi367 70 = g366 70).trans ((by rw [e366]; exact x_up2_ne (by decide) : g366 70 = g363 70).trans ((by rw [e363]; exact x_up2_ne (by decide) : g363 70 = g342 70).trans ((by rw [e342]; exact x_up2_ne (by decide) : g342 70 = gi7 70))))) ho.1 ho.2) (by omega) (fun b n q K E h => (by
                                                            obtain ⟨q2, K2, E2, hX, hm⟩ := j7_2 b n q K E h
                                                            have hk := q12.1 b n _ hm.1
                                                            have hN : s_nst b n q2 := Or.inr ((q56.1 b n _ hm.1).mp (by omega))
                                                            have hB := s_Em_n (K := K2) (F := E2) hm.qn hN
                                                            have hS : s_isS b n q2 40 := (q343.1 b n _ (hm.1.fM (t_fM.rf.u9 (by decide) e342))).mp (by omega)
                                                            rw [s_brk40 hS] at hB
                                                            have h1 : t_OM b n q2 (40 :: K2) E2 g366 := hm.pu (v := (40 : Int32)) (((t_fM.rf.u9 (by decide) e342).ux (by decide) e363).u9 (by decide) e366) (by omega) (by rw [e366, x_up2_at]; exact Int.le_antisymm (by omega) (by omega)) (congrArg Int32.toInt (by rw [e366, x_up2_off (Or.inr (by decide)), e363, x_up2_ne (by decide), e342, x_up2_off (Or.inr (by decide))])) ⟨fun j hj => (by have hc := t_clamp (i := (gi7 69 22)) (by omega); rw [e366, x_up2_ne (by decide), e363, x_up2_off (Or.inr (by omega)), e342, x_up2_ne (by decide)]), by have hc := t_clamp (i := (gi7 69 22)) (by omega); rw [show (gi7 69 22).toInt.toNat = (gi7 69 22).toNatClampNeg by omega, e366, x_up2_ne (by decide), e363]; exact x_up2_at _ _ _ _⟩ (funext fun j => (by rw [e366, x_up2_ne (by decide), e363, x_up2_ne (by decide), e342, x_up2_ne (by decide)]))
                                                            have h2 := h1.ah (q367.2 b n _ h1.1.S) (congrArg Int32.toInt (hC367.1 69 22 rfl).1) (congrArg Int32.toInt (hC367.1 69 25 rfl).1) (funext fun j => (hC367.1 77 j rfl).1) (funext fun j => (hC367.1 70 j rfl).1)
                                                            exact ⟨_, _, _, hX.trans hB, h2⟩)) rfl
  refine ev_sub (lo := [(0, .ref 69)]) rfl (t_sc rfl t_sn) ?_
  exact L7 _ gi gl gr  hI hX  rfl rfl e_p0 (by omega) (fun b n q K E h => ⟨q, K, E, rfl, h⟩) rfl
noncomputable def Q_o_aOneB (gi : Nat → Nat → Int32) (gl : Nat → Nat → Int64) (gr : Nat → Nat → Value) (b : Nat → Int32) : Int32 → (Nat → Nat → Int32) → (Nat → Nat → Int64) → (Nat → Nat → Value) → Prop := fun (v : Int32) (gi2 : Nat → Nat → Int32) (gl2 : Nat → Nat → Int64) (gr2 : Nat → Nat → Value) => ((gi 69 14).toInt ≤ (gi2 69 14).toInt ∧ (v.toInt = 1 → (gi2 69 12).toInt ≠ 0 → (gi 69 14).toInt < (gi2 69 14).toInt) ∧ (v.toInt = 0 → (gi2 69 18).toInt ≠ 0) ∧ (v.toInt = 1 → t_K b gi2 2)) ∧ ((∀ (b : Nat → Int32) (n q : Nat) (K E : List Int), t_OM b n q K E gi → v.toInt = 1 → ∃ q2 K2 E2, s_Em b n false q K E = s_Em b n true q2 K2 E2 ∧ ¬ (s_isS b n q2 41 ∧ 40 ∈ K2) ∧ t_OM b n q2 K2 E2 gi2))
theorem c_o_aOneB {X : x_Ext} {d : Nat} {sh : List (Nat ⊕ (Nat × Nat))} {gi : Nat → Nat → Int32} {gl : Nat → Nat → Int64} {gr : Nat → Nat → Value} (hI : t_I sh gi gr) {b : Nat → Int32} (e_p0 : t_K b gi 0) : x_Me X (d + 6) n_X12_aOne [.ref 69] (sh, gi, gl, gr) (t_PI wl_m_aOne sh gi gl gr 0 1 (Q_o_aOneB gi gl gr b)) := by
  refine ((x_Me.up (c_m_aOne (X := X) (d := d) (gl := gl) (b := b) hI e_p0) (by omega)).and (x_Me.up (c_o_aOne (X := X) (d := d) (gl := gl) (b := b) hI e_p0) (by omega))).mono ?_
  rintro v G' ⟨⟨g1, l1, r1, rfl, k1, k2, x, rfl, k3, k4, k5⟩, g2, l2, r2, e, _, _, x2, e2, _, _, q⟩
  cases e; cases e2
  exact ⟨g1, l1, r1, rfl, k1, k2, x, rfl, k3, k4, k5, q⟩
