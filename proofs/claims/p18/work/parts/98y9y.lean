/-! ===== printed by riv.py: feed ===== -/
noncomputable def wl_s_four : List (Nat × Nat) := [(0, 5), (2, 9999)]
noncomputable def Q_s_four (gi : Nat → Nat → Int32) (gl : Nat → Nat → Int64) (gr : Nat → Nat → Value) (ar1 : Int32) : (Nat → Nat → Int32) → (Nat → Nat → Int64) → (Nat → Nat → Value) → Prop := fun (gi2 : Nat → Nat → Int32) (gl2 : Nat → Nat → Int64) (gr2 : Nat → Nat → Value) => ((gi2 0 5).toInt = (gi 0 5).toInt + 4) ∧ (∀ j : Nat, gi2 2 j = s_fd (gi 2) (gi 0 5).toInt ar1 j)
theorem c_s_four {X : x_Ext} {d : Nat} {sh : List (Nat ⊕ (Nat × Nat))} {gi : Nat → Nat → Int32} {gl : Nat → Nat → Int64} {gr : Nat → Nat → Value} (hI : t_I sh gi gr) (ar1 : Int32) (e_p0 : (gi 0 5).toInt + 4 ≤ 900) : x_Me X (d + 1) n_X11_feedOne [.ref 0, .int ar1] (sh, gi, gl, gr) (t_PN wl_s_four sh gi gl gr (Q_s_four gi gl gr ar1)) := by
  have hX : t_X wl_s_four sh gi gl gr gi gl gr := t_X.rf
  refine me_i f_X11_feedOne (hI.wf.s rfl) rfl rfl rfl ?_
  obtain ⟨l1, u1⟩ := hI.b (hI.wf.s (k := 0) rfl) (t_bdK rfl : t_bd 10 5 = some (0, 900))
  refine ev_bp f_X11_feedOne (nx := 2) (v := 24) rfl (by decide) rfl ?_
  refine ev_loc f_X11_feedOne (nx := 3) (lo' := [(2, .int 24), (0, .ref 0), (1, .int ar1)]) rfl rfl rfl rfl ?_
  have L2 : ∀ (m2 : Nat) (gi2 : Nat → Nat → Int32) (gl2 : Nat → Nat → Int64) (gr2 : Nat → Nat → Value) (y2_2 : Int32), t_I sh gi2 gr2 → t_X wl_s_four sh gi gl gr gi2 gl2 gr2 → (-8) ≤ y2_2.toInt → y2_2.toInt ≤ 24 → 8 * (gi2 0 5).toInt + y2_2.toInt = 8 * (gi 0 5).toInt + 24 → (∀ j : Nat, gi2 2 j = s_fe (gi 2) (gi 0 5).toInt (gi2 0 5).toInt ar1 j) → (y2_2.toInt - (-8)).toNat = m2 → x_Ev X (d + 1) n_X11_feedOne 3 [(2, .int y2_2), (0, .ref 0), (1, .int ar1)] [] (sh, gi2, gl2, gr2) (t_PN wl_s_four sh gi gl gr (Q_s_four gi gl gr ar1)) := by
    intro m2
    induction m2 using Nat.strongRecOn with
    | _ m2 ih2 =>
    intro gi2 gl2 gr2 y2_2 hI hX l2_2 u2_2 j2_0 j2_1 hm2
    obtain ⟨l3, u3⟩ := hI.b (hI.wf.s (k := 0) rfl) (t_bdK rfl : t_bd 10 5 = some (0, 900))
    refine ev_loc f_X11_feedOne (nx := 4) rfl rfl rfl rfl ?_
    refine ev_if f_X11_feedOne (t1 := 48) (t2 := 7) rfl rfl rfl (fun h4 => ?_) (fun h4 => ?_)
    · have u5 : y2_2.toInt ≤ (-1) := t_ltu h4 (by decide : (0:Int32).toInt ≤ (0:Int)) rfl
      exact ev_ret f_X11_feedOne rfl rfl rfl ⟨_, _, _, rfl, hI, hX, ⟨rfl, (show ((gi2 0 5).toInt = (gi 0 5).toInt + 4) ∧ (∀ j : Nat, gi2 2 j = s_fd (gi 2) (gi 0 5).toInt ar1 j) from ⟨(show ((gi2 0 5).toInt = (gi 0 5).toInt + 4) from (by omega)), fun j => (j2_1 j).trans (by rw [show (gi2 0 5).toInt = (gi 0 5).toInt + 4 from (by omega)]; rfl)⟩)⟩⟩
    · have l6 : 0 ≤ y2_2.toInt := t_lel (t_nlt h4) (by decide : (0:Int) ≤ (0:Int32).toInt)
      refine ev_loc f_X11_feedOne (nx := 8) rfl rfl rfl rfl ?_
      refine ev_gvI f_X11_feedOne (nx := 11) (w := (gi2 0 5)) rfl (hI.wf.s rfl) rfl rfl rfl rfl ?_
      refine ev_loc f_X11_feedOne (nx := 12) rfl rfl rfl rfl ?_
      refine ev_getR f_X11_feedOne (nx := 15) rfl (hI.wf.s rfl) rfl rfl (hI.wf.r rfl) rfl rfl ?_
      refine ev_alenv f_X11_feedOne (nx := 16) (w := 900) rfl (hI.wf.s rfl) rfl (by decide) rfl ?_
      refine ev_if f_X11_feedOne (t1 := 48) (t2 := 19) rfl rfl rfl (fun h7 => ?_) (fun h7 => ?_)
      · have l8 : 900 ≤ (gi2 0 5).toInt := t_lel h7 (by decide : (900:Int) ≤ (900:Int32).toInt)
        exact ev_ret f_X11_feedOne rfl rfl rfl ⟨_, _, _, rfl, hI, hX, ⟨rfl, (show ((gi2 0 5).toInt = (gi 0 5).toInt + 4) ∧ (∀ j : Nat, gi2 2 j = s_fd (gi 2) (gi 0 5).toInt ar1 j) from ⟨(show ((gi2 0 5).toInt = (gi 0 5).toInt + 4) from (by omega)), fun j => (j2_1 j).trans (by rw [show (gi2 0 5).toInt = (gi 0 5).toInt + 4 from (by omega)]; rfl)⟩)⟩⟩
      · have u9 : (gi2 0 5).toInt ≤ 899 := t_ltu (t_nle h7) (by decide : (900:Int32).toInt ≤ (900:Int)) rfl
        refine ev_loc f_X11_feedOne (nx := 20) rfl rfl rfl rfl ?_
        refine ev_getR f_X11_feedOne (nx := 23) rfl (hI.wf.s rfl) rfl rfl (hI.wf.r rfl) rfl rfl ?_
        refine ev_loc f_X11_feedOne (nx := 24) rfl rfl rfl rfl ?_
        refine ev_gvI f_X11_feedOne (nx := 27) (w := (gi2 0 5)) rfl (hI.wf.s rfl) rfl rfl rfl rfl ?_
        refine ev_loc f_X11_feedOne (nx := 28) rfl rfl rfl rfl ?_
        refine ev_loc f_X11_feedOne (nx := 29) rfl rfl rfl rfl ?_
        refine ev_anyIE f_X11_feedOne (nx := 30) rfl rfl rfl rfl (fun z10 e10 => ?_)
        refine ev_anyIE f_X11_feedOne (nx := 31) rfl rfl rfl rfl (fun z11 e11 => ?_)
        refine ev_bastE f_X11_feedOne (nx := 32) rfl (hI.wf.s rfl) l3 (by decide) u9 (by decide) rfl (fun x => (hI.astG (hI.wf.s rfl) (fun lo hi e => absurd e (t_nob (by decide +kernel) _)) (fun k hk e => by have := hk.2.1; omega))) (fun x => hX.upI (t_inA_ok rfl)) (fun g12 x12 f12 e12 hI hX => ?_)
        refine ev_loc f_X11_feedOne (nx := 33) rfl rfl rfl rfl ?_
        refine ev_alu f_X11_feedOne (nx := 34) rfl rfl rfl rfl ?_
        refine ev_gvI f_X11_feedOne (nx := 37) (w := (gi2 0 5)) rfl (hI.wf.s rfl) rfl rfl ((by rw [e12]; exact x_up2_off (Or.inl (by decide)) : g12 0 5 = gi2 0 5).trans rfl) rfl ?_
        refine ev_ic f_X11_feedOne (nx := 38) (v := 1) rfl (by decide) rfl ?_
        refine ev_addC f_X11_feedOne (nx := 39) (c := 1) (l := 1) (u := 900) rfl (by decide) l3 u9 rfl rfl (by decide) (by decide) rfl (fun z13 e13 l13 u13 => ?_)
        refine ev_putIT f_X11_feedOne (nx := 42) rfl (hI.wf.s rfl) rfl rfl rfl (hI.putB (hI.wf.s rfl) rfl rfl l13 (by decide) u13 (by decide)) (hX.upI rfl) (fun g14 e14 hI hX => ?_)
        refine ev_incR f_X11_feedOne (nx := 45) (c := (-8)) (l := (-8)) (u := 16) rfl rfl (by decide) (by decide) l6 u2_2 rfl rfl (by decide) (by decide) rfl (fun z15 e15 l15 u15 => ?_)
        refine ev_jmp f_X11_feedOne (nx := 3) rfl rfl rfl ?_
        refine ev_sub (lo := [(2, .int z15), (0, .ref 0), (1, .int ar1)]) rfl (t_sc rfl (t_sc rfl (t_sc rfl t_sn))) ?_
        exact ih2 _ (by omega) g14 gl2 gr2 (z15) hI hX  l15 (Int.le_trans u15 (by decide : (16:Int) ≤ 24)) (by have ff16 : (g14 0 5).toInt = z13.toInt := congrArg Int32.toInt (by rw [e14]; exact x_up2_at _ _ _ _ : g14 0 5 = z13); omega) (t_fe_s (i := (gi2 0 5)) (e := (gi2 0 5).toInt) (s := y2_2.toInt) j2_1 (by omega) (by have ff0 : (g14 0 5).toInt = z13.toInt := congrArg Int32.toInt (by rw [e14]; exact x_up2_at _ _ _ _ : g14 0 5 = z13); omega) (by omega) (by omega) (s_by_h e10 e11 f12 rfl (by omega)) (fun j => by rw [e14, x_up2_ne (by decide), e12, x_up2_same]) (by have ff0 : (g14 0 5).toInt = z13.toInt := congrArg Int32.toInt (by rw [e14]; exact x_up2_at _ _ _ _ : g14 0 5 = z13); omega)) rfl
  refine ev_sub (lo := [(2, .int 24), (0, .ref 0), (1, .int ar1)]) rfl (t_sc rfl (t_sc rfl (t_sc rfl t_sn))) ?_
  exact L2 _ gi gl gr (24) hI hX  (Int.le_trans (by decide : ((-8):Int) ≤ 24) (by decide : (24:Int) ≤ (24:Int32).toInt)) (by decide : (24:Int32).toInt ≤ (24:Int)) (by have kf17 : (24 : Int32).toInt = 24 := (by decide); omega) (fun j => (t_fe_0 (by omega) j).symm) rfl
noncomputable def wl_s_feed : List (Nat × Nat) := [(0, 5), (2, 9999)]
noncomputable def Q_s_feed (gi : Nat → Nat → Int32) (gl : Nat → Nat → Int64) (gr : Nat → Nat → Value) (ar1 : Int32) (ar2 : Int32) (ar3 : Int32) (ar4 : Int32) (ar5 : Int32) : Int32 → (Nat → Nat → Int32) → (Nat → Nat → Int64) → (Nat → Nat → Value) → Prop := fun (v : Int32) (gi2 : Nat → Nat → Int32) (gl2 : Nat → Nat → Int64) (gr2 : Nat → Nat → Value) => ((gi 0 5).toInt + 20 ≤ 900 → ∀ j : Nat, gi2 2 j = s_f5 (gi 2) (gi 0 5).toInt ar1 ar2 ar3 ar4 ar5 j) ∧ (900 < (gi 0 5).toInt + 20 → ∀ j : Nat, gi2 2 j = gi 2 j)
theorem c_s_feed {X : x_Ext} {d : Nat} {sh : List (Nat ⊕ (Nat × Nat))} {gi : Nat → Nat → Int32} {gl : Nat → Nat → Int64} {gr : Nat → Nat → Value} (hI : t_I sh gi gr) (ar1 : Int32) (ar2 : Int32) (ar3 : Int32) (ar4 : Int32) (ar5 : Int32) : x_Me X (d + 2) n_X11_feed [.ref 0, .int ar1, .int ar2, .int ar3, .int ar4, .int ar5] (sh, gi, gl, gr) (t_PI wl_s_feed sh gi gl gr (-1) 900 (Q_s_feed gi gl gr ar1 ar2 ar3 ar4 ar5)) := by
  have hX : t_X wl_s_feed sh gi gl gr gi gl gr := t_X.rf
  refine me_i f_X11_feed (hI.wf.s rfl) rfl rfl rfl ?_
  obtain ⟨l1, u1⟩ := hI.b (hI.wf.s (k := 0) rfl) (t_bdK rfl : t_bd 10 5 = some (0, 900))
  refine ev_loc f_X11_feed (nx := 1) rfl rfl rfl rfl ?_
  refine ev_gvI f_X11_feed (nx := 4) (w := (gi 0 5)) rfl (hI.wf.s rfl) rfl rfl rfl rfl ?_
  refine ev_bp f_X11_feed (nx := 6) (v := 20) rfl (by decide) rfl ?_
  refine ev_addC f_X11_feed (nx := 7) (c := 20) (l := 20) (u := 920) rfl (by decide) l1 u1 rfl rfl (by decide) (by decide) rfl (fun z2 e2 l2 u2 => ?_)
  refine ev_loc f_X11_feed (nx := 8) rfl rfl rfl rfl ?_
  refine ev_getR f_X11_feed (nx := 11) rfl (hI.wf.s rfl) rfl rfl (hI.wf.r rfl) rfl rfl ?_
  refine ev_alenv f_X11_feed (nx := 12) (w := 900) rfl (hI.wf.s rfl) rfl (by decide) rfl ?_
  refine ev_if f_X11_feed (t1 := 17) (t2 := 15) rfl rfl rfl (fun h3 => ?_) (fun h3 => ?_)
  · have u4 : z2.toInt ≤ 900 := t_leu h3 (by decide : (900:Int32).toInt ≤ (900:Int))
    refine ev_loc f_X11_feed (nx := 18) rfl rfl rfl rfl ?_
    refine ev_loc f_X11_feed (nx := 19) rfl rfl rfl rfl ?_
    refine ev_qN f_X11_feed (nx := 22) (r := []) rfl rfl rfl rfl rfl rfl rfl (c_s_four hI (ar1) (by omega)) rfl hX rfl (fun gi5 gl5 gr5 hI hX hC5 q5 => ?_)
    have q5 : ((gi5 0 5).toInt = (gi 0 5).toInt + 4) ∧ (∀ j : Nat, gi5 2 j = s_fd (gi 2) (gi 0 5).toInt ar1 j) := q5
    obtain ⟨l6, u6⟩ := hI.b (hI.wf.s (k := 0) rfl) (t_bdK rfl : t_bd 10 5 = some (0, 900))
    refine ev_loc f_X11_feed (nx := 23) rfl rfl rfl rfl ?_
    refine ev_loc f_X11_feed (nx := 24) rfl rfl rfl rfl ?_
    refine ev_qN f_X11_feed (nx := 27) (r := []) rfl rfl rfl rfl rfl rfl rfl (c_s_four hI (ar2) (by omega)) rfl hX rfl (fun gi7 gl7 gr7 hI hX hC7 q7 => ?_)
    have q7 : ((gi7 0 5).toInt = (gi5 0 5).toInt + 4) ∧ (∀ j : Nat, gi7 2 j = s_fd (gi5 2) (gi5 0 5).toInt ar2 j) := q7
    obtain ⟨l8, u8⟩ := hI.b (hI.wf.s (k := 0) rfl) (t_bdK rfl : t_bd 10 5 = some (0, 900))
    refine ev_loc f_X11_feed (nx := 28) rfl rfl rfl rfl ?_
    refine ev_loc f_X11_feed (nx := 29) rfl rfl rfl rfl ?_
    refine ev_qN f_X11_feed (nx := 32) (r := []) rfl rfl rfl rfl rfl rfl rfl (c_s_four hI (ar3) (by omega)) rfl hX rfl (fun gi9 gl9 gr9 hI hX hC9 q9 => ?_)
    have q9 : ((gi9 0 5).toInt = (gi7 0 5).toInt + 4) ∧ (∀ j : Nat, gi9 2 j = s_fd (gi7 2) (gi7 0 5).toInt ar3 j) := q9
    obtain ⟨l10, u10⟩ := hI.b (hI.wf.s (k := 0) rfl) (t_bdK rfl : t_bd 10 5 = some (0, 900))
    refine ev_loc f_X11_feed (nx := 33) rfl rfl rfl rfl ?_
    refine ev_loc f_X11_feed (nx := 35) rfl rfl rfl rfl ?_
    refine ev_qN f_X11_feed (nx := 38) (r := []) rfl rfl rfl rfl rfl rfl rfl (c_s_four hI (ar4) (by omega)) rfl hX rfl (fun gi11 gl11 gr11 hI hX hC11 q11 => ?_)
    have q11 : ((gi11 0 5).toInt = (gi9 0 5).toInt + 4) ∧ (∀ j : Nat, gi11 2 j = s_fd (gi9 2) (gi9 0 5).toInt ar4 j) := q11
    obtain ⟨l12, u12⟩ := hI.b (hI.wf.s (k := 0) rfl) (t_bdK rfl : t_bd 10 5 = some (0, 900))
    refine ev_loc f_X11_feed (nx := 39) rfl rfl rfl rfl ?_
    refine ev_loc f_X11_feed (nx := 41) rfl rfl rfl rfl ?_
    refine ev_qN f_X11_feed (nx := 44) (r := []) rfl rfl rfl rfl rfl rfl rfl (c_s_four hI (ar5) (by omega)) rfl hX rfl (fun gi13 gl13 gr13 hI hX hC13 q13 => ?_)
    have q13 : ((gi13 0 5).toInt = (gi11 0 5).toInt + 4) ∧ (∀ j : Nat, gi13 2 j = s_fd (gi11 2) (gi11 0 5).toInt ar5 j) := q13
    obtain ⟨l14, u14⟩ := hI.b (hI.wf.s (k := 0) rfl) (t_bdK rfl : t_bd 10 5 = some (0, 900))
    refine ev_loc f_X11_feed (nx := 45) rfl rfl rfl rfl ?_
    refine ev_gvI f_X11_feed (nx := 48) (w := (gi13 0 5)) rfl (hI.wf.s rfl) rfl rfl rfl rfl ?_
    exact ev_ret f_X11_feed rfl rfl rfl ⟨_, _, _, rfl, hI, hX, ⟨_, rfl, (Int.le_trans (by decide : ((-1):Int) ≤ 0) l14), u14, (show ((gi 0 5).toInt + 20 ≤ 900 → ∀ j : Nat, gi13 2 j = s_f5 (gi 2) (gi 0 5).toInt ar1 ar2 ar3 ar4 ar5 j) ∧ (900 < (gi 0 5).toInt + 20 → ∀ j : Nat, gi13 2 j = gi 2 j) from ⟨fun _ => t_f5 q5.2 q5.1 q7.2 q7.1 q9.2 q9.1 q11.2 q11.1 q13.2, fun h => absurd h (by omega)⟩)⟩⟩
  · have l15 : 901 ≤ z2.toInt := t_ltl (t_nle h3) (by decide : (900:Int) ≤ (900:Int32).toInt) rfl
    refine ev_ic f_X11_feed (nx := 16) (v := -1) rfl (by decide) rfl ?_
    exact ev_ret f_X11_feed rfl rfl rfl ⟨_, _, _, rfl, hI, hX, ⟨_, rfl, (by decide : ((-1):Int) ≤ ((-1):Int32).toInt), (Int.le_trans (by decide : ((-1):Int32).toInt ≤ ((-1):Int)) (by decide : ((-1):Int) ≤ 900)), (show ((gi 0 5).toInt + 20 ≤ 900 → ∀ j : Nat, gi 2 j = s_f5 (gi 2) (gi 0 5).toInt ar1 ar2 ar3 ar4 ar5 j) ∧ (900 < (gi 0 5).toInt + 20 → ∀ j : Nat, gi 2 j = gi 2 j) from ⟨fun h => absurd h (by omega), fun _ j => rfl⟩)⟩⟩
noncomputable def wl_n_four : List (Nat × Nat) := [(69, 10), (75, 9999)]
noncomputable def Q_n_four (gi : Nat → Nat → Int32) (gl : Nat → Nat → Int64) (gr : Nat → Nat → Value) (ar1 : Int32) : (Nat → Nat → Int32) → (Nat → Nat → Int64) → (Nat → Nat → Value) → Prop := fun (gi2 : Nat → Nat → Int32) (gl2 : Nat → Nat → Int64) (gr2 : Nat → Nat → Value) => ((gi2 69 10).toInt = (gi 69 10).toInt + 4) ∧ (∀ j : Nat, gi2 75 j = s_fd (gi 75) (gi 69 10).toInt ar1 j)
theorem c_n_four {X : x_Ext} {d : Nat} {sh : List (Nat ⊕ (Nat × Nat))} {gi : Nat → Nat → Int32} {gl : Nat → Nat → Int64} {gr : Nat → Nat → Value} (hI : t_I sh gi gr) (ar1 : Int32) (e_p0 : (gi 69 10).toInt + 4 ≤ 900) : x_Me X (d + 1) n_X12_four [.ref 69, .int ar1] (sh, gi, gl, gr) (t_PN wl_n_four sh gi gl gr (Q_n_four gi gl gr ar1)) := by
  have hX : t_X wl_n_four sh gi gl gr gi gl gr := t_X.rf
  refine me_i f_X12_four (hI.wf.s rfl) rfl rfl rfl ?_
  obtain ⟨l1, u1⟩ := hI.b (hI.wf.s (k := 69) rfl) (t_bdK rfl : t_bd 11 10 = some (0, 900))
  refine ev_bp f_X12_four (nx := 2) (v := 24) rfl (by decide) rfl ?_
  refine ev_loc f_X12_four (nx := 3) (lo' := [(2, .int 24), (0, .ref 69), (1, .int ar1)]) rfl rfl rfl rfl ?_
  have L2 : ∀ (m2 : Nat) (gi2 : Nat → Nat → Int32) (gl2 : Nat → Nat → Int64) (gr2 : Nat → Nat → Value) (y2_2 : Int32), t_I sh gi2 gr2 → t_X wl_n_four sh gi gl gr gi2 gl2 gr2 → (-8) ≤ y2_2.toInt → y2_2.toInt ≤ 24 → 8 * (gi2 69 10).toInt + y2_2.toInt = 8 * (gi 69 10).toInt + 24 → (∀ j : Nat, gi2 75 j = s_fe (gi 75) (gi 69 10).toInt (gi2 69 10).toInt ar1 j) → (y2_2.toInt - (-8)).toNat = m2 → x_Ev X (d + 1) n_X12_four 3 [(2, .int y2_2), (0, .ref 69), (1, .int ar1)] [] (sh, gi2, gl2, gr2) (t_PN wl_n_four sh gi gl gr (Q_n_four gi gl gr ar1)) := by
    intro m2
    induction m2 using Nat.strongRecOn with
    | _ m2 ih2 =>
    intro gi2 gl2 gr2 y2_2 hI hX l2_2 u2_2 j2_0 j2_1 hm2
    obtain ⟨l3, u3⟩ := hI.b (hI.wf.s (k := 69) rfl) (t_bdK rfl : t_bd 11 10 = some (0, 900))
    refine ev_loc f_X12_four (nx := 4) rfl rfl rfl rfl ?_
    refine ev_if f_X12_four (t1 := 36) (t2 := 7) rfl rfl rfl (fun h4 => ?_) (fun h4 => ?_)
    · have u5 : y2_2.toInt ≤ (-1) := t_ltu h4 (by decide : (0:Int32).toInt ≤ (0:Int)) rfl
      exact ev_ret f_X12_four rfl rfl rfl ⟨_, _, _, rfl, hI, hX, ⟨rfl, (show ((gi2 69 10).toInt = (gi 69 10).toInt + 4) ∧ (∀ j : Nat, gi2 75 j = s_fd (gi 75) (gi 69 10).toInt ar1 j) from ⟨(show ((gi2 69 10).toInt = (gi 69 10).toInt + 4) from (by omega)), fun j => (j2_1 j).trans (by rw [show (gi2 69 10).toInt = (gi 69 10).toInt + 4 from (by omega)]; rfl)⟩)⟩⟩
    · have l6 : 0 ≤ y2_2.toInt := t_lel (t_nlt h4) (by decide : (0:Int) ≤ (0:Int32).toInt)
      refine ev_loc f_X12_four (nx := 8) rfl rfl rfl rfl ?_
      refine ev_getR f_X12_four (nx := 11) rfl (hI.wf.s rfl) rfl rfl (hI.wf.r rfl) rfl rfl ?_
      refine ev_loc f_X12_four (nx := 12) rfl rfl rfl rfl ?_
      refine ev_gvI f_X12_four (nx := 15) (w := (gi2 69 10)) rfl (hI.wf.s rfl) rfl rfl rfl rfl ?_
      refine ev_loc f_X12_four (nx := 16) rfl rfl rfl rfl ?_
      refine ev_loc f_X12_four (nx := 17) rfl rfl rfl rfl ?_
      refine ev_anyIE f_X12_four (nx := 18) rfl rfl rfl rfl (fun z7 e7 => ?_)
      refine ev_anyIE f_X12_four (nx := 19) rfl rfl rfl rfl (fun z8 e8 => ?_)
      have u10 : (gi2 69 10).toInt ≤ (899:Int) := (by omega)
      refine ev_bastE f_X12_four (nx := 20) rfl (hI.wf.s rfl) l3 (by decide) u10 (by decide) rfl (fun x => (hI.astG (hI.wf.s rfl) (fun lo hi e => absurd e (t_nob (by decide +kernel) _)) (fun k hk e => by have := hk.2.1; omega))) (fun x => hX.upI (t_inA_ok rfl)) (fun g9 x9 f9 e9 hI hX => ?_)
      refine ev_loc f_X12_four (nx := 21) rfl rfl rfl rfl ?_
      refine ev_alu f_X12_four (nx := 22) rfl rfl rfl rfl ?_
      refine ev_gvI f_X12_four (nx := 25) (w := (gi2 69 10)) rfl (hI.wf.s rfl) rfl rfl ((by rw [e9]; exact x_up2_off (Or.inl (by decide)) : g9 69 10 = gi2 69 10).trans rfl) rfl ?_
      refine ev_ic f_X12_four (nx := 26) (v := 1) rfl (by decide) rfl ?_
      refine ev_addC f_X12_four (nx := 27) (c := 1) (l := 1) (u := 900) rfl (by decide) l3 u10 rfl rfl (by decide) (by decide) rfl (fun z11 e11 l11 u11 => ?_)
      refine ev_putIT f_X12_four (nx := 30) rfl (hI.wf.s rfl) rfl rfl rfl (hI.putB (hI.wf.s rfl) rfl rfl l11 (by decide) u11 (by decide)) (hX.upI rfl) (fun g12 e12 hI hX => ?_)
      refine ev_incR f_X12_four (nx := 33) (c := (-8)) (l := (-8)) (u := 16) rfl rfl (by decide) (by decide) l6 u2_2 rfl rfl (by decide) (by decide) rfl (fun z13 e13 l13 u13 => ?_)
      refine ev_jmp f_X12_four (nx := 3) rfl rfl rfl ?_
      refine ev_sub (lo := [(2, .int z13), (0, .ref 69), (1, .int ar1)]) rfl (t_sc rfl (t_sc rfl (t_sc rfl t_sn))) ?_
      exact ih2 _ (by omega) g12 gl2 gr2 (z13) hI hX  l13 (Int.le_trans u13 (by decide : (16:Int) ≤ 24)) (by have ff14 : (g12 69 10).toInt = z11.toInt := congrArg Int32.toInt (by rw [e12]; exact x_up2_at _ _ _ _ : g12 69 10 = z11); omega) (t_fe_s (i := (gi2 69 10)) (e := (gi2 69 10).toInt) (s := y2_2.toInt) j2_1 (by omega) (by have ff0 : (g12 69 10).toInt = z11.toInt := congrArg Int32.toInt (by rw [e12]; exact x_up2_at _ _ _ _ : g12 69 10 = z11); omega) (by omega) (by omega) (s_by_m e7 e8 f9 rfl) (fun j => by rw [e12, x_up2_ne (by decide), e9, x_up2_same]) (by have ff0 : (g12 69 10).toInt = z11.toInt := congrArg Int32.toInt (by rw [e12]; exact x_up2_at _ _ _ _ : g12 69 10 = z11); omega)) rfl
  refine ev_sub (lo := [(2, .int 24), (0, .ref 69), (1, .int ar1)]) rfl (t_sc rfl (t_sc rfl (t_sc rfl t_sn))) ?_
  exact L2 _ gi gl gr (24) hI hX  (Int.le_trans (by decide : ((-8):Int) ≤ 24) (by decide : (24:Int) ≤ (24:Int32).toInt)) (by decide : (24:Int32).toInt ≤ (24:Int)) (by have kf15 : (24 : Int32).toInt = 24 := (by decide); omega) (fun j => (t_fe_0 (by omega) j).symm) rfl
noncomputable def wl_n_feed : List (Nat × Nat) := [(69, 10), (75, 9999)]
noncomputable def Q_n_feed (gi : Nat → Nat → Int32) (gl : Nat → Nat → Int64) (gr : Nat → Nat → Value) (ar1 : Int32) (ar2 : Int32) (ar3 : Int32) (ar4 : Int32) (ar5 : Int32) : Int32 → (Nat → Nat → Int32) → (Nat → Nat → Int64) → (Nat → Nat → Value) → Prop := fun (v : Int32) (gi2 : Nat → Nat → Int32) (gl2 : Nat → Nat → Int64) (gr2 : Nat → Nat → Value) => ((gi 69 10).toInt + 20 ≤ 900 → ∀ j : Nat, gi2 75 j = s_f5 (gi 75) (gi 69 10).toInt ar1 ar2 ar3 ar4 ar5 j) ∧ (900 < (gi 69 10).toInt + 20 → ∀ j : Nat, gi2 75 j = gi 75 j)
theorem c_n_feed {X : x_Ext} {d : Nat} {sh : List (Nat ⊕ (Nat × Nat))} {gi : Nat → Nat → Int32} {gl : Nat → Nat → Int64} {gr : Nat → Nat → Value} (hI : t_I sh gi gr) (ar1 : Int32) (ar2 : Int32) (ar3 : Int32) (ar4 : Int32) (ar5 : Int32) : x_Me X (d + 2) n_X12_feed [.ref 69, .int ar1, .int ar2, .int ar3, .int ar4, .int ar5] (sh, gi, gl, gr) (t_PI wl_n_feed sh gi gl gr (-1) 900 (Q_n_feed gi gl gr ar1 ar2 ar3 ar4 ar5)) := by
  have hX : t_X wl_n_feed sh gi gl gr gi gl gr := t_X.rf
  refine me_i f_X12_feed (hI.wf.s rfl) rfl rfl rfl ?_
  obtain ⟨l1, u1⟩ := hI.b (hI.wf.s (k := 69) rfl) (t_bdK rfl : t_bd 11 10 = some (0, 900))
  refine ev_loc f_X12_feed (nx := 1) rfl rfl rfl rfl ?_
  refine ev_gvI f_X12_feed (nx := 4) (w := (gi 69 10)) rfl (hI.wf.s rfl) rfl rfl rfl rfl ?_
  refine ev_bp f_X12_feed (nx := 6) (v := 20) rfl (by decide) rfl ?_
  refine ev_addC f_X12_feed (nx := 7) (c := 20) (l := 20) (u := 920) rfl (by decide) l1 u1 rfl rfl (by decide) (by decide) rfl (fun z2 e2 l2 u2 => ?_)
  refine ev_sp f_X12_feed (nx := 10) (v := 900) rfl (by decide) rfl ?_
  refine ev_if f_X12_feed (t1 := 15) (t2 := 13) rfl rfl rfl (fun h3 => ?_) (fun h3 => ?_)
  · have u4 : z2.toInt ≤ 900 := t_leu h3 (by decide : (900:Int32).toInt ≤ (900:Int))
    refine ev_loc f_X12_feed (nx := 16) rfl rfl rfl rfl ?_
    refine ev_loc f_X12_feed (nx := 17) rfl rfl rfl rfl ?_
    refine ev_qN f_X12_feed (nx := 20) (r := []) rfl rfl rfl rfl rfl rfl rfl (c_n_four hI (ar1) (by omega)) rfl hX rfl (fun gi5 gl5 gr5 hI hX hC5 q5 => ?_)
    have q5 : ((gi5 69 10).toInt = (gi 69 10).toInt + 4) ∧ (∀ j : Nat, gi5 75 j = s_fd (gi 75) (gi 69 10).toInt ar1 j) := q5
    obtain ⟨l6, u6⟩ := hI.b (hI.wf.s (k := 69) rfl) (t_bdK rfl : t_bd 11 10 = some (0, 900))
    refine ev_loc f_X12_feed (nx := 21) rfl rfl rfl rfl ?_
    refine ev_loc f_X12_feed (nx := 22) rfl rfl rfl rfl ?_
    refine ev_qN f_X12_feed (nx := 25) (r := []) rfl rfl rfl rfl rfl rfl rfl (c_n_four hI (ar2) (by omega)) rfl hX rfl (fun gi7 gl7 gr7 hI hX hC7 q7 => ?_)
    have q7 : ((gi7 69 10).toInt = (gi5 69 10).toInt + 4) ∧ (∀ j : Nat, gi7 75 j = s_fd (gi5 75) (gi5 69 10).toInt ar2 j) := q7
    obtain ⟨l8, u8⟩ := hI.b (hI.wf.s (k := 69) rfl) (t_bdK rfl : t_bd 11 10 = some (0, 900))
    refine ev_loc f_X12_feed (nx := 26) rfl rfl rfl rfl ?_
    refine ev_loc f_X12_feed (nx := 27) rfl rfl rfl rfl ?_
    refine ev_qN f_X12_feed (nx := 30) (r := []) rfl rfl rfl rfl rfl rfl rfl (c_n_four hI (ar3) (by omega)) rfl hX rfl (fun gi9 gl9 gr9 hI hX hC9 q9 => ?_)
    have q9 : ((gi9 69 10).toInt = (gi7 69 10).toInt + 4) ∧ (∀ j : Nat, gi9 75 j = s_fd (gi7 75) (gi7 69 10).toInt ar3 j) := q9
    obtain ⟨l10, u10⟩ := hI.b (hI.wf.s (k := 69) rfl) (t_bdK rfl : t_bd 11 10 = some (0, 900))
    refine ev_loc f_X12_feed (nx := 31) rfl rfl rfl rfl ?_
    refine ev_loc f_X12_feed (nx := 33) rfl rfl rfl rfl ?_
    refine ev_qN f_X12_feed (nx := 36) (r := []) rfl rfl rfl rfl rfl rfl rfl (c_n_four hI (ar4) (by omega)) rfl hX rfl (fun gi11 gl11 gr11 hI hX hC11 q11 => ?_)
    have q11 : ((gi11 69 10).toInt = (gi9 69 10).toInt + 4) ∧ (∀ j : Nat, gi11 75 j = s_fd (gi9 75) (gi9 69 10).toInt ar4 j) := q11
    obtain ⟨l12, u12⟩ := hI.b (hI.wf.s (k := 69) rfl) (t_bdK rfl : t_bd 11 10 = some (0, 900))
    refine ev_loc f_X12_feed (nx := 37) rfl rfl rfl rfl ?_
    refine ev_loc f_X12_feed (nx := 39) rfl rfl rfl rfl ?_
    refine ev_qN f_X12_feed (nx := 42) (r := []) rfl rfl rfl rfl rfl rfl rfl (c_n_four hI (ar5) (by omega)) rfl hX rfl (fun gi13 gl13 gr13 hI hX hC13 q13 => ?_)
    have q13 : ((gi13 69 10).toInt = (gi11 69 10).toInt + 4) ∧ (∀ j : Nat, gi13 75 j = s_fd (gi11 75) (gi11 69 10).toInt ar5 j) := q13
    obtain ⟨l14, u14⟩ := hI.b (hI.wf.s (k := 69) rfl) (t_bdK rfl : t_bd 11 10 = some (0, 900))
    refine ev_loc f_X12_feed (nx := 43) rfl rfl rfl rfl ?_
    refine ev_gvI f_X12_feed (nx := 46) (w := (gi13 69 10)) rfl (hI.wf.s rfl) rfl rfl rfl rfl ?_
    exact ev_ret f_X12_feed rfl rfl rfl ⟨_, _, _, rfl, hI, hX, ⟨_, rfl, (Int.le_trans (by decide : ((-1):Int) ≤ 0) l14), u14, (show ((gi 69 10).toInt + 20 ≤ 900 → ∀ j : Nat, gi13 75 j = s_f5 (gi 75) (gi 69 10).toInt ar1 ar2 ar3 ar4 ar5 j) ∧ (900 < (gi 69 10).toInt + 20 → ∀ j : Nat, gi13 75 j = gi 75 j) from ⟨fun _ => t_f5 q5.2 q5.1 q7.2 q7.1 q9.2 q9.1 q11.2 q11.1 q13.2, fun h => absurd h (by omega)⟩)⟩⟩
  · have l15 : 901 ≤ z2.toInt := t_ltl (t_nle h3) (by decide : (900:Int) ≤ (900:Int32).toInt) rfl
    refine ev_ic f_X12_feed (nx := 14) (v := -1) rfl (by decide) rfl ?_
    exact ev_ret f_X12_feed rfl rfl rfl ⟨_, _, _, rfl, hI, hX, ⟨_, rfl, (by decide : ((-1):Int) ≤ ((-1):Int32).toInt), (Int.le_trans (by decide : ((-1):Int32).toInt ≤ ((-1):Int)) (by decide : ((-1):Int) ≤ 900)), (show ((gi 69 10).toInt + 20 ≤ 900 → ∀ j : Nat, gi 75 j = s_f5 (gi 75) (gi 69 10).toInt ar1 ar2 ar3 ar4 ar5 j) ∧ (900 < (gi 69 10).toInt + 20 → ∀ j : Nat, gi 75 j = gi 75 j) from ⟨fun h => absurd h (by omega), fun _ j => rfl⟩)⟩⟩
