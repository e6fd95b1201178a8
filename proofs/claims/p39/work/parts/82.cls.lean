/-! ===== printed by cls.py: typed contracts of the class ===== -/
noncomputable def wl_h_quicker : List (Nat × Nat) := [(0, 0), (28, 0), (28, 1), (28, 4), (28, 5), (29, 0), (30, 9999), (31, 9999), (32, 9999), (33, 9999), (34, 9999), (35, 0), (36, 9999), (37, 9999), (38, 9999), (39, 9999), (40, 9999)]
theorem c_h_quicker {X : x_Ext} {d : Nat} {sh : List (Nat ⊕ (Nat × Nat))} {gi : Nat → Nat → Int32} {gl : Nat → Nat → Int64} {gr : Nat → Nat → Value} (hI : t_I sh gi gr) (ar1 : Int32) : x_Me X (d + 18) n_X11_quicker [.ref 0, .int ar1] (sh, gi, gl, gr) (t_P wl_h_quicker sh gi gl gr (t_Ri (-2147483648) 999999999)) := by
  have hX : t_X wl_h_quicker sh gi gl gr gi gl gr := t_X.rf
  refine me_i f_X11_quicker (hI.wf.s rfl) rfl rfl rfl ?_
  refine ev_loc f_X11_quicker (nx := 1) rfl rfl rfl rfl ?_
  refine ev_ic f_X11_quicker (nx := 2) (v := 1) rfl (by decide) rfl ?_
  refine ev_if f_X11_quicker (t1 := 11) (t2 := 5) rfl rfl rfl (fun h1 => ?_) (fun h1 => ?_)
  · have u2 : ar1.toInt ≤ 0 := t_ltu h1 (by decide : (1:Int32).toInt ≤ (1:Int)) rfl
    refine ev_loc f_X11_quicker (nx := 12) rfl rfl rfl rfl ?_
    refine ev_ic f_X11_quicker (nx := 13) (v := 1) rfl (by decide) rfl ?_
    refine ev_inV2 f_X11_quicker (nx := 16) (lo2 := [(0, .ref 0), (1, .int 1)]) rfl rfl rfl rfl f_X11_refuse (hI.wf.s rfl) rfl rfl rfl rfl rfl ?_
    refine ev_loc f_X11_refuse (nx := 1) rfl rfl rfl rfl ?_
    refine ev_loc f_X11_refuse (nx := 2) rfl rfl rfl rfl ?_
    refine ev_putIT f_X11_refuse (nx := 5) rfl (hI.wf.s rfl) rfl rfl rfl (hI.put0 (hI.wf.s rfl) rfl rfl) (hX.upI rfl) (fun g3 e3 hI hX => ?_)
    refine ev_ic f_X11_refuse (nx := 6) (v := -1) rfl (by decide) rfl ?_
    refine ev_retK1 f_X11_refuse rfl rfl rfl ?_
    exact ev_ret f_X11_quicker rfl rfl rfl ⟨_, _, _, rfl, hI, hX, ⟨_, rfl, (Int.le_trans (by decide : ((-2147483648):Int) ≤ (-1)) (by decide : ((-1):Int) ≤ ((-1):Int32).toInt)), (Int.le_trans (by decide : ((-1):Int32).toInt ≤ ((-1):Int)) (by decide : ((-1):Int) ≤ 999999999))⟩⟩
  · have l4 : 1 ≤ ar1.toInt := t_lel (t_nlt h1) (by decide : (1:Int) ≤ (1:Int32).toInt)
    refine ev_loc f_X11_quicker (nx := 6) rfl rfl rfl rfl ?_
    refine ev_bp f_X11_quicker (nx := 8) (v := 20) rfl (by decide) rfl ?_
    refine ev_if f_X11_quicker (t1 := 17) (t2 := 11) rfl rfl rfl (fun h5 => ?_) (fun h5 => ?_)
    · have u6 : ar1.toInt ≤ 20 := t_leu h5 (by decide : (20:Int32).toInt ≤ (20:Int))
      refine ev_loc f_X11_quicker (nx := 18) rfl rfl rfl rfl ?_
      refine ev_getR f_X11_quicker (nx := 21) rfl (hI.wf.s rfl) rfl rfl (hI.wf.r rfl) rfl rfl ?_
      refine ev_loc f_X11_quicker (nx := 22) rfl rfl rfl rfl ?_
      obtain ⟨a7, e7, p7⟩ := hI.2.2.2.1.1
      refine ev_getR f_X11_quicker (nx := 25) rfl (hI.wf.s rfl) rfl rfl e7 rfl rfl ?_
      refine ev_inV2 f_X11_quicker (nx := 28) (lo2 := [(0, .ref 28), (1, .ref a7)]) rfl rfl rfl rfl f_X1_takeAll (hI.wf.s rfl) rfl rfl rfl rfl rfl ?_
      refine ev_loc f_X1_takeAll (nx := 1) rfl rfl rfl rfl ?_
      refine ev_loc f_X1_takeAll (nx := 2) rfl rfl rfl rfl ?_
      have hE8 := t_eqf_up (gr := gr) (j := 0) (v := .ref a7) (hI.wf.s (k := 28) rfl) rfl
      have hT8 := t_cross hI p7
      replace p7 := p7.ext hE8
      refine ev_putRT f_X1_takeAll (nx := 5) rfl (hI.wf.s rfl) rfl rfl rfl rfl hT8 (hX.upR rfl hE8) (fun g8 e8 hI hX => ?_)
      rw [← e8] at p7
      refine ev_loc f_X1_takeAll (nx := 6) rfl rfl rfl rfl ?_
      refine ev_loc f_X1_takeAll (nx := 7) rfl rfl rfl rfl ?_
      refine ev_getI f_X1_takeAll (nx := 10) rfl p7.1 rfl rfl rfl ?_
      refine ev_putIT f_X1_takeAll (nx := 13) rfl (hI.wf.s rfl) rfl rfl rfl (hI.put0 (hI.wf.s rfl) rfl rfl) (hX.upI rfl) (fun g9 e9 hI hX => ?_)
      refine ev_loc f_X1_takeAll (nx := 14) rfl rfl rfl rfl ?_
      refine ev_loc f_X1_takeAll (nx := 15) rfl rfl rfl rfl ?_
      refine ev_ic f_X1_takeAll (nx := 16) (v := 0) rfl (by decide) rfl ?_
      refine ev_ic f_X1_takeAll (nx := 17) (v := -1) rfl (by decide) rfl ?_
      refine ev_ic f_X1_takeAll (nx := 18) (v := 0) rfl (by decide) rfl ?_
      refine ev_c0 f_X1_takeAll (nx := 21) (r := []) rfl rfl rfl rfl rfl rfl rfl (c_takeShips hI (a7) p7 (0) ((-1)) (0)) rfl hX rfl (fun gi10 gl10 gr10 hI hX hC10 => ?_)
      replace p7 := p7.ext hC10.2
      refine ev_loc f_X1_takeAll (nx := 22) rfl rfl rfl rfl ?_
      refine ev_loc f_X1_takeAll (nx := 23) rfl rfl rfl rfl ?_
      refine ev_ic f_X1_takeAll (nx := 24) (v := -1) rfl (by decide) rfl ?_
      refine ev_c0 f_X1_takeAll (nx := 27) (r := []) rfl rfl rfl rfl rfl rfl rfl (c_takeCarts hI (a7) p7 ((-1))) rfl hX rfl (fun gi11 gl11 gr11 hI hX hC11 => ?_)
      replace p7 := p7.ext hC11.2
      refine ev_retK0 f_X1_takeAll rfl rfl rfl ?_
      refine ev_loc f_X11_quicker (nx := 29) rfl rfl rfl rfl ?_
      refine ev_getR f_X11_quicker (nx := 32) rfl (hI.wf.s rfl) rfl rfl (hI.wf.r rfl) rfl rfl ?_
      refine ev_loc f_X11_quicker (nx := 33) rfl rfl rfl rfl ?_
      refine ev_putIT f_X11_quicker (nx := 36) rfl (hI.wf.s rfl) rfl rfl rfl (hI.put0 (hI.wf.s rfl) rfl rfl) (hX.upI rfl) (fun g12 e12 hI hX => ?_)
      refine ev_loc f_X11_quicker (nx := 37) rfl rfl rfl rfl ?_
      refine ev_loc f_X11_quicker (nx := 38) rfl rfl rfl rfl ?_
      refine ev_getR f_X11_quicker (nx := 41) rfl (hI.wf.s rfl) rfl rfl (hI.wf.r rfl) rfl rfl ?_
      refine ev_cI f_X11_quicker (nx := 44) (r := [.ref 0]) rfl rfl rfl rfl rfl rfl rfl (c_leastWaits hI ) rfl hX rfl (fun w13 gi13 gl13 gr13 l13 u13 hI hX hC13 => ?_)
      replace p7 := p7.ext hC13.2
      refine ev_inV2 f_X11_quicker (nx := 47) (lo2 := [(0, .ref 0), (1, .int w13)]) rfl rfl rfl rfl f_X11_answerWaits (hI.wf.s rfl) rfl rfl rfl rfl rfl ?_
      refine ev_loc f_X11_answerWaits (nx := 1) rfl rfl rfl rfl ?_
      refine ev_ldW f_X11_answerWaits (nx := 4) (v := 1000000000) rfl (by decide) rfl ?_
      refine ev_if f_X11_answerWaits (t1 := 16) (t2 := 7) rfl rfl rfl (fun h14 => ?_) (fun h14 => ?_)
      · have u15 : w13.toInt ≤ 999999999 := t_ltu h14 (by decide : (1000000000:Int32).toInt ≤ (1000000000:Int)) rfl
        refine ev_loc f_X11_answerWaits (nx := 17) rfl rfl rfl rfl ?_
        refine ev_loc f_X11_answerWaits (nx := 18) rfl rfl rfl rfl ?_
        refine ev_inV2 f_X11_answerWaits (nx := 21) (lo2 := [(0, .ref 0), (1, .int w13)]) rfl rfl rfl rfl f_X11_answer (hI.wf.s rfl) rfl rfl rfl rfl rfl ?_
        refine ev_loc f_X11_answer (nx := 1) rfl rfl rfl rfl ?_
        refine ev_ic f_X11_answer (nx := 2) (v := 0) rfl (by decide) rfl ?_
        refine ev_putIT f_X11_answer (nx := 5) rfl (hI.wf.s rfl) rfl rfl rfl (hI.put0 (hI.wf.s rfl) rfl rfl) (hX.upI rfl) (fun g16 e16 hI hX => ?_)
        refine ev_loc f_X11_answer (nx := 6) rfl rfl rfl rfl ?_
        refine ev_retK1 f_X11_answer rfl rfl rfl ?_
        refine ev_retK1 f_X11_answerWaits rfl rfl rfl ?_
        exact ev_ret f_X11_quicker rfl rfl rfl ⟨_, _, _, rfl, hI, hX, ⟨_, rfl, l13, u15⟩⟩
      · have l17 : 1000000000 ≤ w13.toInt := t_lel (t_nlt h14) (by decide : (1000000000:Int) ≤ (1000000000:Int32).toInt)
        refine ev_loc f_X11_answerWaits (nx := 8) rfl rfl rfl rfl ?_
        refine ev_bp f_X11_answerWaits (nx := 10) (v := 6) rfl (by decide) rfl ?_
        refine ev_inV2 f_X11_answerWaits (nx := 13) (lo2 := [(0, .ref 0), (1, .int 6)]) rfl rfl rfl rfl f_X11_refuse (hI.wf.s rfl) rfl rfl rfl rfl rfl ?_
        refine ev_loc f_X11_refuse (nx := 1) rfl rfl rfl rfl ?_
        refine ev_loc f_X11_refuse (nx := 2) rfl rfl rfl rfl ?_
        refine ev_putIT f_X11_refuse (nx := 5) rfl (hI.wf.s rfl) rfl rfl rfl (hI.put0 (hI.wf.s rfl) rfl rfl) (hX.upI rfl) (fun g18 e18 hI hX => ?_)
        refine ev_ic f_X11_refuse (nx := 6) (v := -1) rfl (by decide) rfl ?_
        refine ev_retK1 f_X11_refuse rfl rfl rfl ?_
        refine ev_jmp f_X11_answerWaits (nx := 21) rfl rfl rfl ?_
        refine ev_retK1 f_X11_answerWaits rfl rfl rfl ?_
        exact ev_ret f_X11_quicker rfl rfl rfl ⟨_, _, _, rfl, hI, hX, ⟨_, rfl, (Int.le_trans (by decide : ((-2147483648):Int) ≤ (-1)) (by decide : ((-1):Int) ≤ ((-1):Int32).toInt)), (Int.le_trans (by decide : ((-1):Int32).toInt ≤ ((-1):Int)) (by decide : ((-1):Int) ≤ 999999999))⟩⟩
    · have l19 : 21 ≤ ar1.toInt := t_ltl (t_nle h5) (by decide : (20:Int) ≤ (20:Int32).toInt) rfl
      refine ev_loc f_X11_quicker (nx := 12) rfl rfl rfl rfl ?_
      refine ev_ic f_X11_quicker (nx := 13) (v := 1) rfl (by decide) rfl ?_
      refine ev_inV2 f_X11_quicker (nx := 16) (lo2 := [(0, .ref 0), (1, .int 1)]) rfl rfl rfl rfl f_X11_refuse (hI.wf.s rfl) rfl rfl rfl rfl rfl ?_
      refine ev_loc f_X11_refuse (nx := 1) rfl rfl rfl rfl ?_
      refine ev_loc f_X11_refuse (nx := 2) rfl rfl rfl rfl ?_
      refine ev_putIT f_X11_refuse (nx := 5) rfl (hI.wf.s rfl) rfl rfl rfl (hI.put0 (hI.wf.s rfl) rfl rfl) (hX.upI rfl) (fun g20 e20 hI hX => ?_)
      refine ev_ic f_X11_refuse (nx := 6) (v := -1) rfl (by decide) rfl ?_
      refine ev_retK1 f_X11_refuse rfl rfl rfl ?_
      exact ev_ret f_X11_quicker rfl rfl rfl ⟨_, _, _, rfl, hI, hX, ⟨_, rfl, (Int.le_trans (by decide : ((-2147483648):Int) ≤ (-1)) (by decide : ((-1):Int) ≤ ((-1):Int32).toInt)), (Int.le_trans (by decide : ((-1):Int32).toInt ≤ ((-1):Int)) (by decide : ((-1):Int) ≤ 999999999))⟩⟩
noncomputable def wl_h_away : List (Nat × Nat) := [(0, 0), (28, 0), (28, 1), (28, 4), (28, 5), (29, 0), (30, 9999), (31, 9999), (32, 9999), (33, 9999), (34, 9999), (35, 0), (36, 9999), (37, 9999), (38, 9999), (39, 9999), (40, 9999)]
theorem c_h_away {X : x_Ext} {d : Nat} {sh : List (Nat ⊕ (Nat × Nat))} {gi : Nat → Nat → Int32} {gl : Nat → Nat → Int64} {gr : Nat → Nat → Value} (hI : t_I sh gi gr) : x_Me X (d + 19) n_X11_away [.ref 0] (sh, gi, gl, gr) (t_P wl_h_away sh gi gl gr (t_Ri (-1) 63)) := by
  have hX : t_X wl_h_away sh gi gl gr gi gl gr := t_X.rf
  refine me_i f_X11_away (hI.wf.s rfl) rfl rfl rfl ?_
  refine ev_loc f_X11_away (nx := 1) rfl rfl rfl rfl ?_
  refine ev_getR f_X11_away (nx := 4) rfl (hI.wf.s rfl) rfl rfl (hI.wf.r rfl) rfl rfl ?_
  refine ev_loc f_X11_away (nx := 5) rfl rfl rfl rfl ?_
  obtain ⟨a1, e1, p1⟩ := hI.2.2.2.1.1
  refine ev_getR f_X11_away (nx := 8) rfl (hI.wf.s rfl) rfl rfl e1 rfl rfl ?_
  refine ev_inV2 f_X11_away (nx := 11) (lo2 := [(0, .ref 28), (1, .ref a1)]) rfl rfl rfl rfl f_X1_takeAll (hI.wf.s rfl) rfl rfl rfl rfl rfl ?_
  refine ev_loc f_X1_takeAll (nx := 1) rfl rfl rfl rfl ?_
  refine ev_loc f_X1_takeAll (nx := 2) rfl rfl rfl rfl ?_
  have hE2 := t_eqf_up (gr := gr) (j := 0) (v := .ref a1) (hI.wf.s (k := 28) rfl) rfl
  have hT2 := t_cross hI p1
  replace p1 := p1.ext hE2
  refine ev_putRT f_X1_takeAll (nx := 5) rfl (hI.wf.s rfl) rfl rfl rfl rfl hT2 (hX.upR rfl hE2) (fun g2 e2 hI hX => ?_)
  rw [← e2] at p1
  refine ev_loc f_X1_takeAll (nx := 6) rfl rfl rfl rfl ?_
  refine ev_loc f_X1_takeAll (nx := 7) rfl rfl rfl rfl ?_
  refine ev_getI f_X1_takeAll (nx := 10) rfl p1.1 rfl rfl rfl ?_
  refine ev_putIT f_X1_takeAll (nx := 13) rfl (hI.wf.s rfl) rfl rfl rfl (hI.put0 (hI.wf.s rfl) rfl rfl) (hX.upI rfl) (fun g3 e3 hI hX => ?_)
  refine ev_loc f_X1_takeAll (nx := 14) rfl rfl rfl rfl ?_
  refine ev_loc f_X1_takeAll (nx := 15) rfl rfl rfl rfl ?_
  refine ev_ic f_X1_takeAll (nx := 16) (v := 0) rfl (by decide) rfl ?_
  refine ev_ic f_X1_takeAll (nx := 17) (v := -1) rfl (by decide) rfl ?_
  refine ev_ic f_X1_takeAll (nx := 18) (v := 0) rfl (by decide) rfl ?_
  refine ev_c0 f_X1_takeAll (nx := 21) (r := []) rfl rfl rfl rfl rfl rfl rfl (c_takeShips hI (a1) p1 (0) ((-1)) (0)) rfl hX rfl (fun gi4 gl4 gr4 hI hX hC4 => ?_)
  replace p1 := p1.ext hC4.2
  refine ev_loc f_X1_takeAll (nx := 22) rfl rfl rfl rfl ?_
  refine ev_loc f_X1_takeAll (nx := 23) rfl rfl rfl rfl ?_
  refine ev_ic f_X1_takeAll (nx := 24) (v := -1) rfl (by decide) rfl ?_
  refine ev_c0 f_X1_takeAll (nx := 27) (r := []) rfl rfl rfl rfl rfl rfl rfl (c_takeCarts hI (a1) p1 ((-1))) rfl hX rfl (fun gi5 gl5 gr5 hI hX hC5 => ?_)
  replace p1 := p1.ext hC5.2
  refine ev_retK0 f_X1_takeAll rfl rfl rfl ?_
  refine ev_ic f_X11_away (nx := 12) (v := 0) rfl (by decide) rfl ?_
  refine ev_loc f_X11_away (nx := 13) (lo' := [(1, .int 0), (0, .ref 0)]) rfl rfl rfl rfl ?_
  have L6 : ∀ (m6 : Nat) (gi6 : Nat → Nat → Int32) (gl6 : Nat → Nat → Int64) (gr6 : Nat → Nat → Value) (y6_1 : Int32), t_I sh gi6 gr6 → t_X wl_h_away sh gi gl gr gi6 gl6 gr6 → t_Rv sh gr6 a1 → 0 ≤ y6_1.toInt → y6_1.toInt ≤ 7 → gi6 a1 3 = (gi a1 3) → gi6 28 1 = (gi a1 3) → gr6 0 6 = .ref a1 → gr6 28 0 = .ref a1 → (7 - y6_1.toInt).toNat = m6 → x_Ev X (d + 19) n_X11_away 13 [(1, .int y6_1), (0, .ref 0)] [] (sh, gi6, gl6, gr6) (t_P wl_h_away sh gi gl gr (t_Ri (-1) 63)) := by
    intro m6
    induction m6 using Nat.strongRecOn with
    | _ m6 ih6 =>
    intro gi6 gl6 gr6 y6_1 hI hX p1 l6_1 u6_1 c6_0 c6_1 c6_2 c6_3 hm6
    refine ev_loc f_X11_away (nx := 14) rfl rfl rfl rfl ?_
    refine ev_loc f_X11_away (nx := 15) rfl rfl rfl rfl ?_
    refine ev_getR f_X11_away (nx := 18) (v := .ref a1) rfl (hI.wf.s rfl) rfl rfl c6_2 rfl rfl ?_
    obtain ⟨a7, e7, p7⟩ := p1.2.2.2.2.1
    refine ev_getR f_X11_away (nx := 21) rfl p1.1 rfl rfl e7 rfl rfl ?_
    refine ev_getI f_X11_away (nx := 24) rfl p7.1 rfl rfl rfl ?_
    obtain ⟨l8, u8⟩ := hI.b p7.1 (t_bdK rfl : t_bd 3 0 = some (0, 6))
    refine ev_if f_X11_away (t1 := 95) (t2 := 27) rfl rfl rfl (fun h9 => ?_) (fun h9 => ?_)
    · have l10 : 1 ≤ y6_1.toInt := t_ltl h9 l8 rfl
      refine ev_loc f_X11_away (nx := 96) rfl rfl rfl rfl ?_
      refine ev_bp f_X11_away (nx := 98) (v := 6) rfl (by decide) rfl ?_
      refine ev_inV2 f_X11_away (nx := 101) (lo2 := [(0, .ref 0), (1, .int 6)]) rfl rfl rfl rfl f_X11_refuse (hI.wf.s rfl) rfl rfl rfl rfl rfl ?_
      refine ev_loc f_X11_refuse (nx := 1) rfl rfl rfl rfl ?_
      refine ev_loc f_X11_refuse (nx := 2) rfl rfl rfl rfl ?_
      refine ev_putIT f_X11_refuse (nx := 5) rfl (hI.wf.s rfl) rfl rfl rfl (hI.put0 (hI.wf.s rfl) rfl rfl) (hX.upI rfl) (fun g11 e11 hI hX => ?_)
      refine ev_ic f_X11_refuse (nx := 6) (v := -1) rfl (by decide) rfl ?_
      refine ev_retK1 f_X11_refuse rfl rfl rfl ?_
      exact ev_ret f_X11_away rfl rfl rfl ⟨_, _, _, rfl, hI, hX, ⟨_, rfl, (by decide : ((-1):Int) ≤ ((-1):Int32).toInt), (Int.le_trans (by decide : ((-1):Int32).toInt ≤ ((-1):Int)) (by decide : ((-1):Int) ≤ 63))⟩⟩
    · have u12 : y6_1.toInt ≤ 6 := t_leu (t_nlt h9) u8
      refine ev_ic f_X11_away (nx := 28) (v := 0) rfl (by decide) rfl ?_
      refine ev_loc f_X11_away (nx := 29) (lo' := [(2, .int 0), (1, .int y6_1), (0, .ref 0)]) rfl rfl rfl rfl ?_
      have L13 : ∀ (m13 : Nat) (gi13 : Nat → Nat → Int32) (gl13 : Nat → Nat → Int64) (gr13 : Nat → Nat → Value) (y13_2 : Int32), t_I sh gi13 gr13 → t_X wl_h_away sh gi gl gr gi13 gl13 gr13 → t_Rv sh gr13 a1 → t_Ln sh gr13 a7 → 0 ≤ y13_2.toInt → y13_2.toInt ≤ 64 → gi13 a1 3 = (gi a1 3) → gi13 28 1 = (gi a1 3) → gr13 a1 7 = .ref a7 → gr13 0 6 = .ref a1 → gr13 28 0 = .ref a1 → (64 - y13_2.toInt).toNat = m13 → x_Ev X (d + 19) n_X11_away 29 [(2, .int y13_2), (1, .int y6_1), (0, .ref 0)] [] (sh, gi13, gl13, gr13) (t_P wl_h_away sh gi gl gr (t_Ri (-1) 63)) := by
        intro m13
        induction m13 using Nat.strongRecOn with
        | _ m13 ih13 =>
        intro gi13 gl13 gr13 y13_2 hI hX p1 p7 l13_2 u13_2 c13_0 c13_1 c13_2 c13_3 c13_4 hm13
        refine ev_loc f_X11_away (nx := 30) rfl rfl rfl rfl ?_
        refine ev_ic f_X11_away (nx := 31) (v := 1) rfl (by decide) rfl ?_
        refine ev_loc f_X11_away (nx := 32) rfl rfl rfl rfl ?_
        refine ev_getR f_X11_away (nx := 35) (v := .ref a1) rfl (hI.wf.s rfl) rfl rfl c13_3 rfl rfl ?_
        refine ev_getR f_X11_away (nx := 38) (v := .ref a7) rfl p1.1 rfl rfl c13_2 rfl rfl ?_
        refine ev_getI f_X11_away (nx := 41) rfl p7.1 rfl rfl rfl ?_
        obtain ⟨l14, u14⟩ := hI.b p7.1 (t_bdK rfl : t_bd 3 0 = some (0, 6))
        refine ev_shl1 f_X11_away (nx := 42) rfl l14 u14 (by decide) (by decide) rfl (fun z15 l15 u15 => ?_)
        refine ev_if f_X11_away (t1 := 89) (t2 := 45) rfl rfl rfl (fun h16 => ?_) (fun h16 => ?_)
        · have l17 : 1 ≤ y13_2.toInt := t_lel h16 l15
          refine ev_incR f_X11_away (nx := 92) (c := 1) (l := 1) (u := 7) rfl rfl (by decide) (by decide) l6_1 u12 rfl rfl (by decide) (by decide) rfl (fun z18 e18 l18 u18 => ?_)
          refine ev_jmp f_X11_away (nx := 13) rfl rfl rfl ?_
          refine ev_sub (lo := [(1, .int z18), (0, .ref 0)]) rfl (t_sc rfl (t_sc rfl t_sn)) ?_
          exact ih6 _ (by omega) gi13 gl13 gr13 (z18) hI hX p1 (Int.le_trans (by decide : (0:Int) ≤ 1) l18) u18 c13_0 c13_1 c13_3 c13_4 rfl
        · have u19 : y13_2.toInt ≤ 63 := t_ltu (t_nle h16) u15 rfl
          refine ev_loc f_X11_away (nx := 46) rfl rfl rfl rfl ?_
          refine ev_inS1 f_X11_away (nx := 49) (lo2 := [(0, .int y13_2)]) rfl rfl rfl rfl f_J6_bitCount_0f7a4 rfl rfl rfl rfl ?_
          refine ev_loc f_J6_bitCount_0f7a4 (nx := 1) rfl rfl rfl rfl ?_
          refine ev_loc f_J6_bitCount_0f7a4 (nx := 2) rfl rfl rfl rfl ?_
          refine ev_ic f_J6_bitCount_0f7a4 (nx := 3) (v := 1) rfl (by decide) rfl ?_
          refine ev_anyI f_J6_bitCount_0f7a4 (nx := 4) rfl rfl rfl rfl (fun z20 => ?_)
          refine ev_ldW f_J6_bitCount_0f7a4 (nx := 7) (v := 1431655765) rfl (by decide) rfl ?_
          refine ev_andR f_J6_bitCount_0f7a4 (nx := 8) (c := 1431655765) rfl (by decide) (by decide) rfl (fun z21 l21 u21 => ?_)
          refine ev_subR f_J6_bitCount_0f7a4 (nx := 9) (l := (-1431655765)) (u := 63) rfl l13_2 u19 l21 u21 rfl rfl (by decide) (by decide) rfl (fun z22 e22 l22 u22 => ?_)
          refine ev_loc f_J6_bitCount_0f7a4 (nx := 10) (lo' := [(0, .int z22)]) rfl rfl rfl rfl ?_
          refine ev_loc f_J6_bitCount_0f7a4 (nx := 11) rfl rfl rfl rfl ?_
          refine ev_ldW f_J6_bitCount_0f7a4 (nx := 14) (v := 858993459) rfl (by decide) rfl ?_
          refine ev_andR f_J6_bitCount_0f7a4 (nx := 15) (c := 858993459) rfl (by decide) (by decide) rfl (fun z23 l23 u23 => ?_)
          refine ev_loc f_J6_bitCount_0f7a4 (nx := 16) rfl rfl rfl rfl ?_
          refine ev_ic f_J6_bitCount_0f7a4 (nx := 17) (v := 2) rfl (by decide) rfl ?_
          refine ev_anyI f_J6_bitCount_0f7a4 (nx := 18) rfl rfl rfl rfl (fun z24 => ?_)
          refine ev_ldW f_J6_bitCount_0f7a4 (nx := 21) (v := 858993459) rfl (by decide) rfl ?_
          refine ev_andR f_J6_bitCount_0f7a4 (nx := 22) (c := 858993459) rfl (by decide) (by decide) rfl (fun z25 l25 u25 => ?_)
          refine ev_addR f_J6_bitCount_0f7a4 (nx := 23) (l := 0) (u := 1717986918) rfl l23 u23 l25 u25 rfl rfl (by decide) (by decide) rfl (fun z26 e26 l26 u26 => ?_)
          refine ev_loc f_J6_bitCount_0f7a4 (nx := 24) (lo' := [(0, .int z26)]) rfl rfl rfl rfl ?_
          refine ev_loc f_J6_bitCount_0f7a4 (nx := 25) rfl rfl rfl rfl ?_
          refine ev_loc f_J6_bitCount_0f7a4 (nx := 26) rfl rfl rfl rfl ?_
          refine ev_ic f_J6_bitCount_0f7a4 (nx := 27) (v := 4) rfl (by decide) rfl ?_
          refine ev_anyI f_J6_bitCount_0f7a4 (nx := 28) rfl rfl rfl rfl (fun z27 => ?_)
          refine ev_anyI f_J6_bitCount_0f7a4 (nx := 29) rfl rfl rfl rfl (fun z28 => ?_)
          refine ev_ldW f_J6_bitCount_0f7a4 (nx := 32) (v := 252645135) rfl (by decide) rfl ?_
          refine ev_andR f_J6_bitCount_0f7a4 (nx := 33) (c := 252645135) rfl (by decide) (by decide) rfl (fun z29 l29 u29 => ?_)
          refine ev_loc f_J6_bitCount_0f7a4 (nx := 34) (lo' := [(0, .int z29)]) rfl rfl rfl rfl ?_
          refine ev_loc f_J6_bitCount_0f7a4 (nx := 35) rfl rfl rfl rfl ?_
          refine ev_loc f_J6_bitCount_0f7a4 (nx := 36) rfl rfl rfl rfl ?_
          refine ev_bp f_J6_bitCount_0f7a4 (nx := 38) (v := 8) rfl (by decide) rfl ?_
          refine ev_anyI f_J6_bitCount_0f7a4 (nx := 39) rfl rfl rfl rfl (fun z30 => ?_)
          refine ev_anyI f_J6_bitCount_0f7a4 (nx := 40) rfl rfl rfl rfl (fun z31 => ?_)
          refine ev_loc f_J6_bitCount_0f7a4 (nx := 41) (lo' := [(0, .int z31)]) rfl rfl rfl rfl ?_
          refine ev_loc f_J6_bitCount_0f7a4 (nx := 42) rfl rfl rfl rfl ?_
          refine ev_loc f_J6_bitCount_0f7a4 (nx := 43) rfl rfl rfl rfl ?_
          refine ev_bp f_J6_bitCount_0f7a4 (nx := 45) (v := 16) rfl (by decide) rfl ?_
          refine ev_anyI f_J6_bitCount_0f7a4 (nx := 46) rfl rfl rfl rfl (fun z32 => ?_)
          refine ev_anyI f_J6_bitCount_0f7a4 (nx := 47) rfl rfl rfl rfl (fun z33 => ?_)
          refine ev_loc f_J6_bitCount_0f7a4 (nx := 48) (lo' := [(0, .int z33)]) rfl rfl rfl rfl ?_
          refine ev_loc f_J6_bitCount_0f7a4 (nx := 49) rfl rfl rfl rfl ?_
          refine ev_bp f_J6_bitCount_0f7a4 (nx := 51) (v := 63) rfl (by decide) rfl ?_
          refine ev_andR f_J6_bitCount_0f7a4 (nx := 52) (c := 63) rfl (by decide) (by decide) rfl (fun z34 l34 u34 => ?_)
          refine ev_retK1 f_J6_bitCount_0f7a4 rfl rfl rfl ?_
          refine ev_loc f_X11_away (nx := 50) rfl rfl rfl rfl ?_
          refine ev_if f_X11_away (t1 := 53) (t2 := 83) rfl rfl rfl (fun h35 => ?_) (fun h35 => ?_)
          · have u36 : z34.toInt ≤ 6 := t_equ h35 u12
            refine ev_loc f_X11_away (nx := 54) rfl rfl rfl rfl ?_
            refine ev_getR f_X11_away (nx := 57) rfl (hI.wf.s rfl) rfl rfl (hI.wf.r rfl) rfl rfl ?_
            refine ev_loc f_X11_away (nx := 58) rfl rfl rfl rfl ?_
            refine ev_getR f_X11_away (nx := 61) (v := .ref a1) rfl (hI.wf.s rfl) rfl rfl c13_3 rfl rfl ?_
            refine ev_loc f_X11_away (nx := 62) rfl rfl rfl rfl ?_
            refine ev_ic f_X11_away (nx := 63) (v := -1) rfl (by decide) rfl ?_
            refine ev_ic f_X11_away (nx := 64) (v := 0) rfl (by decide) rfl ?_
            refine ev_c0 f_X11_away (nx := 67) (r := []) rfl rfl rfl rfl rfl rfl rfl (c_takeShips hI (a1) p1 (y13_2) ((-1)) (0)) rfl hX rfl (fun gi37 gl37 gr37 hI hX hC37 => ?_)
            replace p1 := p1.ext hC37.2
            replace p7 := p7.ext hC37.2
            refine ev_loc f_X11_away (nx := 68) rfl rfl rfl rfl ?_
            refine ev_getR f_X11_away (nx := 71) rfl (hI.wf.s rfl) rfl rfl (hI.wf.r rfl) rfl rfl ?_
            refine ev_inV1 f_X11_away (nx := 74) (lo2 := [(0, .ref 28)]) rfl rfl rfl rfl f_X1_allCanPass (hI.wf.s rfl) rfl rfl rfl rfl rfl ?_
            refine ev_loc f_X1_allCanPass (nx := 1) rfl rfl rfl rfl ?_
            refine ev_ic f_X1_allCanPass (nx := 2) (v := 0) rfl (by decide) rfl ?_
            refine ev_ic f_X1_allCanPass (nx := 3) (v := 0) rfl (by decide) rfl ?_
            refine ev_ic f_X1_allCanPass (nx := 4) (v := 0) rfl (by decide) rfl ?_
            refine ev_ic f_X1_allCanPass (nx := 5) (v := 0) rfl (by decide) rfl ?_
            refine ev_ldI f_X1_allCanPass (nx := 7) (v := 999999999) rfl (by decide) rfl ?_
            refine ev_cI f_X1_allCanPass (nx := 10) (r := []) rfl rfl rfl rfl rfl rfl rfl (c_canEndWithin hI (0) (0) (by decide : (0:Int) ≤ (0:Int32).toInt) (Int.le_trans (by decide : (0:Int32).toInt ≤ (0:Int)) (by decide : (0:Int) ≤ 1)) (0) (by decide : (0:Int) ≤ (0:Int32).toInt) (Int.le_trans (by decide : (0:Int32).toInt ≤ (0:Int)) (by decide : (0:Int) ≤ 6)) (0) (by decide : (0:Int) ≤ (0:Int32).toInt) (Int.le_trans (by decide : (0:Int32).toInt ≤ (0:Int)) (by decide : (0:Int) ≤ 6)) (999999999)) rfl hX rfl (fun w38 gi38 gl38 gr38 l38 u38 hI hX hC38 => ?_)
            replace p1 := p1.ext hC38.2
            replace p7 := p7.ext hC38.2
            refine ev_retK1 f_X1_allCanPass rfl rfl (t_rz l38 u38) ?_
            refine ev_if f_X11_away (t1 := 83) (t2 := 77) rfl rfl rfl (fun h39 => ?_) (fun h39 => ?_)
            · have u40 : w38.toInt ≤ 0 := t_equ h39 (by decide : (0:Int32).toInt ≤ (0:Int))
              refine ev_incR f_X11_away (nx := 86) (c := 1) (l := 1) (u := 64) rfl rfl (by decide) (by decide) l13_2 u19 rfl rfl (by decide) (by decide) rfl (fun z41 e41 l41 u41 => ?_)
              refine ev_jmp f_X11_away (nx := 29) rfl rfl rfl ?_
              refine ev_sub (lo := [(2, .int z41), (1, .int y6_1), (0, .ref 0)]) rfl (t_sc rfl (t_sc rfl (t_sc rfl t_sn))) ?_
              exact ih13 _ (by omega) gi38 gl38 gr38 (z41) hI hX p1 p7 (Int.le_trans (by decide : (0:Int) ≤ 1) l41) u41 ((hC38.1 a1 3 (t_ninO hI.wf p1.1 (t_outO hI.wf p1.1 rfl) rfl)).1.trans ((hC37.1 a1 3 (t_ninO hI.wf p1.1 (t_outO hI.wf p1.1 rfl) rfl)).1.trans c13_0)) ((hC38.1 28 1 rfl).1.trans ((hC37.1 28 1 rfl).1.trans c13_1)) ((hC38.1 a1 7 (t_ninO hI.wf p1.1 (t_outO hI.wf p1.1 rfl) rfl)).2.2.trans ((hC37.1 a1 7 (t_ninO hI.wf p1.1 (t_outO hI.wf p1.1 rfl) rfl)).2.2.trans c13_2)) ((hC38.1 0 6 rfl).2.2.trans ((hC37.1 0 6 rfl).2.2.trans c13_3)) ((hC38.1 28 0 rfl).2.2.trans ((hC37.1 28 0 rfl).2.2.trans c13_4)) rfl
            · have l42 : 1 ≤ w38.toInt := t_nel h39 l38 rfl rfl
              refine ev_loc f_X11_away (nx := 78) rfl rfl rfl rfl ?_
              refine ev_loc f_X11_away (nx := 79) rfl rfl rfl rfl ?_
              refine ev_inV2 f_X11_away (nx := 82) (lo2 := [(0, .ref 0), (1, .int y13_2)]) rfl rfl rfl rfl f_X11_answer (hI.wf.s rfl) rfl rfl rfl rfl rfl ?_
              refine ev_loc f_X11_answer (nx := 1) rfl rfl rfl rfl ?_
              refine ev_ic f_X11_answer (nx := 2) (v := 0) rfl (by decide) rfl ?_
              refine ev_putIT f_X11_answer (nx := 5) rfl (hI.wf.s rfl) rfl rfl rfl (hI.put0 (hI.wf.s rfl) rfl rfl) (hX.upI rfl) (fun g43 e43 hI hX => ?_)
              refine ev_loc f_X11_answer (nx := 6) rfl rfl rfl rfl ?_
              refine ev_retK1 f_X11_answer rfl rfl rfl ?_
              exact ev_ret f_X11_away rfl rfl rfl ⟨_, _, _, rfl, hI, hX, ⟨_, rfl, (Int.le_trans (by decide : ((-1):Int) ≤ 0) l13_2), u19⟩⟩
          · refine ev_incR f_X11_away (nx := 86) (c := 1) (l := 1) (u := 64) rfl rfl (by decide) (by decide) l13_2 u19 rfl rfl (by decide) (by decide) rfl (fun z44 e44 l44 u44 => ?_)
            refine ev_jmp f_X11_away (nx := 29) rfl rfl rfl ?_
            refine ev_sub (lo := [(2, .int z44), (1, .int y6_1), (0, .ref 0)]) rfl (t_sc rfl (t_sc rfl (t_sc rfl t_sn))) ?_
            exact ih13 _ (by omega) gi13 gl13 gr13 (z44) hI hX p1 p7 (Int.le_trans (by decide : (0:Int) ≤ 1) l44) u44 c13_0 c13_1 c13_2 c13_3 c13_4 rfl
      refine ev_sub (lo := [(2, .int 0), (1, .int y6_1), (0, .ref 0)]) rfl (t_sc rfl (t_sc rfl (t_sc rfl t_sn))) ?_
      exact L13 _ gi6 gl6 gr6 (0) hI hX p1 p7 (by decide : (0:Int) ≤ (0:Int32).toInt) (Int.le_trans (by decide : (0:Int32).toInt ≤ (0:Int)) (by decide : (0:Int) ≤ 64)) c6_0 c6_1 e7 c6_2 c6_3 rfl
  refine ev_sub (lo := [(1, .int 0), (0, .ref 0)]) rfl (t_sc rfl (t_sc rfl t_sn)) ?_
  exact L6 _ gi5 gl5 gr5 (0) hI hX p1 (by decide : (0:Int) ≤ (0:Int32).toInt) (Int.le_trans (by decide : (0:Int32).toInt ≤ (0:Int)) (by decide : (0:Int) ≤ 7)) ((hC5.1 a1 3 (t_ninO hI.wf p1.1 (t_outO hI.wf p1.1 rfl) rfl)).1.trans ((hC4.1 a1 3 (t_ninO hI.wf p1.1 (t_outO hI.wf p1.1 rfl) rfl)).1.trans ((by rw [e3]; exact x_up2_off (Or.inr (by decide)) : g3 a1 3 = gi a1 3).trans rfl))) ((hC5.1 28 1 rfl).1.trans ((hC4.1 28 1 rfl).1.trans (by rw [e3]; exact x_up2_at _ _ _ _ : g3 28 1 = (gi a1 3)))) ((hC5.1 0 6 rfl).2.2.trans ((hC4.1 0 6 rfl).2.2.trans ((by rw [e2]; exact x_up2_off (Or.inr (by decide)) : g2 0 6 = gr 0 6).trans e1))) ((hC5.1 28 0 rfl).2.2.trans ((hC4.1 28 0 rfl).2.2.trans (by rw [e2]; exact x_up2_at _ _ _ _ : g2 28 0 = .ref a1))) rfl
noncomputable def wl_h_later : List (Nat × Nat) := [(0, 0), (28, 0), (28, 1), (28, 4), (28, 5), (29, 0), (30, 9999), (31, 9999), (32, 9999), (33, 9999), (34, 9999), (35, 0), (36, 9999), (37, 9999), (38, 9999), (39, 9999), (40, 9999)]
theorem c_h_later {X : x_Ext} {d : Nat} {sh : List (Nat ⊕ (Nat × Nat))} {gi : Nat → Nat → Int32} {gl : Nat → Nat → Int64} {gr : Nat → Nat → Value} (hI : t_I sh gi gr) (ar1 : Int32) (ar2 : Int32) : x_Me X (d + 18) n_X11_later [.ref 0, .int ar1, .int ar2] (sh, gi, gl, gr) (t_P wl_h_later sh gi gl gr (t_Ri (-2147483648) 999999999)) := by
  have hX : t_X wl_h_later sh gi gl gr gi gl gr := t_X.rf
  refine me_i f_X11_later (hI.wf.s rfl) rfl rfl rfl ?_
  refine ev_loc f_X11_later (nx := 1) rfl rfl rfl rfl ?_
  refine ev_loc f_X11_later (nx := 2) rfl rfl rfl rfl ?_
  refine ev_inV2 f_X11_later (nx := 5) (lo2 := [(0, .ref 0), (1, .int ar1)]) rfl rfl rfl rfl f_X11_isShip (hI.wf.s rfl) rfl rfl rfl rfl rfl ?_
  refine ev_loc f_X11_isShip (nx := 1) rfl rfl rfl rfl ?_
  refine ev_if f_X11_isShip (t1 := 22) (t2 := 4) rfl rfl rfl (fun h1 => ?_) (fun h1 => ?_)
  · have u2 : ar1.toInt ≤ (-1) := t_ltu h1 (by decide : (0:Int32).toInt ≤ (0:Int)) rfl
    refine ev_ic f_X11_isShip (nx := 23) (v := 0) rfl (by decide) rfl ?_
    refine ev_retK1 f_X11_isShip rfl rfl rfl ?_
    refine ev_t f_X11_later (t1 := 18) (t2 := 8) rfl rfl rfl (by decide) ?_
    refine ev_loc f_X11_later (nx := 19) rfl rfl rfl rfl ?_
    refine ev_ic f_X11_later (nx := 20) (v := 1) rfl (by decide) rfl ?_
    refine ev_inV2 f_X11_later (nx := 23) (lo2 := [(0, .ref 0), (1, .int 1)]) rfl rfl rfl rfl f_X11_refuse (hI.wf.s rfl) rfl rfl rfl rfl rfl ?_
    refine ev_loc f_X11_refuse (nx := 1) rfl rfl rfl rfl ?_
    refine ev_loc f_X11_refuse (nx := 2) rfl rfl rfl rfl ?_
    refine ev_putIT f_X11_refuse (nx := 5) rfl (hI.wf.s rfl) rfl rfl rfl (hI.put0 (hI.wf.s rfl) rfl rfl) (hX.upI rfl) (fun g3 e3 hI hX => ?_)
    refine ev_ic f_X11_refuse (nx := 6) (v := -1) rfl (by decide) rfl ?_
    refine ev_retK1 f_X11_refuse rfl rfl rfl ?_
    exact ev_ret f_X11_later rfl rfl rfl ⟨_, _, _, rfl, hI, hX, ⟨_, rfl, (Int.le_trans (by decide : ((-2147483648):Int) ≤ (-1)) (by decide : ((-1):Int) ≤ ((-1):Int32).toInt)), (Int.le_trans (by decide : ((-1):Int32).toInt ≤ ((-1):Int)) (by decide : ((-1):Int) ≤ 999999999))⟩⟩
  · have l4 : 0 ≤ ar1.toInt := t_lel (t_nlt h1) (by decide : (0:Int) ≤ (0:Int32).toInt)
    refine ev_loc f_X11_isShip (nx := 5) rfl rfl rfl rfl ?_
    refine ev_loc f_X11_isShip (nx := 6) rfl rfl rfl rfl ?_
    obtain ⟨a5, e5, p5⟩ := hI.2.2.2.1.1
    refine ev_getR f_X11_isShip (nx := 9) rfl (hI.wf.s rfl) rfl rfl e5 rfl rfl ?_
    obtain ⟨a6, e6, p6⟩ := p5.2.2.2.2.1
    refine ev_getR f_X11_isShip (nx := 12) rfl p5.1 rfl rfl e6 rfl rfl ?_
    refine ev_getI f_X11_isShip (nx := 15) rfl p6.1 rfl rfl rfl ?_
    obtain ⟨l7, u7⟩ := hI.b p6.1 (t_bdK rfl : t_bd 3 0 = some (0, 6))
    refine ev_if f_X11_isShip (t1 := 22) (t2 := 18) rfl rfl rfl (fun h8 => ?_) (fun h8 => ?_)
    · refine ev_ic f_X11_isShip (nx := 23) (v := 0) rfl (by decide) rfl ?_
      refine ev_retK1 f_X11_isShip rfl rfl rfl ?_
      refine ev_t f_X11_later (t1 := 18) (t2 := 8) rfl rfl rfl (by decide) ?_
      refine ev_loc f_X11_later (nx := 19) rfl rfl rfl rfl ?_
      refine ev_ic f_X11_later (nx := 20) (v := 1) rfl (by decide) rfl ?_
      refine ev_inV2 f_X11_later (nx := 23) (lo2 := [(0, .ref 0), (1, .int 1)]) rfl rfl rfl rfl f_X11_refuse (hI.wf.s rfl) rfl rfl rfl rfl rfl ?_
      refine ev_loc f_X11_refuse (nx := 1) rfl rfl rfl rfl ?_
      refine ev_loc f_X11_refuse (nx := 2) rfl rfl rfl rfl ?_
      refine ev_putIT f_X11_refuse (nx := 5) rfl (hI.wf.s rfl) rfl rfl rfl (hI.put0 (hI.wf.s rfl) rfl rfl) (hX.upI rfl) (fun g9 e9 hI hX => ?_)
      refine ev_ic f_X11_refuse (nx := 6) (v := -1) rfl (by decide) rfl ?_
      refine ev_retK1 f_X11_refuse rfl rfl rfl ?_
      exact ev_ret f_X11_later rfl rfl rfl ⟨_, _, _, rfl, hI, hX, ⟨_, rfl, (Int.le_trans (by decide : ((-2147483648):Int) ≤ (-1)) (by decide : ((-1):Int) ≤ ((-1):Int32).toInt)), (Int.le_trans (by decide : ((-1):Int32).toInt ≤ ((-1):Int)) (by decide : ((-1):Int) ≤ 999999999))⟩⟩
    · have u10 : ar1.toInt ≤ 5 := t_ltu (t_nle h8) u7 rfl
      have l11 : 1 ≤ (gi a6 0).toInt := t_ltl (t_nle h8) l4 rfl
      refine ev_ic f_X11_isShip (nx := 19) (v := 1) rfl (by decide) rfl ?_
      refine ev_jmp f_X11_isShip (nx := 23) rfl rfl rfl ?_
      refine ev_retK1 f_X11_isShip rfl rfl rfl ?_
      refine ev_f f_X11_later (t1 := 18) (t2 := 8) rfl rfl rfl (by decide) ?_
      refine ev_loc f_X11_later (nx := 9) rfl rfl rfl rfl ?_
      refine ev_if f_X11_later (t1 := 18) (t2 := 12) rfl rfl rfl (fun h12 => ?_) (fun h12 => ?_)
      · have u13 : ar2.toInt ≤ (-1) := t_ltu h12 (by decide : (0:Int32).toInt ≤ (0:Int)) rfl
        refine ev_loc f_X11_later (nx := 19) rfl rfl rfl rfl ?_
        refine ev_ic f_X11_later (nx := 20) (v := 1) rfl (by decide) rfl ?_
        refine ev_inV2 f_X11_later (nx := 23) (lo2 := [(0, .ref 0), (1, .int 1)]) rfl rfl rfl rfl f_X11_refuse (hI.wf.s rfl) rfl rfl rfl rfl rfl ?_
        refine ev_loc f_X11_refuse (nx := 1) rfl rfl rfl rfl ?_
        refine ev_loc f_X11_refuse (nx := 2) rfl rfl rfl rfl ?_
        refine ev_putIT f_X11_refuse (nx := 5) rfl (hI.wf.s rfl) rfl rfl rfl (hI.put0 (hI.wf.s rfl) rfl rfl) (hX.upI rfl) (fun g14 e14 hI hX => ?_)
        refine ev_ic f_X11_refuse (nx := 6) (v := -1) rfl (by decide) rfl ?_
        refine ev_retK1 f_X11_refuse rfl rfl rfl ?_
        exact ev_ret f_X11_later rfl rfl rfl ⟨_, _, _, rfl, hI, hX, ⟨_, rfl, (Int.le_trans (by decide : ((-2147483648):Int) ≤ (-1)) (by decide : ((-1):Int) ≤ ((-1):Int32).toInt)), (Int.le_trans (by decide : ((-1):Int32).toInt ≤ ((-1):Int)) (by decide : ((-1):Int) ≤ 999999999))⟩⟩
      · have l15 : 0 ≤ ar2.toInt := t_lel (t_nlt h12) (by decide : (0:Int) ≤ (0:Int32).toInt)
        refine ev_loc f_X11_later (nx := 13) rfl rfl rfl rfl ?_
        refine ev_bp f_X11_later (nx := 15) (v := 60) rfl (by decide) rfl ?_
        refine ev_if f_X11_later (t1 := 24) (t2 := 18) rfl rfl rfl (fun h16 => ?_) (fun h16 => ?_)
        · have u17 : ar2.toInt ≤ 60 := t_leu h16 (by decide : (60:Int32).toInt ≤ (60:Int))
          refine ev_loc f_X11_later (nx := 25) rfl rfl rfl rfl ?_
          refine ev_getR f_X11_later (nx := 28) rfl (hI.wf.s rfl) rfl rfl (hI.wf.r rfl) rfl rfl ?_
          refine ev_loc f_X11_later (nx := 29) rfl rfl rfl rfl ?_
          refine ev_getR f_X11_later (nx := 32) (v := .ref a5) rfl (hI.wf.s rfl) rfl rfl e5 rfl rfl ?_
          refine ev_inV2 f_X11_later (nx := 35) (lo2 := [(0, .ref 28), (1, .ref a5)]) rfl rfl rfl rfl f_X1_takeAll (hI.wf.s rfl) rfl rfl rfl rfl rfl ?_
          refine ev_loc f_X1_takeAll (nx := 1) rfl rfl rfl rfl ?_
          refine ev_loc f_X1_takeAll (nx := 2) rfl rfl rfl rfl ?_
          have hE18 := t_eqf_up (gr := gr) (j := 0) (v := .ref a5) (hI.wf.s (k := 28) rfl) rfl
          have hT18 := t_cross hI p5
          replace p5 := p5.ext hE18
          replace p6 := p6.ext hE18
          refine ev_putRT f_X1_takeAll (nx := 5) rfl (hI.wf.s rfl) rfl rfl rfl rfl hT18 (hX.upR rfl hE18) (fun g18 e18 hI hX => ?_)
          rw [← e18] at p5
          rw [← e18] at p6
          refine ev_loc f_X1_takeAll (nx := 6) rfl rfl rfl rfl ?_
          refine ev_loc f_X1_takeAll (nx := 7) rfl rfl rfl rfl ?_
          refine ev_getI f_X1_takeAll (nx := 10) rfl p5.1 rfl rfl rfl ?_
          refine ev_putIT f_X1_takeAll (nx := 13) rfl (hI.wf.s rfl) rfl rfl rfl (hI.put0 (hI.wf.s rfl) rfl rfl) (hX.upI rfl) (fun g19 e19 hI hX => ?_)
          refine ev_loc f_X1_takeAll (nx := 14) rfl rfl rfl rfl ?_
          refine ev_loc f_X1_takeAll (nx := 15) rfl rfl rfl rfl ?_
          refine ev_ic f_X1_takeAll (nx := 16) (v := 0) rfl (by decide) rfl ?_
          refine ev_ic f_X1_takeAll (nx := 17) (v := -1) rfl (by decide) rfl ?_
          refine ev_ic f_X1_takeAll (nx := 18) (v := 0) rfl (by decide) rfl ?_
          refine ev_c0 f_X1_takeAll (nx := 21) (r := []) rfl rfl rfl rfl rfl rfl rfl (c_takeShips hI (a5) p5 (0) ((-1)) (0)) rfl hX rfl (fun gi20 gl20 gr20 hI hX hC20 => ?_)
          replace p5 := p5.ext hC20.2
          replace p6 := p6.ext hC20.2
          refine ev_loc f_X1_takeAll (nx := 22) rfl rfl rfl rfl ?_
          refine ev_loc f_X1_takeAll (nx := 23) rfl rfl rfl rfl ?_
          refine ev_ic f_X1_takeAll (nx := 24) (v := -1) rfl (by decide) rfl ?_
          refine ev_c0 f_X1_takeAll (nx := 27) (r := []) rfl rfl rfl rfl rfl rfl rfl (c_takeCarts hI (a5) p5 ((-1))) rfl hX rfl (fun gi21 gl21 gr21 hI hX hC21 => ?_)
          replace p5 := p5.ext hC21.2
          replace p6 := p6.ext hC21.2
          refine ev_retK0 f_X1_takeAll rfl rfl rfl ?_
          refine ev_loc f_X11_later (nx := 36) rfl rfl rfl rfl ?_
          refine ev_getR f_X11_later (nx := 39) rfl (hI.wf.s rfl) rfl rfl (hI.wf.r rfl) rfl rfl ?_
          refine ev_loc f_X11_later (nx := 40) rfl rfl rfl rfl ?_
          refine ev_getR f_X11_later (nx := 43) (v := .ref a5) rfl (hI.wf.s rfl) rfl rfl ((hC21.1 0 6 rfl).2.2.trans ((hC20.1 0 6 rfl).2.2.trans ((by rw [e18]; exact x_up2_off (Or.inr (by decide)) : g18 0 6 = gr 0 6).trans e5))) rfl rfl ?_
          refine ev_ic f_X11_later (nx := 44) (v := 0) rfl (by decide) rfl ?_
          refine ev_loc f_X11_later (nx := 45) rfl rfl rfl rfl ?_
          refine ev_loc f_X11_later (nx := 46) rfl rfl rfl rfl ?_
          refine ev_c0 f_X11_later (nx := 49) (r := []) rfl rfl rfl rfl rfl rfl rfl (c_takeShips hI (a5) p5 (0) (ar1) (ar2)) rfl hX rfl (fun gi22 gl22 gr22 hI hX hC22 => ?_)
          replace p5 := p5.ext hC22.2
          replace p6 := p6.ext hC22.2
          refine ev_loc f_X11_later (nx := 50) rfl rfl rfl rfl ?_
          refine ev_loc f_X11_later (nx := 51) rfl rfl rfl rfl ?_
          refine ev_getR f_X11_later (nx := 54) rfl (hI.wf.s rfl) rfl rfl (hI.wf.r rfl) rfl rfl ?_
          refine ev_cI f_X11_later (nx := 57) (r := [.ref 0]) rfl rfl rfl rfl rfl rfl rfl (c_leastWaits hI ) rfl hX rfl (fun w23 gi23 gl23 gr23 l23 u23 hI hX hC23 => ?_)
          replace p5 := p5.ext hC23.2
          replace p6 := p6.ext hC23.2
          refine ev_inV2 f_X11_later (nx := 60) (lo2 := [(0, .ref 0), (1, .int w23)]) rfl rfl rfl rfl f_X11_answerWaits (hI.wf.s rfl) rfl rfl rfl rfl rfl ?_
          refine ev_loc f_X11_answerWaits (nx := 1) rfl rfl rfl rfl ?_
          refine ev_ldW f_X11_answerWaits (nx := 4) (v := 1000000000) rfl (by decide) rfl ?_
          refine ev_if f_X11_answerWaits (t1 := 16) (t2 := 7) rfl rfl rfl (fun h24 => ?_) (fun h24 => ?_)
          · have u25 : w23.toInt ≤ 999999999 := t_ltu h24 (by decide : (1000000000:Int32).toInt ≤ (1000000000:Int)) rfl
            refine ev_loc f_X11_answerWaits (nx := 17) rfl rfl rfl rfl ?_
            refine ev_loc f_X11_answerWaits (nx := 18) rfl rfl rfl rfl ?_
            refine ev_inV2 f_X11_answerWaits (nx := 21) (lo2 := [(0, .ref 0), (1, .int w23)]) rfl rfl rfl rfl f_X11_answer (hI.wf.s rfl) rfl rfl rfl rfl rfl ?_
            refine ev_loc f_X11_answer (nx := 1) rfl rfl rfl rfl ?_
            refine ev_ic f_X11_answer (nx := 2) (v := 0) rfl (by decide) rfl ?_
            refine ev_putIT f_X11_answer (nx := 5) rfl (hI.wf.s rfl) rfl rfl rfl (hI.put0 (hI.wf.s rfl) rfl rfl) (hX.upI rfl) (fun g26 e26 hI hX => ?_)
            refine ev_loc f_X11_answer (nx := 6) rfl rfl rfl rfl ?_
            refine ev_retK1 f_X11_answer rfl rfl rfl ?_
            refine ev_retK1 f_X11_answerWaits rfl rfl rfl ?_
            exact ev_ret f_X11_later rfl rfl rfl ⟨_, _, _, rfl, hI, hX, ⟨_, rfl, l23, u25⟩⟩
          · have l27 : 1000000000 ≤ w23.toInt := t_lel (t_nlt h24) (by decide : (1000000000:Int) ≤ (1000000000:Int32).toInt)
            refine ev_loc f_X11_answerWaits (nx := 8) rfl rfl rfl rfl ?_
            refine ev_bp f_X11_answerWaits (nx := 10) (v := 6) rfl (by decide) rfl ?_
            refine ev_inV2 f_X11_answerWaits (nx := 13) (lo2 := [(0, .ref 0), (1, .int 6)]) rfl rfl rfl rfl f_X11_refuse (hI.wf.s rfl) rfl rfl rfl rfl rfl ?_
            refine ev_loc f_X11_refuse (nx := 1) rfl rfl rfl rfl ?_
            refine ev_loc f_X11_refuse (nx := 2) rfl rfl rfl rfl ?_
            refine ev_putIT f_X11_refuse (nx := 5) rfl (hI.wf.s rfl) rfl rfl rfl (hI.put0 (hI.wf.s rfl) rfl rfl) (hX.upI rfl) (fun g28 e28 hI hX => ?_)
            refine ev_ic f_X11_refuse (nx := 6) (v := -1) rfl (by decide) rfl ?_
            refine ev_retK1 f_X11_refuse rfl rfl rfl ?_
            refine ev_jmp f_X11_answerWaits (nx := 21) rfl rfl rfl ?_
            refine ev_retK1 f_X11_answerWaits rfl rfl rfl ?_
            exact ev_ret f_X11_later rfl rfl rfl ⟨_, _, _, rfl, hI, hX, ⟨_, rfl, (Int.le_trans (by decide : ((-2147483648):Int) ≤ (-1)) (by decide : ((-1):Int) ≤ ((-1):Int32).toInt)), (Int.le_trans (by decide : ((-1):Int32).toInt ≤ ((-1):Int)) (by decide : ((-1):Int) ≤ 999999999))⟩⟩
        · have l29 : 61 ≤ ar2.toInt := t_ltl (t_nle h16) (by decide : (60:Int) ≤ (60:Int32).toInt) rfl
          refine ev_loc f_X11_later (nx := 19) rfl rfl rfl rfl ?_
          refine ev_ic f_X11_later (nx := 20) (v := 1) rfl (by decide) rfl ?_
          refine ev_inV2 f_X11_later (nx := 23) (lo2 := [(0, .ref 0), (1, .int 1)]) rfl rfl rfl rfl f_X11_refuse (hI.wf.s rfl) rfl rfl rfl rfl rfl ?_
          refine ev_loc f_X11_refuse (nx := 1) rfl rfl rfl rfl ?_
          refine ev_loc f_X11_refuse (nx := 2) rfl rfl rfl rfl ?_
          refine ev_putIT f_X11_refuse (nx := 5) rfl (hI.wf.s rfl) rfl rfl rfl (hI.put0 (hI.wf.s rfl) rfl rfl) (hX.upI rfl) (fun g30 e30 hI hX => ?_)
          refine ev_ic f_X11_refuse (nx := 6) (v := -1) rfl (by decide) rfl ?_
          refine ev_retK1 f_X11_refuse rfl rfl rfl ?_
          exact ev_ret f_X11_later rfl rfl rfl ⟨_, _, _, rfl, hI, hX, ⟨_, rfl, (Int.le_trans (by decide : ((-2147483648):Int) ≤ (-1)) (by decide : ((-1):Int) ≤ ((-1):Int32).toInt)), (Int.le_trans (by decide : ((-1):Int32).toInt ≤ ((-1):Int)) (by decide : ((-1):Int) ≤ 999999999))⟩⟩
noncomputable def wl_h_slack : List (Nat × Nat) := [(0, 0), (28, 0), (28, 1), (28, 4), (28, 5), (29, 0), (30, 9999), (31, 9999), (32, 9999), (33, 9999), (34, 9999), (35, 0), (36, 9999), (37, 9999), (38, 9999), (39, 9999), (40, 9999)]
theorem c_h_slack {X : x_Ext} {d : Nat} {sh : List (Nat ⊕ (Nat × Nat))} {gi : Nat → Nat → Int32} {gl : Nat → Nat → Int64} {gr : Nat → Nat → Value} (hI : t_I sh gi gr) (ar1 : Int32) : x_Me X (d + 19) n_X11_slack [.ref 0, .int ar1] (sh, gi, gl, gr) (t_P wl_h_slack sh gi gl gr (t_Ri (-1) 60)) := by
  have hX : t_X wl_h_slack sh gi gl gr gi gl gr := t_X.rf
  refine me_i f_X11_slack (hI.wf.s rfl) rfl rfl rfl ?_
  refine ev_loc f_X11_slack (nx := 1) rfl rfl rfl rfl ?_
  refine ev_loc f_X11_slack (nx := 2) rfl rfl rfl rfl ?_
  refine ev_inV2 f_X11_slack (nx := 5) (lo2 := [(0, .ref 0), (1, .int ar1)]) rfl rfl rfl rfl f_X11_isShip (hI.wf.s rfl) rfl rfl rfl rfl rfl ?_
  refine ev_loc f_X11_isShip (nx := 1) rfl rfl rfl rfl ?_
  refine ev_if f_X11_isShip (t1 := 22) (t2 := 4) rfl rfl rfl (fun h1 => ?_) (fun h1 => ?_)
  · have u2 : ar1.toInt ≤ (-1) := t_ltu h1 (by decide : (0:Int32).toInt ≤ (0:Int)) rfl
    refine ev_ic f_X11_isShip (nx := 23) (v := 0) rfl (by decide) rfl ?_
    refine ev_retK1 f_X11_isShip rfl rfl rfl ?_
    refine ev_t f_X11_slack (t1 := 8) (t2 := 14) rfl rfl rfl (by decide) ?_
    refine ev_loc f_X11_slack (nx := 9) rfl rfl rfl rfl ?_
    refine ev_ic f_X11_slack (nx := 10) (v := 1) rfl (by decide) rfl ?_
    refine ev_inV2 f_X11_slack (nx := 13) (lo2 := [(0, .ref 0), (1, .int 1)]) rfl rfl rfl rfl f_X11_refuse (hI.wf.s rfl) rfl rfl rfl rfl rfl ?_
    refine ev_loc f_X11_refuse (nx := 1) rfl rfl rfl rfl ?_
    refine ev_loc f_X11_refuse (nx := 2) rfl rfl rfl rfl ?_
    refine ev_putIT f_X11_refuse (nx := 5) rfl (hI.wf.s rfl) rfl rfl rfl (hI.put0 (hI.wf.s rfl) rfl rfl) (hX.upI rfl) (fun g3 e3 hI hX => ?_)
    refine ev_ic f_X11_refuse (nx := 6) (v := -1) rfl (by decide) rfl ?_
    refine ev_retK1 f_X11_refuse rfl rfl rfl ?_
    exact ev_ret f_X11_slack rfl rfl rfl ⟨_, _, _, rfl, hI, hX, ⟨_, rfl, (by decide : ((-1):Int) ≤ ((-1):Int32).toInt), (Int.le_trans (by decide : ((-1):Int32).toInt ≤ ((-1):Int)) (by decide : ((-1):Int) ≤ 60))⟩⟩
  · have l4 : 0 ≤ ar1.toInt := t_lel (t_nlt h1) (by decide : (0:Int) ≤ (0:Int32).toInt)
    refine ev_loc f_X11_isShip (nx := 5) rfl rfl rfl rfl ?_
    refine ev_loc f_X11_isShip (nx := 6) rfl rfl rfl rfl ?_
    obtain ⟨a5, e5, p5⟩ := hI.2.2.2.1.1
    refine ev_getR f_X11_isShip (nx := 9) rfl (hI.wf.s rfl) rfl rfl e5 rfl rfl ?_
    obtain ⟨a6, e6, p6⟩ := p5.2.2.2.2.1
    refine ev_getR f_X11_isShip (nx := 12) rfl p5.1 rfl rfl e6 rfl rfl ?_
    refine ev_getI f_X11_isShip (nx := 15) rfl p6.1 rfl rfl rfl ?_
    obtain ⟨l7, u7⟩ := hI.b p6.1 (t_bdK rfl : t_bd 3 0 = some (0, 6))
    refine ev_if f_X11_isShip (t1 := 22) (t2 := 18) rfl rfl rfl (fun h8 => ?_) (fun h8 => ?_)
    · refine ev_ic f_X11_isShip (nx := 23) (v := 0) rfl (by decide) rfl ?_
      refine ev_retK1 f_X11_isShip rfl rfl rfl ?_
      refine ev_t f_X11_slack (t1 := 8) (t2 := 14) rfl rfl rfl (by decide) ?_
      refine ev_loc f_X11_slack (nx := 9) rfl rfl rfl rfl ?_
      refine ev_ic f_X11_slack (nx := 10) (v := 1) rfl (by decide) rfl ?_
      refine ev_inV2 f_X11_slack (nx := 13) (lo2 := [(0, .ref 0), (1, .int 1)]) rfl rfl rfl rfl f_X11_refuse (hI.wf.s rfl) rfl rfl rfl rfl rfl ?_
      refine ev_loc f_X11_refuse (nx := 1) rfl rfl rfl rfl ?_
      refine ev_loc f_X11_refuse (nx := 2) rfl rfl rfl rfl ?_
      refine ev_putIT f_X11_refuse (nx := 5) rfl (hI.wf.s rfl) rfl rfl rfl (hI.put0 (hI.wf.s rfl) rfl rfl) (hX.upI rfl) (fun g9 e9 hI hX => ?_)
      refine ev_ic f_X11_refuse (nx := 6) (v := -1) rfl (by decide) rfl ?_
      refine ev_retK1 f_X11_refuse rfl rfl rfl ?_
      exact ev_ret f_X11_slack rfl rfl rfl ⟨_, _, _, rfl, hI, hX, ⟨_, rfl, (by decide : ((-1):Int) ≤ ((-1):Int32).toInt), (Int.le_trans (by decide : ((-1):Int32).toInt ≤ ((-1):Int)) (by decide : ((-1):Int) ≤ 60))⟩⟩
    · have u10 : ar1.toInt ≤ 5 := t_ltu (t_nle h8) u7 rfl
      have l11 : 1 ≤ (gi a6 0).toInt := t_ltl (t_nle h8) l4 rfl
      refine ev_ic f_X11_isShip (nx := 19) (v := 1) rfl (by decide) rfl ?_
      refine ev_jmp f_X11_isShip (nx := 23) rfl rfl rfl ?_
      refine ev_retK1 f_X11_isShip rfl rfl rfl ?_
      refine ev_f f_X11_slack (t1 := 8) (t2 := 14) rfl rfl rfl (by decide) ?_
      refine ev_loc f_X11_slack (nx := 15) rfl rfl rfl rfl ?_
      refine ev_inV1 f_X11_slack (nx := 18) (lo2 := [(0, .ref 0)]) rfl rfl rfl rfl f_X11_leastAsTold (hI.wf.s rfl) rfl rfl rfl rfl rfl ?_
      refine ev_loc f_X11_leastAsTold (nx := 1) rfl rfl rfl rfl ?_
      refine ev_getR f_X11_leastAsTold (nx := 4) rfl (hI.wf.s rfl) rfl rfl (hI.wf.r rfl) rfl rfl ?_
      refine ev_loc f_X11_leastAsTold (nx := 5) rfl rfl rfl rfl ?_
      refine ev_getR f_X11_leastAsTold (nx := 8) (v := .ref a5) rfl (hI.wf.s rfl) rfl rfl e5 rfl rfl ?_
      refine ev_inV2 f_X11_leastAsTold (nx := 11) (lo2 := [(0, .ref 28), (1, .ref a5)]) rfl rfl rfl rfl f_X1_takeAll (hI.wf.s rfl) rfl rfl rfl rfl rfl ?_
      refine ev_loc f_X1_takeAll (nx := 1) rfl rfl rfl rfl ?_
      refine ev_loc f_X1_takeAll (nx := 2) rfl rfl rfl rfl ?_
      have hE12 := t_eqf_up (gr := gr) (j := 0) (v := .ref a5) (hI.wf.s (k := 28) rfl) rfl
      have hT12 := t_cross hI p5
      replace p5 := p5.ext hE12
      replace p6 := p6.ext hE12
      refine ev_putRT f_X1_takeAll (nx := 5) rfl (hI.wf.s rfl) rfl rfl rfl rfl hT12 (hX.upR rfl hE12) (fun g12 e12 hI hX => ?_)
      rw [← e12] at p5
      rw [← e12] at p6
      refine ev_loc f_X1_takeAll (nx := 6) rfl rfl rfl rfl ?_
      refine ev_loc f_X1_takeAll (nx := 7) rfl rfl rfl rfl ?_
      refine ev_getI f_X1_takeAll (nx := 10) rfl p5.1 rfl rfl rfl ?_
      refine ev_putIT f_X1_takeAll (nx := 13) rfl (hI.wf.s rfl) rfl rfl rfl (hI.put0 (hI.wf.s rfl) rfl rfl) (hX.upI rfl) (fun g13 e13 hI hX => ?_)
      refine ev_loc f_X1_takeAll (nx := 14) rfl rfl rfl rfl ?_
      refine ev_loc f_X1_takeAll (nx := 15) rfl rfl rfl rfl ?_
      refine ev_ic f_X1_takeAll (nx := 16) (v := 0) rfl (by decide) rfl ?_
      refine ev_ic f_X1_takeAll (nx := 17) (v := -1) rfl (by decide) rfl ?_
      refine ev_ic f_X1_takeAll (nx := 18) (v := 0) rfl (by decide) rfl ?_
      refine ev_c0 f_X1_takeAll (nx := 21) (r := []) rfl rfl rfl rfl rfl rfl rfl (c_takeShips hI (a5) p5 (0) ((-1)) (0)) rfl hX rfl (fun gi14 gl14 gr14 hI hX hC14 => ?_)
      replace p5 := p5.ext hC14.2
      replace p6 := p6.ext hC14.2
      refine ev_loc f_X1_takeAll (nx := 22) rfl rfl rfl rfl ?_
      refine ev_loc f_X1_takeAll (nx := 23) rfl rfl rfl rfl ?_
      refine ev_ic f_X1_takeAll (nx := 24) (v := -1) rfl (by decide) rfl ?_
      refine ev_c0 f_X1_takeAll (nx := 27) (r := []) rfl rfl rfl rfl rfl rfl rfl (c_takeCarts hI (a5) p5 ((-1))) rfl hX rfl (fun gi15 gl15 gr15 hI hX hC15 => ?_)
      replace p5 := p5.ext hC15.2
      replace p6 := p6.ext hC15.2
      refine ev_retK0 f_X1_takeAll rfl rfl rfl ?_
      refine ev_loc f_X11_leastAsTold (nx := 12) rfl rfl rfl rfl ?_
      refine ev_getR f_X11_leastAsTold (nx := 15) rfl (hI.wf.s rfl) rfl rfl (hI.wf.r rfl) rfl rfl ?_
      refine ev_cI f_X11_leastAsTold (nx := 18) (r := []) rfl rfl rfl rfl rfl rfl rfl (c_leastWaits hI ) rfl hX rfl (fun w16 gi16 gl16 gr16 l16 u16 hI hX hC16 => ?_)
      replace p5 := p5.ext hC16.2
      replace p6 := p6.ext hC16.2
      refine ev_retK1 f_X11_leastAsTold rfl rfl rfl ?_
      refine ev_loc f_X11_slack (nx := 19) (lo' := [(2, .int w16), (0, .ref 0), (1, .int ar1)]) rfl rfl rfl rfl ?_
      refine ev_loc f_X11_slack (nx := 20) rfl rfl rfl rfl ?_
      refine ev_ldW f_X11_slack (nx := 23) (v := 1000000000) rfl (by decide) rfl ?_
      refine ev_if f_X11_slack (t1 := 33) (t2 := 26) rfl rfl rfl (fun h17 => ?_) (fun h17 => ?_)
      · have u18 : w16.toInt ≤ 999999999 := t_ltu h17 (by decide : (1000000000:Int32).toInt ≤ (1000000000:Int)) rfl
        refine ev_bp f_X11_slack (nx := 35) (v := 60) rfl (by decide) rfl ?_
        refine ev_loc f_X11_slack (nx := 36) (lo' := [(3, .int 60), (2, .int w16), (0, .ref 0), (1, .int ar1)]) rfl rfl rfl rfl ?_
        have L19 : ∀ (m19 : Nat) (gi19 : Nat → Nat → Int32) (gl19 : Nat → Nat → Int64) (gr19 : Nat → Nat → Value) (y19_3 : Int32), t_I sh gi19 gr19 → t_X wl_h_slack sh gi gl gr gi19 gl19 gr19 → t_Rv sh gr19 a5 → t_Ln sh gr19 a6 → 0 ≤ y19_3.toInt → y19_3.toInt ≤ 60 → gi19 a5 3 = (gi a5 3) → gi19 28 1 = (gi a5 3) → gr19 a5 7 = .ref a6 → gr19 0 6 = .ref a5 → gr19 28 0 = .ref a5 → (y19_3.toInt - 0).toNat = m19 → x_Ev X (d + 19) n_X11_slack 36 [(3, .int y19_3), (2, .int w16), (0, .ref 0), (1, .int ar1)] [] (sh, gi19, gl19, gr19) (t_P wl_h_slack sh gi gl gr (t_Ri (-1) 60)) := by
          intro m19
          induction m19 using Nat.strongRecOn with
          | _ m19 ih19 =>
          intro gi19 gl19 gr19 y19_3 hI hX p5 p6 l19_3 u19_3 c19_0 c19_1 c19_2 c19_3 c19_4 hm19
          refine ev_loc f_X11_slack (nx := 37) rfl rfl rfl rfl ?_
          refine ev_if f_X11_slack (t1 := 77) (t2 := 40) rfl rfl rfl (fun h20 => ?_) (fun h20 => ?_)
          · have u21 : y19_3.toInt ≤ 0 := t_leu h20 (by decide : (0:Int32).toInt ≤ (0:Int))
            refine ev_loc f_X11_slack (nx := 78) rfl rfl rfl rfl ?_
            refine ev_ic f_X11_slack (nx := 79) (v := 0) rfl (by decide) rfl ?_
            refine ev_inV2 f_X11_slack (nx := 82) (lo2 := [(0, .ref 0), (1, .int 0)]) rfl rfl rfl rfl f_X11_answer (hI.wf.s rfl) rfl rfl rfl rfl rfl ?_
            refine ev_loc f_X11_answer (nx := 1) rfl rfl rfl rfl ?_
            refine ev_ic f_X11_answer (nx := 2) (v := 0) rfl (by decide) rfl ?_
            refine ev_putIT f_X11_answer (nx := 5) rfl (hI.wf.s rfl) rfl rfl rfl (hI.put0 (hI.wf.s rfl) rfl rfl) (hX.upI rfl) (fun g22 e22 hI hX => ?_)
            refine ev_loc f_X11_answer (nx := 6) rfl rfl rfl rfl ?_
            refine ev_retK1 f_X11_answer rfl rfl rfl ?_
            exact ev_ret f_X11_slack rfl rfl rfl ⟨_, _, _, rfl, hI, hX, ⟨_, rfl, (Int.le_trans (by decide : ((-1):Int) ≤ 0) (by decide : (0:Int) ≤ (0:Int32).toInt)), (Int.le_trans (by decide : (0:Int32).toInt ≤ (0:Int)) (by decide : (0:Int) ≤ 60))⟩⟩
          · have l23 : 1 ≤ y19_3.toInt := t_ltl (t_nle h20) (by decide : (0:Int) ≤ (0:Int32).toInt) rfl
            refine ev_loc f_X11_slack (nx := 41) rfl rfl rfl rfl ?_
            refine ev_getR f_X11_slack (nx := 44) rfl (hI.wf.s rfl) rfl rfl (hI.wf.r rfl) rfl rfl ?_
            refine ev_loc f_X11_slack (nx := 45) rfl rfl rfl rfl ?_
            refine ev_getR f_X11_slack (nx := 48) (v := .ref a5) rfl (hI.wf.s rfl) rfl rfl c19_3 rfl rfl ?_
            refine ev_ic f_X11_slack (nx := 49) (v := 0) rfl (by decide) rfl ?_
            refine ev_loc f_X11_slack (nx := 50) rfl rfl rfl rfl ?_
            refine ev_loc f_X11_slack (nx := 51) rfl rfl rfl rfl ?_
            refine ev_c0 f_X11_slack (nx := 54) (r := []) rfl rfl rfl rfl rfl rfl rfl (c_takeShips hI (a5) p5 (0) (ar1) (y19_3)) rfl hX rfl (fun gi24 gl24 gr24 hI hX hC24 => ?_)
            replace p5 := p5.ext hC24.2
            replace p6 := p6.ext hC24.2
            refine ev_loc f_X11_slack (nx := 55) rfl rfl rfl rfl ?_
            refine ev_getR f_X11_slack (nx := 58) rfl (hI.wf.s rfl) rfl rfl (hI.wf.r rfl) rfl rfl ?_
            refine ev_loc f_X11_slack (nx := 59) rfl rfl rfl rfl ?_
            refine ev_inV2 f_X11_slack (nx := 62) (lo2 := [(0, .ref 28), (1, .int w16)]) rfl rfl rfl rfl f_X1_canPassWithin (hI.wf.s rfl) rfl rfl rfl rfl rfl ?_
            refine ev_loc f_X1_canPassWithin (nx := 1) rfl rfl rfl rfl ?_
            refine ev_ic f_X1_canPassWithin (nx := 2) (v := 0) rfl (by decide) rfl ?_
            refine ev_ic f_X1_canPassWithin (nx := 3) (v := 0) rfl (by decide) rfl ?_
            refine ev_ic f_X1_canPassWithin (nx := 4) (v := 0) rfl (by decide) rfl ?_
            refine ev_ic f_X1_canPassWithin (nx := 5) (v := 0) rfl (by decide) rfl ?_
            refine ev_loc f_X1_canPassWithin (nx := 6) rfl rfl rfl rfl ?_
            refine ev_cI f_X1_canPassWithin (nx := 9) (r := []) rfl rfl rfl rfl rfl rfl rfl (c_canEndWithin hI (0) (0) (by decide : (0:Int) ≤ (0:Int32).toInt) (Int.le_trans (by decide : (0:Int32).toInt ≤ (0:Int)) (by decide : (0:Int) ≤ 1)) (0) (by decide : (0:Int) ≤ (0:Int32).toInt) (Int.le_trans (by decide : (0:Int32).toInt ≤ (0:Int)) (by decide : (0:Int) ≤ 6)) (0) (by decide : (0:Int) ≤ (0:Int32).toInt) (Int.le_trans (by decide : (0:Int32).toInt ≤ (0:Int)) (by decide : (0:Int) ≤ 6)) (w16)) rfl hX rfl (fun w25 gi25 gl25 gr25 l25 u25 hI hX hC25 => ?_)
            replace p5 := p5.ext hC25.2
            replace p6 := p6.ext hC25.2
            refine ev_retK1 f_X1_canPassWithin rfl rfl (t_rz l25 u25) ?_
            refine ev_if f_X11_slack (t1 := 71) (t2 := 65) rfl rfl rfl (fun h26 => ?_) (fun h26 => ?_)
            · have u27 : w25.toInt ≤ 0 := t_equ h26 (by decide : (0:Int32).toInt ≤ (0:Int))
              refine ev_incR f_X11_slack (nx := 74) (c := (-1)) (l := 0) (u := 59) rfl rfl (by decide) (by decide) l23 u19_3 rfl rfl (by decide) (by decide) rfl (fun z28 e28 l28 u28 => ?_)
              refine ev_jmp f_X11_slack (nx := 36) rfl rfl rfl ?_
              refine ev_sub (lo := [(3, .int z28), (2, .int w16), (0, .ref 0), (1, .int ar1)]) rfl (t_sc rfl (t_sc rfl (t_sc rfl (t_sc rfl t_sn)))) ?_
              exact ih19 _ (by omega) gi25 gl25 gr25 (z28) hI hX p5 p6 l28 (Int.le_trans u28 (by decide : (59:Int) ≤ 60)) ((hC25.1 a5 3 (t_ninO hI.wf p5.1 (t_outO hI.wf p5.1 rfl) rfl)).1.trans ((hC24.1 a5 3 (t_ninO hI.wf p5.1 (t_outO hI.wf p5.1 rfl) rfl)).1.trans c19_0)) ((hC25.1 28 1 rfl).1.trans ((hC24.1 28 1 rfl).1.trans c19_1)) ((hC25.1 a5 7 (t_ninO hI.wf p5.1 (t_outO hI.wf p5.1 rfl) rfl)).2.2.trans ((hC24.1 a5 7 (t_ninO hI.wf p5.1 (t_outO hI.wf p5.1 rfl) rfl)).2.2.trans c19_2)) ((hC25.1 0 6 rfl).2.2.trans ((hC24.1 0 6 rfl).2.2.trans c19_3)) ((hC25.1 28 0 rfl).2.2.trans ((hC24.1 28 0 rfl).2.2.trans c19_4)) rfl
            · have l29 : 1 ≤ w25.toInt := t_nel h26 l25 rfl rfl
              refine ev_loc f_X11_slack (nx := 66) rfl rfl rfl rfl ?_
              refine ev_loc f_X11_slack (nx := 67) rfl rfl rfl rfl ?_
              refine ev_inV2 f_X11_slack (nx := 70) (lo2 := [(0, .ref 0), (1, .int y19_3)]) rfl rfl rfl rfl f_X11_answer (hI.wf.s rfl) rfl rfl rfl rfl rfl ?_
              refine ev_loc f_X11_answer (nx := 1) rfl rfl rfl rfl ?_
              refine ev_ic f_X11_answer (nx := 2) (v := 0) rfl (by decide) rfl ?_
              refine ev_putIT f_X11_answer (nx := 5) rfl (hI.wf.s rfl) rfl rfl rfl (hI.put0 (hI.wf.s rfl) rfl rfl) (hX.upI rfl) (fun g30 e30 hI hX => ?_)
              refine ev_loc f_X11_answer (nx := 6) rfl rfl rfl rfl ?_
              refine ev_retK1 f_X11_answer rfl rfl rfl ?_
              exact ev_ret f_X11_slack rfl rfl rfl ⟨_, _, _, rfl, hI, hX, ⟨_, rfl, (Int.le_trans (by decide : ((-1):Int) ≤ 1) l23), u19_3⟩⟩
        refine ev_sub (lo := [(3, .int 60), (2, .int w16), (0, .ref 0), (1, .int ar1)]) rfl (t_sc rfl (t_sc rfl (t_sc rfl (t_sc rfl t_sn)))) ?_
        exact L19 _ gi16 gl16 gr16 (60) hI hX p5 p6 (Int.le_trans (by decide : (0:Int) ≤ 60) (by decide : (60:Int) ≤ (60:Int32).toInt)) (by decide : (60:Int32).toInt ≤ (60:Int)) ((hC16.1 a5 3 (t_ninO hI.wf p5.1 (t_outO hI.wf p5.1 rfl) rfl)).1.trans ((hC15.1 a5 3 (t_ninO hI.wf p5.1 (t_outO hI.wf p5.1 rfl) rfl)).1.trans ((hC14.1 a5 3 (t_ninO hI.wf p5.1 (t_outO hI.wf p5.1 rfl) rfl)).1.trans ((by rw [e13]; exact x_up2_off (Or.inr (by decide)) : g13 a5 3 = gi a5 3).trans rfl)))) ((hC16.1 28 1 rfl).1.trans ((hC15.1 28 1 rfl).1.trans ((hC14.1 28 1 rfl).1.trans (by rw [e13]; exact x_up2_at _ _ _ _ : g13 28 1 = (gi a5 3))))) ((hC16.1 a5 7 (t_ninO hI.wf p5.1 (t_outO hI.wf p5.1 rfl) rfl)).2.2.trans ((hC15.1 a5 7 (t_ninO hI.wf p5.1 (t_outO hI.wf p5.1 rfl) rfl)).2.2.trans ((hC14.1 a5 7 (t_ninO hI.wf p5.1 (t_outO hI.wf p5.1 rfl) rfl)).2.2.trans ((by rw [e12]; exact x_up2_off (Or.inr (by decide)) : g12 a5 7 = gr a5 7).trans e6)))) ((hC16.1 0 6 rfl).2.2.trans ((hC15.1 0 6 rfl).2.2.trans ((hC14.1 0 6 rfl).2.2.trans ((by rw [e12]; exact x_up2_off (Or.inr (by decide)) : g12 0 6 = gr 0 6).trans e5)))) ((hC16.1 28 0 rfl).2.2.trans ((hC15.1 28 0 rfl).2.2.trans ((hC14.1 28 0 rfl).2.2.trans (by rw [e12]; exact x_up2_at _ _ _ _ : g12 28 0 = .ref a5)))) rfl
      · have l31 : 1000000000 ≤ w16.toInt := t_lel (t_nlt h17) (by decide : (1000000000:Int) ≤ (1000000000:Int32).toInt)
        refine ev_loc f_X11_slack (nx := 27) rfl rfl rfl rfl ?_
        refine ev_bp f_X11_slack (nx := 29) (v := 6) rfl (by decide) rfl ?_
        refine ev_inV2 f_X11_slack (nx := 32) (lo2 := [(0, .ref 0), (1, .int 6)]) rfl rfl rfl rfl f_X11_refuse (hI.wf.s rfl) rfl rfl rfl rfl rfl ?_
        refine ev_loc f_X11_refuse (nx := 1) rfl rfl rfl rfl ?_
        refine ev_loc f_X11_refuse (nx := 2) rfl rfl rfl rfl ?_
        refine ev_putIT f_X11_refuse (nx := 5) rfl (hI.wf.s rfl) rfl rfl rfl (hI.put0 (hI.wf.s rfl) rfl rfl) (hX.upI rfl) (fun g32 e32 hI hX => ?_)
        refine ev_ic f_X11_refuse (nx := 6) (v := -1) rfl (by decide) rfl ?_
        refine ev_retK1 f_X11_refuse rfl rfl rfl ?_
        exact ev_ret f_X11_slack rfl rfl rfl ⟨_, _, _, rfl, hI, hX, ⟨_, rfl, (by decide : ((-1):Int) ≤ ((-1):Int32).toInt), (Int.le_trans (by decide : ((-1):Int32).toInt ≤ ((-1):Int)) (by decide : ((-1):Int) ≤ 60))⟩⟩
noncomputable def wl_h_without : List (Nat × Nat) := [(0, 0), (28, 0), (28, 1), (28, 4), (28, 5), (29, 0), (30, 9999), (31, 9999), (32, 9999), (33, 9999), (34, 9999), (35, 0), (36, 9999), (37, 9999), (38, 9999), (39, 9999), (40, 9999)]
theorem c_h_without {X : x_Ext} {d : Nat} {sh : List (Nat ⊕ (Nat × Nat))} {gi : Nat → Nat → Int32} {gl : Nat → Nat → Int64} {gr : Nat → Nat → Value} (hI : t_I sh gi gr) (ar1 : Int32) : x_Me X (d + 18) n_X11_without [.ref 0, .int ar1] (sh, gi, gl, gr) (t_P wl_h_without sh gi gl gr (t_Ri (-2147483648) 999999999)) := by
  have hX : t_X wl_h_without sh gi gl gr gi gl gr := t_X.rf
  refine me_i f_X11_without (hI.wf.s rfl) rfl rfl rfl ?_
  refine ev_loc f_X11_without (nx := 1) rfl rfl rfl rfl ?_
  refine ev_loc f_X11_without (nx := 2) rfl rfl rfl rfl ?_
  refine ev_inV2 f_X11_without (nx := 5) (lo2 := [(0, .ref 0), (1, .int ar1)]) rfl rfl rfl rfl f_X11_isCart (hI.wf.s rfl) rfl rfl rfl rfl rfl ?_
  refine ev_loc f_X11_isCart (nx := 1) rfl rfl rfl rfl ?_
  refine ev_if f_X11_isCart (t1 := 22) (t2 := 4) rfl rfl rfl (fun h1 => ?_) (fun h1 => ?_)
  · have u2 : ar1.toInt ≤ (-1) := t_ltu h1 (by decide : (0:Int32).toInt ≤ (0:Int)) rfl
    refine ev_ic f_X11_isCart (nx := 23) (v := 0) rfl (by decide) rfl ?_
    refine ev_retK1 f_X11_isCart rfl rfl rfl ?_
    refine ev_t f_X11_without (t1 := 8) (t2 := 14) rfl rfl rfl (by decide) ?_
    refine ev_loc f_X11_without (nx := 9) rfl rfl rfl rfl ?_
    refine ev_ic f_X11_without (nx := 10) (v := 1) rfl (by decide) rfl ?_
    refine ev_inV2 f_X11_without (nx := 13) (lo2 := [(0, .ref 0), (1, .int 1)]) rfl rfl rfl rfl f_X11_refuse (hI.wf.s rfl) rfl rfl rfl rfl rfl ?_
    refine ev_loc f_X11_refuse (nx := 1) rfl rfl rfl rfl ?_
    refine ev_loc f_X11_refuse (nx := 2) rfl rfl rfl rfl ?_
    refine ev_putIT f_X11_refuse (nx := 5) rfl (hI.wf.s rfl) rfl rfl rfl (hI.put0 (hI.wf.s rfl) rfl rfl) (hX.upI rfl) (fun g3 e3 hI hX => ?_)
    refine ev_ic f_X11_refuse (nx := 6) (v := -1) rfl (by decide) rfl ?_
    refine ev_retK1 f_X11_refuse rfl rfl rfl ?_
    exact ev_ret f_X11_without rfl rfl rfl ⟨_, _, _, rfl, hI, hX, ⟨_, rfl, (Int.le_trans (by decide : ((-2147483648):Int) ≤ (-1)) (by decide : ((-1):Int) ≤ ((-1):Int32).toInt)), (Int.le_trans (by decide : ((-1):Int32).toInt ≤ ((-1):Int)) (by decide : ((-1):Int) ≤ 999999999))⟩⟩
  · have l4 : 0 ≤ ar1.toInt := t_lel (t_nlt h1) (by decide : (0:Int) ≤ (0:Int32).toInt)
    refine ev_loc f_X11_isCart (nx := 5) rfl rfl rfl rfl ?_
    refine ev_loc f_X11_isCart (nx := 6) rfl rfl rfl rfl ?_
    obtain ⟨a5, e5, p5⟩ := hI.2.2.2.1.1
    refine ev_getR f_X11_isCart (nx := 9) rfl (hI.wf.s rfl) rfl rfl e5 rfl rfl ?_
    obtain ⟨a6, e6, p6⟩ := p5.2.2.2.2.2
    refine ev_getR f_X11_isCart (nx := 12) rfl p5.1 rfl rfl e6 rfl rfl ?_
    refine ev_getI f_X11_isCart (nx := 15) rfl p6.1 rfl rfl rfl ?_
    obtain ⟨l7, u7⟩ := hI.b p6.1 (t_bdK rfl : t_bd 3 0 = some (0, 6))
    refine ev_if f_X11_isCart (t1 := 22) (t2 := 18) rfl rfl rfl (fun h8 => ?_) (fun h8 => ?_)
    · refine ev_ic f_X11_isCart (nx := 23) (v := 0) rfl (by decide) rfl ?_
      refine ev_retK1 f_X11_isCart rfl rfl rfl ?_
      refine ev_t f_X11_without (t1 := 8) (t2 := 14) rfl rfl rfl (by decide) ?_
      refine ev_loc f_X11_without (nx := 9) rfl rfl rfl rfl ?_
      refine ev_ic f_X11_without (nx := 10) (v := 1) rfl (by decide) rfl ?_
      refine ev_inV2 f_X11_without (nx := 13) (lo2 := [(0, .ref 0), (1, .int 1)]) rfl rfl rfl rfl f_X11_refuse (hI.wf.s rfl) rfl rfl rfl rfl rfl ?_
      refine ev_loc f_X11_refuse (nx := 1) rfl rfl rfl rfl ?_
      refine ev_loc f_X11_refuse (nx := 2) rfl rfl rfl rfl ?_
      refine ev_putIT f_X11_refuse (nx := 5) rfl (hI.wf.s rfl) rfl rfl rfl (hI.put0 (hI.wf.s rfl) rfl rfl) (hX.upI rfl) (fun g9 e9 hI hX => ?_)
      refine ev_ic f_X11_refuse (nx := 6) (v := -1) rfl (by decide) rfl ?_
      refine ev_retK1 f_X11_refuse rfl rfl rfl ?_
      exact ev_ret f_X11_without rfl rfl rfl ⟨_, _, _, rfl, hI, hX, ⟨_, rfl, (Int.le_trans (by decide : ((-2147483648):Int) ≤ (-1)) (by decide : ((-1):Int) ≤ ((-1):Int32).toInt)), (Int.le_trans (by decide : ((-1):Int32).toInt ≤ ((-1):Int)) (by decide : ((-1):Int) ≤ 999999999))⟩⟩
    · have u10 : ar1.toInt ≤ 5 := t_ltu (t_nle h8) u7 rfl
      have l11 : 1 ≤ (gi a6 0).toInt := t_ltl (t_nle h8) l4 rfl
      refine ev_ic f_X11_isCart (nx := 19) (v := 1) rfl (by decide) rfl ?_
      refine ev_jmp f_X11_isCart (nx := 23) rfl rfl rfl ?_
      refine ev_retK1 f_X11_isCart rfl rfl rfl ?_
      refine ev_f f_X11_without (t1 := 8) (t2 := 14) rfl rfl rfl (by decide) ?_
      refine ev_loc f_X11_without (nx := 15) rfl rfl rfl rfl ?_
      refine ev_getR f_X11_without (nx := 18) rfl (hI.wf.s rfl) rfl rfl (hI.wf.r rfl) rfl rfl ?_
      refine ev_loc f_X11_without (nx := 19) rfl rfl rfl rfl ?_
      refine ev_getR f_X11_without (nx := 22) (v := .ref a5) rfl (hI.wf.s rfl) rfl rfl e5 rfl rfl ?_
      refine ev_inV2 f_X11_without (nx := 25) (lo2 := [(0, .ref 28), (1, .ref a5)]) rfl rfl rfl rfl f_X1_takeAll (hI.wf.s rfl) rfl rfl rfl rfl rfl ?_
      refine ev_loc f_X1_takeAll (nx := 1) rfl rfl rfl rfl ?_
      refine ev_loc f_X1_takeAll (nx := 2) rfl rfl rfl rfl ?_
      have hE12 := t_eqf_up (gr := gr) (j := 0) (v := .ref a5) (hI.wf.s (k := 28) rfl) rfl
      have hT12 := t_cross hI p5
      replace p5 := p5.ext hE12
      replace p6 := p6.ext hE12
      refine ev_putRT f_X1_takeAll (nx := 5) rfl (hI.wf.s rfl) rfl rfl rfl rfl hT12 (hX.upR rfl hE12) (fun g12 e12 hI hX => ?_)
      rw [← e12] at p5
      rw [← e12] at p6
      refine ev_loc f_X1_takeAll (nx := 6) rfl rfl rfl rfl ?_
      refine ev_loc f_X1_takeAll (nx := 7) rfl rfl rfl rfl ?_
      refine ev_getI f_X1_takeAll (nx := 10) rfl p5.1 rfl rfl rfl ?_
      refine ev_putIT f_X1_takeAll (nx := 13) rfl (hI.wf.s rfl) rfl rfl rfl (hI.put0 (hI.wf.s rfl) rfl rfl) (hX.upI rfl) (fun g13 e13 hI hX => ?_)
      refine ev_loc f_X1_takeAll (nx := 14) rfl rfl rfl rfl ?_
      refine ev_loc f_X1_takeAll (nx := 15) rfl rfl rfl rfl ?_
      refine ev_ic f_X1_takeAll (nx := 16) (v := 0) rfl (by decide) rfl ?_
      refine ev_ic f_X1_takeAll (nx := 17) (v := -1) rfl (by decide) rfl ?_
      refine ev_ic f_X1_takeAll (nx := 18) (v := 0) rfl (by decide) rfl ?_
      refine ev_c0 f_X1_takeAll (nx := 21) (r := []) rfl rfl rfl rfl rfl rfl rfl (c_takeShips hI (a5) p5 (0) ((-1)) (0)) rfl hX rfl (fun gi14 gl14 gr14 hI hX hC14 => ?_)
      replace p5 := p5.ext hC14.2
      replace p6 := p6.ext hC14.2
      refine ev_loc f_X1_takeAll (nx := 22) rfl rfl rfl rfl ?_
      refine ev_loc f_X1_takeAll (nx := 23) rfl rfl rfl rfl ?_
      refine ev_ic f_X1_takeAll (nx := 24) (v := -1) rfl (by decide) rfl ?_
      refine ev_c0 f_X1_takeAll (nx := 27) (r := []) rfl rfl rfl rfl rfl rfl rfl (c_takeCarts hI (a5) p5 ((-1))) rfl hX rfl (fun gi15 gl15 gr15 hI hX hC15 => ?_)
      replace p5 := p5.ext hC15.2
      replace p6 := p6.ext hC15.2
      refine ev_retK0 f_X1_takeAll rfl rfl rfl ?_
      refine ev_loc f_X11_without (nx := 26) rfl rfl rfl rfl ?_
      refine ev_getR f_X11_without (nx := 29) rfl (hI.wf.s rfl) rfl rfl (hI.wf.r rfl) rfl rfl ?_
      refine ev_loc f_X11_without (nx := 30) rfl rfl rfl rfl ?_
      refine ev_getR f_X11_without (nx := 33) (v := .ref a5) rfl (hI.wf.s rfl) rfl rfl ((hC15.1 0 6 rfl).2.2.trans ((hC14.1 0 6 rfl).2.2.trans ((by rw [e12]; exact x_up2_off (Or.inr (by decide)) : g12 0 6 = gr 0 6).trans e5))) rfl rfl ?_
      refine ev_loc f_X11_without (nx := 34) rfl rfl rfl rfl ?_
      refine ev_c0 f_X11_without (nx := 37) (r := []) rfl rfl rfl rfl rfl rfl rfl (c_takeCarts hI (a5) p5 (ar1)) rfl hX rfl (fun gi16 gl16 gr16 hI hX hC16 => ?_)
      replace p5 := p5.ext hC16.2
      replace p6 := p6.ext hC16.2
      refine ev_loc f_X11_without (nx := 38) rfl rfl rfl rfl ?_
      refine ev_loc f_X11_without (nx := 39) rfl rfl rfl rfl ?_
      refine ev_getR f_X11_without (nx := 42) rfl (hI.wf.s rfl) rfl rfl (hI.wf.r rfl) rfl rfl ?_
      refine ev_cI f_X11_without (nx := 45) (r := [.ref 0]) rfl rfl rfl rfl rfl rfl rfl (c_leastWaits hI ) rfl hX rfl (fun w17 gi17 gl17 gr17 l17 u17 hI hX hC17 => ?_)
      replace p5 := p5.ext hC17.2
      replace p6 := p6.ext hC17.2
      refine ev_inV2 f_X11_without (nx := 48) (lo2 := [(0, .ref 0), (1, .int w17)]) rfl rfl rfl rfl f_X11_answerWaits (hI.wf.s rfl) rfl rfl rfl rfl rfl ?_
      refine ev_loc f_X11_answerWaits (nx := 1) rfl rfl rfl rfl ?_
      refine ev_ldW f_X11_answerWaits (nx := 4) (v := 1000000000) rfl (by decide) rfl ?_
      refine ev_if f_X11_answerWaits (t1 := 16) (t2 := 7) rfl rfl rfl (fun h18 => ?_) (fun h18 => ?_)
      · have u19 : w17.toInt ≤ 999999999 := t_ltu h18 (by decide : (1000000000:Int32).toInt ≤ (1000000000:Int)) rfl
        refine ev_loc f_X11_answerWaits (nx := 17) rfl rfl rfl rfl ?_
        refine ev_loc f_X11_answerWaits (nx := 18) rfl rfl rfl rfl ?_
        refine ev_inV2 f_X11_answerWaits (nx := 21) (lo2 := [(0, .ref 0), (1, .int w17)]) rfl rfl rfl rfl f_X11_answer (hI.wf.s rfl) rfl rfl rfl rfl rfl ?_
        refine ev_loc f_X11_answer (nx := 1) rfl rfl rfl rfl ?_
        refine ev_ic f_X11_answer (nx := 2) (v := 0) rfl (by decide) rfl ?_
        refine ev_putIT f_X11_answer (nx := 5) rfl (hI.wf.s rfl) rfl rfl rfl (hI.put0 (hI.wf.s rfl) rfl rfl) (hX.upI rfl) (fun g20 e20 hI hX => ?_)
        refine ev_loc f_X11_answer (nx := 6) rfl rfl rfl rfl ?_
        refine ev_retK1 f_X11_answer rfl rfl rfl ?_
        refine ev_retK1 f_X11_answerWaits rfl rfl rfl ?_
        exact ev_ret f_X11_without rfl rfl rfl ⟨_, _, _, rfl, hI, hX, ⟨_, rfl, l17, u19⟩⟩
      · have l21 : 1000000000 ≤ w17.toInt := t_lel (t_nlt h18) (by decide : (1000000000:Int) ≤ (1000000000:Int32).toInt)
        refine ev_loc f_X11_answerWaits (nx := 8) rfl rfl rfl rfl ?_
        refine ev_bp f_X11_answerWaits (nx := 10) (v := 6) rfl (by decide) rfl ?_
        refine ev_inV2 f_X11_answerWaits (nx := 13) (lo2 := [(0, .ref 0), (1, .int 6)]) rfl rfl rfl rfl f_X11_refuse (hI.wf.s rfl) rfl rfl rfl rfl rfl ?_
        refine ev_loc f_X11_refuse (nx := 1) rfl rfl rfl rfl ?_
        refine ev_loc f_X11_refuse (nx := 2) rfl rfl rfl rfl ?_
        refine ev_putIT f_X11_refuse (nx := 5) rfl (hI.wf.s rfl) rfl rfl rfl (hI.put0 (hI.wf.s rfl) rfl rfl) (hX.upI rfl) (fun g22 e22 hI hX => ?_)
        refine ev_ic f_X11_refuse (nx := 6) (v := -1) rfl (by decide) rfl ?_
        refine ev_retK1 f_X11_refuse rfl rfl rfl ?_
        refine ev_jmp f_X11_answerWaits (nx := 21) rfl rfl rfl ?_
        refine ev_retK1 f_X11_answerWaits rfl rfl rfl ?_
        exact ev_ret f_X11_without rfl rfl rfl ⟨_, _, _, rfl, hI, hX, ⟨_, rfl, (Int.le_trans (by decide : ((-2147483648):Int) ≤ (-1)) (by decide : ((-1):Int) ≤ ((-1):Int32).toInt)), (Int.le_trans (by decide : ((-1):Int32).toInt ≤ ((-1):Int)) (by decide : ((-1):Int) ≤ 999999999))⟩⟩
noncomputable def wl_h_dearest : List (Nat × Nat) := [(0, 0), (28, 0), (28, 1), (28, 4), (28, 5), (28, 6), (29, 0), (30, 9999), (31, 9999), (32, 9999), (33, 9999), (34, 9999), (35, 0), (36, 9999), (37, 9999), (38, 9999), (39, 9999), (40, 9999), (41, 9999), (43, 9999), (44, 9999)]
theorem c_h_dearest {X : x_Ext} {d : Nat} {sh : List (Nat ⊕ (Nat × Nat))} {gi : Nat → Nat → Int32} {gl : Nat → Nat → Int64} {gr : Nat → Nat → Value} (hI : t_I sh gi gr) : x_Me X (d + 20) n_X11_dearest [.ref 0] (sh, gi, gl, gr) (t_P wl_h_dearest sh gi gl gr (t_Ri (-1) 12)) := by
  have hX : t_X wl_h_dearest sh gi gl gr gi gl gr := t_X.rf
  refine me_i f_X11_dearest (hI.wf.s rfl) rfl rfl rfl ?_
  refine ev_loc f_X11_dearest (nx := 1) rfl rfl rfl rfl ?_
  refine ev_getR f_X11_dearest (nx := 4) rfl (hI.wf.s rfl) rfl rfl (hI.wf.r rfl) rfl rfl ?_
  refine ev_loc f_X11_dearest (nx := 5) rfl rfl rfl rfl ?_
  obtain ⟨a1, e1, p1⟩ := hI.2.2.2.1.1
  refine ev_getR f_X11_dearest (nx := 8) rfl (hI.wf.s rfl) rfl rfl e1 rfl rfl ?_
  refine ev_inV2 f_X11_dearest (nx := 11) (lo2 := [(0, .ref 28), (1, .ref a1)]) rfl rfl rfl rfl f_X1_takeAll (hI.wf.s rfl) rfl rfl rfl rfl rfl ?_
  refine ev_loc f_X1_takeAll (nx := 1) rfl rfl rfl rfl ?_
  refine ev_loc f_X1_takeAll (nx := 2) rfl rfl rfl rfl ?_
  have hE2 := t_eqf_up (gr := gr) (j := 0) (v := .ref a1) (hI.wf.s (k := 28) rfl) rfl
  have hT2 := t_cross hI p1
  replace p1 := p1.ext hE2
  refine ev_putRT f_X1_takeAll (nx := 5) rfl (hI.wf.s rfl) rfl rfl rfl rfl hT2 (hX.upR rfl hE2) (fun g2 e2 hI hX => ?_)
  rw [← e2] at p1
  refine ev_loc f_X1_takeAll (nx := 6) rfl rfl rfl rfl ?_
  refine ev_loc f_X1_takeAll (nx := 7) rfl rfl rfl rfl ?_
  refine ev_getI f_X1_takeAll (nx := 10) rfl p1.1 rfl rfl rfl ?_
  refine ev_putIT f_X1_takeAll (nx := 13) rfl (hI.wf.s rfl) rfl rfl rfl (hI.put0 (hI.wf.s rfl) rfl rfl) (hX.upI rfl) (fun g3 e3 hI hX => ?_)
  refine ev_loc f_X1_takeAll (nx := 14) rfl rfl rfl rfl ?_
  refine ev_loc f_X1_takeAll (nx := 15) rfl rfl rfl rfl ?_
  refine ev_ic f_X1_takeAll (nx := 16) (v := 0) rfl (by decide) rfl ?_
  refine ev_ic f_X1_takeAll (nx := 17) (v := -1) rfl (by decide) rfl ?_
  refine ev_ic f_X1_takeAll (nx := 18) (v := 0) rfl (by decide) rfl ?_
  refine ev_c0 f_X1_takeAll (nx := 21) (r := []) rfl rfl rfl rfl rfl rfl rfl (c_takeShips hI (a1) p1 (0) ((-1)) (0)) rfl hX rfl (fun gi4 gl4 gr4 hI hX hC4 => ?_)
  replace p1 := p1.ext hC4.2
  refine ev_loc f_X1_takeAll (nx := 22) rfl rfl rfl rfl ?_
  refine ev_loc f_X1_takeAll (nx := 23) rfl rfl rfl rfl ?_
  refine ev_ic f_X1_takeAll (nx := 24) (v := -1) rfl (by decide) rfl ?_
  refine ev_c0 f_X1_takeAll (nx := 27) (r := []) rfl rfl rfl rfl rfl rfl rfl (c_takeCarts hI (a1) p1 ((-1))) rfl hX rfl (fun gi5 gl5 gr5 hI hX hC5 => ?_)
  replace p1 := p1.ext hC5.2
  refine ev_retK0 f_X1_takeAll rfl rfl rfl ?_
  refine ev_loc f_X11_dearest (nx := 12) rfl rfl rfl rfl ?_
  refine ev_getR f_X11_dearest (nx := 15) rfl (hI.wf.s rfl) rfl rfl (hI.wf.r rfl) rfl rfl ?_
  refine ev_cI f_X11_dearest (nx := 18) (r := []) rfl rfl rfl rfl rfl rfl rfl (c_layPlan hI ) rfl hX rfl (fun w6 gi6 gl6 gr6 l6 u6 hI hX hC6 => ?_)
  replace p1 := p1.ext hC6.2
  refine ev_if f_X11_dearest (t1 := 35) (t2 := 21) rfl rfl rfl (fun h7 => ?_) (fun h7 => ?_)
  · have u8 : w6.toInt ≤ 0 := t_equ h7 (by decide : (0:Int32).toInt ≤ (0:Int))
    refine ev_ic f_X11_dearest (nx := 36) (v := -1) rfl (by decide) rfl ?_
    refine ev_loc f_X11_dearest (nx := 37) (lo' := [(1, .int (-1)), (0, .ref 0)]) rfl rfl rfl rfl ?_
    refine ev_loc f_X11_dearest (nx := 38) rfl rfl rfl rfl ?_
    refine ev_ic f_X11_dearest (nx := 39) (v := -1) rfl (by decide) rfl ?_
    refine ev_t f_X11_dearest (t1 := 42) (t2 := 51) rfl rfl rfl (by decide) ?_
    refine ev_loc f_X11_dearest (nx := 43) rfl rfl rfl rfl ?_
    refine ev_bp f_X11_dearest (nx := 45) (v := 6) rfl (by decide) rfl ?_
    refine ev_inV2 f_X11_dearest (nx := 48) (lo2 := [(0, .ref 0), (1, .int 6)]) rfl rfl rfl rfl f_X11_refuse (hI.wf.s rfl) rfl rfl rfl rfl rfl ?_
    refine ev_loc f_X11_refuse (nx := 1) rfl rfl rfl rfl ?_
    refine ev_loc f_X11_refuse (nx := 2) rfl rfl rfl rfl ?_
    refine ev_putIT f_X11_refuse (nx := 5) rfl (hI.wf.s rfl) rfl rfl rfl (hI.put0 (hI.wf.s rfl) rfl rfl) (hX.upI rfl) (fun g9 e9 hI hX => ?_)
    refine ev_ic f_X11_refuse (nx := 6) (v := -1) rfl (by decide) rfl ?_
    refine ev_retK1 f_X11_refuse rfl rfl rfl ?_
    refine ev_jmp f_X11_dearest (nx := 56) rfl rfl rfl ?_
    exact ev_ret f_X11_dearest rfl rfl rfl ⟨_, _, _, rfl, hI, hX, ⟨_, rfl, (by decide : ((-1):Int) ≤ ((-1):Int32).toInt), (Int.le_trans (by decide : ((-1):Int32).toInt ≤ ((-1):Int)) (by decide : ((-1):Int) ≤ 12))⟩⟩
  · have l10 : 1 ≤ w6.toInt := t_nel h7 l6 rfl rfl
    refine ev_loc f_X11_dearest (nx := 22) rfl rfl rfl rfl ?_
    refine ev_getR f_X11_dearest (nx := 25) rfl (hI.wf.s rfl) rfl rfl (hI.wf.r rfl) rfl rfl ?_
    refine ev_loc f_X11_dearest (nx := 26) rfl rfl rfl rfl ?_
    refine ev_getR f_X11_dearest (nx := 29) (v := .ref a1) rfl (hI.wf.s rfl) rfl rfl ((hC6.1 0 6 rfl).2.2.trans ((hC5.1 0 6 rfl).2.2.trans ((hC4.1 0 6 rfl).2.2.trans ((by rw [e2]; exact x_up2_off (Or.inr (by decide)) : g2 0 6 = gr 0 6).trans e1)))) rfl rfl ?_
    refine ev_cI f_X11_dearest (nx := 32) (r := []) rfl rfl rfl rfl rfl rfl rfl (c_dearestByPlan hI (a1) p1) rfl hX rfl (fun w11 gi11 gl11 gr11 l11 u11 hI hX hC11 => ?_)
    replace p1 := p1.ext hC11.2
    refine ev_jmp f_X11_dearest (nx := 36) rfl rfl rfl ?_
    refine ev_loc f_X11_dearest (nx := 37) (lo' := [(1, .int w11), (0, .ref 0)]) rfl rfl rfl rfl ?_
    refine ev_loc f_X11_dearest (nx := 38) rfl rfl rfl rfl ?_
    refine ev_ic f_X11_dearest (nx := 39) (v := -1) rfl (by decide) rfl ?_
    refine ev_if f_X11_dearest (t1 := 42) (t2 := 51) rfl rfl rfl (fun h12 => ?_) (fun h12 => ?_)
    · have u13 : w11.toInt ≤ (-1) := t_equ h12 (by decide : ((-1):Int32).toInt ≤ ((-1):Int))
      refine ev_loc f_X11_dearest (nx := 43) rfl rfl rfl rfl ?_
      refine ev_bp f_X11_dearest (nx := 45) (v := 6) rfl (by decide) rfl ?_
      refine ev_inV2 f_X11_dearest (nx := 48) (lo2 := [(0, .ref 0), (1, .int 6)]) rfl rfl rfl rfl f_X11_refuse (hI.wf.s rfl) rfl rfl rfl rfl rfl ?_
      refine ev_loc f_X11_refuse (nx := 1) rfl rfl rfl rfl ?_
      refine ev_loc f_X11_refuse (nx := 2) rfl rfl rfl rfl ?_
      refine ev_putIT f_X11_refuse (nx := 5) rfl (hI.wf.s rfl) rfl rfl rfl (hI.put0 (hI.wf.s rfl) rfl rfl) (hX.upI rfl) (fun g14 e14 hI hX => ?_)
      refine ev_ic f_X11_refuse (nx := 6) (v := -1) rfl (by decide) rfl ?_
      refine ev_retK1 f_X11_refuse rfl rfl rfl ?_
      refine ev_jmp f_X11_dearest (nx := 56) rfl rfl rfl ?_
      exact ev_ret f_X11_dearest rfl rfl rfl ⟨_, _, _, rfl, hI, hX, ⟨_, rfl, (by decide : ((-1):Int) ≤ ((-1):Int32).toInt), (Int.le_trans (by decide : ((-1):Int32).toInt ≤ ((-1):Int)) (by decide : ((-1):Int) ≤ 12))⟩⟩
    · have l15 : 0 ≤ w11.toInt := t_nel h12 l11 rfl rfl
      refine ev_loc f_X11_dearest (nx := 52) rfl rfl rfl rfl ?_
      refine ev_loc f_X11_dearest (nx := 53) rfl rfl rfl rfl ?_
      refine ev_inV2 f_X11_dearest (nx := 56) (lo2 := [(0, .ref 0), (1, .int w11)]) rfl rfl rfl rfl f_X11_answer (hI.wf.s rfl) rfl rfl rfl rfl rfl ?_
      refine ev_loc f_X11_answer (nx := 1) rfl rfl rfl rfl ?_
      refine ev_ic f_X11_answer (nx := 2) (v := 0) rfl (by decide) rfl ?_
      refine ev_putIT f_X11_answer (nx := 5) rfl (hI.wf.s rfl) rfl rfl rfl (hI.put0 (hI.wf.s rfl) rfl rfl) (hX.upI rfl) (fun g16 e16 hI hX => ?_)
      refine ev_loc f_X11_answer (nx := 6) rfl rfl rfl rfl ?_
      refine ev_retK1 f_X11_answer rfl rfl rfl ?_
      exact ev_ret f_X11_dearest rfl rfl rfl ⟨_, _, _, rfl, hI, hX, ⟨_, rfl, (Int.le_trans (by decide : ((-1):Int) ≤ 0) l15), u11⟩⟩
noncomputable def wl_h_opened : List (Nat × Nat) := [(0, 0), (28, 0), (28, 1), (28, 4), (28, 5), (28, 6), (29, 0), (30, 9999), (31, 9999), (32, 9999), (33, 9999), (34, 9999), (35, 0), (36, 9999), (37, 9999), (38, 9999), (39, 9999), (40, 9999), (41, 9999), (43, 9999), (44, 9999)]
theorem c_h_opened {X : x_Ext} {d : Nat} {sh : List (Nat ⊕ (Nat × Nat))} {gi : Nat → Nat → Int32} {gl : Nat → Nat → Int64} {gr : Nat → Nat → Value} (hI : t_I sh gi gr) : x_Me X (d + 20) n_X11_opened [.ref 0] (sh, gi, gl, gr) (t_P wl_h_opened sh gi gl gr (t_Ri (-2147483648) 2147483647)) := by
  have hX : t_X wl_h_opened sh gi gl gr gi gl gr := t_X.rf
  refine me_i f_X11_opened (hI.wf.s rfl) rfl rfl rfl ?_
  refine ev_loc f_X11_opened (nx := 1) rfl rfl rfl rfl ?_
  refine ev_getR f_X11_opened (nx := 4) rfl (hI.wf.s rfl) rfl rfl (hI.wf.r rfl) rfl rfl ?_
  refine ev_loc f_X11_opened (nx := 5) rfl rfl rfl rfl ?_
  obtain ⟨a1, e1, p1⟩ := hI.2.2.2.1.1
  refine ev_getR f_X11_opened (nx := 8) rfl (hI.wf.s rfl) rfl rfl e1 rfl rfl ?_
  refine ev_inV2 f_X11_opened (nx := 11) (lo2 := [(0, .ref 28), (1, .ref a1)]) rfl rfl rfl rfl f_X1_takeAll (hI.wf.s rfl) rfl rfl rfl rfl rfl ?_
  refine ev_loc f_X1_takeAll (nx := 1) rfl rfl rfl rfl ?_
  refine ev_loc f_X1_takeAll (nx := 2) rfl rfl rfl rfl ?_
  have hE2 := t_eqf_up (gr := gr) (j := 0) (v := .ref a1) (hI.wf.s (k := 28) rfl) rfl
  have hT2 := t_cross hI p1
  replace p1 := p1.ext hE2
  refine ev_putRT f_X1_takeAll (nx := 5) rfl (hI.wf.s rfl) rfl rfl rfl rfl hT2 (hX.upR rfl hE2) (fun g2 e2 hI hX => ?_)
  rw [← e2] at p1
  refine ev_loc f_X1_takeAll (nx := 6) rfl rfl rfl rfl ?_
  refine ev_loc f_X1_takeAll (nx := 7) rfl rfl rfl rfl ?_
  refine ev_getI f_X1_takeAll (nx := 10) rfl p1.1 rfl rfl rfl ?_
  refine ev_putIT f_X1_takeAll (nx := 13) rfl (hI.wf.s rfl) rfl rfl rfl (hI.put0 (hI.wf.s rfl) rfl rfl) (hX.upI rfl) (fun g3 e3 hI hX => ?_)
  refine ev_loc f_X1_takeAll (nx := 14) rfl rfl rfl rfl ?_
  refine ev_loc f_X1_takeAll (nx := 15) rfl rfl rfl rfl ?_
  refine ev_ic f_X1_takeAll (nx := 16) (v := 0) rfl (by decide) rfl ?_
  refine ev_ic f_X1_takeAll (nx := 17) (v := -1) rfl (by decide) rfl ?_
  refine ev_ic f_X1_takeAll (nx := 18) (v := 0) rfl (by decide) rfl ?_
  refine ev_c0 f_X1_takeAll (nx := 21) (r := []) rfl rfl rfl rfl rfl rfl rfl (c_takeShips hI (a1) p1 (0) ((-1)) (0)) rfl hX rfl (fun gi4 gl4 gr4 hI hX hC4 => ?_)
  replace p1 := p1.ext hC4.2
  refine ev_loc f_X1_takeAll (nx := 22) rfl rfl rfl rfl ?_
  refine ev_loc f_X1_takeAll (nx := 23) rfl rfl rfl rfl ?_
  refine ev_ic f_X1_takeAll (nx := 24) (v := -1) rfl (by decide) rfl ?_
  refine ev_c0 f_X1_takeAll (nx := 27) (r := []) rfl rfl rfl rfl rfl rfl rfl (c_takeCarts hI (a1) p1 ((-1))) rfl hX rfl (fun gi5 gl5 gr5 hI hX hC5 => ?_)
  replace p1 := p1.ext hC5.2
  refine ev_retK0 f_X1_takeAll rfl rfl rfl ?_
  refine ev_loc f_X11_opened (nx := 12) rfl rfl rfl rfl ?_
  refine ev_getR f_X11_opened (nx := 15) rfl (hI.wf.s rfl) rfl rfl (hI.wf.r rfl) rfl rfl ?_
  refine ev_cI f_X11_opened (nx := 18) (r := []) rfl rfl rfl rfl rfl rfl rfl (c_layPlan hI ) rfl hX rfl (fun w6 gi6 gl6 gr6 l6 u6 hI hX hC6 => ?_)
  replace p1 := p1.ext hC6.2
  refine ev_if f_X11_opened (t1 := 35) (t2 := 21) rfl rfl rfl (fun h7 => ?_) (fun h7 => ?_)
  · have u8 : w6.toInt ≤ 0 := t_equ h7 (by decide : (0:Int32).toInt ≤ (0:Int))
    refine ev_loc f_X11_opened (nx := 36) rfl rfl rfl rfl ?_
    refine ev_bp f_X11_opened (nx := 38) (v := 6) rfl (by decide) rfl ?_
    refine ev_inV2 f_X11_opened (nx := 41) (lo2 := [(0, .ref 0), (1, .int 6)]) rfl rfl rfl rfl f_X11_refuse (hI.wf.s rfl) rfl rfl rfl rfl rfl ?_
    refine ev_loc f_X11_refuse (nx := 1) rfl rfl rfl rfl ?_
    refine ev_loc f_X11_refuse (nx := 2) rfl rfl rfl rfl ?_
    refine ev_putIT f_X11_refuse (nx := 5) rfl (hI.wf.s rfl) rfl rfl rfl (hI.put0 (hI.wf.s rfl) rfl rfl) (hX.upI rfl) (fun g9 e9 hI hX => ?_)
    refine ev_ic f_X11_refuse (nx := 6) (v := -1) rfl (by decide) rfl ?_
    refine ev_retK1 f_X11_refuse rfl rfl rfl ?_
    exact ev_ret f_X11_opened rfl rfl rfl ⟨_, _, _, rfl, hI, hX, ⟨_, rfl, (Int.le_trans (by decide : ((-2147483648):Int) ≤ (-1)) (by decide : ((-1):Int) ≤ ((-1):Int32).toInt)), (Int.le_trans (by decide : ((-1):Int32).toInt ≤ ((-1):Int)) (by decide : ((-1):Int) ≤ 2147483647))⟩⟩
  · have l10 : 1 ≤ w6.toInt := t_nel h7 l6 rfl rfl
    refine ev_loc f_X11_opened (nx := 22) rfl rfl rfl rfl ?_
    refine ev_loc f_X11_opened (nx := 23) rfl rfl rfl rfl ?_
    refine ev_getR f_X11_opened (nx := 26) rfl (hI.wf.s rfl) rfl rfl (hI.wf.r rfl) rfl rfl ?_
    refine ev_cI f_X11_opened (nx := 29) (r := [.ref 0]) rfl rfl rfl rfl rfl rfl rfl (c_openedByPlan hI ) rfl hX rfl (fun w11 gi11 gl11 gr11 l11 u11 hI hX hC11 => ?_)
    replace p1 := p1.ext hC11.2
    refine ev_inV2 f_X11_opened (nx := 32) (lo2 := [(0, .ref 0), (1, .int w11)]) rfl rfl rfl rfl f_X11_answer (hI.wf.s rfl) rfl rfl rfl rfl rfl ?_
    refine ev_loc f_X11_answer (nx := 1) rfl rfl rfl rfl ?_
    refine ev_ic f_X11_answer (nx := 2) (v := 0) rfl (by decide) rfl ?_
    refine ev_putIT f_X11_answer (nx := 5) rfl (hI.wf.s rfl) rfl rfl rfl (hI.put0 (hI.wf.s rfl) rfl rfl) (hX.upI rfl) (fun g12 e12 hI hX => ?_)
    refine ev_loc f_X11_answer (nx := 6) rfl rfl rfl rfl ?_
    refine ev_retK1 f_X11_answer rfl rfl rfl ?_
    refine ev_jmp f_X11_opened (nx := 41) rfl rfl rfl ?_
    exact ev_ret f_X11_opened rfl rfl rfl ⟨_, _, _, rfl, hI, hX, ⟨_, rfl, l11, u11⟩⟩
noncomputable def wl_h_busiest : List (Nat × Nat) := [(0, 0), (28, 0), (28, 1), (28, 4), (28, 5), (28, 6), (29, 0), (30, 9999), (31, 9999), (32, 9999), (33, 9999), (34, 9999), (35, 0), (36, 9999), (37, 9999), (38, 9999), (39, 9999), (40, 9999), (41, 9999), (43, 9999), (44, 9999)]
theorem c_h_busiest {X : x_Ext} {d : Nat} {sh : List (Nat ⊕ (Nat × Nat))} {gi : Nat → Nat → Int32} {gl : Nat → Nat → Int64} {gr : Nat → Nat → Value} (hI : t_I sh gi gr) : x_Me X (d + 20) n_X11_busiest [.ref 0] (sh, gi, gl, gr) (t_P wl_h_busiest sh gi gl gr (t_Ri (-1) 240)) := by
  have hX : t_X wl_h_busiest sh gi gl gr gi gl gr := t_X.rf
  refine me_i f_X11_busiest (hI.wf.s rfl) rfl rfl rfl ?_
  refine ev_loc f_X11_busiest (nx := 1) rfl rfl rfl rfl ?_
  refine ev_getR f_X11_busiest (nx := 4) rfl (hI.wf.s rfl) rfl rfl (hI.wf.r rfl) rfl rfl ?_
  refine ev_loc f_X11_busiest (nx := 5) rfl rfl rfl rfl ?_
  obtain ⟨a1, e1, p1⟩ := hI.2.2.2.1.1
  refine ev_getR f_X11_busiest (nx := 8) rfl (hI.wf.s rfl) rfl rfl e1 rfl rfl ?_
  refine ev_inV2 f_X11_busiest (nx := 11) (lo2 := [(0, .ref 28), (1, .ref a1)]) rfl rfl rfl rfl f_X1_takeAll (hI.wf.s rfl) rfl rfl rfl rfl rfl ?_
  refine ev_loc f_X1_takeAll (nx := 1) rfl rfl rfl rfl ?_
  refine ev_loc f_X1_takeAll (nx := 2) rfl rfl rfl rfl ?_
  have hE2 := t_eqf_up (gr := gr) (j := 0) (v := .ref a1) (hI.wf.s (k := 28) rfl) rfl
  have hT2 := t_cross hI p1
  replace p1 := p1.ext hE2
  refine ev_putRT f_X1_takeAll (nx := 5) rfl (hI.wf.s rfl) rfl rfl rfl rfl hT2 (hX.upR rfl hE2) (fun g2 e2 hI hX => ?_)
  rw [← e2] at p1
  refine ev_loc f_X1_takeAll (nx := 6) rfl rfl rfl rfl ?_
  refine ev_loc f_X1_takeAll (nx := 7) rfl rfl rfl rfl ?_
  refine ev_getI f_X1_takeAll (nx := 10) rfl p1.1 rfl rfl rfl ?_
  refine ev_putIT f_X1_takeAll (nx := 13) rfl (hI.wf.s rfl) rfl rfl rfl (hI.put0 (hI.wf.s rfl) rfl rfl) (hX.upI rfl) (fun g3 e3 hI hX => ?_)
  refine ev_loc f_X1_takeAll (nx := 14) rfl rfl rfl rfl ?_
  refine ev_loc f_X1_takeAll (nx := 15) rfl rfl rfl rfl ?_
  refine ev_ic f_X1_takeAll (nx := 16) (v := 0) rfl (by decide) rfl ?_
  refine ev_ic f_X1_takeAll (nx := 17) (v := -1) rfl (by decide) rfl ?_
  refine ev_ic f_X1_takeAll (nx := 18) (v := 0) rfl (by decide) rfl ?_
  refine ev_c0 f_X1_takeAll (nx := 21) (r := []) rfl rfl rfl rfl rfl rfl rfl (c_takeShips hI (a1) p1 (0) ((-1)) (0)) rfl hX rfl (fun gi4 gl4 gr4 hI hX hC4 => ?_)
  replace p1 := p1.ext hC4.2
  refine ev_loc f_X1_takeAll (nx := 22) rfl rfl rfl rfl ?_
  refine ev_loc f_X1_takeAll (nx := 23) rfl rfl rfl rfl ?_
  refine ev_ic f_X1_takeAll (nx := 24) (v := -1) rfl (by decide) rfl ?_
  refine ev_c0 f_X1_takeAll (nx := 27) (r := []) rfl rfl rfl rfl rfl rfl rfl (c_takeCarts hI (a1) p1 ((-1))) rfl hX rfl (fun gi5 gl5 gr5 hI hX hC5 => ?_)
  replace p1 := p1.ext hC5.2
  refine ev_retK0 f_X1_takeAll rfl rfl rfl ?_
  refine ev_loc f_X11_busiest (nx := 12) rfl rfl rfl rfl ?_
  refine ev_getR f_X11_busiest (nx := 15) rfl (hI.wf.s rfl) rfl rfl (hI.wf.r rfl) rfl rfl ?_
  refine ev_cI f_X11_busiest (nx := 18) (r := []) rfl rfl rfl rfl rfl rfl rfl (c_layPlan hI ) rfl hX rfl (fun w6 gi6 gl6 gr6 l6 u6 hI hX hC6 => ?_)
  replace p1 := p1.ext hC6.2
  refine ev_if f_X11_busiest (t1 := 31) (t2 := 21) rfl rfl rfl (fun h7 => ?_) (fun h7 => ?_)
  · have u8 : w6.toInt ≤ 0 := t_equ h7 (by decide : (0:Int32).toInt ≤ (0:Int))
    refine ev_ic f_X11_busiest (nx := 32) (v := -1) rfl (by decide) rfl ?_
    refine ev_loc f_X11_busiest (nx := 33) (lo' := [(1, .int (-1)), (0, .ref 0)]) rfl rfl rfl rfl ?_
    refine ev_loc f_X11_busiest (nx := 34) rfl rfl rfl rfl ?_
    refine ev_ic f_X11_busiest (nx := 35) (v := -1) rfl (by decide) rfl ?_
    refine ev_t f_X11_busiest (t1 := 38) (t2 := 47) rfl rfl rfl (by decide) ?_
    refine ev_loc f_X11_busiest (nx := 39) rfl rfl rfl rfl ?_
    refine ev_bp f_X11_busiest (nx := 41) (v := 6) rfl (by decide) rfl ?_
    refine ev_inV2 f_X11_busiest (nx := 44) (lo2 := [(0, .ref 0), (1, .int 6)]) rfl rfl rfl rfl f_X11_refuse (hI.wf.s rfl) rfl rfl rfl rfl rfl ?_
    refine ev_loc f_X11_refuse (nx := 1) rfl rfl rfl rfl ?_
    refine ev_loc f_X11_refuse (nx := 2) rfl rfl rfl rfl ?_
    refine ev_putIT f_X11_refuse (nx := 5) rfl (hI.wf.s rfl) rfl rfl rfl (hI.put0 (hI.wf.s rfl) rfl rfl) (hX.upI rfl) (fun g9 e9 hI hX => ?_)
    refine ev_ic f_X11_refuse (nx := 6) (v := -1) rfl (by decide) rfl ?_
    refine ev_retK1 f_X11_refuse rfl rfl rfl ?_
    refine ev_jmp f_X11_busiest (nx := 52) rfl rfl rfl ?_
    exact ev_ret f_X11_busiest rfl rfl rfl ⟨_, _, _, rfl, hI, hX, ⟨_, rfl, (by decide : ((-1):Int) ≤ ((-1):Int32).toInt), (Int.le_trans (by decide : ((-1):Int32).toInt ≤ ((-1):Int)) (by decide : ((-1):Int) ≤ 240))⟩⟩
  · have l10 : 1 ≤ w6.toInt := t_nel h7 l6 rfl rfl
    refine ev_loc f_X11_busiest (nx := 22) rfl rfl rfl rfl ?_
    refine ev_getR f_X11_busiest (nx := 25) rfl (hI.wf.s rfl) rfl rfl (hI.wf.r rfl) rfl rfl ?_
    refine ev_cI f_X11_busiest (nx := 28) (r := []) rfl rfl rfl rfl rfl rfl rfl (c_busiestByPlan hI ) rfl hX rfl (fun w11 gi11 gl11 gr11 l11 u11 hI hX hC11 => ?_)
    replace p1 := p1.ext hC11.2
    refine ev_jmp f_X11_busiest (nx := 32) rfl rfl rfl ?_
    refine ev_loc f_X11_busiest (nx := 33) (lo' := [(1, .int w11), (0, .ref 0)]) rfl rfl rfl rfl ?_
    refine ev_loc f_X11_busiest (nx := 34) rfl rfl rfl rfl ?_
    refine ev_ic f_X11_busiest (nx := 35) (v := -1) rfl (by decide) rfl ?_
    refine ev_if f_X11_busiest (t1 := 38) (t2 := 47) rfl rfl rfl (fun h12 => ?_) (fun h12 => ?_)
    · have u13 : w11.toInt ≤ (-1) := t_equ h12 (by decide : ((-1):Int32).toInt ≤ ((-1):Int))
      refine ev_loc f_X11_busiest (nx := 39) rfl rfl rfl rfl ?_
      refine ev_bp f_X11_busiest (nx := 41) (v := 6) rfl (by decide) rfl ?_
      refine ev_inV2 f_X11_busiest (nx := 44) (lo2 := [(0, .ref 0), (1, .int 6)]) rfl rfl rfl rfl f_X11_refuse (hI.wf.s rfl) rfl rfl rfl rfl rfl ?_
      refine ev_loc f_X11_refuse (nx := 1) rfl rfl rfl rfl ?_
      refine ev_loc f_X11_refuse (nx := 2) rfl rfl rfl rfl ?_
      refine ev_putIT f_X11_refuse (nx := 5) rfl (hI.wf.s rfl) rfl rfl rfl (hI.put0 (hI.wf.s rfl) rfl rfl) (hX.upI rfl) (fun g14 e14 hI hX => ?_)
      refine ev_ic f_X11_refuse (nx := 6) (v := -1) rfl (by decide) rfl ?_
      refine ev_retK1 f_X11_refuse rfl rfl rfl ?_
      refine ev_jmp f_X11_busiest (nx := 52) rfl rfl rfl ?_
      exact ev_ret f_X11_busiest rfl rfl rfl ⟨_, _, _, rfl, hI, hX, ⟨_, rfl, (by decide : ((-1):Int) ≤ ((-1):Int32).toInt), (Int.le_trans (by decide : ((-1):Int32).toInt ≤ ((-1):Int)) (by decide : ((-1):Int) ≤ 240))⟩⟩
    · have l15 : 0 ≤ w11.toInt := t_nel h12 l11 rfl rfl
      refine ev_loc f_X11_busiest (nx := 48) rfl rfl rfl rfl ?_
      refine ev_loc f_X11_busiest (nx := 49) rfl rfl rfl rfl ?_
      refine ev_inV2 f_X11_busiest (nx := 52) (lo2 := [(0, .ref 0), (1, .int w11)]) rfl rfl rfl rfl f_X11_answer (hI.wf.s rfl) rfl rfl rfl rfl rfl ?_
      refine ev_loc f_X11_answer (nx := 1) rfl rfl rfl rfl ?_
      refine ev_ic f_X11_answer (nx := 2) (v := 0) rfl (by decide) rfl ?_
      refine ev_putIT f_X11_answer (nx := 5) rfl (hI.wf.s rfl) rfl rfl rfl (hI.put0 (hI.wf.s rfl) rfl rfl) (hX.upI rfl) (fun g16 e16 hI hX => ?_)
      refine ev_loc f_X11_answer (nx := 6) rfl rfl rfl rfl ?_
      refine ev_retK1 f_X11_answer rfl rfl rfl ?_
      exact ev_ret f_X11_busiest rfl rfl rfl ⟨_, _, _, rfl, hI, hX, ⟨_, rfl, (Int.le_trans (by decide : ((-1):Int) ≤ 0) l15), u11⟩⟩
noncomputable def wl_h_keep : List (Nat × Nat) := [(0, 0), (45, 4), (45, 5), (45, 6), (45, 7), (45, 8), (45, 9), (45, 10), (45, 11), (45, 12), (45, 13), (45, 14), (45, 15), (46, 0), (47, 9999), (48, 9999), (49, 9999), (50, 9999), (51, 9999), (52, 0), (53, 9999), (54, 9999), (55, 9999), (56, 9999), (57, 9999), (58, 9999), (59, 9999), (60, 9999)]
theorem c_h_keep {X : x_Ext} {d : Nat} {sh : List (Nat ⊕ (Nat × Nat))} {gi : Nat → Nat → Int32} {gl : Nat → Nat → Int64} {gr : Nat → Nat → Value} (hI : t_I sh gi gr) (ar1 : Int32) : x_Me X (d + 6) n_X11_keep [.ref 0, .int ar1] (sh, gi, gl, gr) (t_P wl_h_keep sh gi gl gr (t_Ri (-2147483648) 2147483647)) := by
  have hX : t_X wl_h_keep sh gi gl gr gi gl gr := t_X.rf
  refine me_i f_X11_keep (hI.wf.s rfl) rfl rfl rfl ?_
  refine ev_loc f_X11_keep (nx := 1) rfl rfl rfl rfl ?_
  refine ev_ic f_X11_keep (nx := 2) (v := -1) rfl (by decide) rfl ?_
  refine ev_if f_X11_keep (t1 := 12) (t2 := 5) rfl rfl rfl (fun h1 => ?_) (fun h1 => ?_)
  · have u2 : ar1.toInt ≤ (-2) := t_ltu h1 (by decide : ((-1):Int32).toInt ≤ ((-1):Int)) rfl
    refine ev_loc f_X11_keep (nx := 13) rfl rfl rfl rfl ?_
    refine ev_ic f_X11_keep (nx := 14) (v := 1) rfl (by decide) rfl ?_
    refine ev_inV2 f_X11_keep (nx := 17) (lo2 := [(0, .ref 0), (1, .int 1)]) rfl rfl rfl rfl f_X11_refuse (hI.wf.s rfl) rfl rfl rfl rfl rfl ?_
    refine ev_loc f_X11_refuse (nx := 1) rfl rfl rfl rfl ?_
    refine ev_loc f_X11_refuse (nx := 2) rfl rfl rfl rfl ?_
    refine ev_putIT f_X11_refuse (nx := 5) rfl (hI.wf.s rfl) rfl rfl rfl (hI.put0 (hI.wf.s rfl) rfl rfl) (hX.upI rfl) (fun g3 e3 hI hX => ?_)
    refine ev_ic f_X11_refuse (nx := 6) (v := -1) rfl (by decide) rfl ?_
    refine ev_retK1 f_X11_refuse rfl rfl rfl ?_
    exact ev_ret f_X11_keep rfl rfl rfl ⟨_, _, _, rfl, hI, hX, ⟨_, rfl, (Int.le_trans (by decide : ((-2147483648):Int) ≤ (-1)) (by decide : ((-1):Int) ≤ ((-1):Int32).toInt)), (Int.le_trans (by decide : ((-1):Int32).toInt ≤ ((-1):Int)) (by decide : ((-1):Int) ≤ 2147483647))⟩⟩
  · have l4 : (-1) ≤ ar1.toInt := t_lel (t_nlt h1) (by decide : ((-1):Int) ≤ ((-1):Int32).toInt)
    refine ev_loc f_X11_keep (nx := 6) rfl rfl rfl rfl ?_
    refine ev_sp f_X11_keep (nx := 9) (v := 9999) rfl (by decide) rfl ?_
    refine ev_if f_X11_keep (t1 := 18) (t2 := 12) rfl rfl rfl (fun h5 => ?_) (fun h5 => ?_)
    · have u6 : ar1.toInt ≤ 9999 := t_leu h5 (by decide : (9999:Int32).toInt ≤ (9999:Int))
      refine ev_loc f_X11_keep (nx := 19) rfl rfl rfl rfl ?_
      rcases hI.2.2.2.1.2.1 with e7 | ⟨a7, e7, p7⟩
      · refine ev_getR f_X11_keep (nx := 22) rfl (hI.wf.s rfl) rfl rfl e7 rfl rfl ?_
        refine ev_jmp f_X11_keep (nx := 25) rfl rfl rfl ?_
        refine ev_loc f_X11_keep (nx := 26) rfl rfl rfl rfl ?_
        refine ev_bp f_X11_keep (nx := 28) (v := 6) rfl (by decide) rfl ?_
        refine ev_inV2 f_X11_keep (nx := 31) (lo2 := [(0, .ref 0), (1, .int 6)]) rfl rfl rfl rfl f_X11_refuse (hI.wf.s rfl) rfl rfl rfl rfl rfl ?_
        refine ev_loc f_X11_refuse (nx := 1) rfl rfl rfl rfl ?_
        refine ev_loc f_X11_refuse (nx := 2) rfl rfl rfl rfl ?_
        refine ev_putIT f_X11_refuse (nx := 5) rfl (hI.wf.s rfl) rfl rfl rfl (hI.put0 (hI.wf.s rfl) rfl rfl) (hX.upI rfl) (fun g8 e8 hI hX => ?_)
        refine ev_ic f_X11_refuse (nx := 6) (v := -1) rfl (by decide) rfl ?_
        refine ev_retK1 f_X11_refuse rfl rfl rfl ?_
        exact ev_ret f_X11_keep rfl rfl rfl ⟨_, _, _, rfl, hI, hX, ⟨_, rfl, (Int.le_trans (by decide : ((-2147483648):Int) ≤ (-1)) (by decide : ((-1):Int) ≤ ((-1):Int32).toInt)), (Int.le_trans (by decide : ((-1):Int32).toInt ≤ ((-1):Int)) (by decide : ((-1):Int) ≤ 2147483647))⟩⟩
      · refine ev_getR f_X11_keep (nx := 22) rfl (hI.wf.s rfl) rfl rfl e7 rfl rfl ?_
        refine ev_jmp f_X11_keep (nx := 32) rfl rfl rfl ?_
        refine ev_loc f_X11_keep (nx := 33) rfl rfl rfl rfl ?_
        refine ev_getR f_X11_keep (nx := 36) rfl (hI.wf.s rfl) rfl rfl (hI.wf.r rfl) rfl rfl ?_
        refine ev_loc f_X11_keep (nx := 37) rfl rfl rfl rfl ?_
        obtain ⟨a9, e9, p9⟩ := hI.2.2.2.1.1
        refine ev_getR f_X11_keep (nx := 40) rfl (hI.wf.s rfl) rfl rfl e9 rfl rfl ?_
        refine ev_loc f_X11_keep (nx := 41) rfl rfl rfl rfl ?_
        refine ev_getR f_X11_keep (nx := 44) (v := .ref a7) rfl (hI.wf.s rfl) rfl rfl e7 rfl rfl ?_
        refine ev_loc f_X11_keep (nx := 45) rfl rfl rfl rfl ?_
        refine ev_c0 f_X11_keep (nx := 48) (r := []) rfl rfl rfl rfl rfl rfl rfl (c_spendDay hI (a9) p9 (a7) p7 (ar1)) rfl hX rfl (fun gi10 gl10 gr10 hI hX hC10 => ?_)
        replace p7 := p7.ext hC10.2
        replace p9 := p9.ext hC10.2
        refine ev_loc f_X11_keep (nx := 49) rfl rfl rfl rfl ?_
        refine ev_getR f_X11_keep (nx := 52) rfl (hI.wf.s rfl) rfl rfl (hI.wf.r rfl) rfl rfl ?_
        refine ev_c0 f_X11_keep (nx := 55) (r := []) rfl rfl rfl rfl rfl rfl rfl (c_tellDay hI ) rfl hX rfl (fun gi11 gl11 gr11 hI hX hC11 => ?_)
        replace p7 := p7.ext hC11.2
        replace p9 := p9.ext hC11.2
        refine ev_loc f_X11_keep (nx := 56) rfl rfl rfl rfl ?_
        refine ev_loc f_X11_keep (nx := 57) rfl rfl rfl rfl ?_
        refine ev_getR f_X11_keep (nx := 60) rfl (hI.wf.s rfl) rfl rfl (hI.wf.r rfl) rfl rfl ?_
        refine ev_getI f_X11_keep (nx := 63) rfl (hI.wf.s rfl) rfl rfl rfl ?_
        refine ev_inV2 f_X11_keep (nx := 66) (lo2 := [(0, .ref 0), (1, .int (gi11 45 11))]) rfl rfl rfl rfl f_X11_answer (hI.wf.s rfl) rfl rfl rfl rfl rfl ?_
        refine ev_loc f_X11_answer (nx := 1) rfl rfl rfl rfl ?_
        refine ev_ic f_X11_answer (nx := 2) (v := 0) rfl (by decide) rfl ?_
        refine ev_putIT f_X11_answer (nx := 5) rfl (hI.wf.s rfl) rfl rfl rfl (hI.put0 (hI.wf.s rfl) rfl rfl) (hX.upI rfl) (fun g12 e12 hI hX => ?_)
        refine ev_loc f_X11_answer (nx := 6) rfl rfl rfl rfl ?_
        refine ev_retK1 f_X11_answer rfl rfl rfl ?_
        exact ev_ret f_X11_keep rfl rfl rfl ⟨_, _, _, rfl, hI, hX, ⟨_, rfl, (t_lo (gi11 45 11)), (t_hi (gi11 45 11))⟩⟩
    · have l13 : 10000 ≤ ar1.toInt := t_ltl (t_nle h5) (by decide : (9999:Int) ≤ (9999:Int32).toInt) rfl
      refine ev_loc f_X11_keep (nx := 13) rfl rfl rfl rfl ?_
      refine ev_ic f_X11_keep (nx := 14) (v := 1) rfl (by decide) rfl ?_
      refine ev_inV2 f_X11_keep (nx := 17) (lo2 := [(0, .ref 0), (1, .int 1)]) rfl rfl rfl rfl f_X11_refuse (hI.wf.s rfl) rfl rfl rfl rfl rfl ?_
      refine ev_loc f_X11_refuse (nx := 1) rfl rfl rfl rfl ?_
      refine ev_loc f_X11_refuse (nx := 2) rfl rfl rfl rfl ?_
      refine ev_putIT f_X11_refuse (nx := 5) rfl (hI.wf.s rfl) rfl rfl rfl (hI.put0 (hI.wf.s rfl) rfl rfl) (hX.upI rfl) (fun g14 e14 hI hX => ?_)
      refine ev_ic f_X11_refuse (nx := 6) (v := -1) rfl (by decide) rfl ?_
      refine ev_retK1 f_X11_refuse rfl rfl rfl ?_
      exact ev_ret f_X11_keep rfl rfl rfl ⟨_, _, _, rfl, hI, hX, ⟨_, rfl, (Int.le_trans (by decide : ((-2147483648):Int) ≤ (-1)) (by decide : ((-1):Int) ≤ ((-1):Int32).toInt)), (Int.le_trans (by decide : ((-1):Int32).toInt ≤ ((-1):Int)) (by decide : ((-1):Int) ≤ 2147483647))⟩⟩
noncomputable def wl_h_kept : List (Nat × Nat) := [(0, 0)]
theorem c_h_kept {X : x_Ext} {d : Nat} {sh : List (Nat ⊕ (Nat × Nat))} {gi : Nat → Nat → Int32} {gl : Nat → Nat → Int64} {gr : Nat → Nat → Value} (hI : t_I sh gi gr) (ar1 : Int32) : x_Me X (d + 2) n_X11_kept [.ref 0, .int ar1] (sh, gi, gl, gr) (t_P wl_h_kept sh gi gl gr (t_Ri (-2147483648) 2147483647)) := by
  have hX : t_X wl_h_kept sh gi gl gr gi gl gr := t_X.rf
  refine me_i f_X11_kept (hI.wf.s rfl) rfl rfl rfl ?_
  refine ev_loc f_X11_kept (nx := 1) rfl rfl rfl rfl ?_
  refine ev_if f_X11_kept (t1 := 16) (t2 := 4) rfl rfl rfl (fun h1 => ?_) (fun h1 => ?_)
  · have u2 : ar1.toInt ≤ (-1) := t_ltu h1 (by decide : (0:Int32).toInt ≤ (0:Int)) rfl
    refine ev_loc f_X11_kept (nx := 17) rfl rfl rfl rfl ?_
    refine ev_ic f_X11_kept (nx := 18) (v := 1) rfl (by decide) rfl ?_
    refine ev_inV2 f_X11_kept (nx := 21) (lo2 := [(0, .ref 0), (1, .int 1)]) rfl rfl rfl rfl f_X11_refuse (hI.wf.s rfl) rfl rfl rfl rfl rfl ?_
    refine ev_loc f_X11_refuse (nx := 1) rfl rfl rfl rfl ?_
    refine ev_loc f_X11_refuse (nx := 2) rfl rfl rfl rfl ?_
    refine ev_putIT f_X11_refuse (nx := 5) rfl (hI.wf.s rfl) rfl rfl rfl (hI.put0 (hI.wf.s rfl) rfl rfl) (hX.upI rfl) (fun g3 e3 hI hX => ?_)
    refine ev_ic f_X11_refuse (nx := 6) (v := -1) rfl (by decide) rfl ?_
    refine ev_retK1 f_X11_refuse rfl rfl rfl ?_
    exact ev_ret f_X11_kept rfl rfl rfl ⟨_, _, _, rfl, hI, hX, ⟨_, rfl, (Int.le_trans (by decide : ((-2147483648):Int) ≤ (-1)) (by decide : ((-1):Int) ≤ ((-1):Int32).toInt)), (Int.le_trans (by decide : ((-1):Int32).toInt ≤ ((-1):Int)) (by decide : ((-1):Int) ≤ 2147483647))⟩⟩
  · have l4 : 0 ≤ ar1.toInt := t_lel (t_nlt h1) (by decide : (0:Int) ≤ (0:Int32).toInt)
    refine ev_loc f_X11_kept (nx := 5) rfl rfl rfl rfl ?_
    refine ev_loc f_X11_kept (nx := 6) rfl rfl rfl rfl ?_
    refine ev_getR f_X11_kept (nx := 9) rfl (hI.wf.s rfl) rfl rfl (hI.wf.r rfl) rfl rfl ?_
    refine ev_getR f_X11_kept (nx := 12) rfl (hI.wf.s rfl) rfl rfl (hI.wf.r rfl) rfl rfl ?_
    refine ev_alenv f_X11_kept (nx := 13) (w := 5) rfl (hI.wf.s rfl) rfl (by decide) rfl ?_
    refine ev_if f_X11_kept (t1 := 22) (t2 := 16) rfl rfl rfl (fun h5 => ?_) (fun h5 => ?_)
    · have u6 : ar1.toInt ≤ 4 := t_ltu h5 (by decide : (5:Int32).toInt ≤ (5:Int)) rfl
      refine ev_loc f_X11_kept (nx := 23) rfl rfl rfl rfl ?_
      refine ev_getR f_X11_kept (nx := 26) rfl (hI.wf.s rfl) rfl rfl (hI.wf.r rfl) rfl rfl ?_
      refine ev_getI f_X11_kept (nx := 29) rfl (hI.wf.s rfl) rfl rfl rfl ?_
      refine ev_if f_X11_kept (t1 := 48) (t2 := 32) rfl rfl rfl (fun h7 => ?_) (fun h7 => ?_)
      · have u8 : (gi 45 15).toInt ≤ 0 := t_equ h7 (by decide : (0:Int32).toInt ≤ (0:Int))
        have l9 : 0 ≤ (gi 45 15).toInt := t_eql h7 (by decide : (0:Int) ≤ (0:Int32).toInt)
        refine ev_loc f_X11_kept (nx := 49) rfl rfl rfl rfl ?_
        refine ev_bp f_X11_kept (nx := 51) (v := 6) rfl (by decide) rfl ?_
        refine ev_inV2 f_X11_kept (nx := 54) (lo2 := [(0, .ref 0), (1, .int 6)]) rfl rfl rfl rfl f_X11_refuse (hI.wf.s rfl) rfl rfl rfl rfl rfl ?_
        refine ev_loc f_X11_refuse (nx := 1) rfl rfl rfl rfl ?_
        refine ev_loc f_X11_refuse (nx := 2) rfl rfl rfl rfl ?_
        refine ev_putIT f_X11_refuse (nx := 5) rfl (hI.wf.s rfl) rfl rfl rfl (hI.put0 (hI.wf.s rfl) rfl rfl) (hX.upI rfl) (fun g10 e10 hI hX => ?_)
        refine ev_ic f_X11_refuse (nx := 6) (v := -1) rfl (by decide) rfl ?_
        refine ev_retK1 f_X11_refuse rfl rfl rfl ?_
        exact ev_ret f_X11_kept rfl rfl rfl ⟨_, _, _, rfl, hI, hX, ⟨_, rfl, (Int.le_trans (by decide : ((-2147483648):Int) ≤ (-1)) (by decide : ((-1):Int) ≤ ((-1):Int32).toInt)), (Int.le_trans (by decide : ((-1):Int32).toInt ≤ ((-1):Int)) (by decide : ((-1):Int) ≤ 2147483647))⟩⟩
      · refine ev_loc f_X11_kept (nx := 33) rfl rfl rfl rfl ?_
        refine ev_loc f_X11_kept (nx := 34) rfl rfl rfl rfl ?_
        refine ev_getR f_X11_kept (nx := 37) rfl (hI.wf.s rfl) rfl rfl (hI.wf.r rfl) rfl rfl ?_
        refine ev_getR f_X11_kept (nx := 40) rfl (hI.wf.s rfl) rfl rfl (hI.wf.r rfl) rfl rfl ?_
        refine ev_loc f_X11_kept (nx := 41) rfl rfl rfl rfl ?_
        refine ev_ialdT f_X11_kept (nx := 42) rfl (hI.wf.s rfl) l4 (by decide) u6 (by decide) rfl (fun w11 e11 => ?_)
        refine ev_inV2 f_X11_kept (nx := 45) (lo2 := [(0, .ref 0), (1, .int w11)]) rfl rfl rfl rfl f_X11_answer (hI.wf.s rfl) rfl rfl rfl rfl rfl ?_
        refine ev_loc f_X11_answer (nx := 1) rfl rfl rfl rfl ?_
        refine ev_ic f_X11_answer (nx := 2) (v := 0) rfl (by decide) rfl ?_
        refine ev_putIT f_X11_answer (nx := 5) rfl (hI.wf.s rfl) rfl rfl rfl (hI.put0 (hI.wf.s rfl) rfl rfl) (hX.upI rfl) (fun g12 e12 hI hX => ?_)
        refine ev_loc f_X11_answer (nx := 6) rfl rfl rfl rfl ?_
        refine ev_retK1 f_X11_answer rfl rfl rfl ?_
        refine ev_jmp f_X11_kept (nx := 54) rfl rfl rfl ?_
        exact ev_ret f_X11_kept rfl rfl rfl ⟨_, _, _, rfl, hI, hX, ⟨_, rfl, (t_lo w11), (t_hi w11)⟩⟩
    · have l13 : 5 ≤ ar1.toInt := t_lel (t_nlt h5) (by decide : (5:Int) ≤ (5:Int32).toInt)
      refine ev_loc f_X11_kept (nx := 17) rfl rfl rfl rfl ?_
      refine ev_ic f_X11_kept (nx := 18) (v := 1) rfl (by decide) rfl ?_
      refine ev_inV2 f_X11_kept (nx := 21) (lo2 := [(0, .ref 0), (1, .int 1)]) rfl rfl rfl rfl f_X11_refuse (hI.wf.s rfl) rfl rfl rfl rfl rfl ?_
      refine ev_loc f_X11_refuse (nx := 1) rfl rfl rfl rfl ?_
      refine ev_loc f_X11_refuse (nx := 2) rfl rfl rfl rfl ?_
      refine ev_putIT f_X11_refuse (nx := 5) rfl (hI.wf.s rfl) rfl rfl rfl (hI.put0 (hI.wf.s rfl) rfl rfl) (hX.upI rfl) (fun g14 e14 hI hX => ?_)
      refine ev_ic f_X11_refuse (nx := 6) (v := -1) rfl (by decide) rfl ?_
      refine ev_retK1 f_X11_refuse rfl rfl rfl ?_
      exact ev_ret f_X11_kept rfl rfl rfl ⟨_, _, _, rfl, hI, hX, ⟨_, rfl, (Int.le_trans (by decide : ((-2147483648):Int) ≤ (-1)) (by decide : ((-1):Int) ≤ ((-1):Int32).toInt)), (Int.le_trans (by decide : ((-1):Int32).toInt ≤ ((-1):Int)) (by decide : ((-1):Int) ≤ 2147483647))⟩⟩
noncomputable def wl_h_odds : List (Nat × Nat) := [(0, 0), (0, 1), (0, 2), (45, 4), (45, 5), (45, 6), (45, 7), (45, 8), (45, 9), (45, 10), (45, 11), (45, 12), (45, 13), (45, 14), (46, 0), (47, 9999), (48, 9999), (49, 9999), (50, 9999), (51, 9999), (52, 0), (53, 9999), (54, 9999), (55, 9999), (56, 9999), (57, 9999), (58, 9999), (59, 9999)]
theorem c_h_odds {X : x_Ext} {d : Nat} {sh : List (Nat ⊕ (Nat × Nat))} {gi : Nat → Nat → Int32} {gl : Nat → Nat → Int64} {gr : Nat → Nat → Value} (hI : t_I sh gi gr) (ar1 : Int32) (ar2 : Int32) : x_Me X (d + 6) n_X11_odds [.ref 0, .int ar1, .int ar2] (sh, gi, gl, gr) (t_P wl_h_odds sh gi gl gr (t_Ri 0 1)) := by
  have hX : t_X wl_h_odds sh gi gl gr gi gl gr := t_X.rf
  refine me_i f_X11_odds (hI.wf.s rfl) rfl rfl rfl ?_
  refine ev_loc f_X11_odds (nx := 1) rfl rfl rfl rfl ?_
  refine ev_loc f_X11_odds (nx := 2) rfl rfl rfl rfl ?_
  refine ev_loc f_X11_odds (nx := 3) rfl rfl rfl rfl ?_
  refine ev_inV3 f_X11_odds (nx := 6) (lo2 := [(0, .ref 0), (1, .int ar1), (2, .int ar2)]) rfl rfl rfl rfl f_X11_wrongSeeds (hI.wf.s rfl) rfl rfl rfl rfl rfl ?_
  refine ev_loc f_X11_wrongSeeds (nx := 1) rfl rfl rfl rfl ?_
  refine ev_if f_X11_wrongSeeds (t1 := 33) (t2 := 4) rfl rfl rfl (fun h1 => ?_) (fun h1 => ?_)
  · have u2 : ar1.toInt ≤ (-1) := t_ltu h1 (by decide : (0:Int32).toInt ≤ (0:Int)) rfl
    refine ev_ic f_X11_wrongSeeds (nx := 34) (v := 1) rfl (by decide) rfl ?_
    refine ev_retK1 f_X11_wrongSeeds rfl rfl rfl ?_
    refine ev_loc f_X11_odds (nx := 7) (lo' := [(3, .int 1), (0, .ref 0), (1, .int ar1), (2, .int ar2)]) rfl rfl rfl rfl ?_
    refine ev_loc f_X11_odds (nx := 8) rfl rfl rfl rfl ?_
    refine ev_f f_X11_odds (t1 := 17) (t2 := 11) rfl rfl rfl (by decide) ?_
    refine ev_loc f_X11_odds (nx := 12) rfl rfl rfl rfl ?_
    refine ev_loc f_X11_odds (nx := 13) rfl rfl rfl rfl ?_
    refine ev_inV2 f_X11_odds (nx := 16) (lo2 := [(0, .ref 0), (1, .int 1)]) rfl rfl rfl rfl f_X11_deny (hI.wf.s rfl) rfl rfl rfl rfl rfl ?_
    refine ev_loc f_X11_deny (nx := 1) rfl rfl rfl rfl ?_
    refine ev_loc f_X11_deny (nx := 2) rfl rfl rfl rfl ?_
    refine ev_putIT f_X11_deny (nx := 5) rfl (hI.wf.s rfl) rfl rfl rfl (hI.put0 (hI.wf.s rfl) rfl rfl) (hX.upI rfl) (fun g3 e3 hI hX => ?_)
    refine ev_ic f_X11_deny (nx := 6) (v := 0) rfl (by decide) rfl ?_
    refine ev_retK1 f_X11_deny rfl rfl rfl ?_
    exact ev_ret f_X11_odds rfl rfl rfl ⟨_, _, _, rfl, hI, hX, ⟨_, rfl, (by decide : (0:Int) ≤ (0:Int32).toInt), (Int.le_trans (by decide : (0:Int32).toInt ≤ (0:Int)) (by decide : (0:Int) ≤ 1))⟩⟩
  · have l4 : 0 ≤ ar1.toInt := t_lel (t_nlt h1) (by decide : (0:Int) ≤ (0:Int32).toInt)
    refine ev_loc f_X11_wrongSeeds (nx := 5) rfl rfl rfl rfl ?_
    refine ev_sp f_X11_wrongSeeds (nx := 8) (v := 9999) rfl (by decide) rfl ?_
    refine ev_if f_X11_wrongSeeds (t1 := 33) (t2 := 11) rfl rfl rfl (fun h5 => ?_) (fun h5 => ?_)
    · have l6 : 10000 ≤ ar1.toInt := t_ltl h5 (by decide : (9999:Int) ≤ (9999:Int32).toInt) rfl
      refine ev_ic f_X11_wrongSeeds (nx := 34) (v := 1) rfl (by decide) rfl ?_
      refine ev_retK1 f_X11_wrongSeeds rfl rfl rfl ?_
      refine ev_loc f_X11_odds (nx := 7) (lo' := [(3, .int 1), (0, .ref 0), (1, .int ar1), (2, .int ar2)]) rfl rfl rfl rfl ?_
      refine ev_loc f_X11_odds (nx := 8) rfl rfl rfl rfl ?_
      refine ev_f f_X11_odds (t1 := 17) (t2 := 11) rfl rfl rfl (by decide) ?_
      refine ev_loc f_X11_odds (nx := 12) rfl rfl rfl rfl ?_
      refine ev_loc f_X11_odds (nx := 13) rfl rfl rfl rfl ?_
      refine ev_inV2 f_X11_odds (nx := 16) (lo2 := [(0, .ref 0), (1, .int 1)]) rfl rfl rfl rfl f_X11_deny (hI.wf.s rfl) rfl rfl rfl rfl rfl ?_
      refine ev_loc f_X11_deny (nx := 1) rfl rfl rfl rfl ?_
      refine ev_loc f_X11_deny (nx := 2) rfl rfl rfl rfl ?_
      refine ev_putIT f_X11_deny (nx := 5) rfl (hI.wf.s rfl) rfl rfl rfl (hI.put0 (hI.wf.s rfl) rfl rfl) (hX.upI rfl) (fun g7 e7 hI hX => ?_)
      refine ev_ic f_X11_deny (nx := 6) (v := 0) rfl (by decide) rfl ?_
      refine ev_retK1 f_X11_deny rfl rfl rfl ?_
      exact ev_ret f_X11_odds rfl rfl rfl ⟨_, _, _, rfl, hI, hX, ⟨_, rfl, (by decide : (0:Int) ≤ (0:Int32).toInt), (Int.le_trans (by decide : (0:Int32).toInt ≤ (0:Int)) (by decide : (0:Int) ≤ 1))⟩⟩
    · have u8 : ar1.toInt ≤ 9999 := t_leu (t_nlt h5) (by decide : (9999:Int32).toInt ≤ (9999:Int))
      refine ev_loc f_X11_wrongSeeds (nx := 12) rfl rfl rfl rfl ?_
      refine ev_ic f_X11_wrongSeeds (nx := 13) (v := 1) rfl (by decide) rfl ?_
      refine ev_if f_X11_wrongSeeds (t1 := 33) (t2 := 16) rfl rfl rfl (fun h9 => ?_) (fun h9 => ?_)
      · have u10 : ar2.toInt ≤ 0 := t_ltu h9 (by decide : (1:Int32).toInt ≤ (1:Int)) rfl
        refine ev_ic f_X11_wrongSeeds (nx := 34) (v := 1) rfl (by decide) rfl ?_
        refine ev_retK1 f_X11_wrongSeeds rfl rfl rfl ?_
        refine ev_loc f_X11_odds (nx := 7) (lo' := [(3, .int 1), (0, .ref 0), (1, .int ar1), (2, .int ar2)]) rfl rfl rfl rfl ?_
        refine ev_loc f_X11_odds (nx := 8) rfl rfl rfl rfl ?_
        refine ev_f f_X11_odds (t1 := 17) (t2 := 11) rfl rfl rfl (by decide) ?_
        refine ev_loc f_X11_odds (nx := 12) rfl rfl rfl rfl ?_
        refine ev_loc f_X11_odds (nx := 13) rfl rfl rfl rfl ?_
        refine ev_inV2 f_X11_odds (nx := 16) (lo2 := [(0, .ref 0), (1, .int 1)]) rfl rfl rfl rfl f_X11_deny (hI.wf.s rfl) rfl rfl rfl rfl rfl ?_
        refine ev_loc f_X11_deny (nx := 1) rfl rfl rfl rfl ?_
        refine ev_loc f_X11_deny (nx := 2) rfl rfl rfl rfl ?_
        refine ev_putIT f_X11_deny (nx := 5) rfl (hI.wf.s rfl) rfl rfl rfl (hI.put0 (hI.wf.s rfl) rfl rfl) (hX.upI rfl) (fun g11 e11 hI hX => ?_)
        refine ev_ic f_X11_deny (nx := 6) (v := 0) rfl (by decide) rfl ?_
        refine ev_retK1 f_X11_deny rfl rfl rfl ?_
        exact ev_ret f_X11_odds rfl rfl rfl ⟨_, _, _, rfl, hI, hX, ⟨_, rfl, (by decide : (0:Int) ≤ (0:Int32).toInt), (Int.le_trans (by decide : (0:Int32).toInt ≤ (0:Int)) (by decide : (0:Int) ≤ 1))⟩⟩
      · have l12 : 1 ≤ ar2.toInt := t_lel (t_nlt h9) (by decide : (1:Int) ≤ (1:Int32).toInt)
        refine ev_loc f_X11_wrongSeeds (nx := 17) rfl rfl rfl rfl ?_
        refine ev_bp f_X11_wrongSeeds (nx := 19) (v := 20) rfl (by decide) rfl ?_
        refine ev_if f_X11_wrongSeeds (t1 := 33) (t2 := 22) rfl rfl rfl (fun h13 => ?_) (fun h13 => ?_)
        · have l14 : 21 ≤ ar2.toInt := t_ltl h13 (by decide : (20:Int) ≤ (20:Int32).toInt) rfl
          refine ev_ic f_X11_wrongSeeds (nx := 34) (v := 1) rfl (by decide) rfl ?_
          refine ev_retK1 f_X11_wrongSeeds rfl rfl rfl ?_
          refine ev_loc f_X11_odds (nx := 7) (lo' := [(3, .int 1), (0, .ref 0), (1, .int ar1), (2, .int ar2)]) rfl rfl rfl rfl ?_
          refine ev_loc f_X11_odds (nx := 8) rfl rfl rfl rfl ?_
          refine ev_f f_X11_odds (t1 := 17) (t2 := 11) rfl rfl rfl (by decide) ?_
          refine ev_loc f_X11_odds (nx := 12) rfl rfl rfl rfl ?_
          refine ev_loc f_X11_odds (nx := 13) rfl rfl rfl rfl ?_
          refine ev_inV2 f_X11_odds (nx := 16) (lo2 := [(0, .ref 0), (1, .int 1)]) rfl rfl rfl rfl f_X11_deny (hI.wf.s rfl) rfl rfl rfl rfl rfl ?_
          refine ev_loc f_X11_deny (nx := 1) rfl rfl rfl rfl ?_
          refine ev_loc f_X11_deny (nx := 2) rfl rfl rfl rfl ?_
          refine ev_putIT f_X11_deny (nx := 5) rfl (hI.wf.s rfl) rfl rfl rfl (hI.put0 (hI.wf.s rfl) rfl rfl) (hX.upI rfl) (fun g15 e15 hI hX => ?_)
          refine ev_ic f_X11_deny (nx := 6) (v := 0) rfl (by decide) rfl ?_
          refine ev_retK1 f_X11_deny rfl rfl rfl ?_
          exact ev_ret f_X11_odds rfl rfl rfl ⟨_, _, _, rfl, hI, hX, ⟨_, rfl, (by decide : (0:Int) ≤ (0:Int32).toInt), (Int.le_trans (by decide : (0:Int32).toInt ≤ (0:Int)) (by decide : (0:Int) ≤ 1))⟩⟩
        · have u16 : ar2.toInt ≤ 20 := t_leu (t_nlt h13) (by decide : (20:Int32).toInt ≤ (20:Int))
          refine ev_loc f_X11_wrongSeeds (nx := 23) rfl rfl rfl rfl ?_
          refine ev_loc f_X11_wrongSeeds (nx := 24) rfl rfl rfl rfl ?_
          refine ev_addR f_X11_wrongSeeds (nx := 25) (l := 1) (u := 10019) rfl l4 u8 l12 u16 rfl rfl (by decide) (by decide) rfl (fun z17 e17 l17 u17 => ?_)
          refine ev_ic f_X11_wrongSeeds (nx := 26) (v := 1) rfl (by decide) rfl ?_
          refine ev_subC f_X11_wrongSeeds (nx := 27) (c := 1) (l := 0) (u := 10018) rfl (by decide) l17 u17 rfl rfl (by decide) (by decide) rfl (fun z18 e18 l18 u18 => ?_)
          refine ev_sp f_X11_wrongSeeds (nx := 30) (v := 9999) rfl (by decide) rfl ?_
          refine ev_if f_X11_wrongSeeds (t1 := 35) (t2 := 33) rfl rfl rfl (fun h19 => ?_) (fun h19 => ?_)
          · have u20 : z18.toInt ≤ 9999 := t_leu h19 (by decide : (9999:Int32).toInt ≤ (9999:Int))
            refine ev_loc f_X11_wrongSeeds (nx := 36) rfl rfl rfl rfl ?_
            rcases hI.2.2.2.1.2.1 with e21 | ⟨a21, e21, p21⟩
            · refine ev_getR f_X11_wrongSeeds (nx := 39) rfl (hI.wf.s rfl) rfl rfl e21 rfl rfl ?_
              refine ev_jmp f_X11_wrongSeeds (nx := 42) rfl rfl rfl ?_
              refine ev_bp f_X11_wrongSeeds (nx := 44) (v := 6) rfl (by decide) rfl ?_
              refine ev_jmp f_X11_wrongSeeds (nx := 48) rfl rfl rfl ?_
              refine ev_retK1 f_X11_wrongSeeds rfl rfl rfl ?_
              refine ev_loc f_X11_odds (nx := 7) (lo' := [(3, .int 6), (0, .ref 0), (1, .int ar1), (2, .int ar2)]) rfl rfl rfl rfl ?_
              refine ev_loc f_X11_odds (nx := 8) rfl rfl rfl rfl ?_
              refine ev_f f_X11_odds (t1 := 17) (t2 := 11) rfl rfl rfl (by decide) ?_
              refine ev_loc f_X11_odds (nx := 12) rfl rfl rfl rfl ?_
              refine ev_loc f_X11_odds (nx := 13) rfl rfl rfl rfl ?_
              refine ev_inV2 f_X11_odds (nx := 16) (lo2 := [(0, .ref 0), (1, .int 6)]) rfl rfl rfl rfl f_X11_deny (hI.wf.s rfl) rfl rfl rfl rfl rfl ?_
              refine ev_loc f_X11_deny (nx := 1) rfl rfl rfl rfl ?_
              refine ev_loc f_X11_deny (nx := 2) rfl rfl rfl rfl ?_
              refine ev_putIT f_X11_deny (nx := 5) rfl (hI.wf.s rfl) rfl rfl rfl (hI.put0 (hI.wf.s rfl) rfl rfl) (hX.upI rfl) (fun g22 e22 hI hX => ?_)
              refine ev_ic f_X11_deny (nx := 6) (v := 0) rfl (by decide) rfl ?_
              refine ev_retK1 f_X11_deny rfl rfl rfl ?_
              exact ev_ret f_X11_odds rfl rfl rfl ⟨_, _, _, rfl, hI, hX, ⟨_, rfl, (by decide : (0:Int) ≤ (0:Int32).toInt), (Int.le_trans (by decide : (0:Int32).toInt ≤ (0:Int)) (by decide : (0:Int) ≤ 1))⟩⟩
            · refine ev_getR f_X11_wrongSeeds (nx := 39) rfl (hI.wf.s rfl) rfl rfl e21 rfl rfl ?_
              refine ev_jmp f_X11_wrongSeeds (nx := 47) rfl rfl rfl ?_
              refine ev_ic f_X11_wrongSeeds (nx := 48) (v := 0) rfl (by decide) rfl ?_
              refine ev_retK1 f_X11_wrongSeeds rfl rfl rfl ?_
              refine ev_loc f_X11_odds (nx := 7) (lo' := [(3, .int 0), (0, .ref 0), (1, .int ar1), (2, .int ar2)]) rfl rfl rfl rfl ?_
              refine ev_loc f_X11_odds (nx := 8) rfl rfl rfl rfl ?_
              refine ev_t f_X11_odds (t1 := 17) (t2 := 11) rfl rfl rfl (by decide) ?_
              refine ev_ic f_X11_odds (nx := 18) (v := 0) rfl (by decide) rfl ?_
              refine ev_loc f_X11_odds (nx := 20) (lo' := [(4, .int 0), (3, .int 0), (0, .ref 0), (1, .int ar1), (2, .int ar2)]) rfl rfl rfl rfl ?_
              refine ev_ic f_X11_odds (nx := 21) (v := 0) rfl (by decide) rfl ?_
              refine ev_loc f_X11_odds (nx := 23) (lo' := [(5, .int 0), (4, .int 0), (3, .int 0), (0, .ref 0), (1, .int ar1), (2, .int ar2)]) rfl rfl rfl rfl ?_
              have L23 : ∀ (m23 : Nat) (gi23 : Nat → Nat → Int32) (gl23 : Nat → Nat → Int64) (gr23 : Nat → Nat → Value) (y23_5 : Int32) (y23_4 : Int32), t_I sh gi23 gr23 → t_X wl_h_odds sh gi gl gr gi23 gl23 gr23 → t_Ru sh gr23 a21 → 0 ≤ y23_5.toInt → y23_5.toInt ≤ 20 → gr23 0 7 = .ref a21 → (20 - y23_5.toInt).toNat = m23 → x_Ev X (d + 6) n_X11_odds 23 [(5, .int y23_5), (4, .int y23_4), (3, .int 0), (0, .ref 0), (1, .int ar1), (2, .int ar2)] [] (sh, gi23, gl23, gr23) (t_P wl_h_odds sh gi gl gr (t_Ri 0 1)) := by
                intro m23
                induction m23 using Nat.strongRecOn with
                | _ m23 ih23 =>
                intro gi23 gl23 gr23 y23_5 y23_4 hI hX p21 l23_5 u23_5 c23_0 hm23
                refine ev_loc f_X11_odds (nx := 25) rfl rfl rfl rfl ?_
                refine ev_loc f_X11_odds (nx := 26) rfl rfl rfl rfl ?_
                refine ev_if f_X11_odds (t1 := 77) (t2 := 29) rfl rfl rfl (fun h24 => ?_) (fun h24 => ?_)
                · have l25 : 1 ≤ y23_5.toInt := t_lel h24 l12
                  refine ev_loc f_X11_odds (nx := 78) rfl rfl rfl rfl ?_
                  refine ev_loc f_X11_odds (nx := 80) rfl rfl rfl rfl ?_
                  refine ev_loc f_X11_odds (nx := 81) rfl rfl rfl rfl ?_
                  refine ev_c0 f_X11_odds (nx := 84) (r := []) rfl rfl rfl rfl rfl rfl rfl (c_tellFraction hI (y23_4) (ar2)) rfl hX rfl (fun gi26 gl26 gr26 hI hX hC26 => ?_)
                  replace p21 := p21.ext hC26.2
                  refine ev_loc f_X11_odds (nx := 85) rfl rfl rfl rfl ?_
                  refine ev_inV1 f_X11_odds (nx := 88) (lo2 := [(0, .ref 0)]) rfl rfl rfl rfl f_X11_grant (hI.wf.s rfl) rfl rfl rfl rfl rfl ?_
                  refine ev_loc f_X11_grant (nx := 1) rfl rfl rfl rfl ?_
                  refine ev_ic f_X11_grant (nx := 2) (v := 0) rfl (by decide) rfl ?_
                  refine ev_putIT f_X11_grant (nx := 5) rfl (hI.wf.s rfl) rfl rfl rfl (hI.put0 (hI.wf.s rfl) rfl rfl) (hX.upI rfl) (fun g27 e27 hI hX => ?_)
                  refine ev_ic f_X11_grant (nx := 6) (v := 1) rfl (by decide) rfl ?_
                  refine ev_retK1 f_X11_grant rfl rfl rfl ?_
                  exact ev_ret f_X11_odds rfl rfl rfl ⟨_, _, _, rfl, hI, hX, ⟨_, rfl, (Int.le_trans (by decide : (0:Int) ≤ 1) (by decide : (1:Int) ≤ (1:Int32).toInt)), (by decide : (1:Int32).toInt ≤ (1:Int))⟩⟩
                · have u28 : y23_5.toInt ≤ 19 := t_ltu (t_nle h24) u16 rfl
                  refine ev_loc f_X11_odds (nx := 30) rfl rfl rfl rfl ?_
                  refine ev_getR f_X11_odds (nx := 33) rfl (hI.wf.s rfl) rfl rfl (hI.wf.r rfl) rfl rfl ?_
                  refine ev_loc f_X11_odds (nx := 34) rfl rfl rfl rfl ?_
                  obtain ⟨a29, e29, p29⟩ := hI.2.2.2.1.1
                  refine ev_getR f_X11_odds (nx := 37) rfl (hI.wf.s rfl) rfl rfl e29 rfl rfl ?_
                  refine ev_loc f_X11_odds (nx := 38) rfl rfl rfl rfl ?_
                  refine ev_getR f_X11_odds (nx := 41) (v := .ref a21) rfl (hI.wf.s rfl) rfl rfl c23_0 rfl rfl ?_
                  refine ev_loc f_X11_odds (nx := 42) rfl rfl rfl rfl ?_
                  refine ev_loc f_X11_odds (nx := 44) rfl rfl rfl rfl ?_
                  refine ev_addR f_X11_odds (nx := 45) (l := 0) (u := 10018) rfl l4 u8 l23_5 u28 rfl rfl (by decide) (by decide) rfl (fun z30 e30 l30 u30 => ?_)
                  refine ev_c0 f_X11_odds (nx := 48) (r := []) rfl rfl rfl rfl rfl rfl rfl (c_spendDay hI (a29) p29 (a21) p21 (z30)) rfl hX rfl (fun gi31 gl31 gr31 hI hX hC31 => ?_)
                  replace p21 := p21.ext hC31.2
                  replace p29 := p29.ext hC31.2
                  refine ev_loc f_X11_odds (nx := 49) rfl rfl rfl rfl ?_
                  refine ev_getR f_X11_odds (nx := 52) rfl (hI.wf.s rfl) rfl rfl (hI.wf.r rfl) rfl rfl ?_
                  refine ev_getI f_X11_odds (nx := 55) rfl (hI.wf.s rfl) rfl rfl rfl ?_
                  refine ev_if f_X11_odds (t1 := 58) (t2 := 71) rfl rfl rfl (fun h32 => ?_) (fun h32 => ?_)
                  · have u33 : (gi31 45 12).toInt ≤ 0 := t_equ h32 (by decide : (0:Int32).toInt ≤ (0:Int))
                    have l34 : 0 ≤ (gi31 45 12).toInt := t_eql h32 (by decide : (0:Int) ≤ (0:Int32).toInt)
                    refine ev_loc f_X11_odds (nx := 59) rfl rfl rfl rfl ?_
                    refine ev_getR f_X11_odds (nx := 62) rfl (hI.wf.s rfl) rfl rfl (hI.wf.r rfl) rfl rfl ?_
                    refine ev_cI f_X11_odds (nx := 65) (r := []) rfl rfl rfl rfl rfl rfl rfl (c_left hI ) rfl hX rfl (fun w35 gi35 gl35 gr35 l35 u35 hI hX hC35 => ?_)
                    replace p21 := p21.ext hC35.2
                    replace p29 := p29.ext hC35.2
                    refine ev_if f_X11_odds (t1 := 68) (t2 := 71) rfl rfl rfl (fun h36 => ?_) (fun h36 => ?_)
                    · have u37 : w35.toInt ≤ 0 := t_equ h36 (by decide : (0:Int32).toInt ≤ (0:Int))
                      have l38 : 0 ≤ w35.toInt := t_eql h36 (by decide : (0:Int) ≤ (0:Int32).toInt)
                      refine ev_incN f_X11_odds (nx := 71) rfl rfl (by decide) rfl (fun z39 => ?_)
                      refine ev_incR f_X11_odds (nx := 74) (c := 1) (l := 1) (u := 20) rfl rfl (by decide) (by decide) l23_5 u28 rfl rfl (by decide) (by decide) rfl (fun z40 e40 l40 u40 => ?_)
                      refine ev_jmp f_X11_odds (nx := 23) rfl rfl rfl ?_
                      refine ev_sub (lo := [(5, .int z40), (4, .int z39), (3, .int 0), (0, .ref 0), (1, .int ar1), (2, .int ar2)]) rfl (t_sc rfl (t_sc rfl (t_sc rfl (t_sc rfl (t_sc rfl (t_sc rfl t_sn)))))) ?_
                      exact ih23 _ (by omega) gi35 gl35 gr35 (z40) (z39) hI hX p21 (Int.le_trans (by decide : (0:Int) ≤ 1) l40) u40 ((hC35.1 0 7 rfl).2.2.trans ((hC31.1 0 7 rfl).2.2.trans c23_0)) rfl
                    · refine ev_incR f_X11_odds (nx := 74) (c := 1) (l := 1) (u := 20) rfl rfl (by decide) (by decide) l23_5 u28 rfl rfl (by decide) (by decide) rfl (fun z41 e41 l41 u41 => ?_)
                      refine ev_jmp f_X11_odds (nx := 23) rfl rfl rfl ?_
                      refine ev_sub (lo := [(5, .int z41), (4, .int y23_4), (3, .int 0), (0, .ref 0), (1, .int ar1), (2, .int ar2)]) rfl (t_sc rfl (t_sc rfl (t_sc rfl (t_sc rfl (t_sc rfl (t_sc rfl t_sn)))))) ?_
                      exact ih23 _ (by omega) gi35 gl35 gr35 (z41) (y23_4) hI hX p21 (Int.le_trans (by decide : (0:Int) ≤ 1) l41) u41 ((hC35.1 0 7 rfl).2.2.trans ((hC31.1 0 7 rfl).2.2.trans c23_0)) rfl
                  · refine ev_incR f_X11_odds (nx := 74) (c := 1) (l := 1) (u := 20) rfl rfl (by decide) (by decide) l23_5 u28 rfl rfl (by decide) (by decide) rfl (fun z42 e42 l42 u42 => ?_)
                    refine ev_jmp f_X11_odds (nx := 23) rfl rfl rfl ?_
                    refine ev_sub (lo := [(5, .int z42), (4, .int y23_4), (3, .int 0), (0, .ref 0), (1, .int ar1), (2, .int ar2)]) rfl (t_sc rfl (t_sc rfl (t_sc rfl (t_sc rfl (t_sc rfl (t_sc rfl t_sn)))))) ?_
                    exact ih23 _ (by omega) gi31 gl31 gr31 (z42) (y23_4) hI hX p21 (Int.le_trans (by decide : (0:Int) ≤ 1) l42) u42 ((hC31.1 0 7 rfl).2.2.trans c23_0) rfl
              refine ev_sub (lo := [(5, .int 0), (4, .int 0), (3, .int 0), (0, .ref 0), (1, .int ar1), (2, .int ar2)]) rfl (t_sc rfl (t_sc rfl (t_sc rfl (t_sc rfl (t_sc rfl (t_sc rfl t_sn)))))) ?_
              exact L23 _ gi gl gr (0) (0) hI hX p21 (by decide : (0:Int) ≤ (0:Int32).toInt) (Int.le_trans (by decide : (0:Int32).toInt ≤ (0:Int)) (by decide : (0:Int) ≤ 20)) e21 rfl
          · have l43 : 10000 ≤ z18.toInt := t_ltl (t_nle h19) (by decide : (9999:Int) ≤ (9999:Int32).toInt) rfl
            refine ev_ic f_X11_wrongSeeds (nx := 34) (v := 1) rfl (by decide) rfl ?_
            refine ev_retK1 f_X11_wrongSeeds rfl rfl rfl ?_
            refine ev_loc f_X11_odds (nx := 7) (lo' := [(3, .int 1), (0, .ref 0), (1, .int ar1), (2, .int ar2)]) rfl rfl rfl rfl ?_
            refine ev_loc f_X11_odds (nx := 8) rfl rfl rfl rfl ?_
            refine ev_f f_X11_odds (t1 := 17) (t2 := 11) rfl rfl rfl (by decide) ?_
            refine ev_loc f_X11_odds (nx := 12) rfl rfl rfl rfl ?_
            refine ev_loc f_X11_odds (nx := 13) rfl rfl rfl rfl ?_
            refine ev_inV2 f_X11_odds (nx := 16) (lo2 := [(0, .ref 0), (1, .int 1)]) rfl rfl rfl rfl f_X11_deny (hI.wf.s rfl) rfl rfl rfl rfl rfl ?_
            refine ev_loc f_X11_deny (nx := 1) rfl rfl rfl rfl ?_
            refine ev_loc f_X11_deny (nx := 2) rfl rfl rfl rfl ?_
            refine ev_putIT f_X11_deny (nx := 5) rfl (hI.wf.s rfl) rfl rfl rfl (hI.put0 (hI.wf.s rfl) rfl rfl) (hX.upI rfl) (fun g44 e44 hI hX => ?_)
            refine ev_ic f_X11_deny (nx := 6) (v := 0) rfl (by decide) rfl ?_
            refine ev_retK1 f_X11_deny rfl rfl rfl ?_
            exact ev_ret f_X11_odds rfl rfl rfl ⟨_, _, _, rfl, hI, hX, ⟨_, rfl, (by decide : (0:Int) ≤ (0:Int32).toInt), (Int.le_trans (by decide : (0:Int32).toInt ≤ (0:Int)) (by decide : (0:Int) ≤ 1))⟩⟩
noncomputable def wl_h_waits : List (Nat × Nat) := [(0, 0), (45, 4), (45, 5), (45, 6), (45, 7), (45, 8), (45, 9), (45, 10), (45, 11), (45, 12), (45, 13), (45, 14), (46, 0), (47, 9999), (48, 9999), (49, 9999), (50, 9999), (51, 9999), (52, 0), (53, 9999), (54, 9999), (55, 9999), (56, 9999), (57, 9999), (58, 9999), (59, 9999)]
theorem c_h_waits {X : x_Ext} {d : Nat} {sh : List (Nat ⊕ (Nat × Nat))} {gi : Nat → Nat → Int32} {gl : Nat → Nat → Int64} {gr : Nat → Nat → Value} (hI : t_I sh gi gr) (ar1 : Int32) (ar2 : Int32) : x_Me X (d + 6) n_X11_waits [.ref 0, .int ar1, .int ar2] (sh, gi, gl, gr) (t_P wl_h_waits sh gi gl gr (t_Ri (-2147483648) 2147483647)) := by
  have hX : t_X wl_h_waits sh gi gl gr gi gl gr := t_X.rf
  refine me_i f_X11_waits (hI.wf.s rfl) rfl rfl rfl ?_
  refine ev_loc f_X11_waits (nx := 1) rfl rfl rfl rfl ?_
  refine ev_loc f_X11_waits (nx := 2) rfl rfl rfl rfl ?_
  refine ev_loc f_X11_waits (nx := 3) rfl rfl rfl rfl ?_
  refine ev_inV3 f_X11_waits (nx := 6) (lo2 := [(0, .ref 0), (1, .int ar1), (2, .int ar2)]) rfl rfl rfl rfl f_X11_wrongSeeds (hI.wf.s rfl) rfl rfl rfl rfl rfl ?_
  refine ev_loc f_X11_wrongSeeds (nx := 1) rfl rfl rfl rfl ?_
  refine ev_if f_X11_wrongSeeds (t1 := 33) (t2 := 4) rfl rfl rfl (fun h1 => ?_) (fun h1 => ?_)
  · have u2 : ar1.toInt ≤ (-1) := t_ltu h1 (by decide : (0:Int32).toInt ≤ (0:Int)) rfl
    refine ev_ic f_X11_wrongSeeds (nx := 34) (v := 1) rfl (by decide) rfl ?_
    refine ev_retK1 f_X11_wrongSeeds rfl rfl rfl ?_
    refine ev_loc f_X11_waits (nx := 7) (lo' := [(3, .int 1), (0, .ref 0), (1, .int ar1), (2, .int ar2)]) rfl rfl rfl rfl ?_
    refine ev_loc f_X11_waits (nx := 8) rfl rfl rfl rfl ?_
    refine ev_f f_X11_waits (t1 := 17) (t2 := 11) rfl rfl rfl (by decide) ?_
    refine ev_loc f_X11_waits (nx := 12) rfl rfl rfl rfl ?_
    refine ev_loc f_X11_waits (nx := 13) rfl rfl rfl rfl ?_
    refine ev_inV2 f_X11_waits (nx := 16) (lo2 := [(0, .ref 0), (1, .int 1)]) rfl rfl rfl rfl f_X11_refuse (hI.wf.s rfl) rfl rfl rfl rfl rfl ?_
    refine ev_loc f_X11_refuse (nx := 1) rfl rfl rfl rfl ?_
    refine ev_loc f_X11_refuse (nx := 2) rfl rfl rfl rfl ?_
    refine ev_putIT f_X11_refuse (nx := 5) rfl (hI.wf.s rfl) rfl rfl rfl (hI.put0 (hI.wf.s rfl) rfl rfl) (hX.upI rfl) (fun g3 e3 hI hX => ?_)
    refine ev_ic f_X11_refuse (nx := 6) (v := -1) rfl (by decide) rfl ?_
    refine ev_retK1 f_X11_refuse rfl rfl rfl ?_
    exact ev_ret f_X11_waits rfl rfl rfl ⟨_, _, _, rfl, hI, hX, ⟨_, rfl, (Int.le_trans (by decide : ((-2147483648):Int) ≤ (-1)) (by decide : ((-1):Int) ≤ ((-1):Int32).toInt)), (Int.le_trans (by decide : ((-1):Int32).toInt ≤ ((-1):Int)) (by decide : ((-1):Int) ≤ 2147483647))⟩⟩
  · have l4 : 0 ≤ ar1.toInt := t_lel (t_nlt h1) (by decide : (0:Int) ≤ (0:Int32).toInt)
    refine ev_loc f_X11_wrongSeeds (nx := 5) rfl rfl rfl rfl ?_
    refine ev_sp f_X11_wrongSeeds (nx := 8) (v := 9999) rfl (by decide) rfl ?_
    refine ev_if f_X11_wrongSeeds (t1 := 33) (t2 := 11) rfl rfl rfl (fun h5 => ?_) (fun h5 => ?_)
    · have l6 : 10000 ≤ ar1.toInt := t_ltl h5 (by decide : (9999:Int) ≤ (9999:Int32).toInt) rfl
      refine ev_ic f_X11_wrongSeeds (nx := 34) (v := 1) rfl (by decide) rfl ?_
      refine ev_retK1 f_X11_wrongSeeds rfl rfl rfl ?_
      refine ev_loc f_X11_waits (nx := 7) (lo' := [(3, .int 1), (0, .ref 0), (1, .int ar1), (2, .int ar2)]) rfl rfl rfl rfl ?_
      refine ev_loc f_X11_waits (nx := 8) rfl rfl rfl rfl ?_
      refine ev_f f_X11_waits (t1 := 17) (t2 := 11) rfl rfl rfl (by decide) ?_
      refine ev_loc f_X11_waits (nx := 12) rfl rfl rfl rfl ?_
      refine ev_loc f_X11_waits (nx := 13) rfl rfl rfl rfl ?_
      refine ev_inV2 f_X11_waits (nx := 16) (lo2 := [(0, .ref 0), (1, .int 1)]) rfl rfl rfl rfl f_X11_refuse (hI.wf.s rfl) rfl rfl rfl rfl rfl ?_
      refine ev_loc f_X11_refuse (nx := 1) rfl rfl rfl rfl ?_
      refine ev_loc f_X11_refuse (nx := 2) rfl rfl rfl rfl ?_
      refine ev_putIT f_X11_refuse (nx := 5) rfl (hI.wf.s rfl) rfl rfl rfl (hI.put0 (hI.wf.s rfl) rfl rfl) (hX.upI rfl) (fun g7 e7 hI hX => ?_)
      refine ev_ic f_X11_refuse (nx := 6) (v := -1) rfl (by decide) rfl ?_
      refine ev_retK1 f_X11_refuse rfl rfl rfl ?_
      exact ev_ret f_X11_waits rfl rfl rfl ⟨_, _, _, rfl, hI, hX, ⟨_, rfl, (Int.le_trans (by decide : ((-2147483648):Int) ≤ (-1)) (by decide : ((-1):Int) ≤ ((-1):Int32).toInt)), (Int.le_trans (by decide : ((-1):Int32).toInt ≤ ((-1):Int)) (by decide : ((-1):Int) ≤ 2147483647))⟩⟩
    · have u8 : ar1.toInt ≤ 9999 := t_leu (t_nlt h5) (by decide : (9999:Int32).toInt ≤ (9999:Int))
      refine ev_loc f_X11_wrongSeeds (nx := 12) rfl rfl rfl rfl ?_
      refine ev_ic f_X11_wrongSeeds (nx := 13) (v := 1) rfl (by decide) rfl ?_
      refine ev_if f_X11_wrongSeeds (t1 := 33) (t2 := 16) rfl rfl rfl (fun h9 => ?_) (fun h9 => ?_)
      · have u10 : ar2.toInt ≤ 0 := t_ltu h9 (by decide : (1:Int32).toInt ≤ (1:Int)) rfl
        refine ev_ic f_X11_wrongSeeds (nx := 34) (v := 1) rfl (by decide) rfl ?_
        refine ev_retK1 f_X11_wrongSeeds rfl rfl rfl ?_
        refine ev_loc f_X11_waits (nx := 7) (lo' := [(3, .int 1), (0, .ref 0), (1, .int ar1), (2, .int ar2)]) rfl rfl rfl rfl ?_
        refine ev_loc f_X11_waits (nx := 8) rfl rfl rfl rfl ?_
        refine ev_f f_X11_waits (t1 := 17) (t2 := 11) rfl rfl rfl (by decide) ?_
        refine ev_loc f_X11_waits (nx := 12) rfl rfl rfl rfl ?_
        refine ev_loc f_X11_waits (nx := 13) rfl rfl rfl rfl ?_
        refine ev_inV2 f_X11_waits (nx := 16) (lo2 := [(0, .ref 0), (1, .int 1)]) rfl rfl rfl rfl f_X11_refuse (hI.wf.s rfl) rfl rfl rfl rfl rfl ?_
        refine ev_loc f_X11_refuse (nx := 1) rfl rfl rfl rfl ?_
        refine ev_loc f_X11_refuse (nx := 2) rfl rfl rfl rfl ?_
        refine ev_putIT f_X11_refuse (nx := 5) rfl (hI.wf.s rfl) rfl rfl rfl (hI.put0 (hI.wf.s rfl) rfl rfl) (hX.upI rfl) (fun g11 e11 hI hX => ?_)
        refine ev_ic f_X11_refuse (nx := 6) (v := -1) rfl (by decide) rfl ?_
        refine ev_retK1 f_X11_refuse rfl rfl rfl ?_
        exact ev_ret f_X11_waits rfl rfl rfl ⟨_, _, _, rfl, hI, hX, ⟨_, rfl, (Int.le_trans (by decide : ((-2147483648):Int) ≤ (-1)) (by decide : ((-1):Int) ≤ ((-1):Int32).toInt)), (Int.le_trans (by decide : ((-1):Int32).toInt ≤ ((-1):Int)) (by decide : ((-1):Int) ≤ 2147483647))⟩⟩
      · have l12 : 1 ≤ ar2.toInt := t_lel (t_nlt h9) (by decide : (1:Int) ≤ (1:Int32).toInt)
        refine ev_loc f_X11_wrongSeeds (nx := 17) rfl rfl rfl rfl ?_
        refine ev_bp f_X11_wrongSeeds (nx := 19) (v := 20) rfl (by decide) rfl ?_
        refine ev_if f_X11_wrongSeeds (t1 := 33) (t2 := 22) rfl rfl rfl (fun h13 => ?_) (fun h13 => ?_)
        · have l14 : 21 ≤ ar2.toInt := t_ltl h13 (by decide : (20:Int) ≤ (20:Int32).toInt) rfl
          refine ev_ic f_X11_wrongSeeds (nx := 34) (v := 1) rfl (by decide) rfl ?_
          refine ev_retK1 f_X11_wrongSeeds rfl rfl rfl ?_
          refine ev_loc f_X11_waits (nx := 7) (lo' := [(3, .int 1), (0, .ref 0), (1, .int ar1), (2, .int ar2)]) rfl rfl rfl rfl ?_
          refine ev_loc f_X11_waits (nx := 8) rfl rfl rfl rfl ?_
          refine ev_f f_X11_waits (t1 := 17) (t2 := 11) rfl rfl rfl (by decide) ?_
          refine ev_loc f_X11_waits (nx := 12) rfl rfl rfl rfl ?_
          refine ev_loc f_X11_waits (nx := 13) rfl rfl rfl rfl ?_
          refine ev_inV2 f_X11_waits (nx := 16) (lo2 := [(0, .ref 0), (1, .int 1)]) rfl rfl rfl rfl f_X11_refuse (hI.wf.s rfl) rfl rfl rfl rfl rfl ?_
          refine ev_loc f_X11_refuse (nx := 1) rfl rfl rfl rfl ?_
          refine ev_loc f_X11_refuse (nx := 2) rfl rfl rfl rfl ?_
          refine ev_putIT f_X11_refuse (nx := 5) rfl (hI.wf.s rfl) rfl rfl rfl (hI.put0 (hI.wf.s rfl) rfl rfl) (hX.upI rfl) (fun g15 e15 hI hX => ?_)
          refine ev_ic f_X11_refuse (nx := 6) (v := -1) rfl (by decide) rfl ?_
          refine ev_retK1 f_X11_refuse rfl rfl rfl ?_
          exact ev_ret f_X11_waits rfl rfl rfl ⟨_, _, _, rfl, hI, hX, ⟨_, rfl, (Int.le_trans (by decide : ((-2147483648):Int) ≤ (-1)) (by decide : ((-1):Int) ≤ ((-1):Int32).toInt)), (Int.le_trans (by decide : ((-1):Int32).toInt ≤ ((-1):Int)) (by decide : ((-1):Int) ≤ 2147483647))⟩⟩
        · have u16 : ar2.toInt ≤ 20 := t_leu (t_nlt h13) (by decide : (20:Int32).toInt ≤ (20:Int))
          refine ev_loc f_X11_wrongSeeds (nx := 23) rfl rfl rfl rfl ?_
          refine ev_loc f_X11_wrongSeeds (nx := 24) rfl rfl rfl rfl ?_
          refine ev_addR f_X11_wrongSeeds (nx := 25) (l := 1) (u := 10019) rfl l4 u8 l12 u16 rfl rfl (by decide) (by decide) rfl (fun z17 e17 l17 u17 => ?_)
          refine ev_ic f_X11_wrongSeeds (nx := 26) (v := 1) rfl (by decide) rfl ?_
          refine ev_subC f_X11_wrongSeeds (nx := 27) (c := 1) (l := 0) (u := 10018) rfl (by decide) l17 u17 rfl rfl (by decide) (by decide) rfl (fun z18 e18 l18 u18 => ?_)
          refine ev_sp f_X11_wrongSeeds (nx := 30) (v := 9999) rfl (by decide) rfl ?_
          refine ev_if f_X11_wrongSeeds (t1 := 35) (t2 := 33) rfl rfl rfl (fun h19 => ?_) (fun h19 => ?_)
          · have u20 : z18.toInt ≤ 9999 := t_leu h19 (by decide : (9999:Int32).toInt ≤ (9999:Int))
            refine ev_loc f_X11_wrongSeeds (nx := 36) rfl rfl rfl rfl ?_
            rcases hI.2.2.2.1.2.1 with e21 | ⟨a21, e21, p21⟩
            · refine ev_getR f_X11_wrongSeeds (nx := 39) rfl (hI.wf.s rfl) rfl rfl e21 rfl rfl ?_
              refine ev_jmp f_X11_wrongSeeds (nx := 42) rfl rfl rfl ?_
              refine ev_bp f_X11_wrongSeeds (nx := 44) (v := 6) rfl (by decide) rfl ?_
              refine ev_jmp f_X11_wrongSeeds (nx := 48) rfl rfl rfl ?_
              refine ev_retK1 f_X11_wrongSeeds rfl rfl rfl ?_
              refine ev_loc f_X11_waits (nx := 7) (lo' := [(3, .int 6), (0, .ref 0), (1, .int ar1), (2, .int ar2)]) rfl rfl rfl rfl ?_
              refine ev_loc f_X11_waits (nx := 8) rfl rfl rfl rfl ?_
              refine ev_f f_X11_waits (t1 := 17) (t2 := 11) rfl rfl rfl (by decide) ?_
              refine ev_loc f_X11_waits (nx := 12) rfl rfl rfl rfl ?_
              refine ev_loc f_X11_waits (nx := 13) rfl rfl rfl rfl ?_
              refine ev_inV2 f_X11_waits (nx := 16) (lo2 := [(0, .ref 0), (1, .int 6)]) rfl rfl rfl rfl f_X11_refuse (hI.wf.s rfl) rfl rfl rfl rfl rfl ?_
              refine ev_loc f_X11_refuse (nx := 1) rfl rfl rfl rfl ?_
              refine ev_loc f_X11_refuse (nx := 2) rfl rfl rfl rfl ?_
              refine ev_putIT f_X11_refuse (nx := 5) rfl (hI.wf.s rfl) rfl rfl rfl (hI.put0 (hI.wf.s rfl) rfl rfl) (hX.upI rfl) (fun g22 e22 hI hX => ?_)
              refine ev_ic f_X11_refuse (nx := 6) (v := -1) rfl (by decide) rfl ?_
              refine ev_retK1 f_X11_refuse rfl rfl rfl ?_
              exact ev_ret f_X11_waits rfl rfl rfl ⟨_, _, _, rfl, hI, hX, ⟨_, rfl, (Int.le_trans (by decide : ((-2147483648):Int) ≤ (-1)) (by decide : ((-1):Int) ≤ ((-1):Int32).toInt)), (Int.le_trans (by decide : ((-1):Int32).toInt ≤ ((-1):Int)) (by decide : ((-1):Int) ≤ 2147483647))⟩⟩
            · refine ev_getR f_X11_wrongSeeds (nx := 39) rfl (hI.wf.s rfl) rfl rfl e21 rfl rfl ?_
              refine ev_jmp f_X11_wrongSeeds (nx := 47) rfl rfl rfl ?_
              refine ev_ic f_X11_wrongSeeds (nx := 48) (v := 0) rfl (by decide) rfl ?_
              refine ev_retK1 f_X11_wrongSeeds rfl rfl rfl ?_
              refine ev_loc f_X11_waits (nx := 7) (lo' := [(3, .int 0), (0, .ref 0), (1, .int ar1), (2, .int ar2)]) rfl rfl rfl rfl ?_
              refine ev_loc f_X11_waits (nx := 8) rfl rfl rfl rfl ?_
              refine ev_t f_X11_waits (t1 := 17) (t2 := 11) rfl rfl rfl (by decide) ?_
              refine ev_ic f_X11_waits (nx := 18) (v := 0) rfl (by decide) rfl ?_
              refine ev_loc f_X11_waits (nx := 20) (lo' := [(4, .int 0), (3, .int 0), (0, .ref 0), (1, .int ar1), (2, .int ar2)]) rfl rfl rfl rfl ?_
              refine ev_ic f_X11_waits (nx := 21) (v := 0) rfl (by decide) rfl ?_
              refine ev_loc f_X11_waits (nx := 23) (lo' := [(5, .int 0), (4, .int 0), (3, .int 0), (0, .ref 0), (1, .int ar1), (2, .int ar2)]) rfl rfl rfl rfl ?_
              have L23 : ∀ (m23 : Nat) (gi23 : Nat → Nat → Int32) (gl23 : Nat → Nat → Int64) (gr23 : Nat → Nat → Value) (y23_5 : Int32) (y23_4 : Int32), t_I sh gi23 gr23 → t_X wl_h_waits sh gi gl gr gi23 gl23 gr23 → t_Ru sh gr23 a21 → 0 ≤ y23_5.toInt → y23_5.toInt ≤ 20 → gr23 0 7 = .ref a21 → (20 - y23_5.toInt).toNat = m23 → x_Ev X (d + 6) n_X11_waits 23 [(5, .int y23_5), (4, .int y23_4), (3, .int 0), (0, .ref 0), (1, .int ar1), (2, .int ar2)] [] (sh, gi23, gl23, gr23) (t_P wl_h_waits sh gi gl gr (t_Ri (-2147483648) 2147483647)) := by
                intro m23
                induction m23 using Nat.strongRecOn with
                | _ m23 ih23 =>
                intro gi23 gl23 gr23 y23_5 y23_4 hI hX p21 l23_5 u23_5 c23_0 hm23
                refine ev_loc f_X11_waits (nx := 25) rfl rfl rfl rfl ?_
                refine ev_loc f_X11_waits (nx := 26) rfl rfl rfl rfl ?_
                refine ev_if f_X11_waits (t1 := 66) (t2 := 29) rfl rfl rfl (fun h24 => ?_) (fun h24 => ?_)
                · have l25 : 1 ≤ y23_5.toInt := t_lel h24 l12
                  refine ev_loc f_X11_waits (nx := 67) rfl rfl rfl rfl ?_
                  refine ev_loc f_X11_waits (nx := 69) rfl rfl rfl rfl ?_
                  refine ev_inV2 f_X11_waits (nx := 72) (lo2 := [(0, .ref 0), (1, .int y23_4)]) rfl rfl rfl rfl f_X11_answer (hI.wf.s rfl) rfl rfl rfl rfl rfl ?_
                  refine ev_loc f_X11_answer (nx := 1) rfl rfl rfl rfl ?_
                  refine ev_ic f_X11_answer (nx := 2) (v := 0) rfl (by decide) rfl ?_
                  refine ev_putIT f_X11_answer (nx := 5) rfl (hI.wf.s rfl) rfl rfl rfl (hI.put0 (hI.wf.s rfl) rfl rfl) (hX.upI rfl) (fun g26 e26 hI hX => ?_)
                  refine ev_loc f_X11_answer (nx := 6) rfl rfl rfl rfl ?_
                  refine ev_retK1 f_X11_answer rfl rfl rfl ?_
                  exact ev_ret f_X11_waits rfl rfl rfl ⟨_, _, _, rfl, hI, hX, ⟨_, rfl, (t_lo y23_4), (t_hi y23_4)⟩⟩
                · have u27 : y23_5.toInt ≤ 19 := t_ltu (t_nle h24) u16 rfl
                  refine ev_loc f_X11_waits (nx := 30) rfl rfl rfl rfl ?_
                  refine ev_getR f_X11_waits (nx := 33) rfl (hI.wf.s rfl) rfl rfl (hI.wf.r rfl) rfl rfl ?_
                  refine ev_loc f_X11_waits (nx := 34) rfl rfl rfl rfl ?_
                  obtain ⟨a28, e28, p28⟩ := hI.2.2.2.1.1
                  refine ev_getR f_X11_waits (nx := 37) rfl (hI.wf.s rfl) rfl rfl e28 rfl rfl ?_
                  refine ev_loc f_X11_waits (nx := 38) rfl rfl rfl rfl ?_
                  refine ev_getR f_X11_waits (nx := 41) (v := .ref a21) rfl (hI.wf.s rfl) rfl rfl c23_0 rfl rfl ?_
                  refine ev_loc f_X11_waits (nx := 42) rfl rfl rfl rfl ?_
                  refine ev_loc f_X11_waits (nx := 44) rfl rfl rfl rfl ?_
                  refine ev_addR f_X11_waits (nx := 45) (l := 0) (u := 10018) rfl l4 u8 l23_5 u27 rfl rfl (by decide) (by decide) rfl (fun z29 e29 l29 u29 => ?_)
                  refine ev_c0 f_X11_waits (nx := 48) (r := []) rfl rfl rfl rfl rfl rfl rfl (c_spendDay hI (a28) p28 (a21) p21 (z29)) rfl hX rfl (fun gi30 gl30 gr30 hI hX hC30 => ?_)
                  replace p21 := p21.ext hC30.2
                  replace p28 := p28.ext hC30.2
                  refine ev_loc f_X11_waits (nx := 50) rfl rfl rfl rfl ?_
                  refine ev_loc f_X11_waits (nx := 51) rfl rfl rfl rfl ?_
                  refine ev_getR f_X11_waits (nx := 54) rfl (hI.wf.s rfl) rfl rfl (hI.wf.r rfl) rfl rfl ?_
                  refine ev_getI f_X11_waits (nx := 57) rfl (hI.wf.s rfl) rfl rfl rfl ?_
                  refine ev_anyI f_X11_waits (nx := 58) rfl rfl rfl rfl (fun z31 => ?_)
                  refine ev_loc f_X11_waits (nx := 60) (lo' := [(4, .int z31), (5, .int y23_5), (3, .int 0), (0, .ref 0), (1, .int ar1), (2, .int ar2)]) rfl rfl rfl rfl ?_
                  refine ev_incR f_X11_waits (nx := 63) (c := 1) (l := 1) (u := 20) rfl rfl (by decide) (by decide) l23_5 u27 rfl rfl (by decide) (by decide) rfl (fun z32 e32 l32 u32 => ?_)
                  refine ev_jmp f_X11_waits (nx := 23) rfl rfl rfl ?_
                  refine ev_sub (lo := [(5, .int z32), (4, .int z31), (3, .int 0), (0, .ref 0), (1, .int ar1), (2, .int ar2)]) rfl (t_sc rfl (t_sc rfl (t_sc rfl (t_sc rfl (t_sc rfl (t_sc rfl t_sn)))))) ?_
                  exact ih23 _ (by omega) gi30 gl30 gr30 (z32) (z31) hI hX p21 (Int.le_trans (by decide : (0:Int) ≤ 1) l32) u32 ((hC30.1 0 7 rfl).2.2.trans c23_0) rfl
              refine ev_sub (lo := [(5, .int 0), (4, .int 0), (3, .int 0), (0, .ref 0), (1, .int ar1), (2, .int ar2)]) rfl (t_sc rfl (t_sc rfl (t_sc rfl (t_sc rfl (t_sc rfl (t_sc rfl t_sn)))))) ?_
              exact L23 _ gi gl gr (0) (0) hI hX p21 (by decide : (0:Int) ≤ (0:Int32).toInt) (Int.le_trans (by decide : (0:Int32).toInt ≤ (0:Int)) (by decide : (0:Int) ≤ 20)) e21 rfl
          · have l33 : 10000 ≤ z18.toInt := t_ltl (t_nle h19) (by decide : (9999:Int) ≤ (9999:Int32).toInt) rfl
            refine ev_ic f_X11_wrongSeeds (nx := 34) (v := 1) rfl (by decide) rfl ?_
            refine ev_retK1 f_X11_wrongSeeds rfl rfl rfl ?_
            refine ev_loc f_X11_waits (nx := 7) (lo' := [(3, .int 1), (0, .ref 0), (1, .int ar1), (2, .int ar2)]) rfl rfl rfl rfl ?_
            refine ev_loc f_X11_waits (nx := 8) rfl rfl rfl rfl ?_
            refine ev_f f_X11_waits (t1 := 17) (t2 := 11) rfl rfl rfl (by decide) ?_
            refine ev_loc f_X11_waits (nx := 12) rfl rfl rfl rfl ?_
            refine ev_loc f_X11_waits (nx := 13) rfl rfl rfl rfl ?_
            refine ev_inV2 f_X11_waits (nx := 16) (lo2 := [(0, .ref 0), (1, .int 1)]) rfl rfl rfl rfl f_X11_refuse (hI.wf.s rfl) rfl rfl rfl rfl rfl ?_
            refine ev_loc f_X11_refuse (nx := 1) rfl rfl rfl rfl ?_
            refine ev_loc f_X11_refuse (nx := 2) rfl rfl rfl rfl ?_
            refine ev_putIT f_X11_refuse (nx := 5) rfl (hI.wf.s rfl) rfl rfl rfl (hI.put0 (hI.wf.s rfl) rfl rfl) (hX.upI rfl) (fun g34 e34 hI hX => ?_)
            refine ev_ic f_X11_refuse (nx := 6) (v := -1) rfl (by decide) rfl ?_
            refine ev_retK1 f_X11_refuse rfl rfl rfl ?_
            exact ev_ret f_X11_waits rfl rfl rfl ⟨_, _, _, rfl, hI, hX, ⟨_, rfl, (Int.le_trans (by decide : ((-2147483648):Int) ≤ (-1)) (by decide : ((-1):Int) ≤ ((-1):Int32).toInt)), (Int.le_trans (by decide : ((-1):Int32).toInt ≤ ((-1):Int)) (by decide : ((-1):Int) ≤ 2147483647))⟩⟩
