/-! ===== printed by riv.py: doubt ===== -/
noncomputable def wl_d_doubtF : List (Nat × Nat) := [(0, 0), (0, 1), (0, 2)]
noncomputable def Q_d_doubtF (gi : Nat → Nat → Int32) (gl : Nat → Nat → Int64) (gr : Nat → Nat → Value) (ar1 : Int64) (ar2 : Int32) : Int32 → (Nat → Nat → Int32) → (Nat → Nat → Int64) → (Nat → Nat → Value) → Prop := fun (v : Int32) (gi2 : Nat → Nat → Int32) (gl2 : Nat → Nat → Int64) (gr2 : Nat → Nat → Value) => ∀ (u : Nat) (D : s_D), gr 0 6 = .ref u → t_VL gr u → t_CV gi gl u D → t_Cb D → ((1 ≤ ar1.toInt ∧ 0 ≤ ar2.toInt ∧ ar2.toInt < D 0 ∧ ¬ s_ct D ar1 (-1) = 0) → (gl2 0 1).toInt = (s_ct D ar1 ar2.toInt) / s_gc (s_ct D ar1 (-1)) (s_ct D ar1 ar2.toInt) ∧ (gl2 0 2).toInt = (s_ct D ar1 (-1)) / s_gc (s_ct D ar1 (-1)) (s_ct D ar1 ar2.toInt)) ∧ (¬ (1 ≤ ar1.toInt ∧ 0 ≤ ar2.toInt ∧ ar2.toInt < D 0 ∧ ¬ s_ct D ar1 (-1) = 0) → gl2 0 1 = gl 0 1 ∧ gl2 0 2 = gl 0 2)
theorem c_d_doubtF {X : x_Ext} {d : Nat} {sh : List (Nat ⊕ (Nat × Nat))} {gi : Nat → Nat → Int32} {gl : Nat → Nat → Int64} {gr : Nat → Nat → Value} (hI : t_I sh gi gr) (ar1 : Int64) (ar2 : Int32) : x_Me X (d + 6) n_X11_doubt [.ref 0, .long ar1, .int ar2] (sh, gi, gl, gr) (t_PI wl_d_doubtF sh gi gl gr 0 1 (Q_d_doubtF gi gl gr ar1 ar2)) := by
  have hX : t_X wl_d_doubtF sh gi gl gr gi gl gr := t_X.rf
  refine me_i f_X11_doubt (hI.wf.s rfl) rfl rfl rfl ?_
  refine ev_loc f_X11_doubt (nx := 1) rfl rfl rfl rfl ?_
  refine ev_lc f_X11_doubt (nx := 2) (v := 1) rfl (by decide) rfl ?_
  refine ev_anyIE f_X11_doubt (nx := 3) rfl rfl rfl rfl (fun z1 e1 => ?_)
  refine ev_if f_X11_doubt (t1 := 14) (t2 := 6) rfl rfl rfl (fun h2 => ?_) (fun h2 => ?_)
  · have u3 : z1.toInt ≤ (-1) := t_ltu h2 (by decide : (0:Int32).toInt ≤ (0:Int)) rfl
    refine ev_loc f_X11_doubt (nx := 15) rfl rfl rfl rfl ?_
    refine ev_ic f_X11_doubt (nx := 16) (v := 1) rfl (by decide) rfl ?_
    refine ev_inV2 f_X11_doubt (nx := 19) (lo2 := [(0, .ref 0), (1, .int 1)]) rfl rfl rfl rfl f_X11_deny (hI.wf.s rfl) rfl rfl rfl rfl rfl ?_
    refine ev_loc f_X11_deny (nx := 1) rfl rfl rfl rfl ?_
    refine ev_loc f_X11_deny (nx := 2) rfl rfl rfl rfl ?_
    refine ev_putIT f_X11_deny (nx := 5) rfl (hI.wf.s rfl) rfl rfl rfl (hI.put0 (hI.wf.s rfl) rfl rfl) (hX.upI rfl) (fun g4 e4 hI hX => ?_)
    refine ev_ic f_X11_deny (nx := 6) (v := 0) rfl (by decide) rfl ?_
    refine ev_retK1 f_X11_deny rfl rfl rfl ?_
    exact ev_ret f_X11_doubt rfl rfl rfl ⟨_, _, _, rfl, hI, hX, ⟨_, rfl, (by decide : (0:Int) ≤ (0:Int32).toInt), (Int.le_trans (by decide : (0:Int32).toInt ≤ (0:Int)) (by decide : (0:Int) ≤ 1)), (show ∀ (u : Nat) (D : s_D), gr 0 6 = .ref u → t_VL gr u → t_CV gi gl u D → t_Cb D → ((1 ≤ ar1.toInt ∧ 0 ≤ ar2.toInt ∧ ar2.toInt < D 0 ∧ ¬ s_ct D ar1 (-1) = 0) → (gl 0 1).toInt = (s_ct D ar1 ar2.toInt) / s_gc (s_ct D ar1 (-1)) (s_ct D ar1 ar2.toInt) ∧ (gl 0 2).toInt = (s_ct D ar1 (-1)) / s_gc (s_ct D ar1 (-1)) (s_ct D ar1 ar2.toInt)) ∧ (¬ (1 ≤ ar1.toInt ∧ 0 ≤ ar2.toInt ∧ ar2.toInt < D 0 ∧ ¬ s_ct D ar1 (-1) = 0) → gl 0 1 = gl 0 1 ∧ gl 0 2 = gl 0 2) from (by
                                                            intro u D hu hl hc hb
                                                            have hm := hc.1.1
                                                            have hlt := (t_lt1n e1 h2)
                                                            exact ⟨fun h => absurd h (by omega), fun _ => ⟨rfl, rfl⟩⟩))⟩⟩
  · have l5 : 0 ≤ z1.toInt := t_lel (t_nlt h2) (by decide : (0:Int) ≤ (0:Int32).toInt)
    refine ev_loc f_X11_doubt (nx := 7) rfl rfl rfl rfl ?_
    refine ev_loc f_X11_doubt (nx := 8) rfl rfl rfl rfl ?_
    refine ev_inV2 f_X11_doubt (nx := 11) (lo2 := [(0, .ref 0), (1, .int ar2)]) rfl rfl rfl rfl f_X11_isPort (hI.wf.s rfl) rfl rfl rfl rfl rfl ?_
    refine ev_loc f_X11_isPort (nx := 1) rfl rfl rfl rfl ?_
    refine ev_if f_X11_isPort (t1 := 19) (t2 := 4) rfl rfl rfl (fun h6 => ?_) (fun h6 => ?_)
    · have u7 : ar2.toInt ≤ (-1) := t_ltu h6 (by decide : (0:Int32).toInt ≤ (0:Int)) rfl
      refine ev_ic f_X11_isPort (nx := 20) (v := 0) rfl (by decide) rfl ?_
      refine ev_retK1 f_X11_isPort rfl rfl rfl ?_
      refine ev_t f_X11_doubt (t1 := 14) (t2 := 20) rfl rfl rfl (by decide) ?_
      refine ev_loc f_X11_doubt (nx := 15) rfl rfl rfl rfl ?_
      refine ev_ic f_X11_doubt (nx := 16) (v := 1) rfl (by decide) rfl ?_
      refine ev_inV2 f_X11_doubt (nx := 19) (lo2 := [(0, .ref 0), (1, .int 1)]) rfl rfl rfl rfl f_X11_deny (hI.wf.s rfl) rfl rfl rfl rfl rfl ?_
      refine ev_loc f_X11_deny (nx := 1) rfl rfl rfl rfl ?_
      refine ev_loc f_X11_deny (nx := 2) rfl rfl rfl rfl ?_
      refine ev_putIT f_X11_deny (nx := 5) rfl (hI.wf.s rfl) rfl rfl rfl (hI.put0 (hI.wf.s rfl) rfl rfl) (hX.upI rfl) (fun g8 e8 hI hX => ?_)
      refine ev_ic f_X11_deny (nx := 6) (v := 0) rfl (by decide) rfl ?_
      refine ev_retK1 f_X11_deny rfl rfl rfl ?_
      exact ev_ret f_X11_doubt rfl rfl rfl ⟨_, _, _, rfl, hI, hX, ⟨_, rfl, (by decide : (0:Int) ≤ (0:Int32).toInt), (Int.le_trans (by decide : (0:Int32).toInt ≤ (0:Int)) (by decide : (0:Int) ≤ 1)), (show ∀ (u : Nat) (D : s_D), gr 0 6 = .ref u → t_VL gr u → t_CV gi gl u D → t_Cb D → ((1 ≤ ar1.toInt ∧ 0 ≤ ar2.toInt ∧ ar2.toInt < D 0 ∧ ¬ s_ct D ar1 (-1) = 0) → (gl 0 1).toInt = (s_ct D ar1 ar2.toInt) / s_gc (s_ct D ar1 (-1)) (s_ct D ar1 ar2.toInt) ∧ (gl 0 2).toInt = (s_ct D ar1 (-1)) / s_gc (s_ct D ar1 (-1)) (s_ct D ar1 ar2.toInt)) ∧ (¬ (1 ≤ ar1.toInt ∧ 0 ≤ ar2.toInt ∧ ar2.toInt < D 0 ∧ ¬ s_ct D ar1 (-1) = 0) → gl 0 1 = gl 0 1 ∧ gl 0 2 = gl 0 2) from (by
                                                            intro u D hu hl hc hb
                                                            have hm := hc.1.1
                                                            have hlt := (t_lt1p e1 h2)
                                                            exact ⟨fun h => absurd h (by omega), fun _ => ⟨rfl, rfl⟩⟩))⟩⟩
    · have l9 : 0 ≤ ar2.toInt := t_lel (t_nlt h6) (by decide : (0:Int) ≤ (0:Int32).toInt)
      refine ev_loc f_X11_isPort (nx := 5) rfl rfl rfl rfl ?_
      refine ev_loc f_X11_isPort (nx := 6) rfl rfl rfl rfl ?_
      obtain ⟨a10, e10, p10⟩ := hI.2.2.2.1.1
      refine ev_getR f_X11_isPort (nx := 9) rfl (hI.wf.s rfl) rfl rfl e10 rfl rfl ?_
      refine ev_getI f_X11_isPort (nx := 12) rfl p10.1 rfl rfl rfl ?_
      obtain ⟨l11, u11⟩ := hI.b p10.1 (t_bdK rfl : t_bd 4 0 = some (0, 6))
      refine ev_if f_X11_isPort (t1 := 19) (t2 := 15) rfl rfl rfl (fun h12 => ?_) (fun h12 => ?_)
      · have r13 : (gi a10 0).toInt ≤ ar2.toInt := Int32.le_iff_toInt_le.mp h12
        refine ev_ic f_X11_isPort (nx := 20) (v := 0) rfl (by decide) rfl ?_
        refine ev_retK1 f_X11_isPort rfl rfl rfl ?_
        refine ev_t f_X11_doubt (t1 := 14) (t2 := 20) rfl rfl rfl (by decide) ?_
        refine ev_loc f_X11_doubt (nx := 15) rfl rfl rfl rfl ?_
        refine ev_ic f_X11_doubt (nx := 16) (v := 1) rfl (by decide) rfl ?_
        refine ev_inV2 f_X11_doubt (nx := 19) (lo2 := [(0, .ref 0), (1, .int 1)]) rfl rfl rfl rfl f_X11_deny (hI.wf.s rfl) rfl rfl rfl rfl rfl ?_
        refine ev_loc f_X11_deny (nx := 1) rfl rfl rfl rfl ?_
        refine ev_loc f_X11_deny (nx := 2) rfl rfl rfl rfl ?_
        refine ev_putIT f_X11_deny (nx := 5) rfl (hI.wf.s rfl) rfl rfl rfl (hI.put0 (hI.wf.s rfl) rfl rfl) (hX.upI rfl) (fun g14 e14 hI hX => ?_)
        refine ev_ic f_X11_deny (nx := 6) (v := 0) rfl (by decide) rfl ?_
        refine ev_retK1 f_X11_deny rfl rfl rfl ?_
        exact ev_ret f_X11_doubt rfl rfl rfl ⟨_, _, _, rfl, hI, hX, ⟨_, rfl, (by decide : (0:Int) ≤ (0:Int32).toInt), (Int.le_trans (by decide : (0:Int32).toInt ≤ (0:Int)) (by decide : (0:Int) ≤ 1)), (show ∀ (u : Nat) (D : s_D), gr 0 6 = .ref u → t_VL gr u → t_CV gi gl u D → t_Cb D → ((1 ≤ ar1.toInt ∧ 0 ≤ ar2.toInt ∧ ar2.toInt < D 0 ∧ ¬ s_ct D ar1 (-1) = 0) → (gl 0 1).toInt = (s_ct D ar1 ar2.toInt) / s_gc (s_ct D ar1 (-1)) (s_ct D ar1 ar2.toInt) ∧ (gl 0 2).toInt = (s_ct D ar1 (-1)) / s_gc (s_ct D ar1 (-1)) (s_ct D ar1 ar2.toInt)) ∧ (¬ (1 ≤ ar1.toInt ∧ 0 ≤ ar2.toInt ∧ ar2.toInt < D 0 ∧ ¬ s_ct D ar1 (-1) = 0) → gl 0 1 = gl 0 1 ∧ gl 0 2 = gl 0 2) from (by
                                                            intro u D hu hl hc hb
                                                            have ha : a10 = u := Value.ref.inj (e10.symm.trans hu)
                                                            subst ha
                                                            have hm := hc.1.1
                                                            have hlt := (t_lt1p e1 h2)
                                                            exact ⟨fun h => absurd h (by omega), fun _ => ⟨rfl, rfl⟩⟩))⟩⟩
      · have r15 : ar2.toInt < (gi a10 0).toInt := Int32.lt_iff_toInt_lt.mp (t_nle h12)
        have u16 : ar2.toInt ≤ 5 := t_ltu (t_nle h12) u11 rfl
        have l17 : 1 ≤ (gi a10 0).toInt := t_ltl (t_nle h12) l9 rfl
        refine ev_ic f_X11_isPort (nx := 16) (v := 1) rfl (by decide) rfl ?_
        refine ev_jmp f_X11_isPort (nx := 20) rfl rfl rfl ?_
        refine ev_retK1 f_X11_isPort rfl rfl rfl ?_
        refine ev_f f_X11_doubt (t1 := 14) (t2 := 20) rfl rfl rfl (by decide) ?_
        refine ev_loc f_X11_doubt (nx := 21) rfl rfl rfl rfl ?_
        refine ev_getR f_X11_doubt (nx := 24) (v := .ref a10) rfl (hI.wf.s rfl) rfl rfl e10 rfl rfl ?_
        refine ev_loc f_X11_doubt (nx := 25) rfl rfl rfl rfl ?_
        refine ev_ic f_X11_doubt (nx := 26) (v := -1) rfl (by decide) rfl ?_
        refine ev_qI0 f_X11_doubt (nx := 29) (r := []) rfl rfl rfl rfl rfl rfl rfl (c_d_countReadings hI (a10) p10 (ar1) ((-1))) rfl (fun w18 l18 u18 q18 => ?_)
        have q18 : ∀ D : s_D, t_VL gr a10 → t_CV gi gl a10 D → t_Cb D → w18.toInt = s_ct D ar1 (-1) := q18
        refine ev_loc f_X11_doubt (nx := 31) (lo' := [(4, .int w18), (0, .ref 0), (1, .long ar1), (3, .int ar2)]) rfl rfl rfl rfl ?_
        refine ev_loc f_X11_doubt (nx := 33) rfl rfl rfl rfl ?_
        refine ev_if f_X11_doubt (t1 := 36) (t2 := 43) rfl rfl rfl (fun h19 => ?_) (fun h19 => ?_)
        · have u20 : w18.toInt ≤ 0 := t_equ h19 (by decide : (0:Int32).toInt ≤ (0:Int))
          refine ev_loc f_X11_doubt (nx := 37) rfl rfl rfl rfl ?_
          refine ev_bp f_X11_doubt (nx := 39) (v := 6) rfl (by decide) rfl ?_
          refine ev_inV2 f_X11_doubt (nx := 42) (lo2 := [(0, .ref 0), (1, .int 6)]) rfl rfl rfl rfl f_X11_deny (hI.wf.s rfl) rfl rfl rfl rfl rfl ?_
          refine ev_loc f_X11_deny (nx := 1) rfl rfl rfl rfl ?_
          refine ev_loc f_X11_deny (nx := 2) rfl rfl rfl rfl ?_
          refine ev_putIT f_X11_deny (nx := 5) rfl (hI.wf.s rfl) rfl rfl rfl (hI.put0 (hI.wf.s rfl) rfl rfl) (hX.upI rfl) (fun g21 e21 hI hX => ?_)
          refine ev_ic f_X11_deny (nx := 6) (v := 0) rfl (by decide) rfl ?_
          refine ev_retK1 f_X11_deny rfl rfl rfl ?_
          exact ev_ret f_X11_doubt rfl rfl rfl ⟨_, _, _, rfl, hI, hX, ⟨_, rfl, (by decide : (0:Int) ≤ (0:Int32).toInt), (Int.le_trans (by decide : (0:Int32).toInt ≤ (0:Int)) (by decide : (0:Int) ≤ 1)), (show ∀ (u : Nat) (D : s_D), gr 0 6 = .ref u → t_VL gr u → t_CV gi gl u D → t_Cb D → ((1 ≤ ar1.toInt ∧ 0 ≤ ar2.toInt ∧ ar2.toInt < D 0 ∧ ¬ s_ct D ar1 (-1) = 0) → (gl 0 1).toInt = (s_ct D ar1 ar2.toInt) / s_gc (s_ct D ar1 (-1)) (s_ct D ar1 ar2.toInt) ∧ (gl 0 2).toInt = (s_ct D ar1 (-1)) / s_gc (s_ct D ar1 (-1)) (s_ct D ar1 ar2.toInt)) ∧ (¬ (1 ≤ ar1.toInt ∧ 0 ≤ ar2.toInt ∧ ar2.toInt < D 0 ∧ ¬ s_ct D ar1 (-1) = 0) → gl 0 1 = gl 0 1 ∧ gl 0 2 = gl 0 2) from (by
                                                            intro u D hu hl hc hb
                                                            have ha : a10 = u := Value.ref.inj (e10.symm.trans hu)
                                                            subst ha
                                                            have hm := hc.1.1
                                                            have hlt := (t_lt1p e1 h2)
                                                            have hq := q18 D hl hc hb
                                                            exact ⟨fun h => absurd (hq.symm.trans (by have z0 : (0 : Int32).toInt = 0 := rfl; omega)) h.2.2.2, fun _ => ⟨rfl, rfl⟩⟩))⟩⟩
        · have r22 : w18.toInt ≠ 0 := fun e => h19 (Int32.toInt_inj.mp (e.trans (by decide : (0:Int) = (0 : Int32).toInt)))
          have l23 : 1 ≤ w18.toInt := t_nel h19 l18 rfl rfl
          refine ev_loc f_X11_doubt (nx := 44) rfl rfl rfl rfl ?_
          refine ev_loc f_X11_doubt (nx := 45) rfl rfl rfl rfl ?_
          refine ev_getR f_X11_doubt (nx := 48) (v := .ref a10) rfl (hI.wf.s rfl) rfl rfl e10 rfl rfl ?_
          refine ev_loc f_X11_doubt (nx := 49) rfl rfl rfl rfl ?_
          refine ev_loc f_X11_doubt (nx := 50) rfl rfl rfl rfl ?_
          refine ev_qI0 f_X11_doubt (nx := 53) (r := [.ref 0]) rfl rfl rfl rfl rfl rfl rfl (c_d_countReadings hI (a10) p10 (ar1) (ar2)) rfl (fun w24 l24 u24 q24 => ?_)
          have q24 : ∀ D : s_D, t_VL gr a10 → t_CV gi gl a10 D → t_Cb D → w24.toInt = s_ct D ar1 ar2.toInt := q24
          refine ev_loc f_X11_doubt (nx := 55) rfl rfl rfl rfl ?_
          refine ev_qN f_X11_doubt (nx := 58) (r := []) rfl rfl rfl rfl rfl rfl rfl (c_q_tellFraction hI (w24) (w18)) rfl hX rfl (fun gi25 gl25 gr25 hI hX hC25 q25 => ?_)
          have q25 : (0 ≤ w24.toInt → w24.toInt ≤ w18.toInt → 1 ≤ w18.toInt → w18.toInt ≤ 500 → (gl25 0 1).toInt = w24.toInt / s_gc w18.toInt w24.toInt ∧ (gl25 0 2).toInt = w18.toInt / s_gc w18.toInt w24.toInt) := q25
          replace p10 := p10.ext hC25.2
          refine ev_loc f_X11_doubt (nx := 59) rfl rfl rfl rfl ?_
          refine ev_inV1 f_X11_doubt (nx := 62) (lo2 := [(0, .ref 0)]) rfl rfl rfl rfl f_X11_grant (hI.wf.s rfl) rfl rfl rfl rfl rfl ?_
          refine ev_loc f_X11_grant (nx := 1) rfl rfl rfl rfl ?_
          refine ev_ic f_X11_grant (nx := 2) (v := 0) rfl (by decide) rfl ?_
          refine ev_putIT f_X11_grant (nx := 5) rfl (hI.wf.s rfl) rfl rfl rfl (hI.put0 (hI.wf.s rfl) rfl rfl) (hX.upI rfl) (fun g26 e26 hI hX => ?_)
          refine ev_ic f_X11_grant (nx := 6) (v := 1) rfl (by decide) rfl ?_
          refine ev_retK1 f_X11_grant rfl rfl rfl ?_
          exact ev_ret f_X11_doubt rfl rfl rfl ⟨_, _, _, rfl, hI, hX, ⟨_, rfl, (Int.le_trans (by decide : (0:Int) ≤ 1) (by decide : (1:Int) ≤ (1:Int32).toInt)), (by decide : (1:Int32).toInt ≤ (1:Int)), (show ∀ (u : Nat) (D : s_D), gr 0 6 = .ref u → t_VL gr u → t_CV gi gl u D → t_Cb D → ((1 ≤ ar1.toInt ∧ 0 ≤ ar2.toInt ∧ ar2.toInt < D 0 ∧ ¬ s_ct D ar1 (-1) = 0) → (gl25 0 1).toInt = (s_ct D ar1 ar2.toInt) / s_gc (s_ct D ar1 (-1)) (s_ct D ar1 ar2.toInt) ∧ (gl25 0 2).toInt = (s_ct D ar1 (-1)) / s_gc (s_ct D ar1 (-1)) (s_ct D ar1 ar2.toInt)) ∧ (¬ (1 ≤ ar1.toInt ∧ 0 ≤ ar2.toInt ∧ ar2.toInt < D 0 ∧ ¬ s_ct D ar1 (-1) = 0) → gl25 0 1 = gl 0 1 ∧ gl25 0 2 = gl 0 2) from (by
                                                            intro u D hu hl hc hb
                                                            have ha : a10 = u := Value.ref.inj (e10.symm.trans hu)
                                                            subst ha
                                                            have hm := hc.1.1
                                                            have hlt := (t_lt1p e1 h2)
                                                            have hq := q18 D hl hc hb
                                                            have hp := q24 D hl hc hb
                                                            have hle := s_ct_le (D := D) (x := ar1) (p := ar2.toInt) (by omega)
                                                            have hf := q25 (by omega) (by omega) (by omega) (by omega)
                                                            rw [hq, hp] at hf
                                                            exact ⟨fun _ => hf, fun h => absurd (show _ from ⟨by omega, by omega, by omega, fun hh => absurd (hq.trans hh) (by have z0 : (0 : Int32).toInt = 0 := rfl; omega)⟩) h⟩))⟩⟩
noncomputable def wl_e_doubtF : List (Nat × Nat) := [(69, 2), (69, 3), (69, 4), (69, 29), (78, 9999), (79, 9999), (80, 9999)]
noncomputable def Q_e_doubtF (gi : Nat → Nat → Int32) (gl : Nat → Nat → Int64) (gr : Nat → Nat → Value) (ar1 : Int64) (ar2 : Int32) : Int32 → (Nat → Nat → Int32) → (Nat → Nat → Int64) → (Nat → Nat → Value) → Prop := fun (v : Int32) (gi2 : Nat → Nat → Int32) (gl2 : Nat → Nat → Int64) (gr2 : Nat → Nat → Value) => ∀ D : s_D, t_ME 0 gi D → t_Cb D → ((1 ≤ ar1.toInt ∧ 0 ≤ ar2.toInt ∧ ar2.toInt < D 0 ∧ ¬ s_ct D ar1 (-1) = 0) → (gl2 69 3).toInt = (s_ct D ar1 ar2.toInt) / s_gc (s_ct D ar1 (-1)) (s_ct D ar1 ar2.toInt) ∧ (gl2 69 4).toInt = (s_ct D ar1 (-1)) / s_gc (s_ct D ar1 (-1)) (s_ct D ar1 ar2.toInt)) ∧ (¬ (1 ≤ ar1.toInt ∧ 0 ≤ ar2.toInt ∧ ar2.toInt < D 0 ∧ ¬ s_ct D ar1 (-1) = 0) → gl2 69 3 = gl 69 3 ∧ gl2 69 4 = gl 69 4)
theorem c_e_doubtF {X : x_Ext} {d : Nat} {sh : List (Nat ⊕ (Nat × Nat))} {gi : Nat → Nat → Int32} {gl : Nat → Nat → Int64} {gr : Nat → Nat → Value} (hI : t_I sh gi gr) (ar1 : Int64) (ar2 : Int32) : x_Me X (d + 5) n_X12_doubt [.ref 69, .long ar1, .int ar2] (sh, gi, gl, gr) (t_PI wl_e_doubtF sh gi gl gr 0 1 (Q_e_doubtF gi gl gr ar1 ar2)) := by
  have hX : t_X wl_e_doubtF sh gi gl gr gi gl gr := t_X.rf
  refine me_i f_X12_doubt (hI.wf.s rfl) rfl rfl rfl ?_
  refine ev_loc f_X12_doubt (nx := 1) rfl rfl rfl rfl ?_
  refine ev_lc f_X12_doubt (nx := 2) (v := 1) rfl (by decide) rfl ?_
  refine ev_anyIE f_X12_doubt (nx := 3) rfl rfl rfl rfl (fun z1 e1 => ?_)
  refine ev_if f_X12_doubt (t1 := 14) (t2 := 6) rfl rfl rfl (fun h2 => ?_) (fun h2 => ?_)
  · have u3 : z1.toInt ≤ (-1) := t_ltu h2 (by decide : (0:Int32).toInt ≤ (0:Int)) rfl
    refine ev_loc f_X12_doubt (nx := 15) rfl rfl rfl rfl ?_
    refine ev_ic f_X12_doubt (nx := 16) (v := 1) rfl (by decide) rfl ?_
    refine ev_inV2 f_X12_doubt (nx := 19) (lo2 := [(0, .ref 69), (1, .int 1)]) rfl rfl rfl rfl f_X12_is (hI.wf.s rfl) rfl rfl rfl rfl rfl ?_
    refine ev_loc f_X12_is (nx := 1) rfl rfl rfl rfl ?_
    refine ev_loc f_X12_is (nx := 2) rfl rfl rfl rfl ?_
    refine ev_putIT f_X12_is (nx := 5) rfl (hI.wf.s rfl) rfl rfl rfl (hI.put0 (hI.wf.s rfl) rfl rfl) (hX.upI rfl) (fun g4 e4 hI hX => ?_)
    refine ev_loc f_X12_is (nx := 6) rfl rfl rfl rfl ?_
    refine ev_f f_X12_is (t1 := 9) (t2 := 13) rfl rfl rfl (by decide) ?_
    refine ev_ic f_X12_is (nx := 14) (v := 0) rfl (by decide) rfl ?_
    refine ev_retK1 f_X12_is rfl rfl rfl ?_
    exact ev_ret f_X12_doubt rfl rfl rfl ⟨_, _, _, rfl, hI, hX, ⟨_, rfl, (by decide : (0:Int) ≤ (0:Int32).toInt), (Int.le_trans (by decide : (0:Int32).toInt ≤ (0:Int)) (by decide : (0:Int) ≤ 1)), (show ∀ D : s_D, t_ME 0 gi D → t_Cb D → ((1 ≤ ar1.toInt ∧ 0 ≤ ar2.toInt ∧ ar2.toInt < D 0 ∧ ¬ s_ct D ar1 (-1) = 0) → (gl 69 3).toInt = (s_ct D ar1 ar2.toInt) / s_gc (s_ct D ar1 (-1)) (s_ct D ar1 ar2.toInt) ∧ (gl 69 4).toInt = (s_ct D ar1 (-1)) / s_gc (s_ct D ar1 (-1)) (s_ct D ar1 ar2.toInt)) ∧ (¬ (1 ≤ ar1.toInt ∧ 0 ≤ ar2.toInt ∧ ar2.toInt < D 0 ∧ ¬ s_ct D ar1 (-1) = 0) → gl 69 3 = gl 69 3 ∧ gl 69 4 = gl 69 4) from (by
                                                            intro D hm hb
                                                            have h0 : (gi 70 0).toInt = D 0 := hm.1.1.1
                                                            have hlt := (t_lt1n e1 h2)
                                                            exact ⟨fun h => absurd h (by omega), fun _ => ⟨rfl, rfl⟩⟩))⟩⟩
  · have l5 : 0 ≤ z1.toInt := t_lel (t_nlt h2) (by decide : (0:Int) ≤ (0:Int32).toInt)
    refine ev_loc f_X12_doubt (nx := 7) rfl rfl rfl rfl ?_
    refine ev_loc f_X12_doubt (nx := 8) rfl rfl rfl rfl ?_
    refine ev_inV2 f_X12_doubt (nx := 11) (lo2 := [(0, .ref 69), (1, .int ar2)]) rfl rfl rfl rfl f_X12_isPort (hI.wf.s rfl) rfl rfl rfl rfl rfl ?_
    refine ev_loc f_X12_isPort (nx := 1) rfl rfl rfl rfl ?_
    refine ev_if f_X12_isPort (t1 := 18) (t2 := 4) rfl rfl rfl (fun h6 => ?_) (fun h6 => ?_)
    · have u7 : ar2.toInt ≤ (-1) := t_ltu h6 (by decide : (0:Int32).toInt ≤ (0:Int)) rfl
      refine ev_ic f_X12_isPort (nx := 19) (v := 0) rfl (by decide) rfl ?_
      refine ev_retK1 f_X12_isPort rfl rfl rfl ?_
      refine ev_t f_X12_doubt (t1 := 14) (t2 := 20) rfl rfl rfl (by decide) ?_
      refine ev_loc f_X12_doubt (nx := 15) rfl rfl rfl rfl ?_
      refine ev_ic f_X12_doubt (nx := 16) (v := 1) rfl (by decide) rfl ?_
      refine ev_inV2 f_X12_doubt (nx := 19) (lo2 := [(0, .ref 69), (1, .int 1)]) rfl rfl rfl rfl f_X12_is (hI.wf.s rfl) rfl rfl rfl rfl rfl ?_
      refine ev_loc f_X12_is (nx := 1) rfl rfl rfl rfl ?_
      refine ev_loc f_X12_is (nx := 2) rfl rfl rfl rfl ?_
      refine ev_putIT f_X12_is (nx := 5) rfl (hI.wf.s rfl) rfl rfl rfl (hI.put0 (hI.wf.s rfl) rfl rfl) (hX.upI rfl) (fun g8 e8 hI hX => ?_)
      refine ev_loc f_X12_is (nx := 6) rfl rfl rfl rfl ?_
      refine ev_f f_X12_is (t1 := 9) (t2 := 13) rfl rfl rfl (by decide) ?_
      refine ev_ic f_X12_is (nx := 14) (v := 0) rfl (by decide) rfl ?_
      refine ev_retK1 f_X12_is rfl rfl rfl ?_
      exact ev_ret f_X12_doubt rfl rfl rfl ⟨_, _, _, rfl, hI, hX, ⟨_, rfl, (by decide : (0:Int) ≤ (0:Int32).toInt), (Int.le_trans (by decide : (0:Int32).toInt ≤ (0:Int)) (by decide : (0:Int) ≤ 1)), (show ∀ D : s_D, t_ME 0 gi D → t_Cb D → ((1 ≤ ar1.toInt ∧ 0 ≤ ar2.toInt ∧ ar2.toInt < D 0 ∧ ¬ s_ct D ar1 (-1) = 0) → (gl 69 3).toInt = (s_ct D ar1 ar2.toInt) / s_gc (s_ct D ar1 (-1)) (s_ct D ar1 ar2.toInt) ∧ (gl 69 4).toInt = (s_ct D ar1 (-1)) / s_gc (s_ct D ar1 (-1)) (s_ct D ar1 ar2.toInt)) ∧ (¬ (1 ≤ ar1.toInt ∧ 0 ≤ ar2.toInt ∧ ar2.toInt < D 0 ∧ ¬ s_ct D ar1 (-1) = 0) → gl 69 3 = gl 69 3 ∧ gl 69 4 = gl 69 4) from (by
                                                            intro D hm hb
                                                            have h0 : (gi 70 0).toInt = D 0 := hm.1.1.1
                                                            have hlt := (t_lt1p e1 h2)
                                                            exact ⟨fun h => absurd h (by omega), fun _ => ⟨rfl, rfl⟩⟩))⟩⟩
    · have l9 : 0 ≤ ar2.toInt := t_lel (t_nlt h6) (by decide : (0:Int) ≤ (0:Int32).toInt)
      refine ev_loc f_X12_isPort (nx := 5) rfl rfl rfl rfl ?_
      refine ev_loc f_X12_isPort (nx := 6) rfl rfl rfl rfl ?_
      refine ev_getR f_X12_isPort (nx := 9) rfl (hI.wf.s rfl) rfl rfl (hI.wf.r rfl) rfl rfl ?_
      refine ev_ic f_X12_isPort (nx := 10) (v := 0) rfl (by decide) rfl ?_
      obtain ⟨l10, u10⟩ := hI.ab (by decide +kernel : t_abr 70 0 0 0 6 = true) (Nat.le_refl _) (Nat.le_refl _)
      refine ev_ialdv f_X12_isPort (nx := 11) (w := (gi 70 0)) rfl (hI.wf.s rfl) (by decide) (rfl : (0 : Int32).toNatClampNeg = 0) (by decide) rfl rfl ?_
      refine ev_if f_X12_isPort (t1 := 18) (t2 := 14) rfl rfl rfl (fun h11 => ?_) (fun h11 => ?_)
      · have r12 : (gi 70 0).toInt ≤ ar2.toInt := Int32.le_iff_toInt_le.mp h11
        refine ev_ic f_X12_isPort (nx := 19) (v := 0) rfl (by decide) rfl ?_
        refine ev_retK1 f_X12_isPort rfl rfl rfl ?_
        refine ev_t f_X12_doubt (t1 := 14) (t2 := 20) rfl rfl rfl (by decide) ?_
        refine ev_loc f_X12_doubt (nx := 15) rfl rfl rfl rfl ?_
        refine ev_ic f_X12_doubt (nx := 16) (v := 1) rfl (by decide) rfl ?_
        refine ev_inV2 f_X12_doubt (nx := 19) (lo2 := [(0, .ref 69), (1, .int 1)]) rfl rfl rfl rfl f_X12_is (hI.wf.s rfl) rfl rfl rfl rfl rfl ?_
        refine ev_loc f_X12_is (nx := 1) rfl rfl rfl rfl ?_
        refine ev_loc f_X12_is (nx := 2) rfl rfl rfl rfl ?_
        refine ev_putIT f_X12_is (nx := 5) rfl (hI.wf.s rfl) rfl rfl rfl (hI.put0 (hI.wf.s rfl) rfl rfl) (hX.upI rfl) (fun g13 e13 hI hX => ?_)
        refine ev_loc f_X12_is (nx := 6) rfl rfl rfl rfl ?_
        refine ev_f f_X12_is (t1 := 9) (t2 := 13) rfl rfl rfl (by decide) ?_
        refine ev_ic f_X12_is (nx := 14) (v := 0) rfl (by decide) rfl ?_
        refine ev_retK1 f_X12_is rfl rfl rfl ?_
        exact ev_ret f_X12_doubt rfl rfl rfl ⟨_, _, _, rfl, hI, hX, ⟨_, rfl, (by decide : (0:Int) ≤ (0:Int32).toInt), (Int.le_trans (by decide : (0:Int32).toInt ≤ (0:Int)) (by decide : (0:Int) ≤ 1)), (show ∀ D : s_D, t_ME 0 gi D → t_Cb D → ((1 ≤ ar1.toInt ∧ 0 ≤ ar2.toInt ∧ ar2.toInt < D 0 ∧ ¬ s_ct D ar1 (-1) = 0) → (gl 69 3).toInt = (s_ct D ar1 ar2.toInt) / s_gc (s_ct D ar1 (-1)) (s_ct D ar1 ar2.toInt) ∧ (gl 69 4).toInt = (s_ct D ar1 (-1)) / s_gc (s_ct D ar1 (-1)) (s_ct D ar1 ar2.toInt)) ∧ (¬ (1 ≤ ar1.toInt ∧ 0 ≤ ar2.toInt ∧ ar2.toInt < D 0 ∧ ¬ s_ct D ar1 (-1) = 0) → gl 69 3 = gl 69 3 ∧ gl 69 4 = gl 69 4) from (by
                                                            intro D hm hb
                                                            have h0 : (gi 70 0).toInt = D 0 := hm.1.1.1
                                                            have hlt := (t_lt1p e1 h2)
                                                            exact ⟨fun h => absurd h (by omega), fun _ => ⟨rfl, rfl⟩⟩))⟩⟩
      · have r14 : ar2.toInt < (gi 70 0).toInt := Int32.lt_iff_toInt_lt.mp (t_nle h11)
        have u15 : ar2.toInt ≤ 5 := t_ltu (t_nle h11) u10 rfl
        have l16 : 1 ≤ (gi 70 0).toInt := t_ltl (t_nle h11) l9 rfl
        refine ev_ic f_X12_isPort (nx := 15) (v := 1) rfl (by decide) rfl ?_
        refine ev_jmp f_X12_isPort (nx := 19) rfl rfl rfl ?_
        refine ev_retK1 f_X12_isPort rfl rfl rfl ?_
        refine ev_f f_X12_doubt (t1 := 14) (t2 := 20) rfl rfl rfl (by decide) ?_
        refine ev_loc f_X12_doubt (nx := 21) rfl rfl rfl rfl ?_
        refine ev_loc f_X12_doubt (nx := 22) rfl rfl rfl rfl ?_
        refine ev_qN f_X12_doubt (nx := 25) (r := []) rfl rfl rfl rfl rfl rfl rfl (c_l_findsReadings hI (ar1)) rfl hX rfl (fun gi17 gl17 gr17 hI hX hC17 q17 => ?_)
        have q17 : (gi17 69 29).toInt ≤ 474 ∧ (∀ j, gi17 70 j = gi 70 j) ∧ (∀ D : s_D, t_ME 0 gi D → t_Cb D → s_S2 gi17 (s_rL D ar1)) := q17
        refine ev_loc f_X12_doubt (nx := 26) rfl rfl rfl rfl ?_
        refine ev_getI f_X12_doubt (nx := 29) rfl (hI.wf.s rfl) rfl rfl rfl ?_
        obtain ⟨l18, u18⟩ := hI.b (hI.wf.s (k := 69) rfl) (t_bdK rfl : t_bd 11 29 = some (0, 500))
        refine ev_if f_X12_doubt (t1 := 32) (t2 := 39) rfl rfl rfl (fun h19 => ?_) (fun h19 => ?_)
        · have u20 : (gi17 69 29).toInt ≤ 0 := t_equ h19 (by decide : (0:Int32).toInt ≤ (0:Int))
          refine ev_loc f_X12_doubt (nx := 33) rfl rfl rfl rfl ?_
          refine ev_bp f_X12_doubt (nx := 35) (v := 6) rfl (by decide) rfl ?_
          refine ev_inV2 f_X12_doubt (nx := 38) (lo2 := [(0, .ref 69), (1, .int 6)]) rfl rfl rfl rfl f_X12_is (hI.wf.s rfl) rfl rfl rfl rfl rfl ?_
          refine ev_loc f_X12_is (nx := 1) rfl rfl rfl rfl ?_
          refine ev_loc f_X12_is (nx := 2) rfl rfl rfl rfl ?_
          refine ev_putIT f_X12_is (nx := 5) rfl (hI.wf.s rfl) rfl rfl rfl (hI.put0 (hI.wf.s rfl) rfl rfl) (hX.upI rfl) (fun g21 e21 hI hX => ?_)
          refine ev_loc f_X12_is (nx := 6) rfl rfl rfl rfl ?_
          refine ev_f f_X12_is (t1 := 9) (t2 := 13) rfl rfl rfl (by decide) ?_
          refine ev_ic f_X12_is (nx := 14) (v := 0) rfl (by decide) rfl ?_
          refine ev_retK1 f_X12_is rfl rfl rfl ?_
          exact ev_ret f_X12_doubt rfl rfl rfl ⟨_, _, _, rfl, hI, hX, ⟨_, rfl, (by decide : (0:Int) ≤ (0:Int32).toInt), (Int.le_trans (by decide : (0:Int32).toInt ≤ (0:Int)) (by decide : (0:Int) ≤ 1)), (show ∀ D : s_D, t_ME 0 gi D → t_Cb D → ((1 ≤ ar1.toInt ∧ 0 ≤ ar2.toInt ∧ ar2.toInt < D 0 ∧ ¬ s_ct D ar1 (-1) = 0) → (gl17 69 3).toInt = (s_ct D ar1 ar2.toInt) / s_gc (s_ct D ar1 (-1)) (s_ct D ar1 ar2.toInt) ∧ (gl17 69 4).toInt = (s_ct D ar1 (-1)) / s_gc (s_ct D ar1 (-1)) (s_ct D ar1 ar2.toInt)) ∧ (¬ (1 ≤ ar1.toInt ∧ 0 ≤ ar2.toInt ∧ ar2.toInt < D 0 ∧ ¬ s_ct D ar1 (-1) = 0) → gl17 69 3 = gl 69 3 ∧ gl17 69 4 = gl 69 4) from (by
                                                            intro D hm hb
                                                            have h0 : (gi 70 0).toInt = D 0 := hm.1.1.1
                                                            have hlt := (t_lt1p e1 h2)
                                                            have hS := q17.2.2 D hm hb
                                                            have hLn := hS.1
                                                            have hct := s_ct_L (D := D) (x := ar1)
                                                            have ff22 : (g21 69 29).toInt = (gi17 69 29).toInt := congrArg Int32.toInt ((by rw [e21]; exact x_up2_off (Or.inr (by decide)) : g21 69 29 = gi17 69 29).trans rfl)
                                                            exact ⟨fun h => absurd (show s_ct D ar1 (-1) = 0 by have z0 : (0 : Int32).toInt = 0 := rfl; omega) h.2.2.2, fun _ => ⟨(hC17.1 69 3 rfl).2.1, (hC17.1 69 4 rfl).2.1⟩⟩))⟩⟩
        · have r23 : (gi17 69 29).toInt ≠ 0 := fun e => h19 (Int32.toInt_inj.mp (e.trans (by decide : (0:Int) = (0 : Int32).toInt)))
          have l24 : 1 ≤ (gi17 69 29).toInt := t_nel h19 l18 rfl rfl
          refine ev_ic f_X12_doubt (nx := 40) (v := 0) rfl (by decide) rfl ?_
          refine ev_loc f_X12_doubt (nx := 42) (lo' := [(4, .int 0), (0, .ref 69), (1, .long ar1), (3, .int ar2)]) rfl rfl rfl rfl ?_
          refine ev_ic f_X12_doubt (nx := 43) (v := 0) rfl (by decide) rfl ?_
          refine ev_loc f_X12_doubt (nx := 45) (lo' := [(5, .int 0), (4, .int 0), (0, .ref 69), (1, .long ar1), (3, .int ar2)]) rfl rfl rfl rfl ?_
          have L25 : ∀ (m25 : Nat) (y25_5 : Int32) (y25_4 : Int32), 0 ≤ y25_5.toInt → y25_5.toInt ≤ 500 → 0 ≤ y25_4.toInt → y25_4.toInt ≤ 500 → 0 ≤ y25_4.toInt → y25_4.toInt ≤ y25_5.toInt → (∀ D : s_D, t_ME 0 gi D → t_Cb D → (1 ≤ ar1.toInt ∧ 0 ≤ ar2.toInt ∧ ar2.toInt < D 0 ∧ ¬ s_ct D ar1 (-1) = 0) ∧ s_S2 gi17 (s_rL D ar1) ∧ y25_4.toInt = s_cnp ar2.toInt ((s_rL D ar1).take y25_5.toNatClampNeg) ∧ y25_5.toInt ≤ ((s_rL D ar1).length : Int)) → (500 - y25_5.toInt).toNat = m25 → x_Ev X (d + 5) n_X12_doubt 45 [(5, .int y25_5), (4, .int y25_4), (0, .ref 69), (1, .long ar1), (3, .int ar2)] [] (sh, gi17, gl17, gr17) (t_PI wl_e_doubtF sh gi gl gr 0 1 (Q_e_doubtF gi gl gr ar1 ar2)) := by
            intro m25
            induction m25 using Nat.strongRecOn with
            | _ m25 ih25 =>
            intro y25_5 y25_4 l25_5 u25_5 l25_4 u25_4 j25_0 j25_1 j25_2 hm25
            refine ev_loc f_X12_doubt (nx := 47) rfl rfl rfl rfl ?_
            refine ev_loc f_X12_doubt (nx := 48) rfl rfl rfl rfl ?_
            refine ev_gvI f_X12_doubt (nx := 51) (w := (gi17 69 29)) rfl (hI.wf.s rfl) rfl rfl rfl rfl ?_
            refine ev_if f_X12_doubt (t1 := 92) (t2 := 54) rfl rfl rfl (fun h26 => ?_) (fun h26 => ?_)
            · have r27 : (gi17 69 29).toInt ≤ y25_5.toInt := Int32.le_iff_toInt_le.mp h26
              have l28 : 1 ≤ y25_5.toInt := t_lel h26 l24
              refine ev_loc f_X12_doubt (nx := 93) rfl rfl rfl rfl ?_
              refine ev_loc f_X12_doubt (nx := 95) rfl rfl rfl rfl ?_
              refine ev_anyLE f_X12_doubt (nx := 96) rfl rfl rfl rfl (fun z29 e29 => ?_)
              have i29 : z29.toInt = y25_4.toInt := by rw [e29]; exact Int32.toInt_toInt64 _
              refine ev_loc f_X12_doubt (nx := 97) rfl rfl rfl rfl ?_
              refine ev_gvI f_X12_doubt (nx := 100) (w := (gi17 69 29)) rfl (hI.wf.s rfl) rfl rfl rfl rfl ?_
              refine ev_anyLE f_X12_doubt (nx := 101) rfl rfl rfl rfl (fun z30 e30 => ?_)
              have i30 : z30.toInt = (gi17 69 29).toInt := by rw [e30]; exact Int32.toInt_toInt64 _
              refine ev_qI f_X12_doubt (nx := 104) (r := []) rfl rfl rfl rfl rfl rfl rfl (c_r_tellsBy hI (z29) (z30) (by omega) (by omega)) rfl hX rfl (fun w31 gi31 gl31 gr31 l31 u31 hI hX hC31 q31 => ?_)
              have q31 : (0 ≤ z29.toInt → z29.toInt ≤ z30.toInt → 1 ≤ z30.toInt → (gl31 69 3).toInt = z29.toInt / s_gc z30.toInt z29.toInt ∧ (gl31 69 4).toInt = z30.toInt / s_gc z30.toInt z29.toInt) := q31
              exact ev_retZ f_X12_doubt rfl (Int.le_trans (by decide : (0:Int) ≤ 1) l31) u31 ⟨_, _, _, rfl, hI, hX, ⟨_, rfl, (Int.le_trans (by decide : (0:Int) ≤ 1) l31), u31, (show ∀ D : s_D, t_ME 0 gi D → t_Cb D → ((1 ≤ ar1.toInt ∧ 0 ≤ ar2.toInt ∧ ar2.toInt < D 0 ∧ ¬ s_ct D ar1 (-1) = 0) → (gl31 69 3).toInt = (s_ct D ar1 ar2.toInt) / s_gc (s_ct D ar1 (-1)) (s_ct D ar1 ar2.toInt) ∧ (gl31 69 4).toInt = (s_ct D ar1 (-1)) / s_gc (s_ct D ar1 (-1)) (s_ct D ar1 ar2.toInt)) ∧ (¬ (1 ≤ ar1.toInt ∧ 0 ≤ ar2.toInt ∧ ar2.toInt < D 0 ∧ ¬ s_ct D ar1 (-1) = 0) → gl31 69 3 = gl 69 3 ∧ gl31 69 4 = gl 69 4) from (by
                                                            intro D hm hb
                                                            have h0 : (gi 70 0).toInt = D 0 := hm.1.1.1
                                                            obtain ⟨g1, g2, g3, g4⟩ := j25_2 D hm hb
                                                            have hLn := g2.1
                                                            have hct := s_ct_L (D := D) (x := ar1)
                                                            have cy := t_clamp (i := y25_5) (by omega)
                                                            rw [show y25_5.toNatClampNeg = (s_rL D ar1).length by omega, List.take_length, s_cn_ct (Or.inr g1.2.1)] at g3
                                                            have hle := s_ct_le (D := D) (x := ar1) (p := ar2.toInt) g1.2.1
                                                            have ff32 : (gi31 69 29).toInt = (gi17 69 29).toInt := congrArg Int32.toInt ((hC31.1 69 29 rfl).1.trans rfl)
                                                            have k1 : z29.toInt = s_ct D ar1 ar2.toInt := by rw [i29]; exact g3
                                                            have k2 : z30.toInt = s_ct D ar1 (-1) := by rw [i30]; omega
                                                            have hne := g1.2.2.2
                                                            have hf := q31 (by omega) (by omega) (by omega)
                                                            rw [k1, k2] at hf
                                                            exact ⟨fun _ => hf, fun h => absurd g1 h⟩))⟩⟩
            · have r33 : y25_5.toInt < (gi17 69 29).toInt := Int32.lt_iff_toInt_lt.mp (t_nle h26)
              have u34 : y25_5.toInt ≤ 499 := t_ltu (t_nle h26) u18 rfl
              refine ev_loc f_X12_doubt (nx := 56) rfl rfl rfl rfl ?_
              refine ev_loc f_X12_doubt (nx := 57) rfl rfl rfl rfl ?_
              refine ev_getR f_X12_doubt (nx := 60) rfl (hI.wf.s rfl) rfl rfl (hI.wf.r rfl) rfl rfl ?_
              refine ev_loc f_X12_doubt (nx := 62) rfl rfl rfl rfl ?_
              refine ev_ialdT f_X12_doubt (nx := 63) rfl (hI.wf.s rfl) l25_5 (by decide) u34 (by decide) rfl (fun w35 e35 => ?_)
              refine ev_loc f_X12_doubt (nx := 64) rfl rfl rfl rfl ?_
              refine ev_if f_X12_doubt (t1 := 78) (t2 := 67) rfl rfl rfl (fun h36 => ?_) (fun h36 => ?_)
              · have r37 : w35.toInt = ar2.toInt := t_eqi h36
                have u38 : w35.toInt ≤ 5 := t_equ h36 u15
                have l39 : 0 ≤ w35.toInt := t_eql h36 l9
                refine ev_ic f_X12_doubt (nx := 79) (v := 1) rfl (by decide) rfl ?_
                refine ev_jmp f_X12_doubt (nx := 83) rfl rfl rfl ?_
                refine ev_addC f_X12_doubt (nx := 84) (c := 1) (l := 1) (u := 501) rfl (by decide) l25_4 u25_4 rfl rfl (by decide) (by decide) rfl (fun z40 e40 l40 u40 => ?_)
                refine ev_loc f_X12_doubt (nx := 86) (lo' := [(4, .int z40), (5, .int y25_5), (0, .ref 69), (1, .long ar1), (3, .int ar2)]) rfl rfl rfl rfl ?_
                refine ev_incR f_X12_doubt (nx := 89) (c := 1) (l := 1) (u := 500) rfl rfl (by decide) (by decide) l25_5 u34 rfl rfl (by decide) (by decide) rfl (fun z41 e41 l41 u41 => ?_)
                refine ev_jmp f_X12_doubt (nx := 45) rfl rfl rfl ?_
                refine ev_sub (lo := [(5, .int z41), (4, .int z40), (0, .ref 69), (1, .long ar1), (3, .int ar2)]) rfl (t_sc rfl (t_sc rfl (t_sc rfl (t_sc rfl (t_sc rfl t_sn))))) ?_
                exact ih25 _ (by omega) (z41) (z40) (Int.le_trans (by decide : (0:Int) ≤ 1) l41) u41 (Int.le_trans (by decide : (0:Int) ≤ 1) l40) (by omega : z40.toInt ≤ (500:Int)) (by omega) (by omega) (by
                                                            intro D hm hb
                                                            have h0 : (gi 70 0).toInt = D 0 := hm.1.1.1
                                                            obtain ⟨g1, g2, g3, g4⟩ := j25_2 D hm hb
                                                            have hLn := g2.1
                                                            have cy := t_clamp (i := y25_5) (by omega)
                                                            obtain ⟨t, ht, v1, v2⟩ := s_S2_at (k := y25_5.toNatClampNeg) g2 (by omega)
                                                            have e1 : w35.toInt = t.1 := by rw [e35]; exact v1
                                                            rw [show z41.toNatClampNeg = y25_5.toNatClampNeg + 1 by have := t_clamp (i := z41) (by omega); omega, s_cn_tk ht]
                                                            have hi : s_is1 ar2.toInt t = 1 := if_pos (by omega)
                                                            rw [hi]
                                                            exact ⟨g1, g2, by omega, by omega⟩) rfl
              · have r42 : w35.toInt ≠ ar2.toInt := t_nei h36
                refine ev_loc f_X12_doubt (nx := 68) rfl rfl rfl rfl ?_
                refine ev_getR f_X12_doubt (nx := 71) rfl (hI.wf.s rfl) rfl rfl (hI.wf.r rfl) rfl rfl ?_
                refine ev_loc f_X12_doubt (nx := 73) rfl rfl rfl rfl ?_
                refine ev_ialdT f_X12_doubt (nx := 74) rfl (hI.wf.s rfl) l25_5 (by decide) u34 (by decide) rfl (fun w43 e43 => ?_)
                refine ev_loc f_X12_doubt (nx := 75) rfl rfl rfl rfl ?_
                refine ev_if f_X12_doubt (t1 := 78) (t2 := 82) rfl rfl rfl (fun h44 => ?_) (fun h44 => ?_)
                · have r45 : w43.toInt = ar2.toInt := t_eqi h44
                  have u46 : w43.toInt ≤ 5 := t_equ h44 u15
                  have l47 : 0 ≤ w43.toInt := t_eql h44 l9
                  refine ev_ic f_X12_doubt (nx := 79) (v := 1) rfl (by decide) rfl ?_
                  refine ev_jmp f_X12_doubt (nx := 83) rfl rfl rfl ?_
                  refine ev_addC f_X12_doubt (nx := 84) (c := 1) (l := 1) (u := 501) rfl (by decide) l25_4 u25_4 rfl rfl (by decide) (by decide) rfl (fun z48 e48 l48 u48 => ?_)
                  refine ev_loc f_X12_doubt (nx := 86) (lo' := [(4, .int z48), (5, .int y25_5), (0, .ref 69), (1, .long ar1), (3, .int ar2)]) rfl rfl rfl rfl ?_
                  refine ev_incR f_X12_doubt (nx := 89) (c := 1) (l := 1) (u := 500) rfl rfl (by decide) (by decide) l25_5 u34 rfl rfl (by decide) (by decide) rfl (fun z49 e49 l49 u49 => ?_)
                  refine ev_jmp f_X12_doubt (nx := 45) rfl rfl rfl ?_
                  refine ev_sub (lo := [(5, .int z49), (4, .int z48), (0, .ref 69), (1, .long ar1), (3, .int ar2)]) rfl (t_sc rfl (t_sc rfl (t_sc rfl (t_sc rfl (t_sc rfl t_sn))))) ?_
                  exact ih25 _ (by omega) (z49) (z48) (Int.le_trans (by decide : (0:Int) ≤ 1) l49) u49 (Int.le_trans (by decide : (0:Int) ≤ 1) l48) (by omega : z48.toInt ≤ (500:Int)) (by omega) (by omega) (by
                                                            intro D hm hb
                                                            have h0 : (gi 70 0).toInt = D 0 := hm.1.1.1
                                                            obtain ⟨g1, g2, g3, g4⟩ := j25_2 D hm hb
                                                            have hLn := g2.1
                                                            have cy := t_clamp (i := y25_5) (by omega)
                                                            obtain ⟨t, ht, v1, v2⟩ := s_S2_at (k := y25_5.toNatClampNeg) g2 (by omega)
                                                            have e1 : w35.toInt = t.1 := by rw [e35]; exact v1
                                                            rw [show z49.toNatClampNeg = y25_5.toNatClampNeg + 1 by have := t_clamp (i := z49) (by omega); omega, s_cn_tk ht]
                                                            have e2 : w43.toInt = t.2.1 := by rw [e43]; exact v2
                                                            have hi : s_is1 ar2.toInt t = 1 := if_pos (by omega)
                                                            rw [hi]
                                                            exact ⟨g1, g2, by omega, by omega⟩) rfl
                · have r50 : w43.toInt ≠ ar2.toInt := t_nei h44
                  refine ev_ic f_X12_doubt (nx := 83) (v := 0) rfl (by decide) rfl ?_
                  refine ev_addC f_X12_doubt (nx := 84) (c := 0) (l := 0) (u := 500) rfl (by decide) l25_4 u25_4 rfl rfl (by decide) (by decide) rfl (fun z51 e51 l51 u51 => ?_)
                  refine ev_loc f_X12_doubt (nx := 86) (lo' := [(4, .int z51), (5, .int y25_5), (0, .ref 69), (1, .long ar1), (3, .int ar2)]) rfl rfl rfl rfl ?_
                  refine ev_incR f_X12_doubt (nx := 89) (c := 1) (l := 1) (u := 500) rfl rfl (by decide) (by decide) l25_5 u34 rfl rfl (by decide) (by decide) rfl (fun z52 e52 l52 u52 => ?_)
                  refine ev_jmp f_X12_doubt (nx := 45) rfl rfl rfl ?_
                  refine ev_sub (lo := [(5, .int z52), (4, .int z51), (0, .ref 69), (1, .long ar1), (3, .int ar2)]) rfl (t_sc rfl (t_sc rfl (t_sc rfl (t_sc rfl (t_sc rfl t_sn))))) ?_
                  exact ih25 _ (by omega) (z52) (z51) (Int.le_trans (by decide : (0:Int) ≤ 1) l52) u52 l51 u51 (by omega) (by omega) (by
                                                            intro D hm hb
                                                            have h0 : (gi 70 0).toInt = D 0 := hm.1.1.1
                                                            obtain ⟨g1, g2, g3, g4⟩ := j25_2 D hm hb
                                                            have hLn := g2.1
                                                            have cy := t_clamp (i := y25_5) (by omega)
                                                            obtain ⟨t, ht, v1, v2⟩ := s_S2_at (k := y25_5.toNatClampNeg) g2 (by omega)
                                                            have e1 : w35.toInt = t.1 := by rw [e35]; exact v1
                                                            rw [show z52.toNatClampNeg = y25_5.toNatClampNeg + 1 by have := t_clamp (i := z52) (by omega); omega, s_cn_tk ht]
                                                            have e2 : w43.toInt = t.2.1 := by rw [e43]; exact v2
                                                            have hi : s_is1 ar2.toInt t = 0 := if_neg (by omega)
                                                            rw [hi]
                                                            exact ⟨g1, g2, by omega, by omega⟩) rfl
          refine ev_sub (lo := [(5, .int 0), (4, .int 0), (0, .ref 69), (1, .long ar1), (3, .int ar2)]) rfl (t_sc rfl (t_sc rfl (t_sc rfl (t_sc rfl (t_sc rfl t_sn))))) ?_
          exact L25 _ (0) (0) (by decide : (0:Int) ≤ (0:Int32).toInt) (Int.le_trans (by decide : (0:Int32).toInt ≤ (0:Int)) (by decide : (0:Int) ≤ 500)) (by decide : (0:Int) ≤ (0:Int32).toInt) (Int.le_trans (by decide : (0:Int32).toInt ≤ (0:Int)) (by decide : (0:Int) ≤ 500)) (by have kf53 : (0 : Int32).toInt = 0 := (by decide); omega) (by have kf54 : (0 : Int32).toInt = 0 := (by decide); omega) (by
                                                            intro D hm hb
                                                            have h0 : (gi 70 0).toInt = D 0 := hm.1.1.1
                                                            have hlt := (t_lt1p e1 h2)
                                                            have hS := q17.2.2 D hm hb
                                                            have hLn := hS.1
                                                            have hct := s_ct_L (D := D) (x := ar1)
                                                            have z0 : (0 : Int32).toInt = 0 := rfl
                                                            exact ⟨⟨by omega, by omega, by omega, by omega⟩, hS, rfl, by omega⟩) rfl
