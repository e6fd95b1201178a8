/-! ===== printed by cls.py: typed contracts of the class ===== -/
noncomputable def wl_h_clearBeats : List (Nat × Nat) := [(0, 0)]
theorem c_h_clearBeats {X : x_Ext} {d : Nat} {sh : List (Nat ⊕ (Nat × Nat))} {gi : Nat → Nat → Int32} {gl : Nat → Nat → Int64} {gr : Nat → Nat → Value} (hI : t_I sh gi gr) (ar1 : Int32) (ar2 : Int32) : x_Me X (d + 6) n_X11_clearBeats [.ref 0, .int ar1, .int ar2] (sh, gi, gl, gr) (t_P wl_h_clearBeats sh gi gl gr (t_Ri (-1) 12)) := by
  have hX : t_X wl_h_clearBeats sh gi gl gr gi gl gr := t_X.rf
  refine me_i f_X11_clearBeats (hI.wf.s rfl) rfl rfl rfl ?_
  refine ev_loc f_X11_clearBeats (nx := 1) rfl rfl rfl rfl ?_
  refine ev_loc f_X11_clearBeats (nx := 2) rfl rfl rfl rfl ?_
  refine ev_inV2 f_X11_clearBeats (nx := 5) (lo2 := [(0, .ref 0), (1, .int ar1)]) rfl rfl rfl rfl f_X11_isPort (hI.wf.s rfl) rfl rfl rfl rfl rfl ?_
  refine ev_loc f_X11_isPort (nx := 1) rfl rfl rfl rfl ?_
  refine ev_if f_X11_isPort (t1 := 19) (t2 := 4) rfl rfl rfl (fun h1 => ?_) (fun h1 => ?_)
  · have u2 : ar1.toInt ≤ (-1) := t_ltu h1 (by decide : (0:Int32).toInt ≤ (0:Int)) rfl
    refine ev_ic f_X11_isPort (nx := 20) (v := 0) rfl (by decide) rfl ?_
    refine ev_retK1 f_X11_isPort rfl rfl rfl ?_
    refine ev_t f_X11_clearBeats (t1 := 16) (t2 := 8) rfl rfl rfl (by decide) ?_
    refine ev_loc f_X11_clearBeats (nx := 17) rfl rfl rfl rfl ?_
    refine ev_ic f_X11_clearBeats (nx := 18) (v := 1) rfl (by decide) rfl ?_
    refine ev_inV2 f_X11_clearBeats (nx := 21) (lo2 := [(0, .ref 0), (1, .int 1)]) rfl rfl rfl rfl f_X11_refuse (hI.wf.s rfl) rfl rfl rfl rfl rfl ?_
    refine ev_loc f_X11_refuse (nx := 1) rfl rfl rfl rfl ?_
    refine ev_loc f_X11_refuse (nx := 2) rfl rfl rfl rfl ?_
    refine ev_putIT f_X11_refuse (nx := 5) rfl (hI.wf.s rfl) rfl rfl rfl (hI.put0 (hI.wf.s rfl) rfl rfl) (hX.upI rfl) (fun g3 e3 hI hX => ?_)
    refine ev_ic f_X11_refuse (nx := 6) (v := -1) rfl (by decide) rfl ?_
    refine ev_retK1 f_X11_refuse rfl rfl rfl ?_
    exact ev_ret f_X11_clearBeats rfl rfl rfl ⟨_, _, _, rfl, hI, hX, ⟨_, rfl, (by decide : ((-1):Int) ≤ ((-1):Int32).toInt), (Int.le_trans (by decide : ((-1):Int32).toInt ≤ ((-1):Int)) (by decide : ((-1):Int) ≤ 12))⟩⟩
  · have l4 : 0 ≤ ar1.toInt := t_lel (t_nlt h1) (by decide : (0:Int) ≤ (0:Int32).toInt)
    refine ev_loc f_X11_isPort (nx := 5) rfl rfl rfl rfl ?_
    refine ev_loc f_X11_isPort (nx := 6) rfl rfl rfl rfl ?_
    obtain ⟨a5, e5, p5⟩ := hI.2.2.2.1.1
    refine ev_getR f_X11_isPort (nx := 9) rfl (hI.wf.s rfl) rfl rfl e5 rfl rfl ?_
    refine ev_getI f_X11_isPort (nx := 12) rfl p5.1 rfl rfl rfl ?_
    obtain ⟨l6, u6⟩ := hI.b p5.1 (t_bdK rfl : t_bd 4 0 = some (0, 6))
    refine ev_if f_X11_isPort (t1 := 19) (t2 := 15) rfl rfl rfl (fun h7 => ?_) (fun h7 => ?_)
    · refine ev_ic f_X11_isPort (nx := 20) (v := 0) rfl (by decide) rfl ?_
      refine ev_retK1 f_X11_isPort rfl rfl rfl ?_
      refine ev_t f_X11_clearBeats (t1 := 16) (t2 := 8) rfl rfl rfl (by decide) ?_
      refine ev_loc f_X11_clearBeats (nx := 17) rfl rfl rfl rfl ?_
      refine ev_ic f_X11_clearBeats (nx := 18) (v := 1) rfl (by decide) rfl ?_
      refine ev_inV2 f_X11_clearBeats (nx := 21) (lo2 := [(0, .ref 0), (1, .int 1)]) rfl rfl rfl rfl f_X11_refuse (hI.wf.s rfl) rfl rfl rfl rfl rfl ?_
      refine ev_loc f_X11_refuse (nx := 1) rfl rfl rfl rfl ?_
      refine ev_loc f_X11_refuse (nx := 2) rfl rfl rfl rfl ?_
      refine ev_putIT f_X11_refuse (nx := 5) rfl (hI.wf.s rfl) rfl rfl rfl (hI.put0 (hI.wf.s rfl) rfl rfl) (hX.upI rfl) (fun g8 e8 hI hX => ?_)
      refine ev_ic f_X11_refuse (nx := 6) (v := -1) rfl (by decide) rfl ?_
      refine ev_retK1 f_X11_refuse rfl rfl rfl ?_
      exact ev_ret f_X11_clearBeats rfl rfl rfl ⟨_, _, _, rfl, hI, hX, ⟨_, rfl, (by decide : ((-1):Int) ≤ ((-1):Int32).toInt), (Int.le_trans (by decide : ((-1):Int32).toInt ≤ ((-1):Int)) (by decide : ((-1):Int) ≤ 12))⟩⟩
    · have u9 : ar1.toInt ≤ 5 := t_ltu (t_nle h7) u6 rfl
      have l10 : 1 ≤ (gi a5 0).toInt := t_ltl (t_nle h7) l4 rfl
      refine ev_ic f_X11_isPort (nx := 16) (v := 1) rfl (by decide) rfl ?_
      refine ev_jmp f_X11_isPort (nx := 20) rfl rfl rfl ?_
      refine ev_retK1 f_X11_isPort rfl rfl rfl ?_
      refine ev_f f_X11_clearBeats (t1 := 16) (t2 := 8) rfl rfl rfl (by decide) ?_
      refine ev_loc f_X11_clearBeats (nx := 9) rfl rfl rfl rfl ?_
      refine ev_loc f_X11_clearBeats (nx := 10) rfl rfl rfl rfl ?_
      refine ev_inV2 f_X11_clearBeats (nx := 13) (lo2 := [(0, .ref 0), (1, .int ar2)]) rfl rfl rfl rfl f_X11_isPort (hI.wf.s rfl) rfl rfl rfl rfl rfl ?_
      refine ev_loc f_X11_isPort (nx := 1) rfl rfl rfl rfl ?_
      refine ev_if f_X11_isPort (t1 := 19) (t2 := 4) rfl rfl rfl (fun h11 => ?_) (fun h11 => ?_)
      · have u12 : ar2.toInt ≤ (-1) := t_ltu h11 (by decide : (0:Int32).toInt ≤ (0:Int)) rfl
        refine ev_ic f_X11_isPort (nx := 20) (v := 0) rfl (by decide) rfl ?_
        refine ev_retK1 f_X11_isPort rfl rfl rfl ?_
        refine ev_t f_X11_clearBeats (t1 := 16) (t2 := 22) rfl rfl rfl (by decide) ?_
        refine ev_loc f_X11_clearBeats (nx := 17) rfl rfl rfl rfl ?_
        refine ev_ic f_X11_clearBeats (nx := 18) (v := 1) rfl (by decide) rfl ?_
        refine ev_inV2 f_X11_clearBeats (nx := 21) (lo2 := [(0, .ref 0), (1, .int 1)]) rfl rfl rfl rfl f_X11_refuse (hI.wf.s rfl) rfl rfl rfl rfl rfl ?_
        refine ev_loc f_X11_refuse (nx := 1) rfl rfl rfl rfl ?_
        refine ev_loc f_X11_refuse (nx := 2) rfl rfl rfl rfl ?_
        refine ev_putIT f_X11_refuse (nx := 5) rfl (hI.wf.s rfl) rfl rfl rfl (hI.put0 (hI.wf.s rfl) rfl rfl) (hX.upI rfl) (fun g13 e13 hI hX => ?_)
        refine ev_ic f_X11_refuse (nx := 6) (v := -1) rfl (by decide) rfl ?_
        refine ev_retK1 f_X11_refuse rfl rfl rfl ?_
        exact ev_ret f_X11_clearBeats rfl rfl rfl ⟨_, _, _, rfl, hI, hX, ⟨_, rfl, (by decide : ((-1):Int) ≤ ((-1):Int32).toInt), (Int.le_trans (by decide : ((-1):Int32).toInt ≤ ((-1):Int)) (by decide : ((-1):Int) ≤ 12))⟩⟩
      · have l14 : 0 ≤ ar2.toInt := t_lel (t_nlt h11) (by decide : (0:Int) ≤ (0:Int32).toInt)
        refine ev_loc f_X11_isPort (nx := 5) rfl rfl rfl rfl ?_
        refine ev_loc f_X11_isPort (nx := 6) rfl rfl rfl rfl ?_
        refine ev_getR f_X11_isPort (nx := 9) (v := .ref a5) rfl (hI.wf.s rfl) rfl rfl e5 rfl rfl ?_
        refine ev_gvI f_X11_isPort (nx := 12) (w := (gi a5 0)) rfl p5.1 rfl rfl rfl rfl ?_
        refine ev_if f_X11_isPort (t1 := 19) (t2 := 15) rfl rfl rfl (fun h15 => ?_) (fun h15 => ?_)
        · have l16 : 1 ≤ ar2.toInt := t_lel h15 l10
          refine ev_ic f_X11_isPort (nx := 20) (v := 0) rfl (by decide) rfl ?_
          refine ev_retK1 f_X11_isPort rfl rfl rfl ?_
          refine ev_t f_X11_clearBeats (t1 := 16) (t2 := 22) rfl rfl rfl (by decide) ?_
          refine ev_loc f_X11_clearBeats (nx := 17) rfl rfl rfl rfl ?_
          refine ev_ic f_X11_clearBeats (nx := 18) (v := 1) rfl (by decide) rfl ?_
          refine ev_inV2 f_X11_clearBeats (nx := 21) (lo2 := [(0, .ref 0), (1, .int 1)]) rfl rfl rfl rfl f_X11_refuse (hI.wf.s rfl) rfl rfl rfl rfl rfl ?_
          refine ev_loc f_X11_refuse (nx := 1) rfl rfl rfl rfl ?_
          refine ev_loc f_X11_refuse (nx := 2) rfl rfl rfl rfl ?_
          refine ev_putIT f_X11_refuse (nx := 5) rfl (hI.wf.s rfl) rfl rfl rfl (hI.put0 (hI.wf.s rfl) rfl rfl) (hX.upI rfl) (fun g17 e17 hI hX => ?_)
          refine ev_ic f_X11_refuse (nx := 6) (v := -1) rfl (by decide) rfl ?_
          refine ev_retK1 f_X11_refuse rfl rfl rfl ?_
          exact ev_ret f_X11_clearBeats rfl rfl rfl ⟨_, _, _, rfl, hI, hX, ⟨_, rfl, (by decide : ((-1):Int) ≤ ((-1):Int32).toInt), (Int.le_trans (by decide : ((-1):Int32).toInt ≤ ((-1):Int)) (by decide : ((-1):Int) ≤ 12))⟩⟩
        · have u18 : ar2.toInt ≤ 5 := t_ltu (t_nle h15) u6 rfl
          refine ev_ic f_X11_isPort (nx := 16) (v := 1) rfl (by decide) rfl ?_
          refine ev_jmp f_X11_isPort (nx := 20) rfl rfl rfl ?_
          refine ev_retK1 f_X11_isPort rfl rfl rfl ?_
          refine ev_f f_X11_clearBeats (t1 := 16) (t2 := 22) rfl rfl rfl (by decide) ?_
          refine ev_ic f_X11_clearBeats (nx := 23) (v := 0) rfl (by decide) rfl ?_
          refine ev_loc f_X11_clearBeats (nx := 24) (lo' := [(3, .int 0), (0, .ref 0), (1, .int ar1), (2, .int ar2)]) rfl rfl rfl rfl ?_
          have L19 : ∀ (m19 : Nat) (gi19 : Nat → Nat → Int32) (gl19 : Nat → Nat → Int64) (gr19 : Nat → Nat → Value) (y19_3 : Int32), t_I sh gi19 gr19 → t_X wl_h_clearBeats sh gi gl gr gi19 gl19 gr19 → t_Rv sh gr19 a5 → 0 ≤ y19_3.toInt → y19_3.toInt ≤ 13 → gi19 a5 0 = (gi a5 0) → gr19 0 6 = .ref a5 → (13 - y19_3.toInt).toNat = m19 → x_Ev X (d + 6) n_X11_clearBeats 24 [(3, .int y19_3), (0, .ref 0), (1, .int ar1), (2, .int ar2)] [] (sh, gi19, gl19, gr19) (t_P wl_h_clearBeats sh gi gl gr (t_Ri (-1) 12)) := by
            intro m19
            induction m19 using Nat.strongRecOn with
            | _ m19 ih19 =>
            intro gi19 gl19 gr19 y19_3 hI hX p5 l19_3 u19_3 c19_0 c19_1 hm19
            refine ev_loc f_X11_clearBeats (nx := 25) rfl rfl rfl rfl ?_
            refine ev_bp f_X11_clearBeats (nx := 27) (v := 12) rfl (by decide) rfl ?_
            refine ev_if f_X11_clearBeats (t1 := 64) (t2 := 30) rfl rfl rfl (fun h20 => ?_) (fun h20 => ?_)
            · have l21 : 13 ≤ y19_3.toInt := t_ltl h20 (by decide : (12:Int) ≤ (12:Int32).toInt) rfl
              refine ev_loc f_X11_clearBeats (nx := 65) rfl rfl rfl rfl ?_
              refine ev_bp f_X11_clearBeats (nx := 67) (v := 6) rfl (by decide) rfl ?_
              refine ev_inV2 f_X11_clearBeats (nx := 70) (lo2 := [(0, .ref 0), (1, .int 6)]) rfl rfl rfl rfl f_X11_refuse (hI.wf.s rfl) rfl rfl rfl rfl rfl ?_
              refine ev_loc f_X11_refuse (nx := 1) rfl rfl rfl rfl ?_
              refine ev_loc f_X11_refuse (nx := 2) rfl rfl rfl rfl ?_
              refine ev_putIT f_X11_refuse (nx := 5) rfl (hI.wf.s rfl) rfl rfl rfl (hI.put0 (hI.wf.s rfl) rfl rfl) (hX.upI rfl) (fun g22 e22 hI hX => ?_)
              refine ev_ic f_X11_refuse (nx := 6) (v := -1) rfl (by decide) rfl ?_
              refine ev_retK1 f_X11_refuse rfl rfl rfl ?_
              exact ev_ret f_X11_clearBeats rfl rfl rfl ⟨_, _, _, rfl, hI, hX, ⟨_, rfl, (by decide : ((-1):Int) ≤ ((-1):Int32).toInt), (Int.le_trans (by decide : ((-1):Int32).toInt ≤ ((-1):Int)) (by decide : ((-1):Int) ≤ 12))⟩⟩
            · have u23 : y19_3.toInt ≤ 12 := t_leu (t_nlt h20) (by decide : (12:Int32).toInt ≤ (12:Int))
              refine ev_loc f_X11_clearBeats (nx := 31) rfl rfl rfl rfl ?_
              refine ev_getR f_X11_clearBeats (nx := 34) (v := .ref a5) rfl (hI.wf.s rfl) rfl rfl c19_1 rfl rfl ?_
              refine ev_loc f_X11_clearBeats (nx := 35) rfl rfl rfl rfl ?_
              refine ev_getR f_X11_clearBeats (nx := 38) (v := .ref a5) rfl (hI.wf.s rfl) rfl rfl c19_1 rfl rfl ?_
              refine ev_loc f_X11_clearBeats (nx := 39) rfl rfl rfl rfl ?_
              refine ev_loc f_X11_clearBeats (nx := 40) rfl rfl rfl rfl ?_
              refine ev_loc f_X11_clearBeats (nx := 41) rfl rfl rfl rfl ?_
              refine ev_inV4 f_X11_clearBeats (nx := 44) (lo2 := [(0, .ref a5), (1, .int ar1), (2, .int ar2), (3, .int y19_3)]) rfl rfl rfl rfl f_X5_bothHeard p5.1 rfl rfl rfl rfl rfl ?_
              refine ev_loc f_X5_bothHeard (nx := 1) rfl rfl rfl rfl ?_
              refine ev_loc f_X5_bothHeard (nx := 2) rfl rfl rfl rfl ?_
              refine ev_cL f_X5_bothHeard (nx := 5) (r := []) rfl rfl rfl rfl rfl rfl rfl (c_heardOf hI (a5) p5 (ar1)) rfl hX rfl (fun w24 gi24 gl24 gr24 hI hX hC24 => ?_)
              replace p5 := p5.ext hC24.2
              refine ev_loc f_X5_bothHeard (nx := 6) rfl rfl rfl rfl ?_
              refine ev_loc f_X5_bothHeard (nx := 7) rfl rfl rfl rfl ?_
              refine ev_cL f_X5_bothHeard (nx := 10) (r := [.long w24]) rfl rfl rfl rfl rfl rfl rfl (c_heardOf hI (a5) p5 (ar2)) rfl hX rfl (fun w25 gi25 gl25 gr25 hI hX hC25 => ?_)
              replace p5 := p5.ext hC25.2
              refine ev_loc f_X5_bothHeard (nx := 11) rfl rfl rfl rfl ?_
              refine ev_anyL f_X5_bothHeard (nx := 12) rfl rfl rfl rfl (fun z26 => ?_)
              refine ev_anyL f_X5_bothHeard (nx := 13) rfl rfl rfl rfl (fun z27 => ?_)
              refine ev_retK1 f_X5_bothHeard rfl rfl rfl ?_
              refine ev_ic f_X11_clearBeats (nx := 45) (v := -1) rfl (by decide) rfl ?_
              refine ev_cI f_X11_clearBeats (nx := 48) (r := []) rfl rfl rfl rfl rfl rfl rfl (c_countReadings hI (a5) p5 (z27) ((-1))) rfl hX rfl (fun w28 gi28 gl28 gr28 l28 u28 hI hX hC28 => ?_)
              replace p5 := p5.ext hC28.2
              refine ev_ic f_X11_clearBeats (nx := 49) (v := 1) rfl (by decide) rfl ?_
              refine ev_if f_X11_clearBeats (t1 := 52) (t2 := 58) rfl rfl rfl (fun h29 => ?_) (fun h29 => ?_)
              · have u30 : w28.toInt ≤ 1 := t_equ h29 (by decide : (1:Int32).toInt ≤ (1:Int))
                have l31 : 1 ≤ w28.toInt := t_eql h29 (by decide : (1:Int) ≤ (1:Int32).toInt)
                refine ev_loc f_X11_clearBeats (nx := 53) rfl rfl rfl rfl ?_
                refine ev_loc f_X11_clearBeats (nx := 54) rfl rfl rfl rfl ?_
                refine ev_inV2 f_X11_clearBeats (nx := 57) (lo2 := [(0, .ref 0), (1, .int y19_3)]) rfl rfl rfl rfl f_X11_answer (hI.wf.s rfl) rfl rfl rfl rfl rfl ?_
                refine ev_loc f_X11_answer (nx := 1) rfl rfl rfl rfl ?_
                refine ev_ic f_X11_answer (nx := 2) (v := 0) rfl (by decide) rfl ?_
                refine ev_putIT f_X11_answer (nx := 5) rfl (hI.wf.s rfl) rfl rfl rfl (hI.put0 (hI.wf.s rfl) rfl rfl) (hX.upI rfl) (fun g32 e32 hI hX => ?_)
                refine ev_loc f_X11_answer (nx := 6) rfl rfl rfl rfl ?_
                refine ev_retK1 f_X11_answer rfl rfl rfl ?_
                exact ev_ret f_X11_clearBeats rfl rfl rfl ⟨_, _, _, rfl, hI, hX, ⟨_, rfl, (Int.le_trans (by decide : ((-1):Int) ≤ 0) l19_3), u23⟩⟩
              · refine ev_incR f_X11_clearBeats (nx := 61) (c := 1) (l := 1) (u := 13) rfl rfl (by decide) (by decide) l19_3 u23 rfl rfl (by decide) (by decide) rfl (fun z33 e33 l33 u33 => ?_)
                refine ev_jmp f_X11_clearBeats (nx := 24) rfl rfl rfl ?_
                refine ev_sub (lo := [(3, .int z33), (0, .ref 0), (1, .int ar1), (2, .int ar2)]) rfl (t_sc rfl (t_sc rfl (t_sc rfl (t_sc rfl t_sn)))) ?_
                exact ih19 _ (by omega) gi28 gl28 gr28 (z33) hI hX p5 (Int.le_trans (by decide : (0:Int) ≤ 1) l33) u33 ((hC28.1 a5 0 (t_ninO hI.wf p5.1 (t_outO hI.wf p5.1 rfl) rfl)).1.trans ((hC25.1 a5 0 (t_ninO hI.wf p5.1 (t_outO hI.wf p5.1 rfl) rfl)).1.trans ((hC24.1 a5 0 (t_ninO hI.wf p5.1 (t_outO hI.wf p5.1 rfl) rfl)).1.trans c19_0))) ((hC28.1 0 6 rfl).2.2.trans ((hC25.1 0 6 rfl).2.2.trans ((hC24.1 0 6 rfl).2.2.trans c19_1))) rfl
          refine ev_sub (lo := [(3, .int 0), (0, .ref 0), (1, .int ar1), (2, .int ar2)]) rfl (t_sc rfl (t_sc rfl (t_sc rfl (t_sc rfl t_sn)))) ?_
          exact L19 _ gi gl gr (0) hI hX p5 (by decide : (0:Int) ≤ (0:Int32).toInt) (Int.le_trans (by decide : (0:Int32).toInt ≤ (0:Int)) (by decide : (0:Int) ≤ 13)) rfl e5 rfl
noncomputable def wl_h_clearEcho : List (Nat × Nat) := [(0, 0)]
theorem c_h_clearEcho {X : x_Ext} {d : Nat} {sh : List (Nat ⊕ (Nat × Nat))} {gi : Nat → Nat → Int32} {gl : Nat → Nat → Int64} {gr : Nat → Nat → Value} (hI : t_I sh gi gr) : x_Me X (d + 3) n_X11_clearEcho [.ref 0] (sh, gi, gl, gr) (t_P wl_h_clearEcho sh gi gl gr (t_Ri (-1) 9)) := by
  have hX : t_X wl_h_clearEcho sh gi gl gr gi gl gr := t_X.rf
  refine me_i f_X11_clearEcho (hI.wf.s rfl) rfl rfl rfl ?_
  refine ev_ic f_X11_clearEcho (nx := 1) (v := 0) rfl (by decide) rfl ?_
  refine ev_loc f_X11_clearEcho (nx := 2) (lo' := [(1, .int 0), (0, .ref 0)]) rfl rfl rfl rfl ?_
  have L1 : ∀ (m1 : Nat) (gi1 : Nat → Nat → Int32) (gl1 : Nat → Nat → Int64) (gr1 : Nat → Nat → Value) (y1_1 : Int32), t_I sh gi1 gr1 → t_X wl_h_clearEcho sh gi gl gr gi1 gl1 gr1 → 0 ≤ y1_1.toInt → y1_1.toInt ≤ 12 → (12 - y1_1.toInt).toNat = m1 → x_Ev X (d + 3) n_X11_clearEcho 2 [(1, .int y1_1), (0, .ref 0)] [] (sh, gi1, gl1, gr1) (t_P wl_h_clearEcho sh gi gl gr (t_Ri (-1) 9)) := by
    intro m1
    induction m1 using Nat.strongRecOn with
    | _ m1 ih1 =>
    intro gi1 gl1 gr1 y1_1 hI hX l1_1 u1_1 hm1
    refine ev_loc f_X11_clearEcho (nx := 3) rfl rfl rfl rfl ?_
    refine ev_bp f_X11_clearEcho (nx := 5) (v := 9) rfl (by decide) rfl ?_
    refine ev_if f_X11_clearEcho (t1 := 31) (t2 := 8) rfl rfl rfl (fun h2 => ?_) (fun h2 => ?_)
    · have l3 : 10 ≤ y1_1.toInt := t_ltl h2 (by decide : (9:Int) ≤ (9:Int32).toInt) rfl
      refine ev_loc f_X11_clearEcho (nx := 32) rfl rfl rfl rfl ?_
      refine ev_bp f_X11_clearEcho (nx := 34) (v := 6) rfl (by decide) rfl ?_
      refine ev_inV2 f_X11_clearEcho (nx := 37) (lo2 := [(0, .ref 0), (1, .int 6)]) rfl rfl rfl rfl f_X11_refuse (hI.wf.s rfl) rfl rfl rfl rfl rfl ?_
      refine ev_loc f_X11_refuse (nx := 1) rfl rfl rfl rfl ?_
      refine ev_loc f_X11_refuse (nx := 2) rfl rfl rfl rfl ?_
      refine ev_putIT f_X11_refuse (nx := 5) rfl (hI.wf.s rfl) rfl rfl rfl (hI.put0 (hI.wf.s rfl) rfl rfl) (hX.upI rfl) (fun g4 e4 hI hX => ?_)
      refine ev_ic f_X11_refuse (nx := 6) (v := -1) rfl (by decide) rfl ?_
      refine ev_retK1 f_X11_refuse rfl rfl rfl ?_
      exact ev_ret f_X11_clearEcho rfl rfl rfl ⟨_, _, _, rfl, hI, hX, ⟨_, rfl, (by decide : ((-1):Int) ≤ ((-1):Int32).toInt), (Int.le_trans (by decide : ((-1):Int32).toInt ≤ ((-1):Int)) (by decide : ((-1):Int) ≤ 9))⟩⟩
    · have u5 : y1_1.toInt ≤ 9 := t_leu (t_nlt h2) (by decide : (9:Int32).toInt ≤ (9:Int))
      refine ev_loc f_X11_clearEcho (nx := 9) rfl rfl rfl rfl ?_
      obtain ⟨a6, e6, p6⟩ := hI.2.2.2.1.1
      refine ev_getR f_X11_clearEcho (nx := 12) rfl (hI.wf.s rfl) rfl rfl e6 rfl rfl ?_
      refine ev_loc f_X11_clearEcho (nx := 13) rfl rfl rfl rfl ?_
      refine ev_cI f_X11_clearEcho (nx := 16) (r := []) rfl rfl rfl rfl rfl rfl rfl (c_couplesAlike hI (a6) p6 (y1_1)) rfl hX rfl (fun w7 gi7 gl7 gr7 l7 u7 hI hX hC7 => ?_)
      replace p6 := p6.ext hC7.2
      refine ev_if f_X11_clearEcho (t1 := 19) (t2 := 25) rfl rfl rfl (fun h8 => ?_) (fun h8 => ?_)
      · have u9 : w7.toInt ≤ 0 := t_equ h8 (by decide : (0:Int32).toInt ≤ (0:Int))
        have l10 : 0 ≤ w7.toInt := t_eql h8 (by decide : (0:Int) ≤ (0:Int32).toInt)
        refine ev_loc f_X11_clearEcho (nx := 20) rfl rfl rfl rfl ?_
        refine ev_loc f_X11_clearEcho (nx := 21) rfl rfl rfl rfl ?_
        refine ev_inV2 f_X11_clearEcho (nx := 24) (lo2 := [(0, .ref 0), (1, .int y1_1)]) rfl rfl rfl rfl f_X11_answer (hI.wf.s rfl) rfl rfl rfl rfl rfl ?_
        refine ev_loc f_X11_answer (nx := 1) rfl rfl rfl rfl ?_
        refine ev_ic f_X11_answer (nx := 2) (v := 0) rfl (by decide) rfl ?_
        refine ev_putIT f_X11_answer (nx := 5) rfl (hI.wf.s rfl) rfl rfl rfl (hI.put0 (hI.wf.s rfl) rfl rfl) (hX.upI rfl) (fun g11 e11 hI hX => ?_)
        refine ev_loc f_X11_answer (nx := 6) rfl rfl rfl rfl ?_
        refine ev_retK1 f_X11_answer rfl rfl rfl ?_
        exact ev_ret f_X11_clearEcho rfl rfl rfl ⟨_, _, _, rfl, hI, hX, ⟨_, rfl, (Int.le_trans (by decide : ((-1):Int) ≤ 0) l1_1), u5⟩⟩
      · refine ev_incR f_X11_clearEcho (nx := 28) (c := 1) (l := 1) (u := 10) rfl rfl (by decide) (by decide) l1_1 u5 rfl rfl (by decide) (by decide) rfl (fun z12 e12 l12 u12 => ?_)
        refine ev_jmp f_X11_clearEcho (nx := 2) rfl rfl rfl ?_
        refine ev_sub (lo := [(1, .int z12), (0, .ref 0)]) rfl (t_sc rfl (t_sc rfl t_sn)) ?_
        exact ih1 _ (by omega) gi7 gl7 gr7 (z12) hI hX  (Int.le_trans (by decide : (0:Int) ≤ 1) l12) (Int.le_trans u12 (by decide : (10:Int) ≤ 12)) rfl
  refine ev_sub (lo := [(1, .int 0), (0, .ref 0)]) rfl (t_sc rfl (t_sc rfl t_sn)) ?_
  exact L1 _ gi gl gr (0) hI hX  (by decide : (0:Int) ≤ (0:Int32).toInt) (Int.le_trans (by decide : (0:Int32).toInt ≤ (0:Int)) (by decide : (0:Int) ≤ 12)) rfl
noncomputable def wl_h_silent : List (Nat × Nat) := [(0, 0)]
theorem c_h_silent {X : x_Ext} {d : Nat} {sh : List (Nat ⊕ (Nat × Nat))} {gi : Nat → Nat → Int32} {gl : Nat → Nat → Int64} {gr : Nat → Nat → Value} (hI : t_I sh gi gr) : x_Me X (d + 3) n_X11_silent [.ref 0] (sh, gi, gl, gr) (t_P wl_h_silent sh gi gl gr (t_Ri (-2147483648) 2147483647)) := by
  have hX : t_X wl_h_silent sh gi gl gr gi gl gr := t_X.rf
  refine me_i f_X11_silent (hI.wf.s rfl) rfl rfl rfl ?_
  refine ev_lc f_X11_silent (nx := 1) (v := 0) rfl (by decide) rfl ?_
  refine ev_loc f_X11_silent (nx := 2) (lo' := [(1, .long 0), (0, .ref 0)]) rfl rfl rfl rfl ?_
  refine ev_ic f_X11_silent (nx := 3) (v := 0) rfl (by decide) rfl ?_
  refine ev_loc f_X11_silent (nx := 4) (lo' := [(3, .int 0), (1, .long 0), (0, .ref 0)]) rfl rfl rfl rfl ?_
  have L1 : ∀ (m1 : Nat) (gi1 : Nat → Nat → Int32) (gl1 : Nat → Nat → Int64) (gr1 : Nat → Nat → Value) (y1_3 : Int32) (y1_1 : Int64), t_I sh gi1 gr1 → t_X wl_h_silent sh gi gl gr gi1 gl1 gr1 → 0 ≤ y1_3.toInt → y1_3.toInt ≤ 6 → (6 - y1_3.toInt).toNat = m1 → x_Ev X (d + 3) n_X11_silent 4 [(3, .int y1_3), (1, .long y1_1), (0, .ref 0)] [] (sh, gi1, gl1, gr1) (t_P wl_h_silent sh gi gl gr (t_Ri (-2147483648) 2147483647)) := by
    intro m1
    induction m1 using Nat.strongRecOn with
    | _ m1 ih1 =>
    intro gi1 gl1 gr1 y1_3 y1_1 hI hX l1_3 u1_3 hm1
    refine ev_loc f_X11_silent (nx := 5) rfl rfl rfl rfl ?_
    refine ev_loc f_X11_silent (nx := 6) rfl rfl rfl rfl ?_
    obtain ⟨a2, e2, p2⟩ := hI.2.2.2.1.1
    refine ev_getR f_X11_silent (nx := 9) rfl (hI.wf.s rfl) rfl rfl e2 rfl rfl ?_
    refine ev_getI f_X11_silent (nx := 12) rfl p2.1 rfl rfl rfl ?_
    obtain ⟨l3, u3⟩ := hI.b p2.1 (t_bdK rfl : t_bd 4 0 = some (0, 6))
    refine ev_if f_X11_silent (t1 := 32) (t2 := 15) rfl rfl rfl (fun h4 => ?_) (fun h4 => ?_)
    · refine ev_loc f_X11_silent (nx := 33) rfl rfl rfl rfl ?_
      refine ev_loc f_X11_silent (nx := 34) rfl rfl rfl rfl ?_
      refine ev_ldL f_X11_silent (nx := 37) (v := -1) rfl (by decide) rfl ?_
      refine ev_anyL f_X11_silent (nx := 38) rfl rfl rfl rfl (fun z5 => ?_)
      refine ev_inS1 f_X11_silent (nx := 41) (lo2 := [(0, .long z5)]) rfl rfl rfl rfl f_J13_numberOfTrailingZeros_95d88 rfl rfl rfl rfl ?_
      refine ev_loc f_J13_numberOfTrailingZeros_95d88 (nx := 1) rfl rfl rfl rfl ?_
      refine ev_anyI f_J13_numberOfTrailingZeros_95d88 (nx := 2) rfl rfl rfl rfl (fun z6 => ?_)
      refine ev_loc f_J13_numberOfTrailingZeros_95d88 (nx := 3) (lo' := [(2, .int z6), (0, .long z5)]) rfl rfl rfl rfl ?_
      refine ev_loc f_J13_numberOfTrailingZeros_95d88 (nx := 4) rfl rfl rfl rfl ?_
      refine ev_if f_J13_numberOfTrailingZeros_95d88 (t1 := 7) (t2 := 21) rfl rfl rfl (fun h7 => ?_) (fun h7 => ?_)
      · have u8 : z6.toInt ≤ 0 := t_equ h7 (by decide : (0:Int32).toInt ≤ (0:Int))
        have l9 : 0 ≤ z6.toInt := t_eql h7 (by decide : (0:Int) ≤ (0:Int32).toInt)
        refine ev_bp f_J13_numberOfTrailingZeros_95d88 (nx := 9) (v := 32) rfl (by decide) rfl ?_
        refine ev_loc f_J13_numberOfTrailingZeros_95d88 (nx := 10) rfl rfl rfl rfl ?_
        refine ev_bp f_J13_numberOfTrailingZeros_95d88 (nx := 12) (v := 32) rfl (by decide) rfl ?_
        refine ev_anyL f_J13_numberOfTrailingZeros_95d88 (nx := 13) rfl rfl rfl rfl (fun z10 => ?_)
        refine ev_anyI f_J13_numberOfTrailingZeros_95d88 (nx := 14) rfl rfl rfl rfl (fun z11 => ?_)
        refine ev_inS1 f_J13_numberOfTrailingZeros_95d88 (nx := 17) (lo2 := [(0, .int z11)]) rfl rfl rfl rfl f_J6_numberOfTrailingZeros_0f7a4 rfl rfl rfl rfl ?_
        refine ev_loc f_J6_numberOfTrailingZeros_0f7a4 (nx := 1) rfl rfl rfl rfl ?_
        refine ev_ic f_J6_numberOfTrailingZeros_0f7a4 (nx := 2) (v := -1) rfl (by decide) rfl ?_
        refine ev_anyI f_J6_numberOfTrailingZeros_0f7a4 (nx := 3) rfl rfl rfl rfl (fun z12 => ?_)
        refine ev_loc f_J6_numberOfTrailingZeros_0f7a4 (nx := 4) rfl rfl rfl rfl ?_
        refine ev_ic f_J6_numberOfTrailingZeros_0f7a4 (nx := 5) (v := 1) rfl (by decide) rfl ?_
        refine ev_anyI f_J6_numberOfTrailingZeros_0f7a4 (nx := 6) rfl rfl rfl rfl (fun z13 => ?_)
        refine ev_anyI f_J6_numberOfTrailingZeros_0f7a4 (nx := 7) rfl rfl rfl rfl (fun z14 => ?_)
        refine ev_loc f_J6_numberOfTrailingZeros_0f7a4 (nx := 8) (lo' := [(0, .int z14)]) rfl rfl rfl rfl ?_
        refine ev_loc f_J6_numberOfTrailingZeros_0f7a4 (nx := 9) rfl rfl rfl rfl ?_
        refine ev_if f_J6_numberOfTrailingZeros_0f7a4 (t1 := 17) (t2 := 12) rfl rfl rfl (fun h15 => ?_) (fun h15 => ?_)
        · have l16 : 1 ≤ z14.toInt := t_ltl h15 (by decide : (0:Int) ≤ (0:Int32).toInt) rfl
          refine ev_ic f_J6_numberOfTrailingZeros_0f7a4 (nx := 18) (v := 1) rfl (by decide) rfl ?_
          refine ev_loc f_J6_numberOfTrailingZeros_0f7a4 (nx := 19) (lo' := [(1, .int 1), (0, .int z14)]) rfl rfl rfl rfl ?_
          refine ev_loc f_J6_numberOfTrailingZeros_0f7a4 (nx := 20) rfl rfl rfl rfl ?_
          refine ev_ldW f_J6_numberOfTrailingZeros_0f7a4 (nx := 23) (v := 65536) rfl (by decide) rfl ?_
          refine ev_if f_J6_numberOfTrailingZeros_0f7a4 (t1 := 34) (t2 := 26) rfl rfl rfl (fun h17 => ?_) (fun h17 => ?_)
          · have u18 : z14.toInt ≤ 65536 := t_leu h17 (by decide : (65536:Int32).toInt ≤ (65536:Int))
            refine ev_loc f_J6_numberOfTrailingZeros_0f7a4 (nx := 35) rfl rfl rfl rfl ?_
            refine ev_sp f_J6_numberOfTrailingZeros_0f7a4 (nx := 38) (v := 256) rfl (by decide) rfl ?_
            refine ev_if f_J6_numberOfTrailingZeros_0f7a4 (t1 := 49) (t2 := 41) rfl rfl rfl (fun h19 => ?_) (fun h19 => ?_)
            · have u20 : z14.toInt ≤ 256 := t_leu h19 (by decide : (256:Int32).toInt ≤ (256:Int))
              refine ev_loc f_J6_numberOfTrailingZeros_0f7a4 (nx := 50) rfl rfl rfl rfl ?_
              refine ev_bp f_J6_numberOfTrailingZeros_0f7a4 (nx := 52) (v := 16) rfl (by decide) rfl ?_
              refine ev_if f_J6_numberOfTrailingZeros_0f7a4 (t1 := 62) (t2 := 55) rfl rfl rfl (fun h21 => ?_) (fun h21 => ?_)
              · have u22 : z14.toInt ≤ 16 := t_leu h21 (by decide : (16:Int32).toInt ≤ (16:Int))
                refine ev_loc f_J6_numberOfTrailingZeros_0f7a4 (nx := 63) rfl rfl rfl rfl ?_
                refine ev_ic f_J6_numberOfTrailingZeros_0f7a4 (nx := 64) (v := 4) rfl (by decide) rfl ?_
                refine ev_if f_J6_numberOfTrailingZeros_0f7a4 (t1 := 74) (t2 := 67) rfl rfl rfl (fun h23 => ?_) (fun h23 => ?_)
                · have u24 : z14.toInt ≤ 4 := t_leu h23 (by decide : (4:Int32).toInt ≤ (4:Int))
                  refine ev_loc f_J6_numberOfTrailingZeros_0f7a4 (nx := 75) rfl rfl rfl rfl ?_
                  refine ev_loc f_J6_numberOfTrailingZeros_0f7a4 (nx := 76) rfl rfl rfl rfl ?_
                  refine ev_ic f_J6_numberOfTrailingZeros_0f7a4 (nx := 77) (v := 1) rfl (by decide) rfl ?_
                  refine ev_anyI f_J6_numberOfTrailingZeros_0f7a4 (nx := 78) rfl rfl rfl rfl (fun z25 => ?_)
                  refine ev_anyI f_J6_numberOfTrailingZeros_0f7a4 (nx := 79) rfl rfl rfl rfl (fun z26 => ?_)
                  refine ev_retK1 f_J6_numberOfTrailingZeros_0f7a4 rfl rfl rfl ?_
                  refine ev_anyI f_J13_numberOfTrailingZeros_95d88 (nx := 18) rfl rfl rfl rfl (fun z27 => ?_)
                  refine ev_jmp f_J13_numberOfTrailingZeros_95d88 (nx := 25) rfl rfl rfl ?_
                  refine ev_retK1 f_J13_numberOfTrailingZeros_95d88 rfl rfl rfl ?_
                  refine ev_inV2 f_X11_silent (nx := 44) (lo2 := [(0, .ref 0), (1, .int z27)]) rfl rfl rfl rfl f_X11_answer (hI.wf.s rfl) rfl rfl rfl rfl rfl ?_
                  refine ev_loc f_X11_answer (nx := 1) rfl rfl rfl rfl ?_
                  refine ev_ic f_X11_answer (nx := 2) (v := 0) rfl (by decide) rfl ?_
                  refine ev_putIT f_X11_answer (nx := 5) rfl (hI.wf.s rfl) rfl rfl rfl (hI.put0 (hI.wf.s rfl) rfl rfl) (hX.upI rfl) (fun g28 e28 hI hX => ?_)
                  refine ev_loc f_X11_answer (nx := 6) rfl rfl rfl rfl ?_
                  refine ev_retK1 f_X11_answer rfl rfl rfl ?_
                  exact ev_ret f_X11_silent rfl rfl rfl ⟨_, _, _, rfl, hI, hX, ⟨_, rfl, (t_lo z27), (t_hi z27)⟩⟩
                · have l29 : 5 ≤ z14.toInt := t_ltl (t_nle h23) (by decide : (4:Int) ≤ (4:Int32).toInt) rfl
                  refine ev_incv f_J6_numberOfTrailingZeros_0f7a4 (nx := 70) (c := 2) (w := 3) (lo' := [(1, .int 3), (0, .int z14)]) rfl rfl (by decide) (by decide) rfl rfl rfl ?_
                  refine ev_loc f_J6_numberOfTrailingZeros_0f7a4 (nx := 71) rfl rfl rfl rfl ?_
                  refine ev_ic f_J6_numberOfTrailingZeros_0f7a4 (nx := 72) (v := 2) rfl (by decide) rfl ?_
                  refine ev_anyI f_J6_numberOfTrailingZeros_0f7a4 (nx := 73) rfl rfl rfl rfl (fun z30 => ?_)
                  refine ev_loc f_J6_numberOfTrailingZeros_0f7a4 (nx := 74) (lo' := [(0, .int z30), (1, .int 3)]) rfl rfl rfl rfl ?_
                  refine ev_loc f_J6_numberOfTrailingZeros_0f7a4 (nx := 75) rfl rfl rfl rfl ?_
                  refine ev_loc f_J6_numberOfTrailingZeros_0f7a4 (nx := 76) rfl rfl rfl rfl ?_
                  refine ev_ic f_J6_numberOfTrailingZeros_0f7a4 (nx := 77) (v := 1) rfl (by decide) rfl ?_
                  refine ev_anyI f_J6_numberOfTrailingZeros_0f7a4 (nx := 78) rfl rfl rfl rfl (fun z31 => ?_)
                  refine ev_anyI f_J6_numberOfTrailingZeros_0f7a4 (nx := 79) rfl rfl rfl rfl (fun z32 => ?_)
                  refine ev_retK1 f_J6_numberOfTrailingZeros_0f7a4 rfl rfl rfl ?_
                  refine ev_anyI f_J13_numberOfTrailingZeros_95d88 (nx := 18) rfl rfl rfl rfl (fun z33 => ?_)
                  refine ev_jmp f_J13_numberOfTrailingZeros_95d88 (nx := 25) rfl rfl rfl ?_
                  refine ev_retK1 f_J13_numberOfTrailingZeros_95d88 rfl rfl rfl ?_
                  refine ev_inV2 f_X11_silent (nx := 44) (lo2 := [(0, .ref 0), (1, .int z33)]) rfl rfl rfl rfl f_X11_answer (hI.wf.s rfl) rfl rfl rfl rfl rfl ?_
                  refine ev_loc f_X11_answer (nx := 1) rfl rfl rfl rfl ?_
                  refine ev_ic f_X11_answer (nx := 2) (v := 0) rfl (by decide) rfl ?_
                  refine ev_putIT f_X11_answer (nx := 5) rfl (hI.wf.s rfl) rfl rfl rfl (hI.put0 (hI.wf.s rfl) rfl rfl) (hX.upI rfl) (fun g34 e34 hI hX => ?_)
                  refine ev_loc f_X11_answer (nx := 6) rfl rfl rfl rfl ?_
                  refine ev_retK1 f_X11_answer rfl rfl rfl ?_
                  exact ev_ret f_X11_silent rfl rfl rfl ⟨_, _, _, rfl, hI, hX, ⟨_, rfl, (t_lo z33), (t_hi z33)⟩⟩
              · have l35 : 17 ≤ z14.toInt := t_ltl (t_nle h21) (by decide : (16:Int) ≤ (16:Int32).toInt) rfl
                refine ev_incv f_J6_numberOfTrailingZeros_0f7a4 (nx := 58) (c := 4) (w := 5) (lo' := [(1, .int 5), (0, .int z14)]) rfl rfl (by decide) (by decide) rfl rfl rfl ?_
                refine ev_loc f_J6_numberOfTrailingZeros_0f7a4 (nx := 59) rfl rfl rfl rfl ?_
                refine ev_ic f_J6_numberOfTrailingZeros_0f7a4 (nx := 60) (v := 4) rfl (by decide) rfl ?_
                refine ev_anyI f_J6_numberOfTrailingZeros_0f7a4 (nx := 61) rfl rfl rfl rfl (fun z36 => ?_)
                refine ev_loc f_J6_numberOfTrailingZeros_0f7a4 (nx := 62) (lo' := [(0, .int z36), (1, .int 5)]) rfl rfl rfl rfl ?_
                refine ev_loc f_J6_numberOfTrailingZeros_0f7a4 (nx := 63) rfl rfl rfl rfl ?_
                refine ev_ic f_J6_numberOfTrailingZeros_0f7a4 (nx := 64) (v := 4) rfl (by decide) rfl ?_
                refine ev_if f_J6_numberOfTrailingZeros_0f7a4 (t1 := 74) (t2 := 67) rfl rfl rfl (fun h37 => ?_) (fun h37 => ?_)
                · have u38 : z36.toInt ≤ 4 := t_leu h37 (by decide : (4:Int32).toInt ≤ (4:Int))
                  refine ev_loc f_J6_numberOfTrailingZeros_0f7a4 (nx := 75) rfl rfl rfl rfl ?_
                  refine ev_loc f_J6_numberOfTrailingZeros_0f7a4 (nx := 76) rfl rfl rfl rfl ?_
                  refine ev_ic f_J6_numberOfTrailingZeros_0f7a4 (nx := 77) (v := 1) rfl (by decide) rfl ?_
                  refine ev_anyI f_J6_numberOfTrailingZeros_0f7a4 (nx := 78) rfl rfl rfl rfl (fun z39 => ?_)
                  refine ev_anyI f_J6_numberOfTrailingZeros_0f7a4 (nx := 79) rfl rfl rfl rfl (fun z40 => ?_)
                  refine ev_retK1 f_J6_numberOfTrailingZeros_0f7a4 rfl rfl rfl ?_
                  refine ev_anyI f_J13_numberOfTrailingZeros_95d88 (nx := 18) rfl rfl rfl rfl (fun z41 => ?_)
                  refine ev_jmp f_J13_numberOfTrailingZeros_95d88 (nx := 25) rfl rfl rfl ?_
                  refine ev_retK1 f_J13_numberOfTrailingZeros_95d88 rfl rfl rfl ?_
                  refine ev_inV2 f_X11_silent (nx := 44) (lo2 := [(0, .ref 0), (1, .int z41)]) rfl rfl rfl rfl f_X11_answer (hI.wf.s rfl) rfl rfl rfl rfl rfl ?_
                  refine ev_loc f_X11_answer (nx := 1) rfl rfl rfl rfl ?_
                  refine ev_ic f_X11_answer (nx := 2) (v := 0) rfl (by decide) rfl ?_
                  refine ev_putIT f_X11_answer (nx := 5) rfl (hI.wf.s rfl) rfl rfl rfl (hI.put0 (hI.wf.s rfl) rfl rfl) (hX.upI rfl) (fun g42 e42 hI hX => ?_)
                  refine ev_loc f_X11_answer (nx := 6) rfl rfl rfl rfl ?_
                  refine ev_retK1 f_X11_answer rfl rfl rfl ?_
                  exact ev_ret f_X11_silent rfl rfl rfl ⟨_, _, _, rfl, hI, hX, ⟨_, rfl, (t_lo z41), (t_hi z41)⟩⟩
                · have l43 : 5 ≤ z36.toInt := t_ltl (t_nle h37) (by decide : (4:Int) ≤ (4:Int32).toInt) rfl
                  refine ev_incv f_J6_numberOfTrailingZeros_0f7a4 (nx := 70) (c := 2) (w := 7) (lo' := [(1, .int 7), (0, .int z36)]) rfl rfl (by decide) (by decide) rfl rfl rfl ?_
                  refine ev_loc f_J6_numberOfTrailingZeros_0f7a4 (nx := 71) rfl rfl rfl rfl ?_
                  refine ev_ic f_J6_numberOfTrailingZeros_0f7a4 (nx := 72) (v := 2) rfl (by decide) rfl ?_
                  refine ev_anyI f_J6_numberOfTrailingZeros_0f7a4 (nx := 73) rfl rfl rfl rfl (fun z44 => ?_)
                  refine ev_loc f_J6_numberOfTrailingZeros_0f7a4 (nx := 74) (lo' := [(0, .int z44), (1, .int 7)]) rfl rfl rfl rfl ?_
                  refine ev_loc f_J6_numberOfTrailingZeros_0f7a4 (nx := 75) rfl rfl rfl rfl ?_
                  refine ev_loc f_J6_numberOfTrailingZeros_0f7a4 (nx := 76) rfl rfl rfl rfl ?_
                  refine ev_ic f_J6_numberOfTrailingZeros_0f7a4 (nx := 77) (v := 1) rfl (by decide) rfl ?_
                  refine ev_anyI f_J6_numberOfTrailingZeros_0f7a4 (nx := 78) rfl rfl rfl rfl (fun z45 => ?_)
                  refine ev_anyI f_J6_numberOfTrailingZeros_0f7a4 (nx := 79) rfl rfl rfl rfl (fun z46 => ?_)
                  refine ev_retK1 f_J6_numberOfTrailingZeros_0f7a4 rfl rfl rfl ?_
                  refine ev_anyI f_J13_numberOfTrailingZeros_95d88 (nx := 18) rfl rfl rfl rfl (fun z47 => ?_)
                  refine ev_jmp f_J13_numberOfTrailingZeros_95d88 (nx := 25) rfl rfl rfl ?_
                  refine ev_retK1 f_J13_numberOfTrailingZeros_95d88 rfl rfl rfl ?_
                  refine ev_inV2 f_X11_silent (nx := 44) (lo2 := [(0, .ref 0), (1, .int z47)]) rfl rfl rfl rfl f_X11_answer (hI.wf.s rfl) rfl rfl rfl rfl rfl ?_
                  refine ev_loc f_X11_answer (nx := 1) rfl rfl rfl rfl ?_
                  refine ev_ic f_X11_answer (nx := 2) (v := 0) rfl (by decide) rfl ?_
                  refine ev_putIT f_X11_answer (nx := 5) rfl (hI.wf.s rfl) rfl rfl rfl (hI.put0 (hI.wf.s rfl) rfl rfl) (hX.upI rfl) (fun g48 e48 hI hX => ?_)
                  refine ev_loc f_X11_answer (nx := 6) rfl rfl rfl rfl ?_
                  refine ev_retK1 f_X11_answer rfl rfl rfl ?_
                  exact ev_ret f_X11_silent rfl rfl rfl ⟨_, _, _, rfl, hI, hX, ⟨_, rfl, (t_lo z47), (t_hi z47)⟩⟩
            · have l49 : 257 ≤ z14.toInt := t_ltl (t_nle h19) (by decide : (256:Int) ≤ (256:Int32).toInt) rfl
              refine ev_incv f_J6_numberOfTrailingZeros_0f7a4 (nx := 44) (c := 8) (w := 9) (lo' := [(1, .int 9), (0, .int z14)]) rfl rfl (by decide) (by decide) rfl rfl rfl ?_
              refine ev_loc f_J6_numberOfTrailingZeros_0f7a4 (nx := 45) rfl rfl rfl rfl ?_
              refine ev_bp f_J6_numberOfTrailingZeros_0f7a4 (nx := 47) (v := 8) rfl (by decide) rfl ?_
              refine ev_anyI f_J6_numberOfTrailingZeros_0f7a4 (nx := 48) rfl rfl rfl rfl (fun z50 => ?_)
              refine ev_loc f_J6_numberOfTrailingZeros_0f7a4 (nx := 49) (lo' := [(0, .int z50), (1, .int 9)]) rfl rfl rfl rfl ?_
              refine ev_loc f_J6_numberOfTrailingZeros_0f7a4 (nx := 50) rfl rfl rfl rfl ?_
              refine ev_bp f_J6_numberOfTrailingZeros_0f7a4 (nx := 52) (v := 16) rfl (by decide) rfl ?_
              refine ev_if f_J6_numberOfTrailingZeros_0f7a4 (t1 := 62) (t2 := 55) rfl rfl rfl (fun h51 => ?_) (fun h51 => ?_)
              · have u52 : z50.toInt ≤ 16 := t_leu h51 (by decide : (16:Int32).toInt ≤ (16:Int))
                refine ev_loc f_J6_numberOfTrailingZeros_0f7a4 (nx := 63) rfl rfl rfl rfl ?_
                refine ev_ic f_J6_numberOfTrailingZeros_0f7a4 (nx := 64) (v := 4) rfl (by decide) rfl ?_
                refine ev_if f_J6_numberOfTrailingZeros_0f7a4 (t1 := 74) (t2 := 67) rfl rfl rfl (fun h53 => ?_) (fun h53 => ?_)
                · have u54 : z50.toInt ≤ 4 := t_leu h53 (by decide : (4:Int32).toInt ≤ (4:Int))
                  refine ev_loc f_J6_numberOfTrailingZeros_0f7a4 (nx := 75) rfl rfl rfl rfl ?_
                  refine ev_loc f_J6_numberOfTrailingZeros_0f7a4 (nx := 76) rfl rfl rfl rfl ?_
                  refine ev_ic f_J6_numberOfTrailingZeros_0f7a4 (nx := 77) (v := 1) rfl (by decide) rfl ?_
                  refine ev_anyI f_J6_numberOfTrailingZeros_0f7a4 (nx := 78) rfl rfl rfl rfl (fun z55 => ?_)
                  refine ev_anyI f_J6_numberOfTrailingZeros_0f7a4 (nx := 79) rfl rfl rfl rfl (fun z56 => ?_)
                  refine ev_retK1 f_J6_numberOfTrailingZeros_0f7a4 rfl rfl rfl ?_
                  refine ev_anyI f_J13_numberOfTrailingZeros_95d88 (nx := 18) rfl rfl rfl rfl (fun z57 => ?_)
                  refine ev_jmp f_J13_numberOfTrailingZeros_95d88 (nx := 25) rfl rfl rfl ?_
                  refine ev_retK1 f_J13_numberOfTrailingZeros_95d88 rfl rfl rfl ?_
                  refine ev_inV2 f_X11_silent (nx := 44) (lo2 := [(0, .ref 0), (1, .int z57)]) rfl rfl rfl rfl f_X11_answer (hI.wf.s rfl) rfl rfl rfl rfl rfl ?_
                  refine ev_loc f_X11_answer (nx := 1) rfl rfl rfl rfl ?_
                  refine ev_ic f_X11_answer (nx := 2) (v := 0) rfl (by decide) rfl ?_
                  refine ev_putIT f_X11_answer (nx := 5) rfl (hI.wf.s rfl) rfl rfl rfl (hI.put0 (hI.wf.s rfl) rfl rfl) (hX.upI rfl) (fun g58 e58 hI hX => ?_)
                  refine ev_loc f_X11_answer (nx := 6) rfl rfl rfl rfl ?_
                  refine ev_retK1 f_X11_answer rfl rfl rfl ?_
                  exact ev_ret f_X11_silent rfl rfl rfl ⟨_, _, _, rfl, hI, hX, ⟨_, rfl, (t_lo z57), (t_hi z57)⟩⟩
                · have l59 : 5 ≤ z50.toInt := t_ltl (t_nle h53) (by decide : (4:Int) ≤ (4:Int32).toInt) rfl
                  refine ev_incv f_J6_numberOfTrailingZeros_0f7a4 (nx := 70) (c := 2) (w := 11) (lo' := [(1, .int 11), (0, .int z50)]) rfl rfl (by decide) (by decide) rfl rfl rfl ?_
                  refine ev_loc f_J6_numberOfTrailingZeros_0f7a4 (nx := 71) rfl rfl rfl rfl ?_
                  refine ev_ic f_J6_numberOfTrailingZeros_0f7a4 (nx := 72) (v := 2) rfl (by decide) rfl ?_
                  refine ev_anyI f_J6_numberOfTrailingZeros_0f7a4 (nx := 73) rfl rfl rfl rfl (fun z60 => ?_)
                  refine ev_loc f_J6_numberOfTrailingZeros_0f7a4 (nx := 74) (lo' := [(0, .int z60), (1, .int 11)]) rfl rfl rfl rfl ?_
                  refine ev_loc f_J6_numberOfTrailingZeros_0f7a4 (nx := 75) rfl rfl rfl rfl ?_
                  refine ev_loc f_J6_numberOfTrailingZeros_0f7a4 (nx := 76) rfl rfl rfl rfl ?_
                  refine ev_ic f_J6_numberOfTrailingZeros_0f7a4 (nx := 77) (v := 1) rfl (by decide) rfl ?_
                  refine ev_anyI f_J6_numberOfTrailingZeros_0f7a4 (nx := 78) rfl rfl rfl rfl (fun z61 => ?_)
                  refine ev_anyI f_J6_numberOfTrailingZeros_0f7a4 (nx := 79) rfl rfl rfl rfl (fun z62 => ?_)
                  refine ev_retK1 f_J6_numberOfTrailingZeros_0f7a4 rfl rfl rfl ?_
                  refine ev_anyI f_J13_numberOfTrailingZeros_95d88 (nx := 18) rfl rfl rfl rfl (fun z63 => ?_)
                  refine ev_jmp f_J13_numberOfTrailingZeros_95d88 (nx := 25) rfl rfl rfl ?_
                  refine ev_retK1 f_J13_numberOfTrailingZeros_95d88 rfl rfl rfl ?_
                  refine ev_inV2 f_X11_silent (nx := 44) (lo2 := [(0, .ref 0), (1, .int z63)]) rfl rfl rfl rfl f_X11_answer (hI.wf.s rfl) rfl rfl rfl rfl rfl ?_
                  refine ev_loc f_X11_answer (nx := 1) rfl rfl rfl rfl ?_
                  refine ev_ic f_X11_answer (nx := 2) (v := 0) rfl (by decide) rfl ?_
                  refine ev_putIT f_X11_answer (nx := 5) rfl (hI.wf.s rfl) rfl rfl rfl (hI.put0 (hI.wf.s rfl) rfl rfl) (hX.upI rfl) (fun g64 e64 hI hX => ?_)
                  refine ev_loc f_X11_answer (nx := 6) rfl rfl rfl rfl ?_
                  refine ev_retK1 f_X11_answer rfl rfl rfl ?_
                  exact ev_ret f_X11_silent rfl rfl rfl ⟨_, _, _, rfl, hI, hX, ⟨_, rfl, (t_lo z63), (t_hi z63)⟩⟩
              · have l65 : 17 ≤ z50.toInt := t_ltl (t_nle h51) (by decide : (16:Int) ≤ (16:Int32).toInt) rfl
                refine ev_incv f_J6_numberOfTrailingZeros_0f7a4 (nx := 58) (c := 4) (w := 13) (lo' := [(1, .int 13), (0, .int z50)]) rfl rfl (by decide) (by decide) rfl rfl rfl ?_
                refine ev_loc f_J6_numberOfTrailingZeros_0f7a4 (nx := 59) rfl rfl rfl rfl ?_
                refine ev_ic f_J6_numberOfTrailingZeros_0f7a4 (nx := 60) (v := 4) rfl (by decide) rfl ?_
                refine ev_anyI f_J6_numberOfTrailingZeros_0f7a4 (nx := 61) rfl rfl rfl rfl (fun z66 => ?_)
                refine ev_loc f_J6_numberOfTrailingZeros_0f7a4 (nx := 62) (lo' := [(0, .int z66), (1, .int 13)]) rfl rfl rfl rfl ?_
                refine ev_loc f_J6_numberOfTrailingZeros_0f7a4 (nx := 63) rfl rfl rfl rfl ?_
                refine ev_ic f_J6_numberOfTrailingZeros_0f7a4 (nx := 64) (v := 4) rfl (by decide) rfl ?_
                refine ev_if f_J6_numberOfTrailingZeros_0f7a4 (t1 := 74) (t2 := 67) rfl rfl rfl (fun h67 => ?_) (fun h67 => ?_)
                · have u68 : z66.toInt ≤ 4 := t_leu h67 (by decide : (4:Int32).toInt ≤ (4:Int))
                  refine ev_loc f_J6_numberOfTrailingZeros_0f7a4 (nx := 75) rfl rfl rfl rfl ?_
                  refine ev_loc f_J6_numberOfTrailingZeros_0f7a4 (nx := 76) rfl rfl rfl rfl ?_
                  refine ev_ic f_J6_numberOfTrailingZeros_0f7a4 (nx := 77) (v := 1) rfl (by decide) rfl ?_
                  refine ev_anyI f_J6_numberOfTrailingZeros_0f7a4 (nx := 78) rfl rfl rfl rfl (fun z69 => ?_)
                  refine ev_anyI f_J6_numberOfTrailingZeros_0f7a4 (nx := 79) rfl rfl rfl rfl (fun z70 => ?_)
                  refine ev_retK1 f_J6_numberOfTrailingZeros_0f7a4 rfl rfl rfl ?_
                  refine ev_anyI f_J13_numberOfTrailingZeros_95d88 (nx := 18) rfl rfl rfl rfl (fun z71 => ?_)
                  refine ev_jmp f_J13_numberOfTrailingZeros_95d88 (nx := 25) rfl rfl rfl ?_
                  refine ev_retK1 f_J13_numberOfTrailingZeros_95d88 rfl rfl rfl ?_
                  refine ev_inV2 f_X11_silent (nx := 44) (lo2 := [(0, .ref 0), (1, .int z71)]) rfl rfl rfl rfl f_X11_answer (hI.wf.s rfl) rfl rfl rfl rfl rfl ?_
                  refine ev_loc f_X11_answer (nx := 1) rfl rfl rfl rfl ?_
                  refine ev_ic f_X11_answer (nx := 2) (v := 0) rfl (by decide) rfl ?_
                  refine ev_putIT f_X11_answer (nx := 5) rfl (hI.wf.s rfl) rfl rfl rfl (hI.put0 (hI.wf.s rfl) rfl rfl) (hX.upI rfl) (fun g72 e72 hI hX => ?_)
                  refine ev_loc f_X11_answer (nx := 6) rfl rfl rfl rfl ?_
                  refine ev_retK1 f_X11_answer rfl rfl rfl ?_
                  exact ev_ret f_X11_silent rfl rfl rfl ⟨_, _, _, rfl, hI, hX, ⟨_, rfl, (t_lo z71), (t_hi z71)⟩⟩
                · have l73 : 5 ≤ z66.toInt := t_ltl (t_nle h67) (by decide : (4:Int) ≤ (4:Int32).toInt) rfl
                  refine ev_incv f_J6_numberOfTrailingZeros_0f7a4 (nx := 70) (c := 2) (w := 15) (lo' := [(1, .int 15), (0, .int z66)]) rfl rfl (by decide) (by decide) rfl rfl rfl ?_
                  refine ev_loc f_J6_numberOfTrailingZeros_0f7a4 (nx := 71) rfl rfl rfl rfl ?_
                  refine ev_ic f_J6_numberOfTrailingZeros_0f7a4 (nx := 72) (v := 2) rfl (by decide) rfl ?_
                  refine ev_anyI f_J6_numberOfTrailingZeros_0f7a4 (nx := 73) rfl rfl rfl rfl (fun z74 => ?_)
                  refine ev_loc f_J6_numberOfTrailingZeros_0f7a4 (nx := 74) (lo' := [(0, .int z74), (1, .int 15)]) rfl rfl rfl rfl ?_
                  refine ev_loc f_J6_numberOfTrailingZeros_0f7a4 (nx := 75) rfl rfl rfl rfl ?_
                  refine ev_loc f_J6_numberOfTrailingZeros_0f7a4 (nx := 76) rfl rfl rfl rfl ?_
                  refine ev_ic f_J6_numberOfTrailingZeros_0f7a4 (nx := 77) (v := 1) rfl (by decide) rfl ?_
                  refine ev_anyI f_J6_numberOfTrailingZeros_0f7a4 (nx := 78) rfl rfl rfl rfl (fun z75 => ?_)
                  refine ev_anyI f_J6_numberOfTrailingZeros_0f7a4 (nx := 79) rfl rfl rfl rfl (fun z76 => ?_)
                  refine ev_retK1 f_J6_numberOfTrailingZeros_0f7a4 rfl rfl rfl ?_
                  refine ev_anyI f_J13_numberOfTrailingZeros_95d88 (nx := 18) rfl rfl rfl rfl (fun z77 => ?_)
                  refine ev_jmp f_J13_numberOfTrailingZeros_95d88 (nx := 25) rfl rfl rfl ?_
                  refine ev_retK1 f_J13_numberOfTrailingZeros_95d88 rfl rfl rfl ?_
                  refine ev_inV2 f_X11_silent (nx := 44) (lo2 := [(0, .ref 0), (1, .int z77)]) rfl rfl rfl rfl f_X11_answer (hI.wf.s rfl) rfl rfl rfl rfl rfl ?_
                  refine ev_loc f_X11_answer (nx := 1) rfl rfl rfl rfl ?_
                  refine ev_ic f_X11_answer (nx := 2) (v := 0) rfl (by decide) rfl ?_
                  refine ev_putIT f_X11_answer (nx := 5) rfl (hI.wf.s rfl) rfl rfl rfl (hI.put0 (hI.wf.s rfl) rfl rfl) (hX.upI rfl) (fun g78 e78 hI hX => ?_)
                  refine ev_loc f_X11_answer (nx := 6) rfl rfl rfl rfl ?_
                  refine ev_retK1 f_X11_answer rfl rfl rfl ?_
                  exact ev_ret f_X11_silent rfl rfl rfl ⟨_, _, _, rfl, hI, hX, ⟨_, rfl, (t_lo z77), (t_hi z77)⟩⟩
          · have l79 : 65537 ≤ z14.toInt := t_ltl (t_nle h17) (by decide : (65536:Int) ≤ (65536:Int32).toInt) rfl
            refine ev_incv f_J6_numberOfTrailingZeros_0f7a4 (nx := 29) (c := 16) (w := 17) (lo' := [(1, .int 17), (0, .int z14)]) rfl rfl (by decide) (by decide) rfl rfl rfl ?_
            refine ev_loc f_J6_numberOfTrailingZeros_0f7a4 (nx := 30) rfl rfl rfl rfl ?_
            refine ev_bp f_J6_numberOfTrailingZeros_0f7a4 (nx := 32) (v := 16) rfl (by decide) rfl ?_
            refine ev_anyI f_J6_numberOfTrailingZeros_0f7a4 (nx := 33) rfl rfl rfl rfl (fun z80 => ?_)
            refine ev_loc f_J6_numberOfTrailingZeros_0f7a4 (nx := 34) (lo' := [(0, .int z80), (1, .int 17)]) rfl rfl rfl rfl ?_
            refine ev_loc f_J6_numberOfTrailingZeros_0f7a4 (nx := 35) rfl rfl rfl rfl ?_
            refine ev_sp f_J6_numberOfTrailingZeros_0f7a4 (nx := 38) (v := 256) rfl (by decide) rfl ?_
            refine ev_if f_J6_numberOfTrailingZeros_0f7a4 (t1 := 49) (t2 := 41) rfl rfl rfl (fun h81 => ?_) (fun h81 => ?_)
            · have u82 : z80.toInt ≤ 256 := t_leu h81 (by decide : (256:Int32).toInt ≤ (256:Int))
              refine ev_loc f_J6_numberOfTrailingZeros_0f7a4 (nx := 50) rfl rfl rfl rfl ?_
              refine ev_bp f_J6_numberOfTrailingZeros_0f7a4 (nx := 52) (v := 16) rfl (by decide) rfl ?_
              refine ev_if f_J6_numberOfTrailingZeros_0f7a4 (t1 := 62) (t2 := 55) rfl rfl rfl (fun h83 => ?_) (fun h83 => ?_)
              · have u84 : z80.toInt ≤ 16 := t_leu h83 (by decide : (16:Int32).toInt ≤ (16:Int))
                refine ev_loc f_J6_numberOfTrailingZeros_0f7a4 (nx := 63) rfl rfl rfl rfl ?_
                refine ev_ic f_J6_numberOfTrailingZeros_0f7a4 (nx := 64) (v := 4) rfl (by decide) rfl ?_
                refine ev_if f_J6_numberOfTrailingZeros_0f7a4 (t1 := 74) (t2 := 67) rfl rfl rfl (fun h85 => ?_) (fun h85 => ?_)
                · have u86 : z80.toInt ≤ 4 := t_leu h85 (by decide : (4:Int32).toInt ≤ (4:Int))
                  refine ev_loc f_J6_numberOfTrailingZeros_0f7a4 (nx := 75) rfl rfl rfl rfl ?_
                  refine ev_loc f_J6_numberOfTrailingZeros_0f7a4 (nx := 76) rfl rfl rfl rfl ?_
                  refine ev_ic f_J6_numberOfTrailingZeros_0f7a4 (nx := 77) (v := 1) rfl (by decide) rfl ?_
                  refine ev_anyI f_J6_numberOfTrailingZeros_0f7a4 (nx := 78) rfl rfl rfl rfl (fun z87 => ?_)
                  refine ev_anyI f_J6_numberOfTrailingZeros_0f7a4 (nx := 79) rfl rfl rfl rfl (fun z88 => ?_)
                  refine ev_retK1 f_J6_numberOfTrailingZeros_0f7a4 rfl rfl rfl ?_
                  refine ev_anyI f_J13_numberOfTrailingZeros_95d88 (nx := 18) rfl rfl rfl rfl (fun z89 => ?_)
                  refine ev_jmp f_J13_numberOfTrailingZeros_95d88 (nx := 25) rfl rfl rfl ?_
                  refine ev_retK1 f_J13_numberOfTrailingZeros_95d88 rfl rfl rfl ?_
                  refine ev_inV2 f_X11_silent (nx := 44) (lo2 := [(0, .ref 0), (1, .int z89)]) rfl rfl rfl rfl f_X11_answer (hI.wf.s rfl) rfl rfl rfl rfl rfl ?_
                  refine ev_loc f_X11_answer (nx := 1) rfl rfl rfl rfl ?_
                  refine ev_ic f_X11_answer (nx := 2) (v := 0) rfl (by decide) rfl ?_
                  refine ev_putIT f_X11_answer (nx := 5) rfl (hI.wf.s rfl) rfl rfl rfl (hI.put0 (hI.wf.s rfl) rfl rfl) (hX.upI rfl) (fun g90 e90 hI hX => ?_)
                  refine ev_loc f_X11_answer (nx := 6) rfl rfl rfl rfl ?_
                  refine ev_retK1 f_X11_answer rfl rfl rfl ?_
                  exact ev_ret f_X11_silent rfl rfl rfl ⟨_, _, _, rfl, hI, hX, ⟨_, rfl, (t_lo z89), (t_hi z89)⟩⟩
                · have l91 : 5 ≤ z80.toInt := t_ltl (t_nle h85) (by decide : (4:Int) ≤ (4:Int32).toInt) rfl
                  refine ev_incv f_J6_numberOfTrailingZeros_0f7a4 (nx := 70) (c := 2) (w := 19) (lo' := [(1, .int 19), (0, .int z80)]) rfl rfl (by decide) (by decide) rfl rfl rfl ?_
                  refine ev_loc f_J6_numberOfTrailingZeros_0f7a4 (nx := 71) rfl rfl rfl rfl ?_
                  refine ev_ic f_J6_numberOfTrailingZeros_0f7a4 (nx := 72) (v := 2) rfl (by decide) rfl ?_
                  refine ev_anyI f_J6_numberOfTrailingZeros_0f7a4 (nx := 73) rfl rfl rfl rfl (fun z92 => ?_)
                  refine ev_loc f_J6_numberOfTrailingZeros_0f7a4 (nx := 74) (lo' := [(0, .int z92), (1, .int 19)]) rfl rfl rfl rfl ?_
                  refine ev_loc f_J6_numberOfTrailingZeros_0f7a4 (nx := 75) rfl rfl rfl rfl ?_
                  refine ev_loc f_J6_numberOfTrailingZeros_0f7a4 (nx := 76) rfl rfl rfl rfl ?_
                  refine ev_ic f_J6_numberOfTrailingZeros_0f7a4 (nx := 77) (v := 1) rfl (by decide) rfl ?_
                  refine ev_anyI f_J6_numberOfTrailingZeros_0f7a4 (nx := 78) rfl rfl rfl rfl (fun z93 => ?_)
                  refine ev_anyI f_J6_numberOfTrailingZeros_0f7a4 (nx := 79) rfl rfl rfl rfl (fun z94 => ?_)
                  refine ev_retK1 f_J6_numberOfTrailingZeros_0f7a4 rfl rfl rfl ?_
                  refine ev_anyI f_J13_numberOfTrailingZeros_95d88 (nx := 18) rfl rfl rfl rfl (fun z95 => ?_)
                  refine ev_jmp f_J13_numberOfTrailingZeros_95d88 (nx := 25) rfl rfl rfl ?_
                  refine ev_retK1 f_J13_numberOfTrailingZeros_95d88 rfl rfl rfl ?_
                  refine ev_inV2 f_X11_silent (nx := 44) (lo2 := [(0, .ref 0), (1, .int z95)]) rfl rfl rfl rfl f_X11_answer (hI.wf.s rfl) rfl rfl rfl rfl rfl ?_
                  refine ev_loc f_X11_answer (nx := 1) rfl rfl rfl rfl ?_
                  refine ev_ic f_X11_answer (nx := 2) (v := 0) rfl (by decide) rfl ?_
                  refine ev_putIT f_X11_answer (nx := 5) rfl (hI.wf.s rfl) rfl rfl rfl (hI.put0 (hI.wf.s rfl) rfl rfl) (hX.upI rfl) (fun g96 e96 hI hX => ?_)
                  refine ev_loc f_X11_answer (nx := 6) rfl rfl rfl rfl ?_
                  refine ev_retK1 f_X11_answer rfl rfl rfl ?_
                  exact ev_ret f_X11_silent rfl rfl rfl ⟨_, _, _, rfl, hI, hX, ⟨_, rfl, (t_lo z95), (t_hi z95)⟩⟩
              · have l97 : 17 ≤ z80.toInt := t_ltl (t_nle h83) (by decide : (16:Int) ≤ (16:Int32).toInt) rfl
                refine ev_incv f_J6_numberOfTrailingZeros_0f7a4 (nx := 58) (c := 4) (w := 21) (lo' := [(1, .int 21), (0, .int z80)]) rfl rfl (by decide) (by decide) rfl rfl rfl ?_
                refine ev_loc f_J6_numberOfTrailingZeros_0f7a4 (nx := 59) rfl rfl rfl rfl ?_
                refine ev_ic f_J6_numberOfTrailingZeros_0f7a4 (nx := 60) (v := 4) rfl (by decide) rfl ?_
                refine ev_anyI f_J6_numberOfTrailingZeros_0f7a4 (nx := 61) rfl rfl rfl rfl (fun z98 => ?_)
                refine ev_loc f_J6_numberOfTrailingZeros_0f7a4 (nx := 62) (lo' := [(0, .int z98), (1, .int 21)]) rfl rfl rfl rfl ?_
                refine ev_loc f_J6_numberOfTrailingZeros_0f7a4 (nx := 63) rfl rfl rfl rfl ?_
                refine ev_ic f_J6_numberOfTrailingZeros_0f7a4 (nx := 64) (v := 4) rfl (by decide) rfl ?_
                refine ev_if f_J6_numberOfTrailingZeros_0f7a4 (t1 := 74) (t2 := 67) rfl rfl rfl (fun h99 => ?_) (fun h99 => ?_)
                · have u100 : z98.toInt ≤ 4 := t_leu h99 (by decide : (4:Int32).toInt ≤ (4:Int))
                  refine ev_loc f_J6_numberOfTrailingZeros_0f7a4 (nx := 75) rfl rfl rfl rfl ?_
                  refine ev_loc f_J6_numberOfTrailingZeros_0f7a4 (nx := 76) rfl rfl rfl rfl ?_
                  refine ev_ic f_J6_numberOfTrailingZeros_0f7a4 (nx := 77) (v := 1) rfl (by decide) rfl ?_
                  refine ev_anyI f_J6_numberOfTrailingZeros_0f7a4 (nx := 78) rfl rfl rfl rfl (fun z101 => ?_)
                  refine ev_anyI f_J6_numberOfTrailingZeros_0f7a4 (nx := 79) rfl rfl rfl rfl (fun z102 => ?_)
                  refine ev_retK1 f_J6_numberOfTrailingZeros_0f7a4 rfl rfl rfl ?_
                  refine ev_anyI f_J13_numberOfTrailingZeros_95d88 (nx := 18) rfl rfl rfl rfl (fun z103 => ?_)
                  refine ev_jmp f_J13_numberOfTrailingZeros_95d88 (nx := 25) rfl rfl rfl ?_
                  refine ev_retK1 f_J13_numberOfTrailingZeros_95d88 rfl rfl rfl ?_
                  refine ev_inV2 f_X11_silent (nx := 44) (lo2 := [(0, .ref 0), (1, .int z103)]) rfl rfl rfl rfl f_X11_answer (hI.wf.s rfl) rfl rfl rfl rfl rfl ?_
                  refine ev_loc f_X11_answer (nx := 1) rfl rfl rfl rfl ?_
                  refine ev_ic f_X11_answer (nx := 2) (v := 0) rfl (by decide) rfl ?_
                  refine ev_putIT f_X11_answer (nx := 5) rfl (hI.wf.s rfl) rfl rfl rfl (hI.put0 (hI.wf.s rfl) rfl rfl) (hX.upI rfl) (fun g104 e104 hI hX => ?_)
                  refine ev_loc f_X11_answer (nx := 6) rfl rfl rfl rfl ?_
                  refine ev_retK1 f_X11_answer rfl rfl rfl ?_
                  exact ev_ret f_X11_silent rfl rfl rfl ⟨_, _, _, rfl, hI, hX, ⟨_, rfl, (t_lo z103), (t_hi z103)⟩⟩
                · have l105 : 5 ≤ z98.toInt := t_ltl (t_nle h99) (by decide : (4:Int) ≤ (4:Int32).toInt) rfl
                  refine ev_incv f_J6_numberOfTrailingZeros_0f7a4 (nx := 70) (c := 2) (w := 23) (lo' := [(1, .int 23), (0, .int z98)]) rfl rfl (by decide) (by decide) rfl rfl rfl ?_
                  refine ev_loc f_J6_numberOfTrailingZeros_0f7a4 (nx := 71) rfl rfl rfl rfl ?_
                  refine ev_ic f_J6_numberOfTrailingZeros_0f7a4 (nx := 72) (v := 2) rfl (by decide) rfl ?_
                  refine ev_anyI f_J6_numberOfTrailingZeros_0f7a4 (nx := 73) rfl rfl rfl rfl (fun z106 => ?_)
                  refine ev_loc f_J6_numberOfTrailingZeros_0f7a4 (nx := 74) (lo' := [(0, .int z106), (1, .int 23)]) rfl rfl rfl rfl ?_
                  refine ev_loc f_J6_numberOfTrailingZeros_0f7a4 (nx := 75) rfl rfl rfl rfl ?_
                  refine ev_loc f_J6_numberOfTrailingZeros_0f7a4 (nx := 76) rfl rfl rfl rfl ?_
                  refine ev_ic f_J6_numberOfTrailingZeros_0f7a4 (nx := 77) (v := 1) rfl (by decide) rfl ?_
                  refine ev_anyI f_J6_numberOfTrailingZeros_0f7a4 (nx := 78) rfl rfl rfl rfl (fun z107 => ?_)
                  refine ev_anyI f_J6_numberOfTrailingZeros_0f7a4 (nx := 79) rfl rfl rfl rfl (fun z108 => ?_)
                  refine ev_retK1 f_J6_numberOfTrailingZeros_0f7a4 rfl rfl rfl ?_
                  refine ev_anyI f_J13_numberOfTrailingZeros_95d88 (nx := 18) rfl rfl rfl rfl (fun z109 => ?_)
                  refine ev_jmp f_J13_numberOfTrailingZeros_95d88 (nx := 25) rfl rfl rfl ?_
                  refine ev_retK1 f_J13_numberOfTrailingZeros_95d88 rfl rfl rfl ?_
                  refine ev_inV2 f_X11_silent (nx := 44) (lo2 := [(0, .ref 0), (1, .int z109)]) rfl rfl rfl rfl f_X11_answer (hI.wf.s rfl) rfl rfl rfl rfl rfl ?_
                  refine ev_loc f_X11_answer (nx := 1) rfl rfl rfl rfl ?_
                  refine ev_ic f_X11_answer (nx := 2) (v := 0) rfl (by decide) rfl ?_
                  refine ev_putIT f_X11_answer (nx := 5) rfl (hI.wf.s rfl) rfl rfl rfl (hI.put0 (hI.wf.s rfl) rfl rfl) (hX.upI rfl) (fun g110 e110 hI hX => ?_)
                  refine ev_loc f_X11_answer (nx := 6) rfl rfl rfl rfl ?_
                  refine ev_retK1 f_X11_answer rfl rfl rfl ?_
                  exact ev_ret f_X11_silent rfl rfl rfl ⟨_, _, _, rfl, hI, hX, ⟨_, rfl, (t_lo z109), (t_hi z109)⟩⟩
            · have l111 : 257 ≤ z80.toInt := t_ltl (t_nle h81) (by decide : (256:Int) ≤ (256:Int32).toInt) rfl
              refine ev_incv f_J6_numberOfTrailingZeros_0f7a4 (nx := 44) (c := 8) (w := 25) (lo' := [(1, .int 25), (0, .int z80)]) rfl rfl (by decide) (by decide) rfl rfl rfl ?_
              refine ev_loc f_J6_numberOfTrailingZeros_0f7a4 (nx := 45) rfl rfl rfl rfl ?_
              refine ev_bp f_J6_numberOfTrailingZeros_0f7a4 (nx := 47) (v := 8) rfl (by decide) rfl ?_
              refine ev_anyI f_J6_numberOfTrailingZeros_0f7a4 (nx := 48) rfl rfl rfl rfl (fun z112 => ?_)
              refine ev_loc f_J6_numberOfTrailingZeros_0f7a4 (nx := 49) (lo' := [(0, .int z112), (1, .int 25)]) rfl rfl rfl rfl ?_
              refine ev_loc f_J6_numberOfTrailingZeros_0f7a4 (nx := 50) rfl rfl rfl rfl ?_
              refine ev_bp f_J6_numberOfTrailingZeros_0f7a4 (nx := 52) (v := 16) rfl (by decide) rfl ?_
              refine ev_if f_J6_numberOfTrailingZeros_0f7a4 (t1 := 62) (t2 := 55) rfl rfl rfl (fun h113 => ?_) (fun h113 => ?_)
              · have u114 : z112.toInt ≤ 16 := t_leu h113 (by decide : (16:Int32).toInt ≤ (16:Int))
                refine ev_loc f_J6_numberOfTrailingZeros_0f7a4 (nx := 63) rfl rfl rfl rfl ?_
                refine ev_ic f_J6_numberOfTrailingZeros_0f7a4 (nx := 64) (v := 4) rfl (by decide) rfl ?_
                refine ev_if f_J6_numberOfTrailingZeros_0f7a4 (t1 := 74) (t2 := 67) rfl rfl rfl (fun h115 => ?_) (fun h115 => ?_)
                · have u116 : z112.toInt ≤ 4 := t_leu h115 (by decide : (4:Int32).toInt ≤ (4:Int))
                  refine ev_loc f_J6_numberOfTrailingZeros_0f7a4 (nx := 75) rfl rfl rfl rfl ?_
                  refine ev_loc f_J6_numberOfTrailingZeros_0f7a4 (nx := 76) rfl rfl rfl rfl ?_
                  refine ev_ic f_J6_numberOfTrailingZeros_0f7a4 (nx := 77) (v := 1) rfl (by decide) rfl ?_
                  refine ev_anyI f_J6_numberOfTrailingZeros_0f7a4 (nx := 78) rfl rfl rfl rfl (fun z117 => ?_)
                  refine ev_anyI f_J6_numberOfTrailingZeros_0f7a4 (nx := 79) rfl rfl rfl rfl (fun z118 => ?_)
                  refine ev_retK1 f_J6_numberOfTrailingZeros_0f7a4 rfl rfl rfl ?_
                  refine ev_anyI f_J13_numberOfTrailingZeros_95d88 (nx := 18) rfl rfl rfl rfl (fun z119 => ?_)
                  refine ev_jmp f_J13_numberOfTrailingZeros_95d88 (nx := 25) rfl rfl rfl ?_
                  refine ev_retK1 f_J13_numberOfTrailingZeros_95d88 rfl rfl rfl ?_
                  refine ev_inV2 f_X11_silent (nx := 44) (lo2 := [(0, .ref 0), (1, .int z119)]) rfl rfl rfl rfl f_X11_answer (hI.wf.s rfl) rfl rfl rfl rfl rfl ?_
                  refine ev_loc f_X11_answer (nx := 1) rfl rfl rfl rfl ?_
                  refine ev_ic f_X11_answer (nx := 2) (v := 0) rfl (by decide) rfl ?_
                  refine ev_putIT f_X11_answer (nx := 5) rfl (hI.wf.s rfl) rfl rfl rfl (hI.put0 (hI.wf.s rfl) rfl rfl) (hX.upI rfl) (fun g120 e120 hI hX => ?_)
                  refine ev_loc f_X11_answer (nx := 6) rfl rfl rfl rfl ?_
                  refine ev_retK1 f_X11_answer rfl rfl rfl ?_
                  exact ev_ret f_X11_silent rfl rfl rfl ⟨_, _, _, rfl, hI, hX, ⟨_, rfl, (t_lo z119), (t_hi z119)⟩⟩
                · have l121 : 5 ≤ z112.toInt := t_ltl (t_nle h115) (by decide : (4:Int) ≤ (4:Int32).toInt) rfl
                  refine ev_incv f_J6_numberOfTrailingZeros_0f7a4 (nx := 70) (c := 2) (w := 27) (lo' := [(1, .int 27), (0, .int z112)]) rfl rfl (by decide) (by decide) rfl rfl rfl ?_
                  refine ev_loc f_J6_numberOfTrailingZeros_0f7a4 (nx := 71) rfl rfl rfl rfl ?_
                  refine ev_ic f_J6_numberOfTrailingZeros_0f7a4 (nx := 72) (v := 2) rfl (by decide) rfl ?_
                  refine ev_anyI f_J6_numberOfTrailingZeros_0f7a4 (nx := 73) rfl rfl rfl rfl (fun z122 => ?_)
                  refine ev_loc f_J6_numberOfTrailingZeros_0f7a4 (nx := 74) (lo' := [(0, .int z122), (1, .int 27)]) rfl rfl rfl rfl ?_
                  refine ev_loc f_J6_numberOfTrailingZeros_0f7a4 (nx := 75) rfl rfl rfl rfl ?_
                  refine ev_loc f_J6_numberOfTrailingZeros_0f7a4 (nx := 76) rfl rfl rfl rfl ?_
                  refine ev_ic f_J6_numberOfTrailingZeros_0f7a4 (nx := 77) (v := 1) rfl (by decide) rfl ?_
                  refine ev_anyI f_J6_numberOfTrailingZeros_0f7a4 (nx := 78) rfl rfl rfl rfl (fun z123 => ?_)
                  refine ev_anyI f_J6_numberOfTrailingZeros_0f7a4 (nx := 79) rfl rfl rfl rfl (fun z124 => ?_)
                  refine ev_retK1 f_J6_numberOfTrailingZeros_0f7a4 rfl rfl rfl ?_
                  refine ev_anyI f_J13_numberOfTrailingZeros_95d88 (nx := 18) rfl rfl rfl rfl (fun z125 => ?_)
                  refine ev_jmp f_J13_numberOfTrailingZeros_95d88 (nx := 25) rfl rfl rfl ?_
                  refine ev_retK1 f_J13_numberOfTrailingZeros_95d88 rfl rfl rfl ?_
                  refine ev_inV2 f_X11_silent (nx := 44) (lo2 := [(0, .ref 0), (1, .int z125)]) rfl rfl rfl rfl f_X11_answer (hI.wf.s rfl) rfl rfl rfl rfl rfl ?_
                  refine ev_loc f_X11_answer (nx := 1) rfl rfl rfl rfl ?_
                  refine ev_ic f_X11_answer (nx := 2) (v := 0) rfl (by decide) rfl ?_
                  refine ev_putIT f_X11_answer (nx := 5) rfl (hI.wf.s rfl) rfl rfl rfl (hI.put0 (hI.wf.s rfl) rfl rfl) (hX.upI rfl) (fun g126 e126 hI hX => ?_)
                  refine ev_loc f_X11_answer (nx := 6) rfl rfl rfl rfl ?_
                  refine ev_retK1 f_X11_answer rfl rfl rfl ?_
                  exact ev_ret f_X11_silent rfl rfl rfl ⟨_, _, _, rfl, hI, hX, ⟨_, rfl, (t_lo z125), (t_hi z125)⟩⟩
              · have l127 : 17 ≤ z112.toInt := t_ltl (t_nle h113) (by decide : (16:Int) ≤ (16:Int32).toInt) rfl
                refine ev_incv f_J6_numberOfTrailingZeros_0f7a4 (nx := 58) (c := 4) (w := 29) (lo' := [(1, .int 29), (0, .int z112)]) rfl rfl (by decide) (by decide) rfl rfl rfl ?_
                refine ev_loc f_J6_numberOfTrailingZeros_0f7a4 (nx := 59) rfl rfl rfl rfl ?_
                refine ev_ic f_J6_numberOfTrailingZeros_0f7a4 (nx := 60) (v := 4) rfl (by decide) rfl ?_
                refine ev_anyI f_J6_numberOfTrailingZeros_0f7a4 (nx := 61) rfl rfl rfl rfl (fun z128 => ?_)
                refine ev_loc f_J6_numberOfTrailingZeros_0f7a4 (nx := 62) (lo' := [(0, .int z128), (1, .int 29)]) rfl rfl rfl rfl ?_
                refine ev_loc f_J6_numberOfTrailingZeros_0f7a4 (nx := 63) rfl rfl rfl rfl ?_
                refine ev_ic f_J6_numberOfTrailingZeros_0f7a4 (nx := 64) (v := 4) rfl (by decide) rfl ?_
                refine ev_if f_J6_numberOfTrailingZeros_0f7a4 (t1 := 74) (t2 := 67) rfl rfl rfl (fun h129 => ?_) (fun h129 => ?_)
                · have u130 : z128.toInt ≤ 4 := t_leu h129 (by decide : (4:Int32).toInt ≤ (4:Int))
                  refine ev_loc f_J6_numberOfTrailingZeros_0f7a4 (nx := 75) rfl rfl rfl rfl ?_
                  refine ev_loc f_J6_numberOfTrailingZeros_0f7a4 (nx := 76) rfl rfl rfl rfl ?_
                  refine ev_ic f_J6_numberOfTrailingZeros_0f7a4 (nx := 77) (v := 1) rfl (by decide) rfl ?_
                  refine ev_anyI f_J6_numberOfTrailingZeros_0f7a4 (nx := 78) rfl rfl rfl rfl (fun z131 => ?_)
                  refine ev_anyI f_J6_numberOfTrailingZeros_0f7a4 (nx := 79) rfl rfl rfl rfl (fun z132 => ?_)
                  refine ev_retK1 f_J6_numberOfTrailingZeros_0f7a4 rfl rfl rfl ?_
                  refine ev_anyI f_J13_numberOfTrailingZeros_95d88 (nx := 18) rfl rfl rfl rfl (fun z133 => ?_)
                  refine ev_jmp f_J13_numberOfTrailingZeros_95d88 (nx := 25) rfl rfl rfl ?_
                  refine ev_retK1 f_J13_numberOfTrailingZeros_95d88 rfl rfl rfl ?_
                  refine ev_inV2 f_X11_silent (nx := 44) (lo2 := [(0, .ref 0), (1, .int z133)]) rfl rfl rfl rfl f_X11_answer (hI.wf.s rfl) rfl rfl rfl rfl rfl ?_
                  refine ev_loc f_X11_answer (nx := 1) rfl rfl rfl rfl ?_
                  refine ev_ic f_X11_answer (nx := 2) (v := 0) rfl (by decide) rfl ?_
                  refine ev_putIT f_X11_answer (nx := 5) rfl (hI.wf.s rfl) rfl rfl rfl (hI.put0 (hI.wf.s rfl) rfl rfl) (hX.upI rfl) (fun g134 e134 hI hX => ?_)
                  refine ev_loc f_X11_answer (nx := 6) rfl rfl rfl rfl ?_
                  refine ev_retK1 f_X11_answer rfl rfl rfl ?_
                  exact ev_ret f_X11_silent rfl rfl rfl ⟨_, _, _, rfl, hI, hX, ⟨_, rfl, (t_lo z133), (t_hi z133)⟩⟩
                · have l135 : 5 ≤ z128.toInt := t_ltl (t_nle h129) (by decide : (4:Int) ≤ (4:Int32).toInt) rfl
                  refine ev_incv f_J6_numberOfTrailingZeros_0f7a4 (nx := 70) (c := 2) (w := 31) (lo' := [(1, .int 31), (0, .int z128)]) rfl rfl (by decide) (by decide) rfl rfl rfl ?_
                  refine ev_loc f_J6_numberOfTrailingZeros_0f7a4 (nx := 71) rfl rfl rfl rfl ?_
                  refine ev_ic f_J6_numberOfTrailingZeros_0f7a4 (nx := 72) (v := 2) rfl (by decide) rfl ?_
                  refine ev_anyI f_J6_numberOfTrailingZeros_0f7a4 (nx := 73) rfl rfl rfl rfl (fun z136 => ?_)
                  refine ev_loc f_J6_numberOfTrailingZeros_0f7a4 (nx := 74) (lo' := [(0, .int z136), (1, .int 31)]) rfl rfl rfl rfl ?_
                  refine ev_loc f_J6_numberOfTrailingZeros_0f7a4 (nx := 75) rfl rfl rfl rfl ?_
                  refine ev_loc f_J6_numberOfTrailingZeros_0f7a4 (nx := 76) rfl rfl rfl rfl ?_
                  refine ev_ic f_J6_numberOfTrailingZeros_0f7a4 (nx := 77) (v := 1) rfl (by decide) rfl ?_
                  refine ev_anyI f_J6_numberOfTrailingZeros_0f7a4 (nx := 78) rfl rfl rfl rfl (fun z137 => ?_)
                  refine ev_anyI f_J6_numberOfTrailingZeros_0f7a4 (nx := 79) rfl rfl rfl rfl (fun z138 => ?_)
                  refine ev_retK1 f_J6_numberOfTrailingZeros_0f7a4 rfl rfl rfl ?_
                  refine ev_anyI f_J13_numberOfTrailingZeros_95d88 (nx := 18) rfl rfl rfl rfl (fun z139 => ?_)
                  refine ev_jmp f_J13_numberOfTrailingZeros_95d88 (nx := 25) rfl rfl rfl ?_
                  refine ev_retK1 f_J13_numberOfTrailingZeros_95d88 rfl rfl rfl ?_
                  refine ev_inV2 f_X11_silent (nx := 44) (lo2 := [(0, .ref 0), (1, .int z139)]) rfl rfl rfl rfl f_X11_answer (hI.wf.s rfl) rfl rfl rfl rfl rfl ?_
                  refine ev_loc f_X11_answer (nx := 1) rfl rfl rfl rfl ?_
                  refine ev_ic f_X11_answer (nx := 2) (v := 0) rfl (by decide) rfl ?_
                  refine ev_putIT f_X11_answer (nx := 5) rfl (hI.wf.s rfl) rfl rfl rfl (hI.put0 (hI.wf.s rfl) rfl rfl) (hX.upI rfl) (fun g140 e140 hI hX => ?_)
                  refine ev_loc f_X11_answer (nx := 6) rfl rfl rfl rfl ?_
                  refine ev_retK1 f_X11_answer rfl rfl rfl ?_
                  exact ev_ret f_X11_silent rfl rfl rfl ⟨_, _, _, rfl, hI, hX, ⟨_, rfl, (t_lo z139), (t_hi z139)⟩⟩
        · have u141 : z14.toInt ≤ 0 := t_leu (t_nlt h15) (by decide : (0:Int32).toInt ≤ (0:Int))
          refine ev_loc f_J6_numberOfTrailingZeros_0f7a4 (nx := 13) rfl rfl rfl rfl ?_
          refine ev_bp f_J6_numberOfTrailingZeros_0f7a4 (nx := 15) (v := 32) rfl (by decide) rfl ?_
          refine ev_andR f_J6_numberOfTrailingZeros_0f7a4 (nx := 16) (c := 32) rfl (by decide) (by decide) rfl (fun z142 l142 u142 => ?_)
          refine ev_retK1 f_J6_numberOfTrailingZeros_0f7a4 rfl rfl rfl ?_
          refine ev_addK f_J13_numberOfTrailingZeros_95d88 (nx := 18) (c := 32) (l := 32) (u := 64) rfl (by decide) l142 u142 rfl rfl (by decide) (by decide) rfl (fun z143 e143 l143 u143 => ?_)
          refine ev_jmp f_J13_numberOfTrailingZeros_95d88 (nx := 25) rfl rfl rfl ?_
          refine ev_retK1 f_J13_numberOfTrailingZeros_95d88 rfl rfl rfl ?_
          refine ev_inV2 f_X11_silent (nx := 44) (lo2 := [(0, .ref 0), (1, .int z143)]) rfl rfl rfl rfl f_X11_answer (hI.wf.s rfl) rfl rfl rfl rfl rfl ?_
          refine ev_loc f_X11_answer (nx := 1) rfl rfl rfl rfl ?_
          refine ev_ic f_X11_answer (nx := 2) (v := 0) rfl (by decide) rfl ?_
          refine ev_putIT f_X11_answer (nx := 5) rfl (hI.wf.s rfl) rfl rfl rfl (hI.put0 (hI.wf.s rfl) rfl rfl) (hX.upI rfl) (fun g144 e144 hI hX => ?_)
          refine ev_loc f_X11_answer (nx := 6) rfl rfl rfl rfl ?_
          refine ev_retK1 f_X11_answer rfl rfl rfl ?_
          exact ev_ret f_X11_silent rfl rfl rfl ⟨_, _, _, rfl, hI, hX, ⟨_, rfl, (Int.le_trans (by decide : ((-2147483648):Int) ≤ 32) l143), (Int.le_trans u143 (by decide : (64:Int) ≤ 2147483647))⟩⟩
      · refine ev_loc f_J13_numberOfTrailingZeros_95d88 (nx := 22) rfl rfl rfl rfl ?_
        refine ev_inS1 f_J13_numberOfTrailingZeros_95d88 (nx := 25) (lo2 := [(0, .int z6)]) rfl rfl rfl rfl f_J6_numberOfTrailingZeros_0f7a4 rfl rfl rfl rfl ?_
        refine ev_loc f_J6_numberOfTrailingZeros_0f7a4 (nx := 1) rfl rfl rfl rfl ?_
        refine ev_ic f_J6_numberOfTrailingZeros_0f7a4 (nx := 2) (v := -1) rfl (by decide) rfl ?_
        refine ev_anyI f_J6_numberOfTrailingZeros_0f7a4 (nx := 3) rfl rfl rfl rfl (fun z145 => ?_)
        refine ev_loc f_J6_numberOfTrailingZeros_0f7a4 (nx := 4) rfl rfl rfl rfl ?_
        refine ev_ic f_J6_numberOfTrailingZeros_0f7a4 (nx := 5) (v := 1) rfl (by decide) rfl ?_
        refine ev_anyI f_J6_numberOfTrailingZeros_0f7a4 (nx := 6) rfl rfl rfl rfl (fun z146 => ?_)
        refine ev_anyI f_J6_numberOfTrailingZeros_0f7a4 (nx := 7) rfl rfl rfl rfl (fun z147 => ?_)
        refine ev_loc f_J6_numberOfTrailingZeros_0f7a4 (nx := 8) (lo' := [(0, .int z147)]) rfl rfl rfl rfl ?_
        refine ev_loc f_J6_numberOfTrailingZeros_0f7a4 (nx := 9) rfl rfl rfl rfl ?_
        refine ev_if f_J6_numberOfTrailingZeros_0f7a4 (t1 := 17) (t2 := 12) rfl rfl rfl (fun h148 => ?_) (fun h148 => ?_)
        · have l149 : 1 ≤ z147.toInt := t_ltl h148 (by decide : (0:Int) ≤ (0:Int32).toInt) rfl
          refine ev_ic f_J6_numberOfTrailingZeros_0f7a4 (nx := 18) (v := 1) rfl (by decide) rfl ?_
          refine ev_loc f_J6_numberOfTrailingZeros_0f7a4 (nx := 19) (lo' := [(1, .int 1), (0, .int z147)]) rfl rfl rfl rfl ?_
          refine ev_loc f_J6_numberOfTrailingZeros_0f7a4 (nx := 20) rfl rfl rfl rfl ?_
          refine ev_ldW f_J6_numberOfTrailingZeros_0f7a4 (nx := 23) (v := 65536) rfl (by decide) rfl ?_
          refine ev_if f_J6_numberOfTrailingZeros_0f7a4 (t1 := 34) (t2 := 26) rfl rfl rfl (fun h150 => ?_) (fun h150 => ?_)
          · have u151 : z147.toInt ≤ 65536 := t_leu h150 (by decide : (65536:Int32).toInt ≤ (65536:Int))
            refine ev_loc f_J6_numberOfTrailingZeros_0f7a4 (nx := 35) rfl rfl rfl rfl ?_
            refine ev_sp f_J6_numberOfTrailingZeros_0f7a4 (nx := 38) (v := 256) rfl (by decide) rfl ?_
            refine ev_if f_J6_numberOfTrailingZeros_0f7a4 (t1 := 49) (t2 := 41) rfl rfl rfl (fun h152 => ?_) (fun h152 => ?_)
            · have u153 : z147.toInt ≤ 256 := t_leu h152 (by decide : (256:Int32).toInt ≤ (256:Int))
              refine ev_loc f_J6_numberOfTrailingZeros_0f7a4 (nx := 50) rfl rfl rfl rfl ?_
              refine ev_bp f_J6_numberOfTrailingZeros_0f7a4 (nx := 52) (v := 16) rfl (by decide) rfl ?_
              refine ev_if f_J6_numberOfTrailingZeros_0f7a4 (t1 := 62) (t2 := 55) rfl rfl rfl (fun h154 => ?_) (fun h154 => ?_)
              · have u155 : z147.toInt ≤ 16 := t_leu h154 (by decide : (16:Int32).toInt ≤ (16:Int))
                refine ev_loc f_J6_numberOfTrailingZeros_0f7a4 (nx := 63) rfl rfl rfl rfl ?_
                refine ev_ic f_J6_numberOfTrailingZeros_0f7a4 (nx := 64) (v := 4) rfl (by decide) rfl ?_
                refine ev_if f_J6_numberOfTrailingZeros_0f7a4 (t1 := 74) (t2 := 67) rfl rfl rfl (fun h156 => ?_) (fun h156 => ?_)
                · have u157 : z147.toInt ≤ 4 := t_leu h156 (by decide : (4:Int32).toInt ≤ (4:Int))
                  refine ev_loc f_J6_numberOfTrailingZeros_0f7a4 (nx := 75) rfl rfl rfl rfl ?_
                  refine ev_loc f_J6_numberOfTrailingZeros_0f7a4 (nx := 76) rfl rfl rfl rfl ?_
                  refine ev_ic f_J6_numberOfTrailingZeros_0f7a4 (nx := 77) (v := 1) rfl (by decide) rfl ?_
                  refine ev_anyI f_J6_numberOfTrailingZeros_0f7a4 (nx := 78) rfl rfl rfl rfl (fun z158 => ?_)
                  refine ev_anyI f_J6_numberOfTrailingZeros_0f7a4 (nx := 79) rfl rfl rfl rfl (fun z159 => ?_)
                  refine ev_retK1 f_J6_numberOfTrailingZeros_0f7a4 rfl rfl rfl ?_
                  refine ev_retK1 f_J13_numberOfTrailingZeros_95d88 rfl rfl rfl ?_
                  refine ev_inV2 f_X11_silent (nx := 44) (lo2 := [(0, .ref 0), (1, .int z159)]) rfl rfl rfl rfl f_X11_answer (hI.wf.s rfl) rfl rfl rfl rfl rfl ?_
                  refine ev_loc f_X11_answer (nx := 1) rfl rfl rfl rfl ?_
                  refine ev_ic f_X11_answer (nx := 2) (v := 0) rfl (by decide) rfl ?_
                  refine ev_putIT f_X11_answer (nx := 5) rfl (hI.wf.s rfl) rfl rfl rfl (hI.put0 (hI.wf.s rfl) rfl rfl) (hX.upI rfl) (fun g160 e160 hI hX => ?_)
                  refine ev_loc f_X11_answer (nx := 6) rfl rfl rfl rfl ?_
                  refine ev_retK1 f_X11_answer rfl rfl rfl ?_
                  exact ev_ret f_X11_silent rfl rfl rfl ⟨_, _, _, rfl, hI, hX, ⟨_, rfl, (t_lo z159), (t_hi z159)⟩⟩
                · have l161 : 5 ≤ z147.toInt := t_ltl (t_nle h156) (by decide : (4:Int) ≤ (4:Int32).toInt) rfl
                  refine ev_incv f_J6_numberOfTrailingZeros_0f7a4 (nx := 70) (c := 2) (w := 3) (lo' := [(1, .int 3), (0, .int z147)]) rfl rfl (by decide) (by decide) rfl rfl rfl ?_
                  refine ev_loc f_J6_numberOfTrailingZeros_0f7a4 (nx := 71) rfl rfl rfl rfl ?_
                  refine ev_ic f_J6_numberOfTrailingZeros_0f7a4 (nx := 72) (v := 2) rfl (by decide) rfl ?_
                  refine ev_anyI f_J6_numberOfTrailingZeros_0f7a4 (nx := 73) rfl rfl rfl rfl (fun z162 => ?_)
                  refine ev_loc f_J6_numberOfTrailingZeros_0f7a4 (nx := 74) (lo' := [(0, .int z162), (1, .int 3)]) rfl rfl rfl rfl ?_
                  refine ev_loc f_J6_numberOfTrailingZeros_0f7a4 (nx := 75) rfl rfl rfl rfl ?_
                  refine ev_loc f_J6_numberOfTrailingZeros_0f7a4 (nx := 76) rfl rfl rfl rfl ?_
                  refine ev_ic f_J6_numberOfTrailingZeros_0f7a4 (nx := 77) (v := 1) rfl (by decide) rfl ?_
                  refine ev_anyI f_J6_numberOfTrailingZeros_0f7a4 (nx := 78) rfl rfl rfl rfl (fun z163 => ?_)
                  refine ev_anyI f_J6_numberOfTrailingZeros_0f7a4 (nx := 79) rfl rfl rfl rfl (fun z164 => ?_)
                  refine ev_retK1 f_J6_numberOfTrailingZeros_0f7a4 rfl rfl rfl ?_
                  refine ev_retK1 f_J13_numberOfTrailingZeros_95d88 rfl rfl rfl ?_
                  refine ev_inV2 f_X11_silent (nx := 44) (lo2 := [(0, .ref 0), (1, .int z164)]) rfl rfl rfl rfl f_X11_answer (hI.wf.s rfl) rfl rfl rfl rfl rfl ?_
                  refine ev_loc f_X11_answer (nx := 1) rfl rfl rfl rfl ?_
                  refine ev_ic f_X11_answer (nx := 2) (v := 0) rfl (by decide) rfl ?_
                  refine ev_putIT f_X11_answer (nx := 5) rfl (hI.wf.s rfl) rfl rfl rfl (hI.put0 (hI.wf.s rfl) rfl rfl) (hX.upI rfl) (fun g165 e165 hI hX => ?_)
                  refine ev_loc f_X11_answer (nx := 6) rfl rfl rfl rfl ?_
                  refine ev_retK1 f_X11_answer rfl rfl rfl ?_
                  exact ev_ret f_X11_silent rfl rfl rfl ⟨_, _, _, rfl, hI, hX, ⟨_, rfl, (t_lo z164), (t_hi z164)⟩⟩
              · have l166 : 17 ≤ z147.toInt := t_ltl (t_nle h154) (by decide : (16:Int) ≤ (16:Int32).toInt) rfl
                refine ev_incv f_J6_numberOfTrailingZeros_0f7a4 (nx := 58) (c := 4) (w := 5) (lo' := [(1, .int 5), (0, .int z147)]) rfl rfl (by decide) (by decide) rfl rfl rfl ?_
                refine ev_loc f_J6_numberOfTrailingZeros_0f7a4 (nx := 59) rfl rfl rfl rfl ?_
                refine ev_ic f_J6_numberOfTrailingZeros_0f7a4 (nx := 60) (v := 4) rfl (by decide) rfl ?_
                refine ev_anyI f_J6_numberOfTrailingZeros_0f7a4 (nx := 61) rfl rfl rfl rfl (fun z167 => ?_)
                refine ev_loc f_J6_numberOfTrailingZeros_0f7a4 (nx := 62) (lo' := [(0, .int z167), (1, .int 5)]) rfl rfl rfl rfl ?_
                refine ev_loc f_J6_numberOfTrailingZeros_0f7a4 (nx := 63) rfl rfl rfl rfl ?_
                refine ev_ic f_J6_numberOfTrailingZeros_0f7a4 (nx := 64) (v := 4) rfl (by decide) rfl ?_
                refine ev_if f_J6_numberOfTrailingZeros_0f7a4 (t1 := 74) (t2 := 67) rfl rfl rfl (fun h168 => ?_) (fun h168 => ?_)
                · have u169 : z167.toInt ≤ 4 := t_leu h168 (by decide : (4:Int32).toInt ≤ (4:Int))
                  refine ev_loc f_J6_numberOfTrailingZeros_0f7a4 (nx := 75) rfl rfl rfl rfl ?_
                  refine ev_loc f_J6_numberOfTrailingZeros_0f7a4 (nx := 76) rfl rfl rfl rfl ?_
                  refine ev_ic f_J6_numberOfTrailingZeros_0f7a4 (nx := 77) (v := 1) rfl (by decide) rfl ?_
                  refine ev_anyI f_J6_numberOfTrailingZeros_0f7a4 (nx := 78) rfl rfl rfl rfl (fun z170 => ?_)
                  refine ev_anyI f_J6_numberOfTrailingZeros_0f7a4 (nx := 79) rfl rfl rfl rfl (fun z171 => ?_)
                  refine ev_retK1 f_J6_numberOfTrailingZeros_0f7a4 rfl rfl rfl ?_
                  refine ev_retK1 f_J13_numberOfTrailingZeros_95d88 rfl rfl rfl ?_
                  refine ev_inV2 f_X11_silent (nx := 44) (lo2 := [(0, .ref 0), (1, .int z171)]) rfl rfl rfl rfl f_X11_answer (hI.wf.s rfl) rfl rfl rfl rfl rfl ?_
                  refine ev_loc f_X11_answer (nx := 1) rfl rfl rfl rfl ?_
                  refine ev_ic f_X11_answer (nx := 2) (v := 0) rfl (by decide) rfl ?_
                  refine ev_putIT f_X11_answer (nx := 5) rfl (hI.wf.s rfl) rfl rfl rfl (hI.put0 (hI.wf.s rfl) rfl rfl) (hX.upI rfl) (fun g172 e172 hI hX => ?_)
                  refine ev_loc f_X11_answer (nx := 6) rfl rfl rfl rfl ?_
                  refine ev_retK1 f_X11_answer rfl rfl rfl ?_
                  exact ev_ret f_X11_silent rfl rfl rfl ⟨_, _, _, rfl, hI, hX, ⟨_, rfl, (t_lo z171), (t_hi z171)⟩⟩
                · have l173 : 5 ≤ z167.toInt := t_ltl (t_nle h168) (by decide : (4:Int) ≤ (4:Int32).toInt) rfl
                  refine ev_incv f_J6_numberOfTrailingZeros_0f7a4 (nx := 70) (c := 2) (w := 7) (lo' := [(1, .int 7), (0, .int z167)]) rfl rfl (by decide) (by decide) rfl rfl rfl ?_
                  refine ev_loc f_J6_numberOfTrailingZeros_0f7a4 (nx := 71) rfl rfl rfl rfl ?_
                  refine ev_ic f_J6_numberOfTrailingZeros_0f7a4 (nx := 72) (v := 2) rfl (by decide) rfl ?_
                  refine ev_anyI f_J6_numberOfTrailingZeros_0f7a4 (nx := 73) rfl rfl rfl rfl (fun z174 => ?_)
                  refine ev_loc f_J6_numberOfTrailingZeros_0f7a4 (nx := 74) (lo' := [(0, .int z174), (1, .int 7)]) rfl rfl rfl rfl ?_
                  refine ev_loc f_J6_numberOfTrailingZeros_0f7a4 (nx := 75) rfl rfl rfl rfl ?_
                  refine ev_loc f_J6_numberOfTrailingZeros_0f7a4 (nx := 76) rfl rfl rfl rfl ?_
                  refine ev_ic f_J6_numberOfTrailingZeros_0f7a4 (nx := 77) (v := 1) rfl (by decide) rfl ?_
                  refine ev_anyI f_J6_numberOfTrailingZeros_0f7a4 (nx := 78) rfl rfl rfl rfl (fun z175 => ?_)
                  refine ev_anyI f_J6_numberOfTrailingZeros_0f7a4 (nx := 79) rfl rfl rfl rfl (fun z176 => ?_)
                  refine ev_retK1 f_J6_numberOfTrailingZeros_0f7a4 rfl rfl rfl ?_
                  refine ev_retK1 f_J13_numberOfTrailingZeros_95d88 rfl rfl rfl ?_
                  refine ev_inV2 f_X11_silent (nx := 44) (lo2 := [(0, .ref 0), (1, .int z176)]) rfl rfl rfl rfl f_X11_answer (hI.wf.s rfl) rfl rfl rfl rfl rfl ?_
                  refine ev_loc f_X11_answer (nx := 1) rfl rfl rfl rfl ?_
                  refine ev_ic f_X11_answer (nx := 2) (v := 0) rfl (by decide) rfl ?_
                  refine ev_putIT f_X11_answer (nx := 5) rfl (hI.wf.s rfl) rfl rfl rfl (hI.put0 (hI.wf.s rfl) rfl rfl) (hX.upI rfl) (fun g177 e177 hI hX => ?_)
                  refine ev_loc f_X11_answer (nx := 6) rfl rfl rfl rfl ?_
                  refine ev_retK1 f_X11_answer rfl rfl rfl ?_
                  exact ev_ret f_X11_silent rfl rfl rfl ⟨_, _, _, rfl, hI, hX, ⟨_, rfl, (t_lo z176), (t_hi z176)⟩⟩
            · have l178 : 257 ≤ z147.toInt := t_ltl (t_nle h152) (by decide : (256:Int) ≤ (256:Int32).toInt) rfl
              refine ev_incv f_J6_numberOfTrailingZeros_0f7a4 (nx := 44) (c := 8) (w := 9) (lo' := [(1, .int 9), (0, .int z147)]) rfl rfl (by decide) (by decide) rfl rfl rfl ?_
              refine ev_loc f_J6_numberOfTrailingZeros_0f7a4 (nx := 45) rfl rfl rfl rfl ?_
              refine ev_bp f_J6_numberOfTrailingZeros_0f7a4 (nx := 47) (v := 8) rfl (by decide) rfl ?_
              refine ev_anyI f_J6_numberOfTrailingZeros_0f7a4 (nx := 48) rfl rfl rfl rfl (fun z179 => ?_)
              refine ev_loc f_J6_numberOfTrailingZeros_0f7a4 (nx := 49) (lo' := [(0, .int z179), (1, .int 9)]) rfl rfl rfl rfl ?_
              refine ev_loc f_J6_numberOfTrailingZeros_0f7a4 (nx := 50) rfl rfl rfl rfl ?_
              refine ev_bp f_J6_numberOfTrailingZeros_0f7a4 (nx := 52) (v := 16) rfl (by decide) rfl ?_
              refine ev_if f_J6_numberOfTrailingZeros_0f7a4 (t1 := 62) (t2 := 55) rfl rfl rfl (fun h180 => ?_) (fun h180 => ?_)
              · have u181 : z179.toInt ≤ 16 := t_leu h180 (by decide : (16:Int32).toInt ≤ (16:Int))
                refine ev_loc f_J6_numberOfTrailingZeros_0f7a4 (nx := 63) rfl rfl rfl rfl ?_
                refine ev_ic f_J6_numberOfTrailingZeros_0f7a4 (nx := 64) (v := 4) rfl (by decide) rfl ?_
                refine ev_if f_J6_numberOfTrailingZeros_0f7a4 (t1 := 74) (t2 := 67) rfl rfl rfl (fun h182 => ?_) (fun h182 => ?_)
                · have u183 : z179.toInt ≤ 4 := t_leu h182 (by decide : (4:Int32).toInt ≤ (4:Int))
                  refine ev_loc f_J6_numberOfTrailingZeros_0f7a4 (nx := 75) rfl rfl rfl rfl ?_
                  refine ev_loc f_J6_numberOfTrailingZeros_0f7a4 (nx := 76) rfl rfl rfl rfl ?_
                  refine ev_ic f_J6_numberOfTrailingZeros_0f7a4 (nx := 77) (v := 1) rfl (by decide) rfl ?_
                  refine ev_anyI f_J6_numberOfTrailingZeros_0f7a4 (nx := 78) rfl rfl rfl rfl (fun z184 => ?_)
                  refine ev_anyI f_J6_numberOfTrailingZeros_0f7a4 (nx := 79) rfl rfl rfl rfl (fun z185 => ?_)
                  refine ev_retK1 f_J6_numberOfTrailingZeros_0f7a4 rfl rfl rfl ?_
                  refine ev_retK1 f_J13_numberOfTrailingZeros_95d88 rfl rfl rfl ?_
                  refine ev_inV2 f_X11_silent (nx := 44) (lo2 := [(0, .ref 0), (1, .int z185)]) rfl rfl rfl rfl f_X11_answer (hI.wf.s rfl) rfl rfl rfl rfl rfl ?_
                  refine ev_loc f_X11_answer (nx := 1) rfl rfl rfl rfl ?_
                  refine ev_ic f_X11_answer (nx := 2) (v := 0) rfl (by decide) rfl ?_
                  refine ev_putIT f_X11_answer (nx := 5) rfl (hI.wf.s rfl) rfl rfl rfl (hI.put0 (hI.wf.s rfl) rfl rfl) (hX.upI rfl) (fun g186 e186 hI hX => ?_)
                  refine ev_loc f_X11_answer (nx := 6) rfl rfl rfl rfl ?_
                  refine ev_retK1 f_X11_answer rfl rfl rfl ?_
                  exact ev_ret f_X11_silent rfl rfl rfl ⟨_, _, _, rfl, hI, hX, ⟨_, rfl, (t_lo z185), (t_hi z185)⟩⟩
                · have l187 : 5 ≤ z179.toInt := t_ltl (t_nle h182) (by decide : (4:Int) ≤ (4:Int32).toInt) rfl
                  refine ev_incv f_J6_numberOfTrailingZeros_0f7a4 (nx := 70) (c := 2) (w := 11) (lo' := [(1, .int 11), (0, .int z179)]) rfl rfl (by decide) (by decide) rfl rfl rfl ?_
                  refine ev_loc f_J6_numberOfTrailingZeros_0f7a4 (nx := 71) rfl rfl rfl rfl ?_
                  refine ev_ic f_J6_numberOfTrailingZeros_0f7a4 (nx := 72) (v := 2) rfl (by decide) rfl ?_
                  refine ev_anyI f_J6_numberOfTrailingZeros_0f7a4 (nx := 73) rfl rfl rfl rfl (fun z188 => ?_)
                  refine ev_loc f_J6_numberOfTrailingZeros_0f7a4 (nx := 74) (lo' := [(0, .int z188), (1, .int 11)]) rfl rfl rfl rfl ?_
                  refine ev_loc f_J6_numberOfTrailingZeros_0f7a4 (nx := 75) rfl rfl rfl rfl ?_
                  refine ev_loc f_J6_numberOfTrailingZeros_0f7a4 (nx := 76) rfl rfl rfl rfl ?_
                  refine ev_ic f_J6_numberOfTrailingZeros_0f7a4 (nx := 77) (v := 1) rfl (by decide) rfl ?_
                  refine ev_anyI f_J6_numberOfTrailingZeros_0f7a4 (nx := 78) rfl rfl rfl rfl (fun z189 => ?_)
                  refine ev_anyI f_J6_numberOfTrailingZeros_0f7a4 (nx := 79) rfl rfl rfl rfl (fun z190 => ?_)
                  refine ev_retK1 f_J6_numberOfTrailingZeros_0f7a4 rfl rfl rfl ?_
                  refine ev_retK1 f_J13_numberOfTrailingZeros_95d88 rfl rfl rfl ?_
                  refine ev_inV2 f_X11_silent (nx := 44) (lo2 := [(0, .ref 0), (1, .int z190)]) rfl rfl rfl rfl f_X11_answer (hI.wf.s rfl) rfl rfl rfl rfl rfl ?_
                  refine ev_loc f_X11_answer (nx := 1) rfl rfl rfl rfl ?_
                  refine ev_ic f_X11_answer (nx := 2) (v := 0) rfl (by decide) rfl ?_
                  refine ev_putIT f_X11_answer (nx := 5) rfl (hI.wf.s rfl) rfl rfl rfl (hI.put0 (hI.wf.s rfl) rfl rfl) (hX.upI rfl) (fun g191 e191 hI hX => ?_)
                  refine ev_loc f_X11_answer (nx := 6) rfl rfl rfl rfl ?_
                  refine ev_retK1 f_X11_answer rfl rfl rfl ?_
                  exact ev_ret f_X11_silent rfl rfl rfl ⟨_, _, _, rfl, hI, hX, ⟨_, rfl, (t_lo z190), (t_hi z190)⟩⟩
              · have l192 : 17 ≤ z179.toInt := t_ltl (t_nle h180) (by decide : (16:Int) ≤ (16:Int32).toInt) rfl
                refine ev_incv f_J6_numberOfTrailingZeros_0f7a4 (nx := 58) (c := 4) (w := 13) (lo' := [(1, .int 13), (0, .int z179)]) rfl rfl (by decide) (by decide) rfl rfl rfl ?_
                refine ev_loc f_J6_numberOfTrailingZeros_0f7a4 (nx := 59) rfl rfl rfl rfl ?_
                refine ev_ic f_J6_numberOfTrailingZeros_0f7a4 (nx := 60) (v := 4) rfl (by decide) rfl ?_
                refine ev_anyI f_J6_numberOfTrailingZeros_0f7a4 (nx := 61) rfl rfl rfl rfl (fun z193 => ?_)
                refine ev_loc f_J6_numberOfTrailingZeros_0f7a4 (nx := 62) (lo' := [(0, .int z193), (1, .int 13)]) rfl rfl rfl rfl ?_
                refine ev_loc f_J6_numberOfTrailingZeros_0f7a4 (nx := 63) rfl rfl rfl rfl ?_
                refine ev_ic f_J6_numberOfTrailingZeros_0f7a4 (nx := 64) (v := 4) rfl (by decide) rfl ?_
                refine ev_if f_J6_numberOfTrailingZeros_0f7a4 (t1 := 74) (t2 := 67) rfl rfl rfl (fun h194 => ?_) (fun h194 => ?_)
                · have u195 : z193.toInt ≤ 4 := t_leu h194 (by decide : (4:Int32).toInt ≤ (4:Int))
                  refine ev_loc f_J6_numberOfTrailingZeros_0f7a4 (nx := 75) rfl rfl rfl rfl ?_
                  refine ev_loc f_J6_numberOfTrailingZeros_0f7a4 (nx := 76) rfl rfl rfl rfl ?_
                  refine ev_ic f_J6_numberOfTrailingZeros_0f7a4 (nx := 77) (v := 1) rfl (by decide) rfl ?_
                  refine ev_anyI f_J6_numberOfTrailingZeros_0f7a4 (nx := 78) rfl rfl rfl rfl (fun z196 => ?_)
                  refine ev_anyI f_J6_numberOfTrailingZeros_0f7a4 (nx := 79) rfl rfl rfl rfl (fun z197 => ?_)
                  refine ev_retK1 f_J6_numberOfTrailingZeros_0f7a4 rfl rfl rfl ?_
                  refine ev_retK1 f_J13_numberOfTrailingZeros_95d88 rfl rfl rfl ?_
                  refine ev_inV2 f_X11_silent (nx := 44) (lo2 := [(0, .ref 0), (1, .int z197)]) rfl rfl rfl rfl f_X11_answer (hI.wf.s rfl) rfl rfl rfl rfl rfl ?_
                  refine ev_loc f_X11_answer (nx := 1) rfl rfl rfl rfl ?_
                  refine ev_ic f_X11_answer (nx := 2) (v := 0) rfl (by decide) rfl ?_
                  refine ev_putIT f_X11_answer (nx := 5) rfl (hI.wf.s rfl) rfl rfl rfl (hI.put0 (hI.wf.s rfl) rfl rfl) (hX.upI rfl) (fun g198 e198 hI hX => ?_)
                  refine ev_loc f_X11_answer (nx := 6) rfl rfl rfl rfl ?_
                  refine ev_retK1 f_X11_answer rfl rfl rfl ?_
                  exact ev_ret f_X11_silent rfl rfl rfl ⟨_, _, _, rfl, hI, hX, ⟨_, rfl, (t_lo z197), (t_hi z197)⟩⟩
                · have l199 : 5 ≤ z193.toInt := t_ltl (t_nle h194) (by decide : (4:Int) ≤ (4:Int32).toInt) rfl
                  refine ev_incv f_J6_numberOfTrailingZeros_0f7a4 (nx := 70) (c := 2) (w := 15) (lo' := [(1, .int 15), (0, .int z193)]) rfl rfl (by decide) (by decide) rfl rfl rfl ?_
                  refine ev_loc f_J6_numberOfTrailingZeros_0f7a4 (nx := 71) rfl rfl rfl rfl ?_
                  refine ev_ic f_J6_numberOfTrailingZeros_0f7a4 (nx := 72) (v := 2) rfl (by decide) rfl ?_
                  refine ev_anyI f_J6_numberOfTrailingZeros_0f7a4 (nx := 73) rfl rfl rfl rfl (fun z200 => ?_)
                  refine ev_loc f_J6_numberOfTrailingZeros_0f7a4 (nx := 74) (lo' := [(0, .int z200), (1, .int 15)]) rfl rfl rfl rfl ?_
                  refine ev_loc f_J6_numberOfTrailingZeros_0f7a4 (nx := 75) rfl rfl rfl rfl ?_
                  refine ev_loc f_J6_numberOfTrailingZeros_0f7a4 (nx := 76) rfl rfl rfl rfl ?_
                  refine ev_ic f_J6_numberOfTrailingZeros_0f7a4 (nx := 77) (v := 1) rfl (by decide) rfl ?_
                  refine ev_anyI f_J6_numberOfTrailingZeros_0f7a4 (nx := 78) rfl rfl rfl rfl (fun z201 => ?_)
                  refine ev_anyI f_J6_numberOfTrailingZeros_0f7a4 (nx := 79) rfl rfl rfl rfl (fun z202 => ?_)
                  refine ev_retK1 f_J6_numberOfTrailingZeros_0f7a4 rfl rfl rfl ?_
                  refine ev_retK1 f_J13_numberOfTrailingZeros_95d88 rfl rfl rfl ?_
                  refine ev_inV2 f_X11_silent (nx := 44) (lo2 := [(0, .ref 0), (1, .int z202)]) rfl rfl rfl rfl f_X11_answer (hI.wf.s rfl) rfl rfl rfl rfl rfl ?_
                  refine ev_loc f_X11_answer (nx := 1) rfl rfl rfl rfl ?_
                  refine ev_ic f_X11_answer (nx := 2) (v := 0) rfl (by decide) rfl ?_
                  refine ev_putIT f_X11_answer (nx := 5) rfl (hI.wf.s rfl) rfl rfl rfl (hI.put0 (hI.wf.s rfl) rfl rfl) (hX.upI rfl) (fun g203 e203 hI hX => ?_)
                  refine ev_loc f_X11_answer (nx := 6) rfl rfl rfl rfl ?_
                  refine ev_retK1 f_X11_answer rfl rfl rfl ?_
                  exact ev_ret f_X11_silent rfl rfl rfl ⟨_, _, _, rfl, hI, hX, ⟨_, rfl, (t_lo z202), (t_hi z202)⟩⟩
          · have l204 : 65537 ≤ z147.toInt := t_ltl (t_nle h150) (by decide : (65536:Int) ≤ (65536:Int32).toInt) rfl
            refine ev_incv f_J6_numberOfTrailingZeros_0f7a4 (nx := 29) (c := 16) (w := 17) (lo' := [(1, .int 17), (0, .int z147)]) rfl rfl (by decide) (by decide) rfl rfl rfl ?_
            refine ev_loc f_J6_numberOfTrailingZeros_0f7a4 (nx := 30) rfl rfl rfl rfl ?_
            refine ev_bp f_J6_numberOfTrailingZeros_0f7a4 (nx := 32) (v := 16) rfl (by decide) rfl ?_
            refine ev_anyI f_J6_numberOfTrailingZeros_0f7a4 (nx := 33) rfl rfl rfl rfl (fun z205 => ?_)
            refine ev_loc f_J6_numberOfTrailingZeros_0f7a4 (nx := 34) (lo' := [(0, .int z205), (1, .int 17)]) rfl rfl rfl rfl ?_
            refine ev_loc f_J6_numberOfTrailingZeros_0f7a4 (nx := 35) rfl rfl rfl rfl ?_
            refine ev_sp f_J6_numberOfTrailingZeros_0f7a4 (nx := 38) (v := 256) rfl (by decide) rfl ?_
            refine ev_if f_J6_numberOfTrailingZeros_0f7a4 (t1 := 49) (t2 := 41) rfl rfl rfl (fun h206 => ?_) (fun h206 => ?_)
            · have u207 : z205.toInt ≤ 256 := t_leu h206 (by decide : (256:Int32).toInt ≤ (256:Int))
              refine ev_loc f_J6_numberOfTrailingZeros_0f7a4 (nx := 50) rfl rfl rfl rfl ?_
              refine ev_bp f_J6_numberOfTrailingZeros_0f7a4 (nx := 52) (v := 16) rfl (by decide) rfl ?_
              refine ev_if f_J6_numberOfTrailingZeros_0f7a4 (t1 := 62) (t2 := 55) rfl rfl rfl (fun h208 => ?_) (fun h208 => ?_)
              · have u209 : z205.toInt ≤ 16 := t_leu h208 (by decide : (16:Int32).toInt ≤ (16:Int))
                refine ev_loc f_J6_numberOfTrailingZeros_0f7a4 (nx := 63) rfl rfl rfl rfl ?_
                refine ev_ic f_J6_numberOfTrailingZeros_0f7a4 (nx := 64) (v := 4) rfl (by decide) rfl ?_
                refine ev_if f_J6_numberOfTrailingZeros_0f7a4 (t1 := 74) (t2 := 67) rfl rfl rfl (fun h210 => ?_) (fun h210 => ?_)
                · have u211 : z205.toInt ≤ 4 := t_leu h210 (by decide : (4:Int32).toInt ≤ (4:Int))
                  refine ev_loc f_J6_numberOfTrailingZeros_0f7a4 (nx := 75) rfl rfl rfl rfl ?_
                  refine ev_loc f_J6_numberOfTrailingZeros_0f7a4 (nx := 76) rfl rfl rfl rfl ?_
                  refine ev_ic f_J6_numberOfTrailingZeros_0f7a4 (nx := 77) (v := 1) rfl (by decide) rfl ?_
                  refine ev_anyI f_J6_numberOfTrailingZeros_0f7a4 (nx := 78) rfl rfl rfl rfl (fun z212 => ?_)
                  refine ev_anyI f_J6_numberOfTrailingZeros_0f7a4 (nx := 79) rfl rfl rfl rfl (fun z213 => ?_)
                  refine ev_retK1 f_J6_numberOfTrailingZeros_0f7a4 rfl rfl rfl ?_
                  refine ev_retK1 f_J13_numberOfTrailingZeros_95d88 rfl rfl rfl ?_
                  refine ev_inV2 f_X11_silent (nx := 44) (lo2 := [(0, .ref 0), (1, .int z213)]) rfl rfl rfl rfl f_X11_answer (hI.wf.s rfl) rfl rfl rfl rfl rfl ?_
                  refine ev_loc f_X11_answer (nx := 1) rfl rfl rfl rfl ?_
                  refine ev_ic f_X11_answer (nx := 2) (v := 0) rfl (by decide) rfl ?_
                  refine ev_putIT f_X11_answer (nx := 5) rfl (hI.wf.s rfl) rfl rfl rfl (hI.put0 (hI.wf.s rfl) rfl rfl) (hX.upI rfl) (fun g214 e214 hI hX => ?_)
                  refine ev_loc f_X11_answer (nx := 6) rfl rfl rfl rfl ?_
                  refine ev_retK1 f_X11_answer rfl rfl rfl ?_
                  exact ev_ret f_X11_silent rfl rfl rfl ⟨_, _, _, rfl, hI, hX, ⟨_, rfl, (t_lo z213), (t_hi z213)⟩⟩
                · have l215 : 5 ≤ z205.toInt := t_ltl (t_nle h210) (by decide : (4:Int) ≤ (4:Int32).toInt) rfl
                  refine ev_incv f_J6_numberOfTrailingZeros_0f7a4 (nx := 70) (c := 2) (w := 19) (lo' := [(1, .int 19), (0, .int z205)]) rfl rfl (by decide) (by decide) rfl rfl rfl ?_
                  refine ev_loc f_J6_numberOfTrailingZeros_0f7a4 (nx := 71) rfl rfl rfl rfl ?_
                  refine ev_ic f_J6_numberOfTrailingZeros_0f7a4 (nx := 72) (v := 2) rfl (by decide) rfl ?_
                  refine ev_anyI f_J6_numberOfTrailingZeros_0f7a4 (nx := 73) rfl rfl rfl rfl (fun z216 => ?_)
                  refine ev_loc f_J6_numberOfTrailingZeros_0f7a4 (nx := 74) (lo' := [(0, .int z216), (1, .int 19)]) rfl rfl rfl rfl ?_
                  refine ev_loc f_J6_numberOfTrailingZeros_0f7a4 (nx := 75) rfl rfl rfl rfl ?_
                  refine ev_loc f_J6_numberOfTrailingZeros_0f7a4 (nx := 76) rfl rfl rfl rfl ?_
                  refine ev_ic f_J6_numberOfTrailingZeros_0f7a4 (nx := 77) (v := 1) rfl (by decide) rfl ?_
                  refine ev_anyI f_J6_numberOfTrailingZeros_0f7a4 (nx := 78) rfl rfl rfl rfl (fun z217 => ?_)
                  refine ev_anyI f_J6_numberOfTrailingZeros_0f7a4 (nx := 79) rfl rfl rfl rfl (fun z218 => ?_)
                  refine ev_retK1 f_J6_numberOfTrailingZeros_0f7a4 rfl rfl rfl ?_
                  refine ev_retK1 f_J13_numberOfTrailingZeros_95d88 rfl rfl rfl ?_
                  refine ev_inV2 f_X11_silent (nx := 44) (lo2 := [(0, .ref 0), (1, .int z218)]) rfl rfl rfl rfl f_X11_answer (hI.wf.s rfl) rfl rfl rfl rfl rfl ?_
                  refine ev_loc f_X11_answer (nx := 1) rfl rfl rfl rfl ?_
                  refine ev_ic f_X11_answer (nx := 2) (v := 0) rfl (by decide) rfl ?_
                  refine ev_putIT f_X11_answer (nx := 5) rfl (hI.wf.s rfl) rfl rfl rfl (hI.put0 (hI.wf.s rfl) rfl rfl) (hX.upI rfl) (fun g219 e219 hI hX => ?_)
                  refine ev_loc f_X11_answer (nx := 6) rfl rfl rfl rfl ?_
                  refine ev_retK1 f_X11_answer rfl rfl rfl ?_
                  exact ev_ret f_X11_silent rfl rfl rfl ⟨_, _, _, rfl, hI, hX, ⟨_, rfl, (t_lo z218), (t_hi z218)⟩⟩
              · have l220 : 17 ≤ z205.toInt := t_ltl (t_nle h208) (by decide : (16:Int) ≤ (16:Int32).toInt) rfl
                refine ev_incv f_J6_numberOfTrailingZeros_0f7a4 (nx := 58) (c := 4) (w := 21) (lo' := [(1, .int 21), (0, .int z205)]) rfl rfl (by decide) (by decide) rfl rfl rfl ?_
                refine ev_loc f_J6_numberOfTrailingZeros_0f7a4 (nx := 59) rfl rfl rfl rfl ?_
                refine ev_ic f_J6_numberOfTrailingZeros_0f7a4 (nx := 60) (v := 4) rfl (by decide) rfl ?_
                refine ev_anyI f_J6_numberOfTrailingZeros_0f7a4 (nx := 61) rfl rfl rfl rfl (fun z221 => ?_)
                refine ev_loc f_J6_numberOfTrailingZeros_0f7a4 (nx := 62) (lo' := [(0, .int z221), (1, .int 21)]) rfl rfl rfl rfl ?_
                refine ev_loc f_J6_numberOfTrailingZeros_0f7a4 (nx := 63) rfl rfl rfl rfl ?_
                refine ev_ic f_J6_numberOfTrailingZeros_0f7a4 (nx := 64) (v := 4) rfl (by decide) rfl ?_
                refine ev_if f_J6_numberOfTrailingZeros_0f7a4 (t1 := 74) (t2 := 67) rfl rfl rfl (fun h222 => ?_) (fun h222 => ?_)
                · have u223 : z221.toInt ≤ 4 := t_leu h222 (by decide : (4:Int32).toInt ≤ (4:Int))
                  refine ev_loc f_J6_numberOfTrailingZeros_0f7a4 (nx := 75) rfl rfl rfl rfl ?_
                  refine ev_loc f_J6_numberOfTrailingZeros_0f7a4 (nx := 76) rfl rfl rfl rfl ?_
                  refine ev_ic f_J6_numberOfTrailingZeros_0f7a4 (nx := 77) (v := 1) rfl (by decide) rfl ?_
                  refine ev_anyI f_J6_numberOfTrailingZeros_0f7a4 (nx := 78) rfl rfl rfl rfl (fun z224 => ?_)
                  refine ev_anyI f_J6_numberOfTrailingZeros_0f7a4 (nx := 79) rfl rfl rfl rfl (fun z225 => ?_)
                  refine ev_retK1 f_J6_numberOfTrailingZeros_0f7a4 rfl rfl rfl ?_
                  refine ev_retK1 f_J13_numberOfTrailingZeros_95d88 rfl rfl rfl ?_
                  refine ev_inV2 f_X11_silent (nx := 44) (lo2 := [(0, .ref 0), (1, .int z225)]) rfl rfl rfl rfl f_X11_answer (hI.wf.s rfl) rfl rfl rfl rfl rfl ?_
                  refine ev_loc f_X11_answer (nx := 1) rfl rfl rfl rfl ?_
                  refine ev_ic f_X11_answer (nx := 2) (v := 0) rfl (by decide) rfl ?_
                  refine ev_putIT f_X11_answer (nx := 5) rfl (hI.wf.s rfl) rfl rfl rfl (hI.put0 (hI.wf.s rfl) rfl rfl) (hX.upI rfl) (fun g226 e226 hI hX => ?_)
                  refine ev_loc f_X11_answer (nx := 6) rfl rfl rfl rfl ?_
                  refine ev_retK1 f_X11_answer rfl rfl rfl ?_
                  exact ev_ret f_X11_silent rfl rfl rfl ⟨_, _, _, rfl, hI, hX, ⟨_, rfl, (t_lo z225), (t_hi z225)⟩⟩
                · have l227 : 5 ≤ z221.toInt := t_ltl (t_nle h222) (by decide : (4:Int) ≤ (4:Int32).toInt) rfl
                  refine ev_incv f_J6_numberOfTrailingZeros_0f7a4 (nx := 70) (c := 2) (w := 23) (lo' := [(1, .int 23), (0, .int z221)]) rfl rfl (by decide) (by decide) rfl rfl rfl ?_
                  refine ev_loc f_J6_numberOfTrailingZeros_0f7a4 (nx := 71) rfl rfl rfl rfl ?_
                  refine ev_ic f_J6_numberOfTrailingZeros_0f7a4 (nx := 72) (v := 2) rfl (by decide) rfl ?_
                  refine ev_anyI f_J6_numberOfTrailingZeros_0f7a4 (nx := 73) rfl rfl rfl rfl (fun z228 => ?_)
                  refine ev_loc f_J6_numberOfTrailingZeros_0f7a4 (nx := 74) (lo' := [(0, .int z228), (1, .int 23)]) rfl rfl rfl rfl ?_
                  refine ev_loc f_J6_numberOfTrailingZeros_0f7a4 (nx := 75) rfl rfl rfl rfl ?_
                  refine ev_loc f_J6_numberOfTrailingZeros_0f7a4 (nx := 76) rfl rfl rfl rfl ?_
                  refine ev_ic f_J6_numberOfTrailingZeros_0f7a4 (nx := 77) (v := 1) rfl (by decide) rfl ?_
                  refine ev_anyI f_J6_numberOfTrailingZeros_0f7a4 (nx := 78) rfl rfl rfl rfl (fun z229 => ?_)
                  refine ev_anyI f_J6_numberOfTrailingZeros_0f7a4 (nx := 79) rfl rfl rfl rfl (fun z230 => ?_)
                  refine ev_retK1 f_J6_numberOfTrailingZeros_0f7a4 rfl rfl rfl ?_
                  refine ev_retK1 f_J13_numberOfTrailingZeros_95d88 rfl rfl rfl ?_
                  refine ev_inV2 f_X11_silent (nx := 44) (lo2 := [(0, .ref 0), (1, .int z230)]) rfl rfl rfl rfl f_X11_answer (hI.wf.s rfl) rfl rfl rfl rfl rfl ?_
                  refine ev_loc f_X11_answer (nx := 1) rfl rfl rfl rfl ?_
                  refine ev_ic f_X11_answer (nx := 2) (v := 0) rfl (by decide) rfl ?_
                  refine ev_putIT f_X11_answer (nx := 5) rfl (hI.wf.s rfl) rfl rfl rfl (hI.put0 (hI.wf.s rfl) rfl rfl) (hX.upI rfl) (fun g231 e231 hI hX => ?_)
                  refine ev_loc f_X11_answer (nx := 6) rfl rfl rfl rfl ?_
                  refine ev_retK1 f_X11_answer rfl rfl rfl ?_
                  exact ev_ret f_X11_silent rfl rfl rfl ⟨_, _, _, rfl, hI, hX, ⟨_, rfl, (t_lo z230), (t_hi z230)⟩⟩
            · have l232 : 257 ≤ z205.toInt := t_ltl (t_nle h206) (by decide : (256:Int) ≤ (256:Int32).toInt) rfl
              refine ev_incv f_J6_numberOfTrailingZeros_0f7a4 (nx := 44) (c := 8) (w := 25) (lo' := [(1, .int 25), (0, .int z205)]) rfl rfl (by decide) (by decide) rfl rfl rfl ?_
              refine ev_loc f_J6_numberOfTrailingZeros_0f7a4 (nx := 45) rfl rfl rfl rfl ?_
              refine ev_bp f_J6_numberOfTrailingZeros_0f7a4 (nx := 47) (v := 8) rfl (by decide) rfl ?_
              refine ev_anyI f_J6_numberOfTrailingZeros_0f7a4 (nx := 48) rfl rfl rfl rfl (fun z233 => ?_)
              refine ev_loc f_J6_numberOfTrailingZeros_0f7a4 (nx := 49) (lo' := [(0, .int z233), (1, .int 25)]) rfl rfl rfl rfl ?_
              refine ev_loc f_J6_numberOfTrailingZeros_0f7a4 (nx := 50) rfl rfl rfl rfl ?_
              refine ev_bp f_J6_numberOfTrailingZeros_0f7a4 (nx := 52) (v := 16) rfl (by decide) rfl ?_
              refine ev_if f_J6_numberOfTrailingZeros_0f7a4 (t1 := 62) (t2 := 55) rfl rfl rfl (fun h234 => ?_) (fun h234 => ?_)
              · have u235 : z233.toInt ≤ 16 := t_leu h234 (by decide : (16:Int32).toInt ≤ (16:Int))
                refine ev_loc f_J6_numberOfTrailingZeros_0f7a4 (nx := 63) rfl rfl rfl rfl ?_
                refine ev_ic f_J6_numberOfTrailingZeros_0f7a4 (nx := 64) (v := 4) rfl (by decide) rfl ?_
                refine ev_if f_J6_numberOfTrailingZeros_0f7a4 (t1 := 74) (t2 := 67) rfl rfl rfl (fun h236 => ?_) (fun h236 => ?_)
                · have u237 : z233.toInt ≤ 4 := t_leu h236 (by decide : (4:Int32).toInt ≤ (4:Int))
                  refine ev_loc f_J6_numberOfTrailingZeros_0f7a4 (nx := 75) rfl rfl rfl rfl ?_
                  refine ev_loc f_J6_numberOfTrailingZeros_0f7a4 (nx := 76) rfl rfl rfl rfl ?_
                  refine ev_ic f_J6_numberOfTrailingZeros_0f7a4 (nx := 77) (v := 1) rfl (by decide) rfl ?_
                  refine ev_anyI f_J6_numberOfTrailingZeros_0f7a4 (nx := 78) rfl rfl rfl rfl (fun z238 => ?_)
                  refine ev_anyI f_J6_numberOfTrailingZeros_0f7a4 (nx := 79) rfl rfl rfl rfl (fun z239 => ?_)
                  refine ev_retK1 f_J6_numberOfTrailingZeros_0f7a4 rfl rfl rfl ?_
                  refine ev_retK1 f_J13_numberOfTrailingZeros_95d88 rfl rfl rfl ?_
                  refine ev_inV2 f_X11_silent (nx := 44) (lo2 := [(0, .ref 0), (1, .int z239)]) rfl rfl rfl rfl f_X11_answer (hI.wf.s rfl) rfl rfl rfl rfl rfl ?_
                  refine ev_loc f_X11_answer (nx := 1) rfl rfl rfl rfl ?_
                  refine ev_ic f_X11_answer (nx := 2) (v := 0) rfl (by decide) rfl ?_
                  refine ev_putIT f_X11_answer (nx := 5) rfl (hI.wf.s rfl) rfl rfl rfl (hI.put0 (hI.wf.s rfl) rfl rfl) (hX.upI rfl) (fun g240 e240 hI hX => ?_)
                  refine ev_loc f_X11_answer (nx := 6) rfl rfl rfl rfl ?_
                  refine ev_retK1 f_X11_answer rfl rfl rfl ?_
                  exact ev_ret f_X11_silent rfl rfl rfl ⟨_, _, _, rfl, hI, hX, ⟨_, rfl, (t_lo z239), (t_hi z239)⟩⟩
                · have l241 : 5 ≤ z233.toInt := t_ltl (t_nle h236) (by decide : (4:Int) ≤ (4:Int32).toInt) rfl
                  refine ev_incv f_J6_numberOfTrailingZeros_0f7a4 (nx := 70) (c := 2) (w := 27) (lo' := [(1, .int 27), (0, .int z233)]) rfl rfl (by decide) (by decide) rfl rfl rfl ?_
                  refine ev_loc f_J6_numberOfTrailingZeros_0f7a4 (nx := 71) rfl rfl rfl rfl ?_
                  refine ev_ic f_J6_numberOfTrailingZeros_0f7a4 (nx := 72) (v := 2) rfl (by decide) rfl ?_
                  refine ev_anyI f_J6_numberOfTrailingZeros_0f7a4 (nx := 73) rfl rfl rfl rfl (fun z242 => ?_)
                  refine ev_loc f_J6_numberOfTrailingZeros_0f7a4 (nx := 74) (lo' := [(0, .int z242), (1, .int 27)]) rfl rfl rfl rfl ?_
                  refine ev_loc f_J6_numberOfTrailingZeros_0f7a4 (nx := 75) rfl rfl rfl rfl ?_
                  refine ev_loc f_J6_numberOfTrailingZeros_0f7a4 (nx := 76) rfl rfl rfl rfl ?_
                  refine ev_ic f_J6_numberOfTrailingZeros_0f7a4 (nx := 77) (v := 1) rfl (by decide) rfl ?_
                  refine ev_anyI f_J6_numberOfTrailingZeros_0f7a4 (nx := 78) rfl rfl rfl rfl (fun z243 => ?_)
                  refine ev_anyI f_J6_numberOfTrailingZeros_0f7a4 (nx := 79) rfl rfl rfl rfl (fun z244 => ?_)
                  refine ev_retK1 f_J6_numberOfTrailingZeros_0f7a4 rfl rfl rfl ?_
                  refine ev_retK1 f_J13_numberOfTrailingZeros_95d88 rfl rfl rfl ?_
                  refine ev_inV2 f_X11_silent (nx := 44) (lo2 := [(0, .ref 0), (1, .int z244)]) rfl rfl rfl rfl f_X11_answer (hI.wf.s rfl) rfl rfl rfl rfl rfl ?_
                  refine ev_loc f_X11_answer (nx := 1) rfl rfl rfl rfl ?_
                  refine ev_ic f_X11_answer (nx := 2) (v := 0) rfl (by decide) rfl ?_
                  refine ev_putIT f_X11_answer (nx := 5) rfl (hI.wf.s rfl) rfl rfl rfl (hI.put0 (hI.wf.s rfl) rfl rfl) (hX.upI rfl) (fun g245 e245 hI hX => ?_)
                  refine ev_loc f_X11_answer (nx := 6) rfl rfl rfl rfl ?_
                  refine ev_retK1 f_X11_answer rfl rfl rfl ?_
                  exact ev_ret f_X11_silent rfl rfl rfl ⟨_, _, _, rfl, hI, hX, ⟨_, rfl, (t_lo z244), (t_hi z244)⟩⟩
              · have l246 : 17 ≤ z233.toInt := t_ltl (t_nle h234) (by decide : (16:Int) ≤ (16:Int32).toInt) rfl
                refine ev_incv f_J6_numberOfTrailingZeros_0f7a4 (nx := 58) (c := 4) (w := 29) (lo' := [(1, .int 29), (0, .int z233)]) rfl rfl (by decide) (by decide) rfl rfl rfl ?_
                refine ev_loc f_J6_numberOfTrailingZeros_0f7a4 (nx := 59) rfl rfl rfl rfl ?_
                refine ev_ic f_J6_numberOfTrailingZeros_0f7a4 (nx := 60) (v := 4) rfl (by decide) rfl ?_
                refine ev_anyI f_J6_numberOfTrailingZeros_0f7a4 (nx := 61) rfl rfl rfl rfl (fun z247 => ?_)
                refine ev_loc f_J6_numberOfTrailingZeros_0f7a4 (nx := 62) (lo' := [(0, .int z247), (1, .int 29)]) rfl rfl rfl rfl ?_
                refine ev_loc f_J6_numberOfTrailingZeros_0f7a4 (nx := 63) rfl rfl rfl rfl ?_
                refine ev_ic f_J6_numberOfTrailingZeros_0f7a4 (nx := 64) (v := 4) rfl (by decide) rfl ?_
                refine ev_if f_J6_numberOfTrailingZeros_0f7a4 (t1 := 74) (t2 := 67) rfl rfl rfl (fun h248 => ?_) (fun h248 => ?_)
                · have u249 : z247.toInt ≤ 4 := t_leu h248 (by decide : (4:Int32).toInt ≤ (4:Int))
                  refine ev_loc f_J6_numberOfTrailingZeros_0f7a4 (nx := 75) rfl rfl rfl rfl ?_
                  refine ev_loc f_J6_numberOfTrailingZeros_0f7a4 (nx := 76) rfl rfl rfl rfl ?_
                  refine ev_ic f_J6_numberOfTrailingZeros_0f7a4 (nx := 77) (v := 1) rfl (by decide) rfl ?_
                  refine ev_anyI f_J6_numberOfTrailingZeros_0f7a4 (nx := 78) rfl rfl rfl rfl (fun z250 => ?_)
                  refine ev_anyI f_J6_numberOfTrailingZeros_0f7a4 (nx := 79) rfl rfl rfl rfl (fun z251 => ?_)
                  refine ev_retK1 f_J6_numberOfTrailingZeros_0f7a4 rfl rfl rfl ?_
                  refine ev_retK1 f_J13_numberOfTrailingZeros_95d88 rfl rfl rfl ?_
                  refine ev_inV2 f_X11_silent (nx := 44) (lo2 := [(0, .ref 0), (1, .int z251)]) rfl rfl rfl rfl f_X11_answer (hI.wf.s rfl) rfl rfl rfl rfl rfl ?_
                  refine ev_loc f_X11_answer (nx := 1) rfl rfl rfl rfl ?_
                  refine ev_ic f_X11_answer (nx := 2) (v := 0) rfl (by decide) rfl ?_
                  refine ev_putIT f_X11_answer (nx := 5) rfl (hI.wf.s rfl) rfl rfl rfl (hI.put0 (hI.wf.s rfl) rfl rfl) (hX.upI rfl) (fun g252 e252 hI hX => ?_)
                  refine ev_loc f_X11_answer (nx := 6) rfl rfl rfl rfl ?_
                  refine ev_retK1 f_X11_answer rfl rfl rfl ?_
                  exact ev_ret f_X11_silent rfl rfl rfl ⟨_, _, _, rfl, hI, hX, ⟨_, rfl, (t_lo z251), (t_hi z251)⟩⟩
                · have l253 : 5 ≤ z247.toInt := t_ltl (t_nle h248) (by decide : (4:Int) ≤ (4:Int32).toInt) rfl
                  refine ev_incv f_J6_numberOfTrailingZeros_0f7a4 (nx := 70) (c := 2) (w := 31) (lo' := [(1, .int 31), (0, .int z247)]) rfl rfl (by decide) (by decide) rfl rfl rfl ?_
                  refine ev_loc f_J6_numberOfTrailingZeros_0f7a4 (nx := 71) rfl rfl rfl rfl ?_
                  refine ev_ic f_J6_numberOfTrailingZeros_0f7a4 (nx := 72) (v := 2) rfl (by decide) rfl ?_
                  refine ev_anyI f_J6_numberOfTrailingZeros_0f7a4 (nx := 73) rfl rfl rfl rfl (fun z254 => ?_)
                  refine ev_loc f_J6_numberOfTrailingZeros_0f7a4 (nx := 74) (lo' := [(0, .int z254), (1, .int 31)]) rfl rfl rfl rfl ?_
                  refine ev_loc f_J6_numberOfTrailingZeros_0f7a4 (nx := 75) rfl rfl rfl rfl ?_
                  refine ev_loc f_J6_numberOfTrailingZeros_0f7a4 (nx := 76) rfl rfl rfl rfl ?_
                  refine ev_ic f_J6_numberOfTrailingZeros_0f7a4 (nx := 77) (v := 1) rfl (by decide) rfl ?_
                  refine ev_anyI f_J6_numberOfTrailingZeros_0f7a4 (nx := 78) rfl rfl rfl rfl (fun z255 => ?_)
                  refine ev_anyI f_J6_numberOfTrailingZeros_0f7a4 (nx := 79) rfl rfl rfl rfl (fun z256 => ?_)
                  refine ev_retK1 f_J6_numberOfTrailingZeros_0f7a4 rfl rfl rfl ?_
                  refine ev_retK1 f_J13_numberOfTrailingZeros_95d88 rfl rfl rfl ?_
                  refine ev_inV2 f_X11_silent (nx := 44) (lo2 := [(0, .ref 0), (1, .int z256)]) rfl rfl rfl rfl f_X11_answer (hI.wf.s rfl) rfl rfl rfl rfl rfl ?_
                  refine ev_loc f_X11_answer (nx := 1) rfl rfl rfl rfl ?_
                  refine ev_ic f_X11_answer (nx := 2) (v := 0) rfl (by decide) rfl ?_
                  refine ev_putIT f_X11_answer (nx := 5) rfl (hI.wf.s rfl) rfl rfl rfl (hI.put0 (hI.wf.s rfl) rfl rfl) (hX.upI rfl) (fun g257 e257 hI hX => ?_)
                  refine ev_loc f_X11_answer (nx := 6) rfl rfl rfl rfl ?_
                  refine ev_retK1 f_X11_answer rfl rfl rfl ?_
                  exact ev_ret f_X11_silent rfl rfl rfl ⟨_, _, _, rfl, hI, hX, ⟨_, rfl, (t_lo z256), (t_hi z256)⟩⟩
        · have u258 : z147.toInt ≤ 0 := t_leu (t_nlt h148) (by decide : (0:Int32).toInt ≤ (0:Int))
          refine ev_loc f_J6_numberOfTrailingZeros_0f7a4 (nx := 13) rfl rfl rfl rfl ?_
          refine ev_bp f_J6_numberOfTrailingZeros_0f7a4 (nx := 15) (v := 32) rfl (by decide) rfl ?_
          refine ev_andR f_J6_numberOfTrailingZeros_0f7a4 (nx := 16) (c := 32) rfl (by decide) (by decide) rfl (fun z259 l259 u259 => ?_)
          refine ev_retK1 f_J6_numberOfTrailingZeros_0f7a4 rfl rfl rfl ?_
          refine ev_retK1 f_J13_numberOfTrailingZeros_95d88 rfl rfl rfl ?_
          refine ev_inV2 f_X11_silent (nx := 44) (lo2 := [(0, .ref 0), (1, .int z259)]) rfl rfl rfl rfl f_X11_answer (hI.wf.s rfl) rfl rfl rfl rfl rfl ?_
          refine ev_loc f_X11_answer (nx := 1) rfl rfl rfl rfl ?_
          refine ev_ic f_X11_answer (nx := 2) (v := 0) rfl (by decide) rfl ?_
          refine ev_putIT f_X11_answer (nx := 5) rfl (hI.wf.s rfl) rfl rfl rfl (hI.put0 (hI.wf.s rfl) rfl rfl) (hX.upI rfl) (fun g260 e260 hI hX => ?_)
          refine ev_loc f_X11_answer (nx := 6) rfl rfl rfl rfl ?_
          refine ev_retK1 f_X11_answer rfl rfl rfl ?_
          exact ev_ret f_X11_silent rfl rfl rfl ⟨_, _, _, rfl, hI, hX, ⟨_, rfl, (Int.le_trans (by decide : ((-2147483648):Int) ≤ 0) l259), (Int.le_trans u259 (by decide : (32:Int) ≤ 2147483647))⟩⟩
    · have u261 : y1_3.toInt ≤ 5 := t_ltu (t_nle h4) u3 rfl
      have l262 : 1 ≤ (gi1 a2 0).toInt := t_ltl (t_nle h4) l1_3 rfl
      refine ev_loc f_X11_silent (nx := 16) rfl rfl rfl rfl ?_
      refine ev_loc f_X11_silent (nx := 17) rfl rfl rfl rfl ?_
      refine ev_getR f_X11_silent (nx := 20) (v := .ref a2) rfl (hI.wf.s rfl) rfl rfl e2 rfl rfl ?_
      refine ev_loc f_X11_silent (nx := 21) rfl rfl rfl rfl ?_
      refine ev_cL f_X11_silent (nx := 24) (r := [.long y1_1]) rfl rfl rfl rfl rfl rfl rfl (c_heardOf hI (a2) p2 (y1_3)) rfl hX rfl (fun w263 gi263 gl263 gr263 hI hX hC263 => ?_)
      replace p2 := p2.ext hC263.2
      refine ev_anyL f_X11_silent (nx := 25) rfl rfl rfl rfl (fun z264 => ?_)
      refine ev_loc f_X11_silent (nx := 26) (lo' := [(1, .long z264), (3, .int y1_3), (0, .ref 0)]) rfl rfl rfl rfl ?_
      refine ev_incR f_X11_silent (nx := 29) (c := 1) (l := 1) (u := 6) rfl rfl (by decide) (by decide) l1_3 u261 rfl rfl (by decide) (by decide) rfl (fun z265 e265 l265 u265 => ?_)
      refine ev_jmp f_X11_silent (nx := 4) rfl rfl rfl ?_
      refine ev_sub (lo := [(3, .int z265), (1, .long z264), (0, .ref 0)]) rfl (t_sc rfl (t_sc rfl (t_sc rfl t_sn))) ?_
      exact ih1 _ (by omega) gi263 gl263 gr263 (z265) (z264) hI hX  (Int.le_trans (by decide : (0:Int) ≤ 1) l265) u265 rfl
  refine ev_sub (lo := [(3, .int 0), (1, .long 0), (0, .ref 0)]) rfl (t_sc rfl (t_sc rfl (t_sc rfl t_sn))) ?_
  exact L1 _ gi gl gr (0) (0) hI hX  (by decide : (0:Int) ≤ (0:Int32).toInt) (Int.le_trans (by decide : (0:Int32).toInt ≤ (0:Int)) (by decide : (0:Int) ≤ 6)) rfl
noncomputable def wl_h_least : List (Nat × Nat) := [(0, 0), (28, 0), (28, 1), (28, 4), (28, 5), (29, 0), (30, 9999), (31, 9999), (32, 9999), (33, 9999), (34, 9999), (35, 0), (36, 9999), (37, 9999), (38, 9999), (39, 9999), (40, 9999)]
theorem c_h_least {X : x_Ext} {d : Nat} {sh : List (Nat ⊕ (Nat × Nat))} {gi : Nat → Nat → Int32} {gl : Nat → Nat → Int64} {gr : Nat → Nat → Value} (hI : t_I sh gi gr) : x_Me X (d + 19) n_X11_least [.ref 0] (sh, gi, gl, gr) (t_P wl_h_least sh gi gl gr (t_Ri (-2147483648) 999999999)) := by
  have hX : t_X wl_h_least sh gi gl gr gi gl gr := t_X.rf
  refine me_i f_X11_least (hI.wf.s rfl) rfl rfl rfl ?_
  refine ev_loc f_X11_least (nx := 1) rfl rfl rfl rfl ?_
  refine ev_loc f_X11_least (nx := 2) rfl rfl rfl rfl ?_
  refine ev_inV1 f_X11_least (nx := 5) (lo2 := [(0, .ref 0)]) rfl rfl rfl rfl f_X11_leastAsTold (hI.wf.s rfl) rfl rfl rfl rfl rfl ?_
  refine ev_loc f_X11_leastAsTold (nx := 1) rfl rfl rfl rfl ?_
  refine ev_getR f_X11_leastAsTold (nx := 4) rfl (hI.wf.s rfl) rfl rfl (hI.wf.r rfl) rfl rfl ?_
  refine ev_loc f_X11_leastAsTold (nx := 5) rfl rfl rfl rfl ?_
  obtain ⟨a1, e1, p1⟩ := hI.2.2.2.1.1
  refine ev_getR f_X11_leastAsTold (nx := 8) rfl (hI.wf.s rfl) rfl rfl e1 rfl rfl ?_
  refine ev_inV2 f_X11_leastAsTold (nx := 11) (lo2 := [(0, .ref 28), (1, .ref a1)]) rfl rfl rfl rfl f_X1_takeAll (hI.wf.s rfl) rfl rfl rfl rfl rfl ?_
  refine ev_loc f_X1_takeAll (nx := 1) rfl rfl rfl rfl ?_
  refine ev_loc f_X1_takeAll (nx := 2) rfl rfl rfl rfl ?_
  have hE2 := t_eqf_up (gr := gr) (j := 0) (v := .ref a1) (hI.wf.s (k := 28) rfl) rfl
  have hT2 := t_cross hI p1
  replace p1 := p1.ext hE2
  refine ev_putRT f_X1_takeAll (nx := 5) rfl (hI.wf.s rfl) rfl rfl rfl rfl hT2 (hX.upR rfl hE2) (fun g2 e2 hI hX => ?_)
  rw [← e2] at p1
  refine ev_loc f_X1_takeAll (nx := 6) rfl rfl rfl rfl ?_
  refine ev_loc f_X1_takeAll (nx := 7) rfl rfl rfl rfl ?_
  refine ev_getI f_X1_takeAll (nx := 10) rfl p1.1 rfl rfl rfl ?_
  refine ev_putIT f_X1_takeAll (nx := 13) rfl (hI.wf.s rfl) rfl rfl rfl (hI.put0 (hI.wf.s rfl) rfl rfl) (hX.upI rfl) (fun g3 e3 hI hX => ?_)
  refine ev_loc f_X1_takeAll (nx := 14) rfl rfl rfl rfl ?_
  refine ev_loc f_X1_takeAll (nx := 15) rfl rfl rfl rfl ?_
  refine ev_ic f_X1_takeAll (nx := 16) (v := 0) rfl (by decide) rfl ?_
  refine ev_ic f_X1_takeAll (nx := 17) (v := -1) rfl (by decide) rfl ?_
  refine ev_ic f_X1_takeAll (nx := 18) (v := 0) rfl (by decide) rfl ?_
  refine ev_c0 f_X1_takeAll (nx := 21) (r := []) rfl rfl rfl rfl rfl rfl rfl (c_takeShips hI (a1) p1 (0) ((-1)) (0)) rfl hX rfl (fun gi4 gl4 gr4 hI hX hC4 => ?_)
  replace p1 := p1.ext hC4.2
  refine ev_loc f_X1_takeAll (nx := 22) rfl rfl rfl rfl ?_
  refine ev_loc f_X1_takeAll (nx := 23) rfl rfl rfl rfl ?_
  refine ev_ic f_X1_takeAll (nx := 24) (v := -1) rfl (by decide) rfl ?_
  refine ev_c0 f_X1_takeAll (nx := 27) (r := []) rfl rfl rfl rfl rfl rfl rfl (c_takeCarts hI (a1) p1 ((-1))) rfl hX rfl (fun gi5 gl5 gr5 hI hX hC5 => ?_)
  replace p1 := p1.ext hC5.2
  refine ev_retK0 f_X1_takeAll rfl rfl rfl ?_
  refine ev_loc f_X11_leastAsTold (nx := 12) rfl rfl rfl rfl ?_
  refine ev_getR f_X11_leastAsTold (nx := 15) rfl (hI.wf.s rfl) rfl rfl (hI.wf.r rfl) rfl rfl ?_
  refine ev_cI f_X11_leastAsTold (nx := 18) (r := []) rfl rfl rfl rfl rfl rfl rfl (c_leastWaits hI ) rfl hX rfl (fun w6 gi6 gl6 gr6 l6 u6 hI hX hC6 => ?_)
  replace p1 := p1.ext hC6.2
  refine ev_retK1 f_X11_leastAsTold rfl rfl rfl ?_
  refine ev_inV2 f_X11_least (nx := 8) (lo2 := [(0, .ref 0), (1, .int w6)]) rfl rfl rfl rfl f_X11_answerWaits (hI.wf.s rfl) rfl rfl rfl rfl rfl ?_
  refine ev_loc f_X11_answerWaits (nx := 1) rfl rfl rfl rfl ?_
  refine ev_ldW f_X11_answerWaits (nx := 4) (v := 1000000000) rfl (by decide) rfl ?_
  refine ev_if f_X11_answerWaits (t1 := 16) (t2 := 7) rfl rfl rfl (fun h7 => ?_) (fun h7 => ?_)
  · have u8 : w6.toInt ≤ 999999999 := t_ltu h7 (by decide : (1000000000:Int32).toInt ≤ (1000000000:Int)) rfl
    refine ev_loc f_X11_answerWaits (nx := 17) rfl rfl rfl rfl ?_
    refine ev_loc f_X11_answerWaits (nx := 18) rfl rfl rfl rfl ?_
    refine ev_inV2 f_X11_answerWaits (nx := 21) (lo2 := [(0, .ref 0), (1, .int w6)]) rfl rfl rfl rfl f_X11_answer (hI.wf.s rfl) rfl rfl rfl rfl rfl ?_
    refine ev_loc f_X11_answer (nx := 1) rfl rfl rfl rfl ?_
    refine ev_ic f_X11_answer (nx := 2) (v := 0) rfl (by decide) rfl ?_
    refine ev_putIT f_X11_answer (nx := 5) rfl (hI.wf.s rfl) rfl rfl rfl (hI.put0 (hI.wf.s rfl) rfl rfl) (hX.upI rfl) (fun g9 e9 hI hX => ?_)
    refine ev_loc f_X11_answer (nx := 6) rfl rfl rfl rfl ?_
    refine ev_retK1 f_X11_answer rfl rfl rfl ?_
    refine ev_retK1 f_X11_answerWaits rfl rfl rfl ?_
    exact ev_ret f_X11_least rfl rfl rfl ⟨_, _, _, rfl, hI, hX, ⟨_, rfl, l6, u8⟩⟩
  · have l10 : 1000000000 ≤ w6.toInt := t_lel (t_nlt h7) (by decide : (1000000000:Int) ≤ (1000000000:Int32).toInt)
    refine ev_loc f_X11_answerWaits (nx := 8) rfl rfl rfl rfl ?_
    refine ev_bp f_X11_answerWaits (nx := 10) (v := 6) rfl (by decide) rfl ?_
    refine ev_inV2 f_X11_answerWaits (nx := 13) (lo2 := [(0, .ref 0), (1, .int 6)]) rfl rfl rfl rfl f_X11_refuse (hI.wf.s rfl) rfl rfl rfl rfl rfl ?_
    refine ev_loc f_X11_refuse (nx := 1) rfl rfl rfl rfl ?_
    refine ev_loc f_X11_refuse (nx := 2) rfl rfl rfl rfl ?_
    refine ev_putIT f_X11_refuse (nx := 5) rfl (hI.wf.s rfl) rfl rfl rfl (hI.put0 (hI.wf.s rfl) rfl rfl) (hX.upI rfl) (fun g11 e11 hI hX => ?_)
    refine ev_ic f_X11_refuse (nx := 6) (v := -1) rfl (by decide) rfl ?_
    refine ev_retK1 f_X11_refuse rfl rfl rfl ?_
    refine ev_jmp f_X11_answerWaits (nx := 21) rfl rfl rfl ?_
    refine ev_retK1 f_X11_answerWaits rfl rfl rfl ?_
    exact ev_ret f_X11_least rfl rfl rfl ⟨_, _, _, rfl, hI, hX, ⟨_, rfl, (Int.le_trans (by decide : ((-2147483648):Int) ≤ (-1)) (by decide : ((-1):Int) ≤ ((-1):Int32).toInt)), (Int.le_trans (by decide : ((-1):Int32).toInt ≤ ((-1):Int)) (by decide : ((-1):Int) ≤ 999999999))⟩⟩
noncomputable def wl_h_plan : List (Nat × Nat) := [(0, 0), (28, 0), (28, 1), (28, 4), (28, 5), (28, 6), (28, 8), (29, 0), (30, 9999), (31, 9999), (32, 9999), (33, 9999), (34, 9999), (35, 0), (36, 9999), (37, 9999), (38, 9999), (39, 9999), (40, 9999), (41, 9999), (42, 9999), (43, 9999), (44, 9999)]
theorem c_h_plan {X : x_Ext} {d : Nat} {sh : List (Nat ⊕ (Nat × Nat))} {gi : Nat → Nat → Int32} {gl : Nat → Nat → Int64} {gr : Nat → Nat → Value} (hI : t_I sh gi gr) : x_Me X (d + 20) n_X11_plan [.ref 0] (sh, gi, gl, gr) (t_P wl_h_plan sh gi gl gr (t_Ri (-1) 24)) := by
  have hX : t_X wl_h_plan sh gi gl gr gi gl gr := t_X.rf
  refine me_i f_X11_plan (hI.wf.s rfl) rfl rfl rfl ?_
  refine ev_loc f_X11_plan (nx := 1) rfl rfl rfl rfl ?_
  refine ev_getR f_X11_plan (nx := 4) rfl (hI.wf.s rfl) rfl rfl (hI.wf.r rfl) rfl rfl ?_
  refine ev_loc f_X11_plan (nx := 5) rfl rfl rfl rfl ?_
  obtain ⟨a1, e1, p1⟩ := hI.2.2.2.1.1
  refine ev_getR f_X11_plan (nx := 8) rfl (hI.wf.s rfl) rfl rfl e1 rfl rfl ?_
  refine ev_inV2 f_X11_plan (nx := 11) (lo2 := [(0, .ref 28), (1, .ref a1)]) rfl rfl rfl rfl f_X1_takeAll (hI.wf.s rfl) rfl rfl rfl rfl rfl ?_
  refine ev_loc f_X1_takeAll (nx := 1) rfl rfl rfl rfl ?_
  refine ev_loc f_X1_takeAll (nx := 2) rfl rfl rfl rfl ?_
  have hE2 := t_eqf_up (gr := gr) (j := 0) (v := .ref a1) (hI.wf.s (k := 28) rfl) rfl
  have hT2 := t_cross hI p1
  replace p1 := p1.ext hE2
  refine ev_putRT f_X1_takeAll (nx := 5) rfl (hI.wf.s rfl) rfl rfl rfl rfl hT2 (hX.upR rfl hE2) (fun g2 e2 hI hX => ?_)
  rw [← e2] at p1
  refine ev_loc f_X1_takeAll (nx := 6) rfl rfl rfl rfl ?_
  refine ev_loc f_X1_takeAll (nx := 7) rfl rfl rfl rfl ?_
  refine ev_getI f_X1_takeAll (nx := 10) rfl p1.1 rfl rfl rfl ?_
  refine ev_putIT f_X1_takeAll (nx := 13) rfl (hI.wf.s rfl) rfl rfl rfl (hI.put0 (hI.wf.s rfl) rfl rfl) (hX.upI rfl) (fun g3 e3 hI hX => ?_)
  refine ev_loc f_X1_takeAll (nx := 14) rfl rfl rfl rfl ?_
  refine ev_loc f_X1_takeAll (nx := 15) rfl rfl rfl rfl ?_
  refine ev_ic f_X1_takeAll (nx := 16) (v := 0) rfl (by decide) rfl ?_
  refine ev_ic f_X1_takeAll (nx := 17) (v := -1) rfl (by decide) rfl ?_
  refine ev_ic f_X1_takeAll (nx := 18) (v := 0) rfl (by decide) rfl ?_
  refine ev_c0 f_X1_takeAll (nx := 21) (r := []) rfl rfl rfl rfl rfl rfl rfl (c_takeShips hI (a1) p1 (0) ((-1)) (0)) rfl hX rfl (fun gi4 gl4 gr4 hI hX hC4 => ?_)
  replace p1 := p1.ext hC4.2
  refine ev_loc f_X1_takeAll (nx := 22) rfl rfl rfl rfl ?_
  refine ev_loc f_X1_takeAll (nx := 23) rfl rfl rfl rfl ?_
  refine ev_ic f_X1_takeAll (nx := 24) (v := -1) rfl (by decide) rfl ?_
  refine ev_c0 f_X1_takeAll (nx := 27) (r := []) rfl rfl rfl rfl rfl rfl rfl (c_takeCarts hI (a1) p1 ((-1))) rfl hX rfl (fun gi5 gl5 gr5 hI hX hC5 => ?_)
  replace p1 := p1.ext hC5.2
  refine ev_retK0 f_X1_takeAll rfl rfl rfl ?_
  refine ev_loc f_X11_plan (nx := 12) rfl rfl rfl rfl ?_
  refine ev_getR f_X11_plan (nx := 15) rfl (hI.wf.s rfl) rfl rfl (hI.wf.r rfl) rfl rfl ?_
  refine ev_cI f_X11_plan (nx := 18) (r := []) rfl rfl rfl rfl rfl rfl rfl (c_layPlan hI ) rfl hX rfl (fun w6 gi6 gl6 gr6 l6 u6 hI hX hC6 => ?_)
  replace p1 := p1.ext hC6.2
  refine ev_if f_X11_plan (t1 := 21) (t2 := 28) rfl rfl rfl (fun h7 => ?_) (fun h7 => ?_)
  · have u8 : w6.toInt ≤ 0 := t_equ h7 (by decide : (0:Int32).toInt ≤ (0:Int))
    refine ev_loc f_X11_plan (nx := 22) rfl rfl rfl rfl ?_
    refine ev_bp f_X11_plan (nx := 24) (v := 6) rfl (by decide) rfl ?_
    refine ev_inV2 f_X11_plan (nx := 27) (lo2 := [(0, .ref 0), (1, .int 6)]) rfl rfl rfl rfl f_X11_refuse (hI.wf.s rfl) rfl rfl rfl rfl rfl ?_
    refine ev_loc f_X11_refuse (nx := 1) rfl rfl rfl rfl ?_
    refine ev_loc f_X11_refuse (nx := 2) rfl rfl rfl rfl ?_
    refine ev_putIT f_X11_refuse (nx := 5) rfl (hI.wf.s rfl) rfl rfl rfl (hI.put0 (hI.wf.s rfl) rfl rfl) (hX.upI rfl) (fun g9 e9 hI hX => ?_)
    refine ev_ic f_X11_refuse (nx := 6) (v := -1) rfl (by decide) rfl ?_
    refine ev_retK1 f_X11_refuse rfl rfl rfl ?_
    exact ev_ret f_X11_plan rfl rfl rfl ⟨_, _, _, rfl, hI, hX, ⟨_, rfl, (by decide : ((-1):Int) ≤ ((-1):Int32).toInt), (Int.le_trans (by decide : ((-1):Int32).toInt ≤ ((-1):Int)) (by decide : ((-1):Int) ≤ 24))⟩⟩
  · have l10 : 1 ≤ w6.toInt := t_nel h7 l6 rfl rfl
    refine ev_loc f_X11_plan (nx := 29) rfl rfl rfl rfl ?_
    refine ev_getR f_X11_plan (nx := 32) rfl (hI.wf.s rfl) rfl rfl (hI.wf.r rfl) rfl rfl ?_
    refine ev_inV1 f_X11_plan (nx := 35) (lo2 := [(0, .ref 28)]) rfl rfl rfl rfl f_X1_tellPlan (hI.wf.s rfl) rfl rfl rfl rfl rfl ?_
    refine ev_loc f_X1_tellPlan (nx := 1) rfl rfl rfl rfl ?_
    refine ev_getR f_X1_tellPlan (nx := 4) rfl (hI.wf.s rfl) rfl rfl (hI.wf.r rfl) rfl rfl ?_
    refine ev_ic f_X1_tellPlan (nx := 5) (v := 0) rfl (by decide) rfl ?_
    refine ev_loc f_X1_tellPlan (nx := 6) rfl rfl rfl rfl ?_
    refine ev_getR f_X1_tellPlan (nx := 9) rfl (hI.wf.s rfl) rfl rfl (hI.wf.r rfl) rfl rfl ?_
    refine ev_ic f_X1_tellPlan (nx := 10) (v := 0) rfl (by decide) rfl ?_
    refine ev_loc f_X1_tellPlan (nx := 11) rfl rfl rfl rfl ?_
    refine ev_getR f_X1_tellPlan (nx := 14) rfl (hI.wf.s rfl) rfl rfl (hI.wf.r rfl) rfl rfl ?_
    refine ev_alenv f_X1_tellPlan (nx := 15) (w := 72) rfl (hI.wf.s rfl) rfl (by decide) rfl ?_
    refine ev_cpyTI f_X1_tellPlan (nx := 18) rfl rfl (hI.wf.s (k := 41) rfl) (hI.wf.s (k := 42) rfl) (by omega) (by decide : (0:Int) ≤ (0:Int32).toInt) (by decide : (0:Int32).toInt ≤ (0:Int)) (by decide : (0:Int) ≤ (0:Int32).toInt) (by decide : (0:Int32).toInt ≤ (0:Int)) (Int.le_trans (by decide : (0:Int) ≤ 72) (by decide : (72:Int) ≤ (72:Int32).toInt)) (by decide : (72:Int32).toInt ≤ (72:Int)) (by decide) (by decide) rfl (hI.arr (hI.wf.s (k := 42) rfl) (fun j lo hi e => absurd e (t_nob (by decide +kernel) _)) (by decide)) (hX.arrI (fun j => t_inA_ok rfl)) (fun g11 hI hX => ?_)
    refine ev_loc f_X1_tellPlan (nx := 19) rfl rfl rfl rfl ?_
    refine ev_loc f_X1_tellPlan (nx := 20) rfl rfl rfl rfl ?_
    refine ev_getI f_X1_tellPlan (nx := 23) rfl (hI.wf.s rfl) rfl rfl rfl ?_
    obtain ⟨l12, u12⟩ := hI.b (hI.wf.s (k := 28) rfl) (t_bdK rfl : t_bd 1 6 = some (0, 24))
    refine ev_putIT f_X1_tellPlan (nx := 26) rfl (hI.wf.s rfl) rfl rfl rfl (hI.putB (hI.wf.s rfl) rfl rfl l12 (by decide) u12 (by decide)) (hX.upI rfl) (fun g13 e13 hI hX => ?_)
    refine ev_retK0 f_X1_tellPlan rfl rfl rfl ?_
    refine ev_loc f_X11_plan (nx := 36) rfl rfl rfl rfl ?_
    refine ev_loc f_X11_plan (nx := 37) rfl rfl rfl rfl ?_
    refine ev_getR f_X11_plan (nx := 40) rfl (hI.wf.s rfl) rfl rfl (hI.wf.r rfl) rfl rfl ?_
    refine ev_gvI f_X11_plan (nx := 43) (w := (g11 28 6)) rfl (hI.wf.s rfl) rfl rfl (by rw [e13]; exact x_up2_at _ _ _ _ : g13 28 8 = (g11 28 6)) rfl ?_
    refine ev_inV2 f_X11_plan (nx := 46) (lo2 := [(0, .ref 0), (1, .int (g11 28 6))]) rfl rfl rfl rfl f_X11_answer (hI.wf.s rfl) rfl rfl rfl rfl rfl ?_
    refine ev_loc f_X11_answer (nx := 1) rfl rfl rfl rfl ?_
    refine ev_ic f_X11_answer (nx := 2) (v := 0) rfl (by decide) rfl ?_
    refine ev_putIT f_X11_answer (nx := 5) rfl (hI.wf.s rfl) rfl rfl rfl (hI.put0 (hI.wf.s rfl) rfl rfl) (hX.upI rfl) (fun g14 e14 hI hX => ?_)
    refine ev_loc f_X11_answer (nx := 6) rfl rfl rfl rfl ?_
    refine ev_retK1 f_X11_answer rfl rfl rfl ?_
    exact ev_ret f_X11_plan rfl rfl rfl ⟨_, _, _, rfl, hI, hX, ⟨_, rfl, (Int.le_trans (by decide : ((-1):Int) ≤ 0) l12), u12⟩⟩
noncomputable def wl_h_planAt : List (Nat × Nat) := [(0, 0)]
theorem c_h_planAt {X : x_Ext} {d : Nat} {sh : List (Nat ⊕ (Nat × Nat))} {gi : Nat → Nat → Int32} {gl : Nat → Nat → Int64} {gr : Nat → Nat → Value} (hI : t_I sh gi gr) (ar1 : Int32) (ar2 : Int32) : x_Me X (d + 2) n_X11_planAt [.ref 0, .int ar1, .int ar2] (sh, gi, gl, gr) (t_P wl_h_planAt sh gi gl gr (t_Ri (-2147483648) 2147483647)) := by
  have hX : t_X wl_h_planAt sh gi gl gr gi gl gr := t_X.rf
  refine me_i f_X11_planAt (hI.wf.s rfl) rfl rfl rfl ?_
  refine ev_loc f_X11_planAt (nx := 1) rfl rfl rfl rfl ?_
  refine ev_if f_X11_planAt (t1 := 9) (t2 := 4) rfl rfl rfl (fun h1 => ?_) (fun h1 => ?_)
  · have u2 : ar2.toInt ≤ (-1) := t_ltu h1 (by decide : (0:Int32).toInt ≤ (0:Int)) rfl
    refine ev_loc f_X11_planAt (nx := 10) rfl rfl rfl rfl ?_
    refine ev_ic f_X11_planAt (nx := 11) (v := 1) rfl (by decide) rfl ?_
    refine ev_inV2 f_X11_planAt (nx := 14) (lo2 := [(0, .ref 0), (1, .int 1)]) rfl rfl rfl rfl f_X11_refuse (hI.wf.s rfl) rfl rfl rfl rfl rfl ?_
    refine ev_loc f_X11_refuse (nx := 1) rfl rfl rfl rfl ?_
    refine ev_loc f_X11_refuse (nx := 2) rfl rfl rfl rfl ?_
    refine ev_putIT f_X11_refuse (nx := 5) rfl (hI.wf.s rfl) rfl rfl rfl (hI.put0 (hI.wf.s rfl) rfl rfl) (hX.upI rfl) (fun g3 e3 hI hX => ?_)
    refine ev_ic f_X11_refuse (nx := 6) (v := -1) rfl (by decide) rfl ?_
    refine ev_retK1 f_X11_refuse rfl rfl rfl ?_
    exact ev_ret f_X11_planAt rfl rfl rfl ⟨_, _, _, rfl, hI, hX, ⟨_, rfl, (Int.le_trans (by decide : ((-2147483648):Int) ≤ (-1)) (by decide : ((-1):Int) ≤ ((-1):Int32).toInt)), (Int.le_trans (by decide : ((-1):Int32).toInt ≤ ((-1):Int)) (by decide : ((-1):Int) ≤ 2147483647))⟩⟩
  · have l4 : 0 ≤ ar2.toInt := t_lel (t_nlt h1) (by decide : (0:Int) ≤ (0:Int32).toInt)
    refine ev_loc f_X11_planAt (nx := 5) rfl rfl rfl rfl ?_
    refine ev_ic f_X11_planAt (nx := 6) (v := 2) rfl (by decide) rfl ?_
    refine ev_if f_X11_planAt (t1 := 15) (t2 := 9) rfl rfl rfl (fun h5 => ?_) (fun h5 => ?_)
    · have u6 : ar2.toInt ≤ 2 := t_leu h5 (by decide : (2:Int32).toInt ≤ (2:Int))
      refine ev_loc f_X11_planAt (nx := 16) rfl rfl rfl rfl ?_
      refine ev_if f_X11_planAt (t1 := 30) (t2 := 19) rfl rfl rfl (fun h7 => ?_) (fun h7 => ?_)
      · have u8 : ar1.toInt ≤ (-1) := t_ltu h7 (by decide : (0:Int32).toInt ≤ (0:Int)) rfl
        refine ev_loc f_X11_planAt (nx := 31) rfl rfl rfl rfl ?_
        refine ev_bp f_X11_planAt (nx := 33) (v := 6) rfl (by decide) rfl ?_
        refine ev_inV2 f_X11_planAt (nx := 36) (lo2 := [(0, .ref 0), (1, .int 6)]) rfl rfl rfl rfl f_X11_refuse (hI.wf.s rfl) rfl rfl rfl rfl rfl ?_
        refine ev_loc f_X11_refuse (nx := 1) rfl rfl rfl rfl ?_
        refine ev_loc f_X11_refuse (nx := 2) rfl rfl rfl rfl ?_
        refine ev_putIT f_X11_refuse (nx := 5) rfl (hI.wf.s rfl) rfl rfl rfl (hI.put0 (hI.wf.s rfl) rfl rfl) (hX.upI rfl) (fun g9 e9 hI hX => ?_)
        refine ev_ic f_X11_refuse (nx := 6) (v := -1) rfl (by decide) rfl ?_
        refine ev_retK1 f_X11_refuse rfl rfl rfl ?_
        exact ev_ret f_X11_planAt rfl rfl rfl ⟨_, _, _, rfl, hI, hX, ⟨_, rfl, (Int.le_trans (by decide : ((-2147483648):Int) ≤ (-1)) (by decide : ((-1):Int) ≤ ((-1):Int32).toInt)), (Int.le_trans (by decide : ((-1):Int32).toInt ≤ ((-1):Int)) (by decide : ((-1):Int) ≤ 2147483647))⟩⟩
      · have l10 : 0 ≤ ar1.toInt := t_lel (t_nlt h7) (by decide : (0:Int) ≤ (0:Int32).toInt)
        refine ev_loc f_X11_planAt (nx := 20) rfl rfl rfl rfl ?_
        refine ev_loc f_X11_planAt (nx := 21) rfl rfl rfl rfl ?_
        refine ev_getR f_X11_planAt (nx := 24) rfl (hI.wf.s rfl) rfl rfl (hI.wf.r rfl) rfl rfl ?_
        refine ev_getI f_X11_planAt (nx := 27) rfl (hI.wf.s rfl) rfl rfl rfl ?_
        obtain ⟨l11, u11⟩ := hI.b (hI.wf.s (k := 28) rfl) (t_bdK rfl : t_bd 1 8 = some (0, 24))
        refine ev_if f_X11_planAt (t1 := 37) (t2 := 30) rfl rfl rfl (fun h12 => ?_) (fun h12 => ?_)
        · have u13 : ar1.toInt ≤ 23 := t_ltu h12 u11 rfl
          have l14 : 1 ≤ (gi 28 8).toInt := t_ltl h12 l10 rfl
          refine ev_loc f_X11_planAt (nx := 38) rfl rfl rfl rfl ?_
          refine ev_ic f_X11_planAt (nx := 39) (v := 2) rfl (by decide) rfl ?_
          refine ev_if f_X11_planAt (t1 := 42) (t2 := 64) rfl rfl rfl (fun h15 => ?_) (fun h15 => ?_)
          · have l16 : 2 ≤ ar2.toInt := t_eql h15 (by decide : (2:Int) ≤ (2:Int32).toInt)
            refine ev_loc f_X11_planAt (nx := 43) rfl rfl rfl rfl ?_
            refine ev_getR f_X11_planAt (nx := 46) rfl (hI.wf.s rfl) rfl rfl (hI.wf.r rfl) rfl rfl ?_
            refine ev_getR f_X11_planAt (nx := 49) rfl (hI.wf.s rfl) rfl rfl (hI.wf.r rfl) rfl rfl ?_
            refine ev_ic f_X11_planAt (nx := 50) (v := 3) rfl (by decide) rfl ?_
            refine ev_loc f_X11_planAt (nx := 51) rfl rfl rfl rfl ?_
            refine ev_mulL f_X11_planAt (nx := 52) (c := 3) (l := 0) (u := 69) rfl (by decide) (by decide) l10 u13 rfl rfl (by decide) (by decide) rfl (fun z17 e17 l17 u17 => ?_)
            refine ev_ialdT f_X11_planAt (nx := 53) rfl (hI.wf.s rfl) l17 (by decide) u17 (by decide) rfl (fun w18 e18 => ?_)
            refine ev_ic f_X11_planAt (nx := 54) (v := 2) rfl (by decide) rfl ?_
            refine ev_if f_X11_planAt (t1 := 57) (t2 := 64) rfl rfl rfl (fun h19 => ?_) (fun h19 => ?_)
            · have u20 : w18.toInt ≤ 2 := t_equ h19 (by decide : (2:Int32).toInt ≤ (2:Int))
              have l21 : 2 ≤ w18.toInt := t_eql h19 (by decide : (2:Int) ≤ (2:Int32).toInt)
              refine ev_loc f_X11_planAt (nx := 58) rfl rfl rfl rfl ?_
              refine ev_bp f_X11_planAt (nx := 60) (v := 6) rfl (by decide) rfl ?_
              refine ev_inV2 f_X11_planAt (nx := 63) (lo2 := [(0, .ref 0), (1, .int 6)]) rfl rfl rfl rfl f_X11_refuse (hI.wf.s rfl) rfl rfl rfl rfl rfl ?_
              refine ev_loc f_X11_refuse (nx := 1) rfl rfl rfl rfl ?_
              refine ev_loc f_X11_refuse (nx := 2) rfl rfl rfl rfl ?_
              refine ev_putIT f_X11_refuse (nx := 5) rfl (hI.wf.s rfl) rfl rfl rfl (hI.put0 (hI.wf.s rfl) rfl rfl) (hX.upI rfl) (fun g22 e22 hI hX => ?_)
              refine ev_ic f_X11_refuse (nx := 6) (v := -1) rfl (by decide) rfl ?_
              refine ev_retK1 f_X11_refuse rfl rfl rfl ?_
              exact ev_ret f_X11_planAt rfl rfl rfl ⟨_, _, _, rfl, hI, hX, ⟨_, rfl, (Int.le_trans (by decide : ((-2147483648):Int) ≤ (-1)) (by decide : ((-1):Int) ≤ ((-1):Int32).toInt)), (Int.le_trans (by decide : ((-1):Int32).toInt ≤ ((-1):Int)) (by decide : ((-1):Int) ≤ 2147483647))⟩⟩
            · refine ev_loc f_X11_planAt (nx := 65) rfl rfl rfl rfl ?_
              refine ev_loc f_X11_planAt (nx := 66) rfl rfl rfl rfl ?_
              refine ev_getR f_X11_planAt (nx := 69) rfl (hI.wf.s rfl) rfl rfl (hI.wf.r rfl) rfl rfl ?_
              refine ev_getR f_X11_planAt (nx := 72) rfl (hI.wf.s rfl) rfl rfl (hI.wf.r rfl) rfl rfl ?_
              refine ev_ic f_X11_planAt (nx := 73) (v := 3) rfl (by decide) rfl ?_
              refine ev_loc f_X11_planAt (nx := 74) rfl rfl rfl rfl ?_
              refine ev_mulL f_X11_planAt (nx := 75) (c := 3) (l := 0) (u := 69) rfl (by decide) (by decide) l10 u13 rfl rfl (by decide) (by decide) rfl (fun z23 e23 l23 u23 => ?_)
              refine ev_loc f_X11_planAt (nx := 76) rfl rfl rfl rfl ?_
              refine ev_addR f_X11_planAt (nx := 77) (l := 2) (u := 71) rfl l23 u23 l16 u6 rfl rfl (by decide) (by decide) rfl (fun z24 e24 l24 u24 => ?_)
              refine ev_ialdT f_X11_planAt (nx := 78) rfl (hI.wf.s rfl) l24 (by decide) u24 (by decide) rfl (fun w25 e25 => ?_)
              refine ev_inV2 f_X11_planAt (nx := 81) (lo2 := [(0, .ref 0), (1, .int w25)]) rfl rfl rfl rfl f_X11_answer (hI.wf.s rfl) rfl rfl rfl rfl rfl ?_
              refine ev_loc f_X11_answer (nx := 1) rfl rfl rfl rfl ?_
              refine ev_ic f_X11_answer (nx := 2) (v := 0) rfl (by decide) rfl ?_
              refine ev_putIT f_X11_answer (nx := 5) rfl (hI.wf.s rfl) rfl rfl rfl (hI.put0 (hI.wf.s rfl) rfl rfl) (hX.upI rfl) (fun g26 e26 hI hX => ?_)
              refine ev_loc f_X11_answer (nx := 6) rfl rfl rfl rfl ?_
              refine ev_retK1 f_X11_answer rfl rfl rfl ?_
              exact ev_ret f_X11_planAt rfl rfl rfl ⟨_, _, _, rfl, hI, hX, ⟨_, rfl, (t_lo w25), (t_hi w25)⟩⟩
          · have u27 : ar2.toInt ≤ 1 := t_neu h15 u6 rfl rfl
            refine ev_loc f_X11_planAt (nx := 65) rfl rfl rfl rfl ?_
            refine ev_loc f_X11_planAt (nx := 66) rfl rfl rfl rfl ?_
            refine ev_getR f_X11_planAt (nx := 69) rfl (hI.wf.s rfl) rfl rfl (hI.wf.r rfl) rfl rfl ?_
            refine ev_getR f_X11_planAt (nx := 72) rfl (hI.wf.s rfl) rfl rfl (hI.wf.r rfl) rfl rfl ?_
            refine ev_ic f_X11_planAt (nx := 73) (v := 3) rfl (by decide) rfl ?_
            refine ev_loc f_X11_planAt (nx := 74) rfl rfl rfl rfl ?_
            refine ev_mulL f_X11_planAt (nx := 75) (c := 3) (l := 0) (u := 69) rfl (by decide) (by decide) l10 u13 rfl rfl (by decide) (by decide) rfl (fun z28 e28 l28 u28 => ?_)
            refine ev_loc f_X11_planAt (nx := 76) rfl rfl rfl rfl ?_
            refine ev_addR f_X11_planAt (nx := 77) (l := 0) (u := 70) rfl l28 u28 l4 u27 rfl rfl (by decide) (by decide) rfl (fun z29 e29 l29 u29 => ?_)
            refine ev_ialdT f_X11_planAt (nx := 78) rfl (hI.wf.s rfl) l29 (by decide) u29 (by decide) rfl (fun w30 e30 => ?_)
            refine ev_inV2 f_X11_planAt (nx := 81) (lo2 := [(0, .ref 0), (1, .int w30)]) rfl rfl rfl rfl f_X11_answer (hI.wf.s rfl) rfl rfl rfl rfl rfl ?_
            refine ev_loc f_X11_answer (nx := 1) rfl rfl rfl rfl ?_
            refine ev_ic f_X11_answer (nx := 2) (v := 0) rfl (by decide) rfl ?_
            refine ev_putIT f_X11_answer (nx := 5) rfl (hI.wf.s rfl) rfl rfl rfl (hI.put0 (hI.wf.s rfl) rfl rfl) (hX.upI rfl) (fun g31 e31 hI hX => ?_)
            refine ev_loc f_X11_answer (nx := 6) rfl rfl rfl rfl ?_
            refine ev_retK1 f_X11_answer rfl rfl rfl ?_
            exact ev_ret f_X11_planAt rfl rfl rfl ⟨_, _, _, rfl, hI, hX, ⟨_, rfl, (t_lo w30), (t_hi w30)⟩⟩
        · refine ev_loc f_X11_planAt (nx := 31) rfl rfl rfl rfl ?_
          refine ev_bp f_X11_planAt (nx := 33) (v := 6) rfl (by decide) rfl ?_
          refine ev_inV2 f_X11_planAt (nx := 36) (lo2 := [(0, .ref 0), (1, .int 6)]) rfl rfl rfl rfl f_X11_refuse (hI.wf.s rfl) rfl rfl rfl rfl rfl ?_
          refine ev_loc f_X11_refuse (nx := 1) rfl rfl rfl rfl ?_
          refine ev_loc f_X11_refuse (nx := 2) rfl rfl rfl rfl ?_
          refine ev_putIT f_X11_refuse (nx := 5) rfl (hI.wf.s rfl) rfl rfl rfl (hI.put0 (hI.wf.s rfl) rfl rfl) (hX.upI rfl) (fun g32 e32 hI hX => ?_)
          refine ev_ic f_X11_refuse (nx := 6) (v := -1) rfl (by decide) rfl ?_
          refine ev_retK1 f_X11_refuse rfl rfl rfl ?_
          exact ev_ret f_X11_planAt rfl rfl rfl ⟨_, _, _, rfl, hI, hX, ⟨_, rfl, (Int.le_trans (by decide : ((-2147483648):Int) ≤ (-1)) (by decide : ((-1):Int) ≤ ((-1):Int32).toInt)), (Int.le_trans (by decide : ((-1):Int32).toInt ≤ ((-1):Int)) (by decide : ((-1):Int) ≤ 2147483647))⟩⟩
    · have l33 : 3 ≤ ar2.toInt := t_ltl (t_nle h5) (by decide : (2:Int) ≤ (2:Int32).toInt) rfl
      refine ev_loc f_X11_planAt (nx := 10) rfl rfl rfl rfl ?_
      refine ev_ic f_X11_planAt (nx := 11) (v := 1) rfl (by decide) rfl ?_
      refine ev_inV2 f_X11_planAt (nx := 14) (lo2 := [(0, .ref 0), (1, .int 1)]) rfl rfl rfl rfl f_X11_refuse (hI.wf.s rfl) rfl rfl rfl rfl rfl ?_
      refine ev_loc f_X11_refuse (nx := 1) rfl rfl rfl rfl ?_
      refine ev_loc f_X11_refuse (nx := 2) rfl rfl rfl rfl ?_
      refine ev_putIT f_X11_refuse (nx := 5) rfl (hI.wf.s rfl) rfl rfl rfl (hI.put0 (hI.wf.s rfl) rfl rfl) (hX.upI rfl) (fun g34 e34 hI hX => ?_)
      refine ev_ic f_X11_refuse (nx := 6) (v := -1) rfl (by decide) rfl ?_
      refine ev_retK1 f_X11_refuse rfl rfl rfl ?_
      exact ev_ret f_X11_planAt rfl rfl rfl ⟨_, _, _, rfl, hI, hX, ⟨_, rfl, (Int.le_trans (by decide : ((-2147483648):Int) ≤ (-1)) (by decide : ((-1):Int) ≤ ((-1):Int32).toInt)), (Int.le_trans (by decide : ((-1):Int32).toInt ≤ ((-1):Int)) (by decide : ((-1):Int) ≤ 2147483647))⟩⟩
noncomputable def wl_h_worth : List (Nat × Nat) := [(0, 0), (28, 0), (28, 1), (28, 4), (28, 5), (29, 0), (30, 9999), (31, 9999), (32, 9999), (33, 9999), (34, 9999), (35, 0), (36, 9999), (37, 9999), (38, 9999), (39, 9999), (40, 9999)]
theorem c_h_worth {X : x_Ext} {d : Nat} {sh : List (Nat ⊕ (Nat × Nat))} {gi : Nat → Nat → Int32} {gl : Nat → Nat → Int64} {gr : Nat → Nat → Value} (hI : t_I sh gi gr) (ar1 : Int32) : x_Me X (d + 19) n_X11_worth [.ref 0, .int ar1] (sh, gi, gl, gr) (t_P wl_h_worth sh gi gl gr (t_Ri (-2147483648) 2147483647)) := by
  have hX : t_X wl_h_worth sh gi gl gr gi gl gr := t_X.rf
  refine me_i f_X11_worth (hI.wf.s rfl) rfl rfl rfl ?_
  refine ev_loc f_X11_worth (nx := 1) rfl rfl rfl rfl ?_
  refine ev_loc f_X11_worth (nx := 2) rfl rfl rfl rfl ?_
  refine ev_inV2 f_X11_worth (nx := 5) (lo2 := [(0, .ref 0), (1, .int ar1)]) rfl rfl rfl rfl f_X11_isShip (hI.wf.s rfl) rfl rfl rfl rfl rfl ?_
  refine ev_loc f_X11_isShip (nx := 1) rfl rfl rfl rfl ?_
  refine ev_if f_X11_isShip (t1 := 22) (t2 := 4) rfl rfl rfl (fun h1 => ?_) (fun h1 => ?_)
  · have u2 : ar1.toInt ≤ (-1) := t_ltu h1 (by decide : (0:Int32).toInt ≤ (0:Int)) rfl
    refine ev_ic f_X11_isShip (nx := 23) (v := 0) rfl (by decide) rfl ?_
    refine ev_retK1 f_X11_isShip rfl rfl rfl ?_
    refine ev_t f_X11_worth (t1 := 8) (t2 := 14) rfl rfl rfl (by decide) ?_
    refine ev_loc f_X11_worth (nx := 9) rfl rfl rfl rfl ?_
    refine ev_ic f_X11_worth (nx := 10) (v := 1) rfl (by decide) rfl ?_
    refine ev_inV2 f_X11_worth (nx := 13) (lo2 := [(0, .ref 0), (1, .int 1)]) rfl rfl rfl rfl f_X11_refuse (hI.wf.s rfl) rfl rfl rfl rfl rfl ?_
    refine ev_loc f_X11_refuse (nx := 1) rfl rfl rfl rfl ?_
    refine ev_loc f_X11_refuse (nx := 2) rfl rfl rfl rfl ?_
    refine ev_putIT f_X11_refuse (nx := 5) rfl (hI.wf.s rfl) rfl rfl rfl (hI.put0 (hI.wf.s rfl) rfl rfl) (hX.upI rfl) (fun g3 e3 hI hX => ?_)
    refine ev_ic f_X11_refuse (nx := 6) (v := -1) rfl (by decide) rfl ?_
    refine ev_retK1 f_X11_refuse rfl rfl rfl ?_
    exact ev_ret f_X11_worth rfl rfl rfl ⟨_, _, _, rfl, hI, hX, ⟨_, rfl, (Int.le_trans (by decide : ((-2147483648):Int) ≤ (-1)) (by decide : ((-1):Int) ≤ ((-1):Int32).toInt)), (Int.le_trans (by decide : ((-1):Int32).toInt ≤ ((-1):Int)) (by decide : ((-1):Int) ≤ 2147483647))⟩⟩
  · have l4 : 0 ≤ ar1.toInt := t_lel (t_nlt h1) (by decide : (0:Int) ≤ (0:Int32).toInt)
    refine ev_loc f_X11_isShip (nx := 5) rfl rfl rfl rfl ?_
    refine ev_loc f_X11_isShip (nx := 6) rfl rfl rfl rfl ?_
    obtain ⟨a5, e5, p5⟩ := hI.2.2.2.1.1
    refine ev_getR f_X11_isShip (nx := 9) rfl (hI.wf.s rfl) rfl rfl e5 rfl rfl ?_
    obtain ⟨a6, e6, p6⟩ := p5.2.2.2.2.1
    refine ev_getR f_X11_isShip (nx := 12) rfl p5.1 rfl rfl e6 rfl rfl ?_
    refine ev_getI f_X11_isShip (nx := 15) rfl p6.1 rfl rfl rfl ?_
    obtain ⟨l7, u7⟩ := hI.b p6.1 (t_bdK rfl : t_bd 3 0 = some (0, 6))
    refine ev_if f_X11_isShip (t1 := 22) (t2 := 18) rfl rfl rfl (fun h8 => ?_) (fun h8 => ?_)
    · refine ev_ic f_X11_isShip (nx := 23) (v := 0) rfl (by decide) rfl ?_
      refine ev_retK1 f_X11_isShip rfl rfl rfl ?_
      refine ev_t f_X11_worth (t1 := 8) (t2 := 14) rfl rfl rfl (by decide) ?_
      refine ev_loc f_X11_worth (nx := 9) rfl rfl rfl rfl ?_
      refine ev_ic f_X11_worth (nx := 10) (v := 1) rfl (by decide) rfl ?_
      refine ev_inV2 f_X11_worth (nx := 13) (lo2 := [(0, .ref 0), (1, .int 1)]) rfl rfl rfl rfl f_X11_refuse (hI.wf.s rfl) rfl rfl rfl rfl rfl ?_
      refine ev_loc f_X11_refuse (nx := 1) rfl rfl rfl rfl ?_
      refine ev_loc f_X11_refuse (nx := 2) rfl rfl rfl rfl ?_
      refine ev_putIT f_X11_refuse (nx := 5) rfl (hI.wf.s rfl) rfl rfl rfl (hI.put0 (hI.wf.s rfl) rfl rfl) (hX.upI rfl) (fun g9 e9 hI hX => ?_)
      refine ev_ic f_X11_refuse (nx := 6) (v := -1) rfl (by decide) rfl ?_
      refine ev_retK1 f_X11_refuse rfl rfl rfl ?_
      exact ev_ret f_X11_worth rfl rfl rfl ⟨_, _, _, rfl, hI, hX, ⟨_, rfl, (Int.le_trans (by decide : ((-2147483648):Int) ≤ (-1)) (by decide : ((-1):Int) ≤ ((-1):Int32).toInt)), (Int.le_trans (by decide : ((-1):Int32).toInt ≤ ((-1):Int)) (by decide : ((-1):Int) ≤ 2147483647))⟩⟩
    · have u10 : ar1.toInt ≤ 5 := t_ltu (t_nle h8) u7 rfl
      have l11 : 1 ≤ (gi a6 0).toInt := t_ltl (t_nle h8) l4 rfl
      refine ev_ic f_X11_isShip (nx := 19) (v := 1) rfl (by decide) rfl ?_
      refine ev_jmp f_X11_isShip (nx := 23) rfl rfl rfl ?_
      refine ev_retK1 f_X11_isShip rfl rfl rfl ?_
      refine ev_f f_X11_worth (t1 := 8) (t2 := 14) rfl rfl rfl (by decide) ?_
      refine ev_loc f_X11_worth (nx := 15) rfl rfl rfl rfl ?_
      refine ev_inV1 f_X11_worth (nx := 18) (lo2 := [(0, .ref 0)]) rfl rfl rfl rfl f_X11_leastAsTold (hI.wf.s rfl) rfl rfl rfl rfl rfl ?_
      refine ev_loc f_X11_leastAsTold (nx := 1) rfl rfl rfl rfl ?_
      refine ev_getR f_X11_leastAsTold (nx := 4) rfl (hI.wf.s rfl) rfl rfl (hI.wf.r rfl) rfl rfl ?_
      refine ev_loc f_X11_leastAsTold (nx := 5) rfl rfl rfl rfl ?_
      refine ev_getR f_X11_leastAsTold (nx := 8) (v := .ref a5) rfl (hI.wf.s rfl) rfl rfl e5 rfl rfl ?_
      refine ev_inV2 f_X11_leastAsTold (nx := 11) (lo2 := [(0, .ref 28), (1, .ref a5)]) rfl rfl rfl rfl f_X1_takeAll (hI.wf.s rfl) rfl rfl rfl rfl rfl ?_
      refine ev_loc f_X1_takeAll (nx := 1) rfl rfl rfl rfl ?_
      refine ev_loc f_X1_takeAll (nx := 2) rfl rfl rfl rfl ?_
      have hE12 := t_eqf_up (gr := gr) (j := 0) (v := .ref a5) (hI.wf.s (k := 28) rfl) rfl
      have hT12 := t_cross hI p5
      replace p5 := p5.ext hE12
      replace p6 := p6.ext hE12
      refine ev_putRT f_X1_takeAll (nx := 5) rfl (hI.wf.s rfl) rfl rfl rfl rfl hT12 (hX.upR rfl hE12) (fun g12 e12 hI hX => ?_)
      rw [← e12] at p5
      rw [← e12] at p6
      refine ev_loc f_X1_takeAll (nx := 6) rfl rfl rfl rfl ?_
      refine ev_loc f_X1_takeAll (nx := 7) rfl rfl rfl rfl ?_
      refine ev_getI f_X1_takeAll (nx := 10) rfl p5.1 rfl rfl rfl ?_
      refine ev_putIT f_X1_takeAll (nx := 13) rfl (hI.wf.s rfl) rfl rfl rfl (hI.put0 (hI.wf.s rfl) rfl rfl) (hX.upI rfl) (fun g13 e13 hI hX => ?_)
      refine ev_loc f_X1_takeAll (nx := 14) rfl rfl rfl rfl ?_
      refine ev_loc f_X1_takeAll (nx := 15) rfl rfl rfl rfl ?_
      refine ev_ic f_X1_takeAll (nx := 16) (v := 0) rfl (by decide) rfl ?_
      refine ev_ic f_X1_takeAll (nx := 17) (v := -1) rfl (by decide) rfl ?_
      refine ev_ic f_X1_takeAll (nx := 18) (v := 0) rfl (by decide) rfl ?_
      refine ev_c0 f_X1_takeAll (nx := 21) (r := []) rfl rfl rfl rfl rfl rfl rfl (c_takeShips hI (a5) p5 (0) ((-1)) (0)) rfl hX rfl (fun gi14 gl14 gr14 hI hX hC14 => ?_)
      replace p5 := p5.ext hC14.2
      replace p6 := p6.ext hC14.2
      refine ev_loc f_X1_takeAll (nx := 22) rfl rfl rfl rfl ?_
      refine ev_loc f_X1_takeAll (nx := 23) rfl rfl rfl rfl ?_
      refine ev_ic f_X1_takeAll (nx := 24) (v := -1) rfl (by decide) rfl ?_
      refine ev_c0 f_X1_takeAll (nx := 27) (r := []) rfl rfl rfl rfl rfl rfl rfl (c_takeCarts hI (a5) p5 ((-1))) rfl hX rfl (fun gi15 gl15 gr15 hI hX hC15 => ?_)
      replace p5 := p5.ext hC15.2
      replace p6 := p6.ext hC15.2
      refine ev_retK0 f_X1_takeAll rfl rfl rfl ?_
      refine ev_loc f_X11_leastAsTold (nx := 12) rfl rfl rfl rfl ?_
      refine ev_getR f_X11_leastAsTold (nx := 15) rfl (hI.wf.s rfl) rfl rfl (hI.wf.r rfl) rfl rfl ?_
      refine ev_cI f_X11_leastAsTold (nx := 18) (r := []) rfl rfl rfl rfl rfl rfl rfl (c_leastWaits hI ) rfl hX rfl (fun w16 gi16 gl16 gr16 l16 u16 hI hX hC16 => ?_)
      replace p5 := p5.ext hC16.2
      replace p6 := p6.ext hC16.2
      refine ev_retK1 f_X11_leastAsTold rfl rfl rfl ?_
      refine ev_loc f_X11_worth (nx := 19) (lo' := [(2, .int w16), (0, .ref 0), (1, .int ar1)]) rfl rfl rfl rfl ?_
      refine ev_loc f_X11_worth (nx := 20) rfl rfl rfl rfl ?_
      refine ev_ldW f_X11_worth (nx := 23) (v := 1000000000) rfl (by decide) rfl ?_
      refine ev_if f_X11_worth (t1 := 33) (t2 := 26) rfl rfl rfl (fun h17 => ?_) (fun h17 => ?_)
      · have u18 : w16.toInt ≤ 999999999 := t_ltu h17 (by decide : (1000000000:Int32).toInt ≤ (1000000000:Int)) rfl
        refine ev_loc f_X11_worth (nx := 34) rfl rfl rfl rfl ?_
        refine ev_getR f_X11_worth (nx := 37) rfl (hI.wf.s rfl) rfl rfl (hI.wf.r rfl) rfl rfl ?_
        refine ev_loc f_X11_worth (nx := 38) rfl rfl rfl rfl ?_
        refine ev_getR f_X11_worth (nx := 41) (v := .ref a5) rfl (hI.wf.s rfl) rfl rfl ((hC16.1 0 6 rfl).2.2.trans ((hC15.1 0 6 rfl).2.2.trans ((hC14.1 0 6 rfl).2.2.trans ((by rw [e12]; exact x_up2_off (Or.inr (by decide)) : g12 0 6 = gr 0 6).trans e5)))) rfl rfl ?_
        refine ev_ic f_X11_worth (nx := 42) (v := 1) rfl (by decide) rfl ?_
        refine ev_loc f_X11_worth (nx := 43) rfl rfl rfl rfl ?_
        refine ev_shl1 f_X11_worth (nx := 44) rfl l4 u10 (by decide) (by decide) rfl (fun z19 l19 u19 => ?_)
        refine ev_ic f_X11_worth (nx := 45) (v := -1) rfl (by decide) rfl ?_
        refine ev_ic f_X11_worth (nx := 46) (v := 0) rfl (by decide) rfl ?_
        refine ev_c0 f_X11_worth (nx := 49) (r := []) rfl rfl rfl rfl rfl rfl rfl (c_takeShips hI (a5) p5 (z19) ((-1)) (0)) rfl hX rfl (fun gi20 gl20 gr20 hI hX hC20 => ?_)
        replace p5 := p5.ext hC20.2
        replace p6 := p6.ext hC20.2
        refine ev_loc f_X11_worth (nx := 50) rfl rfl rfl rfl ?_
        refine ev_loc f_X11_worth (nx := 51) rfl rfl rfl rfl ?_
        refine ev_loc f_X11_worth (nx := 52) rfl rfl rfl rfl ?_
        refine ev_getR f_X11_worth (nx := 55) rfl (hI.wf.s rfl) rfl rfl (hI.wf.r rfl) rfl rfl ?_
        refine ev_cI f_X11_worth (nx := 58) (r := [.int w16, .ref 0]) rfl rfl rfl rfl rfl rfl rfl (c_leastWaits hI ) rfl hX rfl (fun w21 gi21 gl21 gr21 l21 u21 hI hX hC21 => ?_)
        replace p5 := p5.ext hC21.2
        replace p6 := p6.ext hC21.2
        refine ev_anyI f_X11_worth (nx := 59) rfl rfl rfl rfl (fun z22 => ?_)
        refine ev_inV2 f_X11_worth (nx := 62) (lo2 := [(0, .ref 0), (1, .int z22)]) rfl rfl rfl rfl f_X11_answer (hI.wf.s rfl) rfl rfl rfl rfl rfl ?_
        refine ev_loc f_X11_answer (nx := 1) rfl rfl rfl rfl ?_
        refine ev_ic f_X11_answer (nx := 2) (v := 0) rfl (by decide) rfl ?_
        refine ev_putIT f_X11_answer (nx := 5) rfl (hI.wf.s rfl) rfl rfl rfl (hI.put0 (hI.wf.s rfl) rfl rfl) (hX.upI rfl) (fun g23 e23 hI hX => ?_)
        refine ev_loc f_X11_answer (nx := 6) rfl rfl rfl rfl ?_
        refine ev_retK1 f_X11_answer rfl rfl rfl ?_
        exact ev_ret f_X11_worth rfl rfl rfl ⟨_, _, _, rfl, hI, hX, ⟨_, rfl, (t_lo z22), (t_hi z22)⟩⟩
      · have l24 : 1000000000 ≤ w16.toInt := t_lel (t_nlt h17) (by decide : (1000000000:Int) ≤ (1000000000:Int32).toInt)
        refine ev_loc f_X11_worth (nx := 27) rfl rfl rfl rfl ?_
        refine ev_bp f_X11_worth (nx := 29) (v := 6) rfl (by decide) rfl ?_
        refine ev_inV2 f_X11_worth (nx := 32) (lo2 := [(0, .ref 0), (1, .int 6)]) rfl rfl rfl rfl f_X11_refuse (hI.wf.s rfl) rfl rfl rfl rfl rfl ?_
        refine ev_loc f_X11_refuse (nx := 1) rfl rfl rfl rfl ?_
        refine ev_loc f_X11_refuse (nx := 2) rfl rfl rfl rfl ?_
        refine ev_putIT f_X11_refuse (nx := 5) rfl (hI.wf.s rfl) rfl rfl rfl (hI.put0 (hI.wf.s rfl) rfl rfl) (hX.upI rfl) (fun g25 e25 hI hX => ?_)
        refine ev_ic f_X11_refuse (nx := 6) (v := -1) rfl (by decide) rfl ?_
        refine ev_retK1 f_X11_refuse rfl rfl rfl ?_
        exact ev_ret f_X11_worth rfl rfl rfl ⟨_, _, _, rfl, hI, hX, ⟨_, rfl, (Int.le_trans (by decide : ((-2147483648):Int) ≤ (-1)) (by decide : ((-1):Int) ≤ ((-1):Int32).toInt)), (Int.le_trans (by decide : ((-1):Int32).toInt ≤ ((-1):Int)) (by decide : ((-1):Int) ≤ 2147483647))⟩⟩
